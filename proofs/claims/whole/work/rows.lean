section
-- ===== PART A: goes FIRST, ahead of the names: the tables' words, and 'selects' of the private methods out of them =====
/-- a private method of a class that the tables say can be made, by its rows of tables_1 -/
def lw_okq (q : MethodName × Nat) : Prop := (q.1.cls ≠ "java/lang/invoke/MethodHandle" ∧ q.1.cls ≠ "java/lang/invoke/VarHandle") ∧ Cond.instantiable q.1.cls q.2 ∈ tables_1 ∧ Cond.privateMethod q.1 ∈ tables_1 ∧ Cond.instanceMethod q.1 ∈ tables_1
theorem lw_p0 : lw_okq (⟨"PascalRows$Triangle", "cell", "(II)I"⟩, 1) := ⟨⟨by decide +kernel, by decide +kernel⟩, List.mem_of_getElem? (i := 21) (by decide +kernel), List.mem_of_getElem? (i := 27) (by decide +kernel), List.mem_of_getElem? (i := 28) (by decide +kernel)⟩
theorem lw_p1 : lw_okq (⟨"PascalRows$Reader", "takeClause", "()Z"⟩, 4) := ⟨⟨by decide +kernel, by decide +kernel⟩, List.mem_of_getElem? (i := 104) (by decide +kernel), List.mem_of_getElem? (i := 221) (by decide +kernel), List.mem_of_getElem? (i := 222) (by decide +kernel)⟩
theorem lw_p2 : lw_okq (⟨"PascalRows$Reader", "sign", "()I"⟩, 4) := ⟨⟨by decide +kernel, by decide +kernel⟩, List.mem_of_getElem? (i := 104) (by decide +kernel), List.mem_of_getElem? (i := 225) (by decide +kernel), List.mem_of_getElem? (i := 226) (by decide +kernel)⟩
theorem lw_p3 : lw_okq (⟨"PascalRows$Reader", "takeNumber", "(I)I"⟩, 4) := ⟨⟨by decide +kernel, by decide +kernel⟩, List.mem_of_getElem? (i := 104) (by decide +kernel), List.mem_of_getElem? (i := 229) (by decide +kernel), List.mem_of_getElem? (i := 230) (by decide +kernel)⟩
theorem lw_p4 : lw_okq (⟨"PascalRows$Reader", "take", "(I)Z"⟩, 4) := ⟨⟨by decide +kernel, by decide +kernel⟩, List.mem_of_getElem? (i := 104) (by decide +kernel), List.mem_of_getElem? (i := 235) (by decide +kernel), List.mem_of_getElem? (i := 236) (by decide +kernel)⟩
theorem lw_p5 : lw_okq (⟨"PascalRows", "doClause", "(III)I"⟩, 7) := ⟨⟨by decide +kernel, by decide +kernel⟩, List.mem_of_getElem? (i := 13) (by decide +kernel), List.mem_of_getElem? (i := 249) (by decide +kernel), List.mem_of_getElem? (i := 250) (by decide +kernel)⟩
theorem lw_p6 : lw_okq (⟨"PascalRows", "countOf", "(II)I"⟩, 7) := ⟨⟨by decide +kernel, by decide +kernel⟩, List.mem_of_getElem? (i := 13) (by decide +kernel), List.mem_of_getElem? (i := 355) (by decide +kernel), List.mem_of_getElem? (i := 356) (by decide +kernel)⟩
theorem lw_p7 : lw_okq (⟨"PascalRows", "kindsOf", "(I)I"⟩, 7) := ⟨⟨by decide +kernel, by decide +kernel⟩, List.mem_of_getElem? (i := 13) (by decide +kernel), List.mem_of_getElem? (i := 363) (by decide +kernel), List.mem_of_getElem? (i := 364) (by decide +kernel)⟩
theorem lw_p8 : lw_okq (⟨"PascalRows", "nextKind", "(II)I"⟩, 7) := ⟨⟨by decide +kernel, by decide +kernel⟩, List.mem_of_getElem? (i := 13) (by decide +kernel), List.mem_of_getElem? (i := 367) (by decide +kernel), List.mem_of_getElem? (i := 368) (by decide +kernel)⟩
theorem lw_p9 : lw_okq (⟨"PascalRows", "usualOf", "(I)I"⟩, 7) := ⟨⟨by decide +kernel, by decide +kernel⟩, List.mem_of_getElem? (i := 13) (by decide +kernel), List.mem_of_getElem? (i := 371) (by decide +kernel), List.mem_of_getElem? (i := 372) (by decide +kernel)⟩
theorem lw_p10 : lw_okq (⟨"PascalRows", "sumOf", "(I)I"⟩, 7) := ⟨⟨by decide +kernel, by decide +kernel⟩, List.mem_of_getElem? (i := 13) (by decide +kernel), List.mem_of_getElem? (i := 375) (by decide +kernel), List.mem_of_getElem? (i := 376) (by decide +kernel)⟩
theorem lw_p11 : lw_okq (⟨"PascalRows", "depthOf", "(I)I"⟩, 7) := ⟨⟨by decide +kernel, by decide +kernel⟩, List.mem_of_getElem? (i := 13) (by decide +kernel), List.mem_of_getElem? (i := 379) (by decide +kernel), List.mem_of_getElem? (i := 380) (by decide +kernel)⟩
theorem lw_p12 : lw_okq (⟨"PascalRows", "fullRows", "(I)I"⟩, 7) := ⟨⟨by decide +kernel, by decide +kernel⟩, List.mem_of_getElem? (i := 13) (by decide +kernel), List.mem_of_getElem? (i := 393) (by decide +kernel), List.mem_of_getElem? (i := 394) (by decide +kernel)⟩
theorem lw_p13 : lw_okq (⟨"PascalRows", "lastFullRow", "(I)I"⟩, 7) := ⟨⟨by decide +kernel, by decide +kernel⟩, List.mem_of_getElem? (i := 13) (by decide +kernel), List.mem_of_getElem? (i := 397) (by decide +kernel), List.mem_of_getElem? (i := 398) (by decide +kernel)⟩
theorem lw_p14 : lw_okq (⟨"PascalRows", "heaviestRow", "(I)I"⟩, 7) := ⟨⟨by decide +kernel, by decide +kernel⟩, List.mem_of_getElem? (i := 13) (by decide +kernel), List.mem_of_getElem? (i := 401) (by decide +kernel), List.mem_of_getElem? (i := 402) (by decide +kernel)⟩
theorem lw_p15 : lw_okq (⟨"PascalRows", "areLike", "(IIIII)Z"⟩, 7) := ⟨⟨by decide +kernel, by decide +kernel⟩, List.mem_of_getElem? (i := 13) (by decide +kernel), List.mem_of_getElem? (i := 414) (by decide +kernel), List.mem_of_getElem? (i := 415) (by decide +kernel)⟩
def lw_privs_1 : List (MethodName × Nat) := [(⟨"PascalRows$Triangle", "cell", "(II)I"⟩, 1), (⟨"PascalRows$Reader", "takeClause", "()Z"⟩, 4), (⟨"PascalRows$Reader", "sign", "()I"⟩, 4), (⟨"PascalRows$Reader", "takeNumber", "(I)I"⟩, 4), (⟨"PascalRows$Reader", "take", "(I)Z"⟩, 4), (⟨"PascalRows", "doClause", "(III)I"⟩, 7), (⟨"PascalRows", "countOf", "(II)I"⟩, 7), (⟨"PascalRows", "kindsOf", "(I)I"⟩, 7), (⟨"PascalRows", "nextKind", "(II)I"⟩, 7), (⟨"PascalRows", "usualOf", "(I)I"⟩, 7), (⟨"PascalRows", "sumOf", "(I)I"⟩, 7), (⟨"PascalRows", "depthOf", "(I)I"⟩, 7), (⟨"PascalRows", "fullRows", "(I)I"⟩, 7), (⟨"PascalRows", "lastFullRow", "(I)I"⟩, 7), (⟨"PascalRows", "heaviestRow", "(I)I"⟩, 7), (⟨"PascalRows", "areLike", "(IIIII)Z"⟩, 7)]
theorem lw_r1 : ∀ q ∈ lw_privs_1, lw_okq q := List.forall_mem_cons.mpr ⟨lw_p0, List.forall_mem_cons.mpr ⟨lw_p1, List.forall_mem_cons.mpr ⟨lw_p2, List.forall_mem_cons.mpr ⟨lw_p3, List.forall_mem_cons.mpr ⟨lw_p4, List.forall_mem_cons.mpr ⟨lw_p5, List.forall_mem_cons.mpr ⟨lw_p6, List.forall_mem_cons.mpr ⟨lw_p7, List.forall_mem_cons.mpr ⟨lw_p8, List.forall_mem_cons.mpr ⟨lw_p9, List.forall_mem_cons.mpr ⟨lw_p10, List.forall_mem_cons.mpr ⟨lw_p11, List.forall_mem_cons.mpr ⟨lw_p12, List.forall_mem_cons.mpr ⟨lw_p13, List.forall_mem_cons.mpr ⟨lw_p14, List.forall_mem_cons.mpr ⟨lw_p15, fun _ h => absurd h List.not_mem_nil⟩⟩⟩⟩⟩⟩⟩⟩⟩⟩⟩⟩⟩⟩⟩⟩
theorem lw_p16 : lw_okq (⟨"PascalRows", "isSeenBy", "(I)Z"⟩, 7) := ⟨⟨by decide +kernel, by decide +kernel⟩, List.mem_of_getElem? (i := 13) (by decide +kernel), List.mem_of_getElem? (i := 432) (by decide +kernel), List.mem_of_getElem? (i := 433) (by decide +kernel)⟩
theorem lw_p17 : lw_okq (⟨"PascalRows", "addEvent", "(IIII)I"⟩, 7) := ⟨⟨by decide +kernel, by decide +kernel⟩, List.mem_of_getElem? (i := 13) (by decide +kernel), List.mem_of_getElem? (i := 457) (by decide +kernel), List.mem_of_getElem? (i := 458) (by decide +kernel)⟩
theorem lw_p18 : lw_okq (⟨"PascalRows$Setup", "nextPrime", "()I"⟩, 10) := ⟨⟨by decide +kernel, by decide +kernel⟩, List.mem_of_getElem? (i := 37) (by decide +kernel), List.mem_of_getElem? (i := 481) (by decide +kernel), List.mem_of_getElem? (i := 482) (by decide +kernel)⟩
theorem lw_p19 : lw_okq (⟨"PascalRowsModel", "fault", "()I"⟩, 15) := ⟨⟨by decide +kernel, by decide +kernel⟩, List.mem_of_getElem? (i := 572) (by decide +kernel), List.mem_of_getElem? (i := 667) (by decide +kernel), List.mem_of_getElem? (i := 668) (by decide +kernel)⟩
theorem lw_p20 : lw_okq (⟨"PascalRowsModel", "readsClause", "()Z"⟩, 15) := ⟨⟨by decide +kernel, by decide +kernel⟩, List.mem_of_getElem? (i := 572) (by decide +kernel), List.mem_of_getElem? (i := 671) (by decide +kernel), List.mem_of_getElem? (i := 672) (by decide +kernel)⟩
theorem lw_p21 : lw_okq (⟨"PascalRowsModel", "here", "()I"⟩, 15) := ⟨⟨by decide +kernel, by decide +kernel⟩, List.mem_of_getElem? (i := 572) (by decide +kernel), List.mem_of_getElem? (i := 675) (by decide +kernel), List.mem_of_getElem? (i := 676) (by decide +kernel)⟩
theorem lw_p22 : lw_okq (⟨"PascalRowsModel", "readsNumber", "(I)I"⟩, 15) := ⟨⟨by decide +kernel, by decide +kernel⟩, List.mem_of_getElem? (i := 572) (by decide +kernel), List.mem_of_getElem? (i := 679) (by decide +kernel), List.mem_of_getElem? (i := 680) (by decide +kernel)⟩
theorem lw_p23 : lw_okq (⟨"PascalRowsModel", "isDone", "()Z"⟩, 15) := ⟨⟨by decide +kernel, by decide +kernel⟩, List.mem_of_getElem? (i := 572) (by decide +kernel), List.mem_of_getElem? (i := 685) (by decide +kernel), List.mem_of_getElem? (i := 686) (by decide +kernel)⟩
theorem lw_p24 : lw_okq (⟨"PascalRowsModel", "modulus", "()I"⟩, 15) := ⟨⟨by decide +kernel, by decide +kernel⟩, List.mem_of_getElem? (i := 572) (by decide +kernel), List.mem_of_getElem? (i := 698) (by decide +kernel), List.mem_of_getElem? (i := 699) (by decide +kernel)⟩
theorem lw_p25 : lw_okq (⟨"PascalRowsModel", "markedInWindow", "()I"⟩, 15) := ⟨⟨by decide +kernel, by decide +kernel⟩, List.mem_of_getElem? (i := 572) (by decide +kernel), List.mem_of_getElem? (i := 705) (by decide +kernel), List.mem_of_getElem? (i := 706) (by decide +kernel)⟩
theorem lw_p26 : lw_okq (⟨"PascalRowsModel", "isMarked", "(II)Z"⟩, 15) := ⟨⟨by decide +kernel, by decide +kernel⟩, List.mem_of_getElem? (i := 572) (by decide +kernel), List.mem_of_getElem? (i := 709) (by decide +kernel), List.mem_of_getElem? (i := 710) (by decide +kernel)⟩
theorem lw_p27 : lw_okq (⟨"PascalRowsModel", "tells", "(III)I"⟩, 15) := ⟨⟨by decide +kernel, by decide +kernel⟩, List.mem_of_getElem? (i := 572) (by decide +kernel), List.mem_of_getElem? (i := 716) (by decide +kernel), List.mem_of_getElem? (i := 717) (by decide +kernel)⟩
theorem lw_p28 : lw_okq (⟨"PascalRowsModel", "remainder", "(II)I"⟩, 15) := ⟨⟨by decide +kernel, by decide +kernel⟩, List.mem_of_getElem? (i := 572) (by decide +kernel), List.mem_of_getElem? (i := 720) (by decide +kernel), List.mem_of_getElem? (i := 721) (by decide +kernel)⟩
theorem lw_p29 : lw_okq (⟨"PascalRowsModel", "takes", "(I)V"⟩, 15) := ⟨⟨by decide +kernel, by decide +kernel⟩, List.mem_of_getElem? (i := 572) (by decide +kernel), List.mem_of_getElem? (i := 724) (by decide +kernel), List.mem_of_getElem? (i := 725) (by decide +kernel)⟩
theorem lw_p30 : lw_okq (⟨"PascalRowsModel", "lucas", "(II)I"⟩, 15) := ⟨⟨by decide +kernel, by decide +kernel⟩, List.mem_of_getElem? (i := 572) (by decide +kernel), List.mem_of_getElem? (i := 728) (by decide +kernel), List.mem_of_getElem? (i := 729) (by decide +kernel)⟩
theorem lw_p31 : lw_okq (⟨"PascalRowsModel", "carries", "(II)I"⟩, 15) := ⟨⟨by decide +kernel, by decide +kernel⟩, List.mem_of_getElem? (i := 572) (by decide +kernel), List.mem_of_getElem? (i := 735) (by decide +kernel), List.mem_of_getElem? (i := 736) (by decide +kernel)⟩
def lw_privs_2 : List (MethodName × Nat) := [(⟨"PascalRows", "isSeenBy", "(I)Z"⟩, 7), (⟨"PascalRows", "addEvent", "(IIII)I"⟩, 7), (⟨"PascalRows$Setup", "nextPrime", "()I"⟩, 10), (⟨"PascalRowsModel", "fault", "()I"⟩, 15), (⟨"PascalRowsModel", "readsClause", "()Z"⟩, 15), (⟨"PascalRowsModel", "here", "()I"⟩, 15), (⟨"PascalRowsModel", "readsNumber", "(I)I"⟩, 15), (⟨"PascalRowsModel", "isDone", "()Z"⟩, 15), (⟨"PascalRowsModel", "modulus", "()I"⟩, 15), (⟨"PascalRowsModel", "markedInWindow", "()I"⟩, 15), (⟨"PascalRowsModel", "isMarked", "(II)Z"⟩, 15), (⟨"PascalRowsModel", "tells", "(III)I"⟩, 15), (⟨"PascalRowsModel", "remainder", "(II)I"⟩, 15), (⟨"PascalRowsModel", "takes", "(I)V"⟩, 15), (⟨"PascalRowsModel", "lucas", "(II)I"⟩, 15), (⟨"PascalRowsModel", "carries", "(II)I"⟩, 15)]
theorem lw_r2 : ∀ q ∈ lw_privs_2, lw_okq q := List.forall_mem_cons.mpr ⟨lw_p16, List.forall_mem_cons.mpr ⟨lw_p17, List.forall_mem_cons.mpr ⟨lw_p18, List.forall_mem_cons.mpr ⟨lw_p19, List.forall_mem_cons.mpr ⟨lw_p20, List.forall_mem_cons.mpr ⟨lw_p21, List.forall_mem_cons.mpr ⟨lw_p22, List.forall_mem_cons.mpr ⟨lw_p23, List.forall_mem_cons.mpr ⟨lw_p24, List.forall_mem_cons.mpr ⟨lw_p25, List.forall_mem_cons.mpr ⟨lw_p26, List.forall_mem_cons.mpr ⟨lw_p27, List.forall_mem_cons.mpr ⟨lw_p28, List.forall_mem_cons.mpr ⟨lw_p29, List.forall_mem_cons.mpr ⟨lw_p30, List.forall_mem_cons.mpr ⟨lw_p31, fun _ h => absurd h List.not_mem_nil⟩⟩⟩⟩⟩⟩⟩⟩⟩⟩⟩⟩⟩⟩⟩⟩
theorem lw_p32 : lw_okq (⟨"PascalRowsModel", "legendre", "(II)I"⟩, 15) := ⟨⟨by decide +kernel, by decide +kernel⟩, List.mem_of_getElem? (i := 572) (by decide +kernel), List.mem_of_getElem? (i := 739) (by decide +kernel), List.mem_of_getElem? (i := 740) (by decide +kernel)⟩
theorem lw_p33 : lw_okq (⟨"PascalRowsModel", "within", "(II)I"⟩, 15) := ⟨⟨by decide +kernel, by decide +kernel⟩, List.mem_of_getElem? (i := 572) (by decide +kernel), List.mem_of_getElem? (i := 743) (by decide +kernel), List.mem_of_getElem? (i := 744) (by decide +kernel)⟩
theorem lw_p34 : lw_okq (⟨"PascalRowsModel", "countOf", "(II)I"⟩, 15) := ⟨⟨by decide +kernel, by decide +kernel⟩, List.mem_of_getElem? (i := 572) (by decide +kernel), List.mem_of_getElem? (i := 776) (by decide +kernel), List.mem_of_getElem? (i := 777) (by decide +kernel)⟩
theorem lw_p35 : lw_okq (⟨"PascalRowsModel", "sumOf", "(I)I"⟩, 15) := ⟨⟨by decide +kernel, by decide +kernel⟩, List.mem_of_getElem? (i := 572) (by decide +kernel), List.mem_of_getElem? (i := 785) (by decide +kernel), List.mem_of_getElem? (i := 786) (by decide +kernel)⟩
theorem lw_p36 : lw_okq (⟨"PascalRowsModel", "areLike", "(IIIII)Z"⟩, 15) := ⟨⟨by decide +kernel, by decide +kernel⟩, List.mem_of_getElem? (i := 572) (by decide +kernel), List.mem_of_getElem? (i := 809) (by decide +kernel), List.mem_of_getElem? (i := 810) (by decide +kernel)⟩
theorem lw_p37 : lw_okq (⟨"PascalRowsModel", "happens", "(II)V"⟩, 15) := ⟨⟨by decide +kernel, by decide +kernel⟩, List.mem_of_getElem? (i := 572) (by decide +kernel), List.mem_of_getElem? (i := 854) (by decide +kernel), List.mem_of_getElem? (i := 855) (by decide +kernel)⟩
theorem lw_p38 : lw_okq (⟨"PascalRowsModel", "isItem", "(II)Z"⟩, 15) := ⟨⟨by decide +kernel, by decide +kernel⟩, List.mem_of_getElem? (i := 572) (by decide +kernel), List.mem_of_getElem? (i := 895) (by decide +kernel), List.mem_of_getElem? (i := 896) (by decide +kernel)⟩
def lw_privs_3 : List (MethodName × Nat) := [(⟨"PascalRowsModel", "legendre", "(II)I"⟩, 15), (⟨"PascalRowsModel", "within", "(II)I"⟩, 15), (⟨"PascalRowsModel", "countOf", "(II)I"⟩, 15), (⟨"PascalRowsModel", "sumOf", "(I)I"⟩, 15), (⟨"PascalRowsModel", "areLike", "(IIIII)Z"⟩, 15), (⟨"PascalRowsModel", "happens", "(II)V"⟩, 15), (⟨"PascalRowsModel", "isItem", "(II)Z"⟩, 15)]
theorem lw_r3 : ∀ q ∈ lw_privs_3, lw_okq q := List.forall_mem_cons.mpr ⟨lw_p32, List.forall_mem_cons.mpr ⟨lw_p33, List.forall_mem_cons.mpr ⟨lw_p34, List.forall_mem_cons.mpr ⟨lw_p35, List.forall_mem_cons.mpr ⟨lw_p36, List.forall_mem_cons.mpr ⟨lw_p37, List.forall_mem_cons.mpr ⟨lw_p38, fun _ h => absurd h List.not_mem_nil⟩⟩⟩⟩⟩⟩⟩
def lw_privs : List (MethodName × Nat) := lw_privs_1 ++ (lw_privs_2 ++ (lw_privs_3))
def lw_tbl : List Cond := k2_sels lw_privs ++ tables_1
theorem lw_privs_ok : ∀ q ∈ lw_privs, lw_okq q := by
  show ∀ q ∈ lw_privs_1 ++ (lw_privs_2 ++ (lw_privs_3)), lw_okq q
  exact List.forall_mem_append.mpr ⟨lw_r1, List.forall_mem_append.mpr ⟨lw_r2, lw_r3⟩⟩
end
section
/-! ===== BEGIN words of one list among another's, by their places ===== -/
theorem goodIn_r {big : List Cond} (ws : List Cond) (ps : List Nat) (hp : ws = ps.filterMap (fun i => big[i]?)) (h : ws.all goodWord = true) : GoodIn big ws := by
  intro w hw
  have h1 := List.all_eq_true.mp h w hw
  rw [hp] at hw
  obtain ⟨i, -, hi⟩ := List.mem_filterMap.mp hw
  have hm : w ∈ big := by first | exact List.mem_of_getElem? hi | exact List.getElem?_mem hi
  exact ⟨hm, good_of_word h1⟩
theorem goodIn_app {big a b : List Cond} (ha : GoodIn big a) (hb : GoodIn big b) : GoodIn big (a ++ b) := fun w h => (List.mem_append.mp h).elim (ha w) (hb w)
theorem goodIn_ca {big a b : List Cond} {c : Cond} (ha : GoodIn big (c :: a)) (hb : GoodIn big b) : GoodIn big (c :: (a ++ b)) := fun w h => (List.mem_cons.mp h).elim (fun e => ha w (List.mem_cons.mpr (Or.inl e))) (fun h => (List.mem_append.mp h).elim (fun h => ha w (List.mem_cons.mpr (Or.inr h))) (hb w))
theorem goodIn_sub {big ws : List Cond} (hm : ∀ w ∈ ws, w ∈ big) (h : ws.all goodWord = true) : GoodIn big ws := fun w hw => ⟨hm w hw, good_of_word (List.all_eq_true.mp h w hw)⟩
/-! ===== END ===== -/

/-! ===== BEGIN printed: names, fields, word lists, decode rows ===== -/
def RX0 : String := "PascalRows$Digits"
def TX0 : u_T := fun k => match k with
  | _ => ("", "", "", false)
def tyX0 : Nat → FieldType := fun k => match k with
  | _ => .int
abbrev wsX00 : List Cond := u_ws RX0 TX0 0
theorem nmX0 : ∀ a, a < 0 → ∀ b, b < 0 → a ≠ b → (TX0 a).2.1 ≠ (TX0 b).2.1 := by decide +kernel
theorem tyX0_ok : ∀ k, k < 0 → parseFieldDescriptor (TX0 k).2.2.1 = some (tyX0 k) := by decide +kernel
abbrev cX0_powerOf : ByteArray := prog_2_method_2_code
def yX0_powerOf : MethodName := ⟨RX0, "powerOf", "(II)I"⟩
abbrev cX0_howMany : ByteArray := prog_2_method_3_code
def yX0_howMany : MethodName := ⟨RX0, "howMany", "(II)I"⟩
abbrev cX0_one : ByteArray := prog_2_method_4_code
def yX0_one : MethodName := ⟨RX0, "one", "(III)I"⟩
abbrev cX0_withoutPrime : ByteArray := prog_2_method_5_code
def yX0_withoutPrime : MethodName := ⟨RX0, "withoutPrime", "(II)I"⟩
abbrev cX0_timesDivided : ByteArray := prog_2_method_6_code
def yX0_timesDivided : MethodName := ⟨RX0, "timesDivided", "(II)I"⟩
abbrev cX0_carries : ByteArray := prog_2_method_7_code
def yX0_carries : MethodName := ⟨RX0, "carries", "(III)I"⟩
abbrev cX0_legendre : ByteArray := prog_2_method_8_code
def yX0_legendre : MethodName := ⟨RX0, "legendre", "(III)I"⟩
abbrev cX0_isCovered : ByteArray := prog_2_method_9_code
def yX0_isCovered : MethodName := ⟨RX0, "isCovered", "(III)Z"⟩
abbrev cX0_commonDivisor : ByteArray := prog_2_method_10_code
def yX0_commonDivisor : MethodName := ⟨RX0, "commonDivisor", "(II)I"⟩
def RX1 : String := "PascalRows$Lines"
def TX1 : u_T := fun k => match k with
  | 0 => ("PascalRows$Lines", "numbers", "[I", true)
  | _ => ("PascalRows$Lines", "size", "I", false)
def tyX1 : Nat → FieldType := fun k => match k with
  | 0 => .array .int
  | _ => .int
abbrev wsX10 : List Cond := u_ws RX1 TX1 2
theorem nmX1 : ∀ a, a < 2 → ∀ b, b < 2 → a ≠ b → (TX1 a).2.1 ≠ (TX1 b).2.1 := by decide +kernel
theorem tyX1_ok : ∀ k, k < 2 → parseFieldDescriptor (TX1 k).2.2.1 = some (tyX1 k) := by decide +kernel
abbrev cX1_init : ByteArray := prog_3_method_1_code
def yX1_init : MethodName := ⟨RX1, "<init>", "(I)V"⟩
abbrev cX1_add : ByteArray := prog_3_method_2_code
def yX1_add : MethodName := ⟨RX1, "add", "(III)I"⟩
abbrev cX1_number : ByteArray := prog_3_method_3_code
def yX1_number : MethodName := ⟨RX1, "number", "(II)I"⟩
abbrev cX1_remove : ByteArray := prog_3_method_4_code
def yX1_remove : MethodName := ⟨RX1, "remove", "(I)V"⟩
abbrev cX1_empty : ByteArray := prog_3_method_5_code
def yX1_empty : MethodName := ⟨RX1, "empty", "()V"⟩
abbrev cX1_copyFrom : ByteArray := prog_3_method_6_code
def yX1_copyFrom : MethodName := ⟨RX1, "copyFrom", "(LPascalRows$Lines;)V"⟩
def RX2 : String := "PascalRows$Reader"
def TX2 : u_T := fun k => match k with
  | 0 => ("PascalRows$Reader", "text", "[I", true)
  | 1 => ("PascalRows$Reader", "clauses", "LPascalRows$Lines;", true)
  | 2 => ("PascalRows$Reader", "length", "I", false)
  | _ => ("PascalRows$Reader", "next", "I", false)
def tyX2 : Nat → FieldType := fun k => match k with
  | 0 => .array .int
  | 1 => .object "PascalRows$Lines"
  | 2 => .int
  | _ => .int
abbrev wsX20 : List Cond := u_ws RX2 TX2 4
theorem nmX2 : ∀ a, a < 4 → ∀ b, b < 4 → a ≠ b → (TX2 a).2.1 ≠ (TX2 b).2.1 := by decide +kernel
theorem tyX2_ok : ∀ k, k < 4 → parseFieldDescriptor (TX2 k).2.2.1 = some (tyX2 k) := by decide +kernel
abbrev cX2_init : ByteArray := prog_4_method_1_code
def yX2_init : MethodName := ⟨RX2, "<init>", "()V"⟩
abbrev cX2_add : ByteArray := prog_4_method_2_code
def yX2_add : MethodName := ⟨RX2, "add", "(I)I"⟩
abbrev cX2_emptyText : ByteArray := prog_4_method_3_code
def yX2_emptyText : MethodName := ⟨RX2, "emptyText", "()V"⟩
abbrev cX2_faultOfText : ByteArray := prog_4_method_4_code
def yX2_faultOfText : MethodName := ⟨RX2, "faultOfText", "()I"⟩
abbrev cX2_takeClause : ByteArray := prog_4_method_5_code
def yX2_takeClause : MethodName := ⟨RX2, "takeClause", "()Z"⟩
abbrev cX2_takeNumber : ByteArray := prog_4_method_6_code
def yX2_takeNumber : MethodName := ⟨RX2, "takeNumber", "(I)I"⟩
abbrev cX2_take : ByteArray := prog_4_method_7_code
def yX2_take : MethodName := ⟨RX2, "take", "(I)Z"⟩
abbrev cX2_sign : ByteArray := prog_4_method_8_code
def yX2_sign : MethodName := ⟨RX2, "sign", "()I"⟩
def RX3 : String := "PascalRows$Setup"
def TX3 : u_T := fun k => match k with
  | 0 => ("PascalRows$Setup", "triangle", "LPascalRows$Triangle;", true)
  | 1 => ("PascalRows$Setup", "marks", "LPascalRows$Lines;", true)
  | 2 => ("PascalRows$Setup", "seen", "LPascalRows$Lines;", true)
  | 3 => ("PascalRows$Setup", "events", "LPascalRows$Lines;", true)
  | 4 => ("PascalRows$Setup", "book", "LPascalRows$Lines;", true)
  | 5 => ("PascalRows$Setup", "p", "I", false)
  | 6 => ("PascalRows$Setup", "e", "I", false)
  | 7 => ("PascalRows$Setup", "modulus", "I", false)
  | 8 => ("PascalRows$Setup", "windowRow", "I", false)
  | _ => ("PascalRows$Setup", "windowPlace", "I", false)
def tyX3 : Nat → FieldType := fun k => match k with
  | 0 => .object "PascalRows$Triangle"
  | 1 => .object "PascalRows$Lines"
  | 2 => .object "PascalRows$Lines"
  | 3 => .object "PascalRows$Lines"
  | 4 => .object "PascalRows$Lines"
  | 5 => .int
  | 6 => .int
  | 7 => .int
  | 8 => .int
  | _ => .int
abbrev wsX30 : List Cond := u_ws RX3 TX3 10
theorem nmX3 : ∀ a, a < 10 → ∀ b, b < 10 → a ≠ b → (TX3 a).2.1 ≠ (TX3 b).2.1 := by decide +kernel
theorem tyX3_ok : ∀ k, k < 10 → parseFieldDescriptor (TX3 k).2.2.1 = some (tyX3 k) := by decide +kernel
abbrev cX3_init : ByteArray := prog_5_method_1_code
def yX3_init : MethodName := ⟨RX3, "<init>", "(LPascalRows$Triangle;)V"⟩
abbrev cX3_become : ByteArray := prog_5_method_2_code
def yX3_become : MethodName := ⟨RX3, "become", "(II)V"⟩
abbrev cX3_copyFrom : ByteArray := prog_5_method_3_code
def yX3_copyFrom : MethodName := ⟨RX3, "copyFrom", "(LPascalRows$Setup;)V"⟩
abbrev cX3_happen : ByteArray := prog_5_method_4_code
def yX3_happen : MethodName := ⟨RX3, "happen", "(II)V"⟩
abbrev cX3_nextPrime : ByteArray := prog_5_method_5_code
def yX3_nextPrime : MethodName := ⟨RX3, "nextPrime", "()I"⟩
abbrev cX3_remainder : ByteArray := prog_5_method_6_code
def yX3_remainder : MethodName := ⟨RX3, "remainder", "(II)I"⟩
abbrev cX3_tell : ByteArray := prog_5_method_7_code
def yX3_tell : MethodName := ⟨RX3, "tell", "(III)I"⟩
abbrev cX3_isMarked : ByteArray := prog_5_method_8_code
def yX3_isMarked : MethodName := ⟨RX3, "isMarked", "(II)Z"⟩
abbrev cX3_pictureRow : ByteArray := prog_5_method_9_code
def yX3_pictureRow : MethodName := ⟨RX3, "pictureRow", "(I)I"⟩
abbrev cX3_markedInWindow : ByteArray := prog_5_method_10_code
def yX3_markedInWindow : MethodName := ⟨RX3, "markedInWindow", "()I"⟩
def RX4 : String := "PascalRows$Tapes"
def TX4 : u_T := fun k => match k with
  | 0 => ("PascalRows$Tapes", "sorts", "[I", true)
  | 1 => ("PascalRows$Tapes", "lengths", "[I", true)
  | _ => ("PascalRows$Tapes", "items", "[J", true)
def tyX4 : Nat → FieldType := fun k => match k with
  | 0 => .array .int
  | 1 => .array .int
  | _ => .array .long
abbrev wsX40 : List Cond := u_ws RX4 TX4 3
theorem nmX4 : ∀ a, a < 3 → ∀ b, b < 3 → a ≠ b → (TX4 a).2.1 ≠ (TX4 b).2.1 := by decide +kernel
theorem tyX4_ok : ∀ k, k < 3 → parseFieldDescriptor (TX4 k).2.2.1 = some (tyX4 k) := by decide +kernel
abbrev cX4_init : ByteArray := prog_6_method_1_code
def yX4_init : MethodName := ⟨RX4, "<init>", "()V"⟩
abbrev cX4_isThere : ByteArray := prog_6_method_2_code
def yX4_isThere : MethodName := ⟨RX4, "isThere", "(I)Z"⟩
abbrev cX4_sortOf : ByteArray := prog_6_method_3_code
def yX4_sortOf : MethodName := ⟨RX4, "sortOf", "(I)I"⟩
abbrev cX4_lengthOf : ByteArray := prog_6_method_4_code
def yX4_lengthOf : MethodName := ⟨RX4, "lengthOf", "(I)I"⟩
abbrev cX4_become : ByteArray := prog_6_method_5_code
def yX4_become : MethodName := ⟨RX4, "become", "(III)V"⟩
abbrev cX4_hasRun : ByteArray := prog_6_method_6_code
def yX4_hasRun : MethodName := ⟨RX4, "hasRun", "(III)Z"⟩
abbrev cX4_value : ByteArray := prog_6_method_7_code
def yX4_value : MethodName := ⟨RX4, "value", "(II)J"⟩
abbrev cX4_put : ByteArray := prog_6_method_8_code
def yX4_put : MethodName := ⟨RX4, "put", "(IIJ)V"⟩
abbrev cX4_cutToSort : ByteArray := prog_6_method_9_code
def yX4_cutToSort : MethodName := ⟨RX4, "cutToSort", "(IJ)J"⟩
abbrev cX4_move : ByteArray := prog_6_method_10_code
def yX4_move : MethodName := ⟨RX4, "move", "(IIIII)V"⟩
def RX5 : String := "PascalRows$Triangle"
def TX5 : u_T := fun k => match k with
  | _ => ("PascalRows$Triangle", "halves", "[I", true)
def tyX5 : Nat → FieldType := fun k => match k with
  | _ => .array .int
abbrev wsX50 : List Cond := u_ws RX5 TX5 1
theorem nmX5 : ∀ a, a < 1 → ∀ b, b < 1 → a ≠ b → (TX5 a).2.1 ≠ (TX5 b).2.1 := by decide +kernel
theorem tyX5_ok : ∀ k, k < 1 → parseFieldDescriptor (TX5 k).2.2.1 = some (tyX5 k) := by decide +kernel
abbrev cX5_init : ByteArray := prog_7_method_1_code
def yX5_init : MethodName := ⟨RX5, "<init>", "()V"⟩
abbrev cX5_cell : ByteArray := prog_7_method_2_code
def yX5_cell : MethodName := ⟨RX5, "cell", "(II)I"⟩
abbrev cX5_remainder : ByteArray := prog_7_method_3_code
def yX5_remainder : MethodName := ⟨RX5, "remainder", "(III)I"⟩
abbrev cX5_lucas : ByteArray := prog_7_method_4_code
def yX5_lucas : MethodName := ⟨RX5, "lucas", "(III)I"⟩
def RX6 : String := "PascalRows"
def TX6 : u_T := fun k => match k with
  | 0 => ("PascalRows", "triangle", "LPascalRows$Triangle;", true)
  | 1 => ("PascalRows", "now", "LPascalRows$Setup;", true)
  | 2 => ("PascalRows", "kept", "LPascalRows$Setup;", true)
  | 3 => ("PascalRows", "trial", "LPascalRows$Setup;", true)
  | 4 => ("PascalRows", "reader", "LPascalRows$Reader;", true)
  | 5 => ("PascalRows", "tapes", "LPascalRows$Tapes;", true)
  | _ => ("PascalRows", "hasImage", "Z", false)
def tyX6 : Nat → FieldType := fun k => match k with
  | 0 => .object "PascalRows$Triangle"
  | 1 => .object "PascalRows$Setup"
  | 2 => .object "PascalRows$Setup"
  | 3 => .object "PascalRows$Setup"
  | 4 => .object "PascalRows$Reader"
  | 5 => .object "PascalRows$Tapes"
  | _ => .boolean
abbrev wsX60 : List Cond := u_ws RX6 TX6 7
theorem nmX6 : ∀ a, a < 7 → ∀ b, b < 7 → a ≠ b → (TX6 a).2.1 ≠ (TX6 b).2.1 := by decide +kernel
theorem tyX6_ok : ∀ k, k < 7 → parseFieldDescriptor (TX6 k).2.2.1 = some (tyX6 k) := by decide +kernel
abbrev cX6_init : ByteArray := prog_1_method_1_code
def yX6_init : MethodName := ⟨RX6, "<init>", "()V"⟩
abbrev cX6_prime : ByteArray := prog_1_method_2_code
def yX6_prime : MethodName := ⟨RX6, "prime", "(I)I"⟩
abbrev cX6_power : ByteArray := prog_1_method_3_code
def yX6_power : MethodName := ⟨RX6, "power", "(I)I"⟩
abbrev cX6_mark : ByteArray := prog_1_method_4_code
def yX6_mark : MethodName := ⟨RX6, "mark", "(II)I"⟩
abbrev cX6_clear : ByteArray := prog_1_method_5_code
def yX6_clear : MethodName := ⟨RX6, "clear", "()I"⟩
abbrev cX6_window : ByteArray := prog_1_method_6_code
def yX6_window : MethodName := ⟨RX6, "window", "(II)I"⟩
abbrev cX6_feed : ByteArray := prog_1_method_7_code
def yX6_feed : MethodName := ⟨RX6, "feed", "(I)I"⟩
abbrev cX6_read : ByteArray := prog_1_method_8_code
def yX6_read : MethodName := ⟨RX6, "read", "()I"⟩
abbrev cX6_doClause : ByteArray := prog_1_method_9_code
def yX6_doClause : MethodName := ⟨RX6, "doClause", "(III)I"⟩
abbrev cX6_told : ByteArray := prog_1_method_10_code
def yX6_told : MethodName := ⟨RX6, "told", "(I)I"⟩
abbrev cX6_markOf : ByteArray := prog_1_method_11_code
def yX6_markOf : MethodName := ⟨RX6, "markOf", "(II)I"⟩
abbrev cX6_at : ByteArray := prog_1_method_12_code
def yX6_at : MethodName := ⟨RX6, "at", "(II)I"⟩
abbrev cX6_rule : ByteArray := prog_1_method_13_code
def yX6_rule : MethodName := ⟨RX6, "rule", "(III)I"⟩
abbrev cX6_marked : ByteArray := prog_1_method_14_code
def yX6_marked : MethodName := ⟨RX6, "marked", "(II)I"⟩
abbrev cX6_digit : ByteArray := prog_1_method_15_code
def yX6_digit : MethodName := ⟨RX6, "digit", "(II)I"⟩
abbrev cX6_pure : ByteArray := prog_1_method_16_code
def yX6_pure : MethodName := ⟨RX6, "pure", "(II)I"⟩
abbrev cX6_counted : ByteArray := prog_1_method_17_code
def yX6_counted : MethodName := ⟨RX6, "counted", "(II)I"⟩
abbrev cX6_row : ByteArray := prog_1_method_18_code
def yX6_row : MethodName := ⟨RX6, "row", "(II)I"⟩
abbrev cX6_kind : ByteArray := prog_1_method_19_code
def yX6_kind : MethodName := ⟨RX6, "kind", "(II)I"⟩
abbrev cX6_upTo : ByteArray := prog_1_method_20_code
def yX6_upTo : MethodName := ⟨RX6, "upTo", "(II)I"⟩
abbrev cX6_countOf : ByteArray := prog_1_method_21_code
def yX6_countOf : MethodName := ⟨RX6, "countOf", "(II)I"⟩
abbrev cX6_nextKind : ByteArray := prog_1_method_22_code
def yX6_nextKind : MethodName := ⟨RX6, "nextKind", "(II)I"⟩
abbrev cX6_kindsOf : ByteArray := prog_1_method_23_code
def yX6_kindsOf : MethodName := ⟨RX6, "kindsOf", "(I)I"⟩
abbrev cX6_usualOf : ByteArray := prog_1_method_24_code
def yX6_usualOf : MethodName := ⟨RX6, "usualOf", "(I)I"⟩
abbrev cX6_sumOf : ByteArray := prog_1_method_25_code
def yX6_sumOf : MethodName := ⟨RX6, "sumOf", "(I)I"⟩
abbrev cX6_depthOf : ByteArray := prog_1_method_26_code
def yX6_depthOf : MethodName := ⟨RX6, "depthOf", "(I)I"⟩
abbrev cX6_fullRows : ByteArray := prog_1_method_27_code
def yX6_fullRows : MethodName := ⟨RX6, "fullRows", "(I)I"⟩
abbrev cX6_lastFullRow : ByteArray := prog_1_method_28_code
def yX6_lastFullRow : MethodName := ⟨RX6, "lastFullRow", "(I)I"⟩
abbrev cX6_heaviestRow : ByteArray := prog_1_method_29_code
def yX6_heaviestRow : MethodName := ⟨RX6, "heaviestRow", "(I)I"⟩
abbrev cX6_picture : ByteArray := prog_1_method_30_code
def yX6_picture : MethodName := ⟨RX6, "picture", "(I)I"⟩
abbrev cX6_like : ByteArray := prog_1_method_31_code
def yX6_like : MethodName := ⟨RX6, "like", "(IIIII)I"⟩
abbrev cX6_scaled : ByteArray := prog_1_method_32_code
def yX6_scaled : MethodName := ⟨RX6, "scaled", "(II)I"⟩
abbrev cX6_areLike : ByteArray := prog_1_method_33_code
def yX6_areLike : MethodName := ⟨RX6, "areLike", "(IIIII)Z"⟩
abbrev cX6_see : ByteArray := prog_1_method_34_code
def yX6_see : MethodName := ⟨RX6, "see", "(III)I"⟩
abbrev cX6_fits : ByteArray := prog_1_method_35_code
def yX6_fits : MethodName := ⟨RX6, "fits", "()I"⟩
abbrev cX6_isSeenBy : ByteArray := prog_1_method_36_code
def yX6_isSeenBy : MethodName := ⟨RX6, "isSeenBy", "(I)Z"⟩
abbrev cX6_odds : ByteArray := prog_1_method_37_code
def yX6_odds : MethodName := ⟨RX6, "odds", "(IIII)J"⟩
abbrev cX6_mean : ByteArray := prog_1_method_38_code
def yX6_mean : MethodName := ⟨RX6, "mean", "(II)J"⟩
abbrev cX6_partOfFraction : ByteArray := prog_1_method_39_code
def yX6_partOfFraction : MethodName := ⟨RX6, "partOfFraction", "(III)I"⟩
abbrev cX6_event : ByteArray := prog_1_method_40_code
def yX6_event : MethodName := ⟨RX6, "event", "(II)I"⟩
abbrev cX6_addEvent : ByteArray := prog_1_method_41_code
def yX6_addEvent : MethodName := ⟨RX6, "addEvent", "(IIII)I"⟩
abbrev cX6_after : ByteArray := prog_1_method_42_code
def yX6_after : MethodName := ⟨RX6, "after", "(I)I"⟩
abbrev cX6_book : ByteArray := prog_1_method_43_code
def yX6_book : MethodName := ⟨RX6, "book", "(II)I"⟩
abbrev cX6_looked : ByteArray := prog_1_method_44_code
def yX6_looked : MethodName := ⟨RX6, "looked", "()I"⟩
abbrev cX6_judge : ByteArray := prog_1_method_45_code
def yX6_judge : MethodName := ⟨RX6, "judge", "(III)I"⟩
abbrev cX6_image : ByteArray := prog_1_method_46_code
def yX6_image : MethodName := ⟨RX6, "image", "()I"⟩
abbrev cX6_undo : ByteArray := prog_1_method_47_code
def yX6_undo : MethodName := ⟨RX6, "undo", "()I"⟩
abbrev cX6_count : ByteArray := prog_1_method_48_code
def yX6_count : MethodName := ⟨RX6, "count", "(I)I"⟩
abbrev cX6_tape : ByteArray := prog_1_method_49_code
def yX6_tape : MethodName := ⟨RX6, "tape", "(III)I"⟩
abbrev cX6_item : ByteArray := prog_1_method_50_code
def yX6_item : MethodName := ⟨RX6, "item", "(IIJ)I"⟩
abbrev cX6_peek : ByteArray := prog_1_method_51_code
def yX6_peek : MethodName := ⟨RX6, "peek", "(II)J"⟩
abbrev cX6_shift : ByteArray := prog_1_method_52_code
def yX6_shift : MethodName := ⟨RX6, "shift", "(IIIII)I"⟩
abbrev cX6_isWithin : ByteArray := prog_1_method_53_code
def yX6_isWithin : MethodName := ⟨RX6, "isWithin", "(III)Z"⟩
abbrev cX6_isRow : ByteArray := prog_1_method_54_code
def yX6_isRow : MethodName := ⟨RX6, "isRow", "(I)Z"⟩
abbrev cX6_isPlace : ByteArray := prog_1_method_55_code
def yX6_isPlace : MethodName := ⟨RX6, "isPlace", "(II)Z"⟩
def RX7 : String := "PascalRowsModel"
def TX7 : u_T := fun k => match k with
  | 0 => ("PascalRowsModel", "g", "[I", true)
  | 1 => ("PascalRowsModel", "kept", "[I", true)
  | 2 => ("PascalRowsModel", "was", "[I", true)
  | 3 => ("PascalRowsModel", "isKept", "Z", false)
  | 4 => ("PascalRowsModel", "triangle", "[I", true)
  | 5 => ("PascalRowsModel", "takenBy", "I", false)
  | 6 => ("PascalRowsModel", "text", "[I", true)
  | 7 => ("PascalRowsModel", "fed", "I", false)
  | 8 => ("PascalRowsModel", "place", "I", false)
  | 9 => ("PascalRowsModel", "letter", "I", false)
  | 10 => ("PascalRowsModel", "first", "I", false)
  | 11 => ("PascalRowsModel", "second", "I", false)
  | 12 => ("PascalRowsModel", "sort", "[I", true)
  | 13 => ("PascalRowsModel", "size", "[I", true)
  | _ => ("PascalRowsModel", "items", "[J", true)
def tyX7 : Nat → FieldType := fun k => match k with
  | 0 => .array .int
  | 1 => .array .int
  | 2 => .array .int
  | 3 => .boolean
  | 4 => .array .int
  | 5 => .int
  | 6 => .array .int
  | 7 => .int
  | 8 => .int
  | 9 => .int
  | 10 => .int
  | 11 => .int
  | 12 => .array .int
  | 13 => .array .int
  | _ => .array .long
abbrev wsX70 : List Cond := u_ws RX7 TX7 15
theorem nmX7 : ∀ a, a < 15 → ∀ b, b < 15 → a ≠ b → (TX7 a).2.1 ≠ (TX7 b).2.1 := by decide +kernel
theorem tyX7_ok : ∀ k, k < 15 → parseFieldDescriptor (TX7 k).2.2.1 = some (tyX7 k) := by decide +kernel
abbrev cX7_init : ByteArray := prog_9_method_1_code
def yX7_init : MethodName := ⟨RX7, "<init>", "()V"⟩
abbrev cX7_isIn : ByteArray := prog_9_method_2_code
def yX7_isIn : MethodName := ⟨RX7, "isIn", "(JJJ)Z"⟩
abbrev cX7_copies : ByteArray := prog_9_method_3_code
def yX7_copies : MethodName := ⟨RX7, "copies", "([I[I)V"⟩
abbrev cX7_isPrime : ByteArray := prog_9_method_4_code
def yX7_isPrime : MethodName := ⟨RX7, "isPrime", "(I)Z"⟩
abbrev cX7_power : ByteArray := prog_9_method_5_code
def yX7_power : MethodName := ⟨RX7, "power", "(II)I"⟩
abbrev cX7_modulus : ByteArray := prog_9_method_6_code
def yX7_modulus : MethodName := ⟨RX7, "modulus", "()I"⟩
abbrev cX7_takes : ByteArray := prog_9_method_7_code
def yX7_takes : MethodName := ⟨RX7, "takes", "(I)V"⟩
abbrev cX7_remainder : ByteArray := prog_9_method_8_code
def yX7_remainder : MethodName := ⟨RX7, "remainder", "(II)I"⟩
abbrev cX7_carries : ByteArray := prog_9_method_9_code
def yX7_carries : MethodName := ⟨RX7, "carries", "(II)I"⟩
abbrev cX7_small : ByteArray := prog_9_method_10_code
def yX7_small : MethodName := ⟨RX7, "small", "(II)I"⟩
abbrev cX7_lucas : ByteArray := prog_9_method_11_code
def yX7_lucas : MethodName := ⟨RX7, "lucas", "(II)I"⟩
abbrev cX7_legendre : ByteArray := prog_9_method_12_code
def yX7_legendre : MethodName := ⟨RX7, "legendre", "(II)I"⟩
abbrev cX7_within : ByteArray := prog_9_method_13_code
def yX7_within : MethodName := ⟨RX7, "within", "(II)I"⟩
abbrev cX7_tells : ByteArray := prog_9_method_14_code
def yX7_tells : MethodName := ⟨RX7, "tells", "(III)I"⟩
abbrev cX7_isRow : ByteArray := prog_9_method_15_code
def yX7_isRow : MethodName := ⟨RX7, "isRow", "(I)Z"⟩
abbrev cX7_isPlace : ByteArray := prog_9_method_16_code
def yX7_isPlace : MethodName := ⟨RX7, "isPlace", "(II)Z"⟩
abbrev cX7_isKind : ByteArray := prog_9_method_17_code
def yX7_isKind : MethodName := ⟨RX7, "isKind", "(I)Z"⟩
abbrev cX7_isMarked : ByteArray := prog_9_method_18_code
def yX7_isMarked : MethodName := ⟨RX7, "isMarked", "(II)Z"⟩
abbrev cX7_prime : ByteArray := prog_9_method_19_code
def yX7_prime : MethodName := ⟨RX7, "prime", "(I)I"⟩
abbrev cX7_power_ : ByteArray := prog_9_method_20_code
def yX7_power_ : MethodName := ⟨RX7, "power", "(I)I"⟩
abbrev cX7_mark : ByteArray := prog_9_method_21_code
def yX7_mark : MethodName := ⟨RX7, "mark", "(II)I"⟩
abbrev cX7_clear : ByteArray := prog_9_method_22_code
def yX7_clear : MethodName := ⟨RX7, "clear", "()I"⟩
abbrev cX7_window : ByteArray := prog_9_method_23_code
def yX7_window : MethodName := ⟨RX7, "window", "(II)I"⟩
abbrev cX7_feed : ByteArray := prog_9_method_24_code
def yX7_feed : MethodName := ⟨RX7, "feed", "(I)I"⟩
abbrev cX7_here : ByteArray := prog_9_method_25_code
def yX7_here : MethodName := ⟨RX7, "here", "()I"⟩
abbrev cX7_readsNumber : ByteArray := prog_9_method_26_code
def yX7_readsNumber : MethodName := ⟨RX7, "readsNumber", "(I)I"⟩
abbrev cX7_readsClause : ByteArray := prog_9_method_27_code
def yX7_readsClause : MethodName := ⟨RX7, "readsClause", "()Z"⟩
abbrev cX7_fault : ByteArray := prog_9_method_28_code
def yX7_fault : MethodName := ⟨RX7, "fault", "()I"⟩
abbrev cX7_isDone : ByteArray := prog_9_method_29_code
def yX7_isDone : MethodName := ⟨RX7, "isDone", "()Z"⟩
abbrev cX7_read : ByteArray := prog_9_method_30_code
def yX7_read : MethodName := ⟨RX7, "read", "()I"⟩
abbrev cX7_markedInWindow : ByteArray := prog_9_method_31_code
def yX7_markedInWindow : MethodName := ⟨RX7, "markedInWindow", "()I"⟩
abbrev cX7_told : ByteArray := prog_9_method_32_code
def yX7_told : MethodName := ⟨RX7, "told", "(I)I"⟩
abbrev cX7_markOf : ByteArray := prog_9_method_33_code
def yX7_markOf : MethodName := ⟨RX7, "markOf", "(II)I"⟩
abbrev cX7_at : ByteArray := prog_9_method_34_code
def yX7_at : MethodName := ⟨RX7, "at", "(II)I"⟩
abbrev cX7_rule : ByteArray := prog_9_method_35_code
def yX7_rule : MethodName := ⟨RX7, "rule", "(III)I"⟩
abbrev cX7_marked : ByteArray := prog_9_method_36_code
def yX7_marked : MethodName := ⟨RX7, "marked", "(II)I"⟩
abbrev cX7_digit : ByteArray := prog_9_method_37_code
def yX7_digit : MethodName := ⟨RX7, "digit", "(II)I"⟩
abbrev cX7_pure : ByteArray := prog_9_method_38_code
def yX7_pure : MethodName := ⟨RX7, "pure", "(II)I"⟩
abbrev cX7_countOf : ByteArray := prog_9_method_39_code
def yX7_countOf : MethodName := ⟨RX7, "countOf", "(II)I"⟩
abbrev cX7_counted : ByteArray := prog_9_method_40_code
def yX7_counted : MethodName := ⟨RX7, "counted", "(II)I"⟩
abbrev cX7_sumOf : ByteArray := prog_9_method_41_code
def yX7_sumOf : MethodName := ⟨RX7, "sumOf", "(I)I"⟩
abbrev cX7_row : ByteArray := prog_9_method_42_code
def yX7_row : MethodName := ⟨RX7, "row", "(II)I"⟩
abbrev cX7_kind : ByteArray := prog_9_method_43_code
def yX7_kind : MethodName := ⟨RX7, "kind", "(II)I"⟩
abbrev cX7_upTo : ByteArray := prog_9_method_44_code
def yX7_upTo : MethodName := ⟨RX7, "upTo", "(II)I"⟩
abbrev cX7_picture : ByteArray := prog_9_method_45_code
def yX7_picture : MethodName := ⟨RX7, "picture", "(I)I"⟩
abbrev cX7_areLike : ByteArray := prog_9_method_46_code
def yX7_areLike : MethodName := ⟨RX7, "areLike", "(IIIII)Z"⟩
abbrev cX7_like : ByteArray := prog_9_method_47_code
def yX7_like : MethodName := ⟨RX7, "like", "(IIIII)I"⟩
abbrev cX7_scaled : ByteArray := prog_9_method_48_code
def yX7_scaled : MethodName := ⟨RX7, "scaled", "(II)I"⟩
abbrev cX7_see : ByteArray := prog_9_method_49_code
def yX7_see : MethodName := ⟨RX7, "see", "(III)I"⟩
abbrev cX7_fits : ByteArray := prog_9_method_50_code
def yX7_fits : MethodName := ⟨RX7, "fits", "()I"⟩
abbrev cX7_common : ByteArray := prog_9_method_51_code
def yX7_common : MethodName := ⟨RX7, "common", "(II)I"⟩
abbrev cX7_fraction : ByteArray := prog_9_method_52_code
def yX7_fraction : MethodName := ⟨RX7, "fraction", "(III)J"⟩
abbrev cX7_odds : ByteArray := prog_9_method_53_code
def yX7_odds : MethodName := ⟨RX7, "odds", "(IIII)J"⟩
abbrev cX7_mean : ByteArray := prog_9_method_54_code
def yX7_mean : MethodName := ⟨RX7, "mean", "(II)J"⟩
abbrev cX7_event : ByteArray := prog_9_method_55_code
def yX7_event : MethodName := ⟨RX7, "event", "(II)I"⟩
abbrev cX7_happens : ByteArray := prog_9_method_56_code
def yX7_happens : MethodName := ⟨RX7, "happens", "(II)V"⟩
abbrev cX7_after : ByteArray := prog_9_method_57_code
def yX7_after : MethodName := ⟨RX7, "after", "(I)I"⟩
abbrev cX7_book : ByteArray := prog_9_method_58_code
def yX7_book : MethodName := ⟨RX7, "book", "(II)I"⟩
abbrev cX7_looked : ByteArray := prog_9_method_59_code
def yX7_looked : MethodName := ⟨RX7, "looked", "()I"⟩
abbrev cX7_isTape : ByteArray := prog_9_method_60_code
def yX7_isTape : MethodName := ⟨RX7, "isTape", "(I)Z"⟩
abbrev cX7_isItem : ByteArray := prog_9_method_61_code
def yX7_isItem : MethodName := ⟨RX7, "isItem", "(II)Z"⟩
abbrev cX7_judge : ByteArray := prog_9_method_62_code
def yX7_judge : MethodName := ⟨RX7, "judge", "(III)I"⟩
abbrev cX7_image : ByteArray := prog_9_method_63_code
def yX7_image : MethodName := ⟨RX7, "image", "()I"⟩
abbrev cX7_undo : ByteArray := prog_9_method_64_code
def yX7_undo : MethodName := ⟨RX7, "undo", "()I"⟩
abbrev cX7_count : ByteArray := prog_9_method_65_code
def yX7_count : MethodName := ⟨RX7, "count", "(I)I"⟩
abbrev cX7_tape : ByteArray := prog_9_method_66_code
def yX7_tape : MethodName := ⟨RX7, "tape", "(III)I"⟩
abbrev cX7_lies : ByteArray := prog_9_method_67_code
def yX7_lies : MethodName := ⟨RX7, "lies", "(IJ)J"⟩
abbrev cX7_item : ByteArray := prog_9_method_68_code
def yX7_item : MethodName := ⟨RX7, "item", "(IIJ)I"⟩
abbrev cX7_peek : ByteArray := prog_9_method_69_code
def yX7_peek : MethodName := ⟨RX7, "peek", "(II)J"⟩
abbrev cX7_shift : ByteArray := prog_9_method_70_code
def yX7_shift : MethodName := ⟨RX7, "shift", "(IIIII)I"⟩
def RJ6 : String := "java/lang/Integer"
def TJ6 : u_T := fun k => match k with
  | _ => ("", "", "", false)
def tyJ6 : Nat → FieldType := fun k => match k with
  | _ => .int
abbrev wsJ60 : List Cond := u_ws RJ6 TJ6 0
theorem nmJ6 : ∀ a, a < 0 → ∀ b, b < 0 → a ≠ b → (TJ6 a).2.1 ≠ (TJ6 b).2.1 := by decide +kernel
theorem tyJ6_ok : ∀ k, k < 0 → parseFieldDescriptor (TJ6 k).2.2.1 = some (tyJ6 k) := by decide +kernel
abbrev cJ6_bitCount_0f7a4 : ByteArray := prog_10_method_49_code
def yJ6_bitCount_0f7a4 : MethodName := ⟨RJ6, "bitCount", "(I)I"⟩
def RJ9 : String := "java/lang/Math"
def TJ9 : u_T := fun k => match k with
  | _ => ("", "", "", false)
def tyJ9 : Nat → FieldType := fun k => match k with
  | _ => .int
abbrev wsJ90 : List Cond := u_ws RJ9 TJ9 0
theorem nmJ9 : ∀ a, a < 0 → ∀ b, b < 0 → a ≠ b → (TJ9 a).2.1 ≠ (TJ9 b).2.1 := by decide +kernel
theorem tyJ9_ok : ∀ k, k < 0 → parseFieldDescriptor (TJ9 k).2.2.1 = some (tyJ9 k) := by decide +kernel
abbrev cJ9_max_7cf53 : ByteArray := prog_11_method_65_code
def yJ9_max_7cf53 : MethodName := ⟨RJ9, "max", "(II)I"⟩
abbrev cJ9_min_7cf53 : ByteArray := prog_11_method_69_code
def yJ9_min_7cf53 : MethodName := ⟨RJ9, "min", "(II)I"⟩
def RJ10 : String := "java/lang/System"
def TJ10 : u_T := fun k => match k with
  | _ => ("", "", "", false)
def tyJ10 : Nat → FieldType := fun k => match k with
  | _ => .int
abbrev wsJ100 : List Cond := u_ws RJ10 TJ10 0
theorem nmJ10 : ∀ a, a < 0 → ∀ b, b < 0 → a ≠ b → (TJ10 a).2.1 ≠ (TJ10 b).2.1 := by decide +kernel
theorem tyJ10_ok : ∀ k, k < 0 → parseFieldDescriptor (TJ10 k).2.2.1 = some (tyJ10 k) := by decide +kernel
def RL : String := "PascalRowsLaw"
abbrev cL_law : ByteArray := code
def yL_law : MethodName := ⟨RL, "law", "([I)Z"⟩
def wsX0_powerOf : List Cond := .code yX0_powerOf cX0_powerOf 4 (some .int) :: ([])
def wsX0_howMany : List Cond := .code yX0_howMany cX0_howMany 5 (some .int) :: ([])
def wsX0_one : List Cond := .code yX0_one cX0_one 5 (some .int) :: ([])
def wsX0_withoutPrime : List Cond := .code yX0_withoutPrime cX0_withoutPrime 4 (some .int) :: ([])
def wsX0_timesDivided : List Cond := .code yX0_timesDivided cX0_timesDivided 5 (some .int) :: ([])
def wsX0_carries : List Cond := .code yX0_carries cX0_carries 8 (some .int) :: ([])
def wsX0_legendre : List Cond := .code yX0_legendre cX0_legendre 8 (some .int) :: ([])
def wsX0_isCovered : List Cond := .code yX0_isCovered cX0_isCovered 6 (some .boolean) :: ([])
def wsX0_commonDivisor : List Cond := .code yX0_commonDivisor cX0_commonDivisor 6 (some .int) :: ([])
def wsX1_init : List Cond := .code yX1_init cX1_init 2 none :: ([.methodLink RX1 3 objectInit, .instanceMethod objectInit, .code objectInit ⟨#[0xb1]⟩ 1 none, .methodLink RX1 11 Lib.Math.min.name, .static Lib.Math.min.name, .initialized "java/lang/Math", .code Lib.Math.min.name Lib.Math.min.code 2 (some .int), .methodLink RX1 17 Lib.Math.max.name, .static Lib.Math.max.name, .code Lib.Math.max.name Lib.Math.max.code 2 (some .int), .arrayClass .int, .fieldLink RX1 20 "PascalRows$Lines" "numbers" "[I"] ++ wsX10)
def wsX1_add : List Cond := .code yX1_add cX1_add 5 (some .int) :: ([.fieldLink RX1 24 "PascalRows$Lines" "size" "I", .fieldLink RX1 20 "PascalRows$Lines" "numbers" "[I"] ++ wsX10)
def wsX6_isWithin : List Cond := .code yX6_isWithin cX6_isWithin 3 (some .boolean) :: ([])
def wsX1_number : List Cond := .code yX1_number cX1_number 4 (some .int) :: ([.fieldLink RX1 24 "PascalRows$Lines" "size" "I", .fieldLink RX1 20 "PascalRows$Lines" "numbers" "[I", .static yX6_isWithin, .initialized RX6, .code yX6_isWithin cX6_isWithin 3 (some .boolean)] ++ wsX10)
def wsX1_remove : List Cond := .code yX1_remove cX1_remove 4 none :: ([.fieldLink RX1 24 "PascalRows$Lines" "size" "I", .fieldLink RX1 20 "PascalRows$Lines" "numbers" "[I", .methodLink RX1 32 arraycopyName, .native arraycopyName, .static arraycopyName, .initialized "java/lang/System", .static yX6_isWithin, .initialized RX6, .code yX6_isWithin cX6_isWithin 3 (some .boolean)] ++ wsX10)
def wsX1_empty : List Cond := .code yX1_empty cX1_empty 1 none :: ([.fieldLink RX1 24 "PascalRows$Lines" "size" "I"] ++ wsX10)
def wsX1_copyFrom : List Cond := .code yX1_copyFrom cX1_copyFrom 2 none :: ([.fieldLink RX1 20 "PascalRows$Lines" "numbers" "[I", .methodLink RX1 32 arraycopyName, .native arraycopyName, .static arraycopyName, .initialized "java/lang/System", .fieldLink RX1 24 "PascalRows$Lines" "size" "I"] ++ wsX10)
def wsX2_init : List Cond := .code yX2_init cX2_init 1 none :: ([.methodLink RX2 3 objectInit, .instanceMethod objectInit, .code objectInit ⟨#[0xb1]⟩ 1 none, .arrayClass .int, .fieldLink RX2 11 "PascalRows$Reader" "text" "[I", .classLink RX2 15 RX1, .instantiable RX1 2, .initialized RX1, .fieldLink RX2 20 "PascalRows$Reader" "clauses" "LPascalRows$Lines;", .methodLink RX2 17 yX1_init, .instanceMethod yX1_init, .code yX1_init cX1_init 2 none, .methodLink RX1 3 objectInit, .methodLink RX1 11 Lib.Math.min.name, .static Lib.Math.min.name, .initialized "java/lang/Math", .code Lib.Math.min.name Lib.Math.min.code 2 (some .int), .methodLink RX1 17 Lib.Math.max.name, .static Lib.Math.max.name, .code Lib.Math.max.name Lib.Math.max.code 2 (some .int), .fieldLink RX1 20 "PascalRows$Lines" "numbers" "[I"] ++ wsX20 ++ wsX10)
def wsX2_add : List Cond := .code yX2_add cX2_add 2 (some .int) :: ([.fieldLink RX2 24 "PascalRows$Reader" "length" "I", .fieldLink RX2 11 "PascalRows$Reader" "text" "[I"] ++ wsX20)
def wsX2_emptyText : List Cond := .code yX2_emptyText cX2_emptyText 1 none :: ([.fieldLink RX2 24 "PascalRows$Reader" "length" "I"] ++ wsX20)
def wsX2_sign : List Cond := .code yX2_sign cX2_sign 1 (some .int) :: ([.fieldLink RX2 31 "PascalRows$Reader" "next" "I", .fieldLink RX2 24 "PascalRows$Reader" "length" "I", .fieldLink RX2 11 "PascalRows$Reader" "text" "[I"] ++ wsX20)
def wsX2_takeNumber : List Cond := .code yX2_takeNumber cX2_takeNumber 5 (some .int) :: ([.methodLink RX2 58 Lib.Math.max.name, .static Lib.Math.max.name, .initialized "java/lang/Math", .code Lib.Math.max.name Lib.Math.max.code 2 (some .int), .fieldLink RX2 31 "PascalRows$Reader" "next" "I", .methodLink RX2 42 yX2_sign, .instanceMethod yX2_sign, .selects RX2 yX2_sign yX2_sign, .initialized RX2, .code yX2_sign cX2_sign 1 (some .int), .fieldLink RX2 24 "PascalRows$Reader" "length" "I", .fieldLink RX2 11 "PascalRows$Reader" "text" "[I", .static yX6_isWithin, .initialized RX6, .code yX6_isWithin cX6_isWithin 3 (some .boolean)] ++ wsX20)
def wsX2_take : List Cond := .code yX2_take cX2_take 3 (some .boolean) :: ([.fieldLink RX2 31 "PascalRows$Reader" "next" "I", .methodLink RX2 42 yX2_sign, .instanceMethod yX2_sign, .selects RX2 yX2_sign yX2_sign, .initialized RX2, .code yX2_sign cX2_sign 1 (some .int), .fieldLink RX2 24 "PascalRows$Reader" "length" "I", .fieldLink RX2 11 "PascalRows$Reader" "text" "[I"] ++ wsX20)
def wsX2_takeClause_r1 : List Cond := [Cond.fieldLink RX2 31 "PascalRows$Reader" "next" "I", Cond.fieldLink RX2 20 "PascalRows$Reader" "clauses" "LPascalRows$Lines;", Cond.methodLink RX2 42 yX2_sign, Cond.instanceMethod yX2_sign, Cond.selects RX2 yX2_sign yX2_sign, Cond.initialized RX2, Cond.code yX2_sign cX2_sign 1 (some .int), Cond.fieldLink RX2 24 "PascalRows$Reader" "length" "I", Cond.fieldLink RX2 11 "PascalRows$Reader" "text" "[I", Cond.methodLink RX2 46 yX2_takeNumber, Cond.instanceMethod yX2_takeNumber, Cond.selects RX2 yX2_takeNumber yX2_takeNumber, Cond.code yX2_takeNumber cX2_takeNumber 5 (some .int), Cond.methodLink RX2 58 Lib.Math.max.name, Cond.static Lib.Math.max.name, Cond.initialized "java/lang/Math", Cond.code Lib.Math.max.name Lib.Math.max.code 2 (some .int), Cond.static yX6_isWithin, Cond.initialized RX6, Cond.code yX6_isWithin cX6_isWithin 3 (some .boolean), Cond.methodLink RX2 38 yX2_take, Cond.instanceMethod yX2_take, Cond.selects RX2 yX2_take yX2_take, Cond.code yX2_take cX2_take 3 (some .boolean)]
def wsX2_takeClause_r2 : List Cond := [Cond.methodLink RX2 50 yX1_add, Cond.instanceMethod yX1_add, Cond.selects RX1 yX1_add yX1_add, Cond.initialized RX1, Cond.code yX1_add cX1_add 5 (some .int), Cond.fieldLink RX1 24 "PascalRows$Lines" "size" "I", Cond.fieldLink RX1 20 "PascalRows$Lines" "numbers" "[I"]
def wsX2_takeClause : List Cond := .code yX2_takeClause cX2_takeClause 4 (some .boolean) :: ((wsX2_takeClause_r1 ++ wsX2_takeClause_r2) ++ wsX20 ++ wsX10)
def wsX2_faultOfText_r1 : List Cond := [Cond.fieldLink RX2 20 "PascalRows$Reader" "clauses" "LPascalRows$Lines;", Cond.fieldLink RX2 31 "PascalRows$Reader" "next" "I", Cond.fieldLink RX2 24 "PascalRows$Reader" "length" "I", Cond.methodLink RX2 28 yX1_empty, Cond.instanceMethod yX1_empty, Cond.selects RX1 yX1_empty yX1_empty, Cond.initialized RX1, Cond.code yX1_empty cX1_empty 1 none, Cond.fieldLink RX1 24 "PascalRows$Lines" "size" "I", Cond.methodLink RX2 34 yX2_takeClause, Cond.instanceMethod yX2_takeClause, Cond.selects RX2 yX2_takeClause yX2_takeClause, Cond.initialized RX2, Cond.code yX2_takeClause cX2_takeClause 4 (some .boolean), Cond.methodLink RX2 42 yX2_sign, Cond.instanceMethod yX2_sign, Cond.selects RX2 yX2_sign yX2_sign, Cond.code yX2_sign cX2_sign 1 (some .int), Cond.fieldLink RX2 11 "PascalRows$Reader" "text" "[I", Cond.methodLink RX2 46 yX2_takeNumber, Cond.instanceMethod yX2_takeNumber, Cond.selects RX2 yX2_takeNumber yX2_takeNumber, Cond.code yX2_takeNumber cX2_takeNumber 5 (some .int), Cond.methodLink RX2 58 Lib.Math.max.name]
def wsX2_faultOfText_r2 : List Cond := [Cond.static Lib.Math.max.name, Cond.initialized "java/lang/Math", Cond.code Lib.Math.max.name Lib.Math.max.code 2 (some .int), Cond.static yX6_isWithin, Cond.initialized RX6, Cond.code yX6_isWithin cX6_isWithin 3 (some .boolean), Cond.methodLink RX2 38 yX2_take, Cond.instanceMethod yX2_take, Cond.selects RX2 yX2_take yX2_take, Cond.code yX2_take cX2_take 3 (some .boolean), Cond.methodLink RX2 50 yX1_add, Cond.instanceMethod yX1_add, Cond.selects RX1 yX1_add yX1_add, Cond.code yX1_add cX1_add 5 (some .int), Cond.fieldLink RX1 20 "PascalRows$Lines" "numbers" "[I"]
def wsX2_faultOfText : List Cond := .code yX2_faultOfText cX2_faultOfText 2 (some .int) :: ((wsX2_faultOfText_r1 ++ wsX2_faultOfText_r2) ++ wsX20 ++ wsX10)
def wsX3_init_r1 : List Cond := [Cond.methodLink RX3 3 objectInit, Cond.instanceMethod objectInit, Cond.code objectInit ⟨#[0xb1]⟩ 1 none, Cond.classLink RX3 9 RX1, Cond.instantiable RX1 2, Cond.initialized RX1, Cond.fieldLink RX3 16 "PascalRows$Setup" "marks" "LPascalRows$Lines;", Cond.fieldLink RX3 20 "PascalRows$Setup" "seen" "LPascalRows$Lines;", Cond.fieldLink RX3 23 "PascalRows$Setup" "events" "LPascalRows$Lines;", Cond.fieldLink RX3 26 "PascalRows$Setup" "book" "LPascalRows$Lines;", Cond.fieldLink RX3 29 "PascalRows$Setup" "p" "I", Cond.fieldLink RX3 33 "PascalRows$Setup" "e" "I", Cond.fieldLink RX3 36 "PascalRows$Setup" "modulus" "I", Cond.fieldLink RX3 39 "PascalRows$Setup" "triangle" "LPascalRows$Triangle;", Cond.methodLink RX3 13 yX1_init, Cond.instanceMethod yX1_init, Cond.code yX1_init cX1_init 2 none, Cond.methodLink RX1 3 objectInit, Cond.methodLink RX1 11 Lib.Math.min.name, Cond.static Lib.Math.min.name, Cond.initialized "java/lang/Math", Cond.code Lib.Math.min.name Lib.Math.min.code 2 (some .int), Cond.methodLink RX1 17 Lib.Math.max.name, Cond.static Lib.Math.max.name]
def wsX3_init_r2 : List Cond := [Cond.code Lib.Math.max.name Lib.Math.max.code 2 (some .int), Cond.arrayClass .int, Cond.fieldLink RX1 20 "PascalRows$Lines" "numbers" "[I"]
def wsX3_init : List Cond := .code yX3_init cX3_init 2 none :: ((wsX3_init_r1 ++ wsX3_init_r2) ++ wsX10 ++ wsX30)
def wsX3_become : List Cond := .code yX3_become cX3_become 3 none :: ([.fieldLink RX3 29 "PascalRows$Setup" "p" "I", .fieldLink RX3 33 "PascalRows$Setup" "e" "I", .fieldLink RX3 36 "PascalRows$Setup" "modulus" "I", .methodLink RX3 43 yX0_powerOf, .static yX0_powerOf, .initialized RX0, .code yX0_powerOf cX0_powerOf 4 (some .int)] ++ wsX30)
def wsX3_copyFrom_r1 : List Cond := [Cond.fieldLink RX3 29 "PascalRows$Setup" "p" "I", Cond.fieldLink RX3 33 "PascalRows$Setup" "e" "I", Cond.fieldLink RX3 53 "PascalRows$Setup" "windowRow" "I", Cond.fieldLink RX3 56 "PascalRows$Setup" "windowPlace" "I", Cond.fieldLink RX3 16 "PascalRows$Setup" "marks" "LPascalRows$Lines;", Cond.fieldLink RX3 20 "PascalRows$Setup" "seen" "LPascalRows$Lines;", Cond.fieldLink RX3 23 "PascalRows$Setup" "events" "LPascalRows$Lines;", Cond.fieldLink RX3 26 "PascalRows$Setup" "book" "LPascalRows$Lines;", Cond.methodLink RX3 49 yX3_become, Cond.instanceMethod yX3_become, Cond.selects RX3 yX3_become yX3_become, Cond.initialized RX3, Cond.code yX3_become cX3_become 3 none, Cond.fieldLink RX3 36 "PascalRows$Setup" "modulus" "I", Cond.methodLink RX3 43 yX0_powerOf, Cond.static yX0_powerOf, Cond.initialized RX0, Cond.code yX0_powerOf cX0_powerOf 4 (some .int), Cond.methodLink RX3 59 yX1_copyFrom, Cond.instanceMethod yX1_copyFrom, Cond.selects RX1 yX1_copyFrom yX1_copyFrom, Cond.initialized RX1, Cond.code yX1_copyFrom cX1_copyFrom 2 none, Cond.fieldLink RX1 20 "PascalRows$Lines" "numbers" "[I"]
def wsX3_copyFrom_r2 : List Cond := [Cond.methodLink RX1 32 arraycopyName, Cond.native arraycopyName, Cond.static arraycopyName, Cond.initialized "java/lang/System", Cond.fieldLink RX1 24 "PascalRows$Lines" "size" "I"]
def wsX3_copyFrom : List Cond := .code yX3_copyFrom cX3_copyFrom 2 none :: ((wsX3_copyFrom_r1 ++ wsX3_copyFrom_r2) ++ wsX30 ++ wsX10)
def wsX3_nextPrime : List Cond := .code yX3_nextPrime cX3_nextPrime 1 (some .int) :: ([.fieldLink RX3 29 "PascalRows$Setup" "p" "I"] ++ wsX30)
def wsX3_happen_r1 : List Cond := [Cond.fieldLink RX3 33 "PascalRows$Setup" "e" "I", Cond.fieldLink RX3 29 "PascalRows$Setup" "p" "I", Cond.fieldLink RX3 53 "PascalRows$Setup" "windowRow" "I", Cond.methodLink RX3 67 Lib.Math.min.name, Cond.static Lib.Math.min.name, Cond.initialized "java/lang/Math", Cond.code Lib.Math.min.name Lib.Math.min.code 2 (some .int), Cond.fieldLink RX3 16 "PascalRows$Setup" "marks" "LPascalRows$Lines;", Cond.methodLink RX3 63 yX3_nextPrime, Cond.instanceMethod yX3_nextPrime, Cond.selects RX3 yX3_nextPrime yX3_nextPrime, Cond.initialized RX3, Cond.code yX3_nextPrime cX3_nextPrime 1 (some .int), Cond.methodLink RX3 49 yX3_become, Cond.instanceMethod yX3_become, Cond.selects RX3 yX3_become yX3_become, Cond.code yX3_become cX3_become 3 none, Cond.fieldLink RX3 36 "PascalRows$Setup" "modulus" "I", Cond.methodLink RX3 43 yX0_powerOf, Cond.static yX0_powerOf, Cond.initialized RX0, Cond.code yX0_powerOf cX0_powerOf 4 (some .int), Cond.methodLink RX3 72 yX1_remove, Cond.instanceMethod yX1_remove]
def wsX3_happen_r2 : List Cond := [Cond.selects RX1 yX1_remove yX1_remove, Cond.initialized RX1, Cond.code yX1_remove cX1_remove 4 none, Cond.fieldLink RX1 24 "PascalRows$Lines" "size" "I", Cond.fieldLink RX1 20 "PascalRows$Lines" "numbers" "[I", Cond.methodLink RX1 32 arraycopyName, Cond.native arraycopyName, Cond.static arraycopyName, Cond.initialized "java/lang/System", Cond.static yX6_isWithin, Cond.initialized RX6, Cond.code yX6_isWithin cX6_isWithin 3 (some .boolean)]
def wsX3_happen : List Cond := .code yX3_happen cX3_happen 3 none :: ((wsX3_happen_r1 ++ wsX3_happen_r2) ++ wsX30 ++ wsX10)
def wsX5_cell : List Cond := .code yX5_cell cX5_cell 5 (some .int) :: ([.fieldLink RX5 9 "PascalRows$Triangle" "halves" "[I"] ++ wsX50)
def wsX5_remainder : List Cond := .code yX5_remainder cX5_remainder 4 (some .int) :: ([.methodLink RX5 15 yX5_cell, .instanceMethod yX5_cell, .selects RX5 yX5_cell yX5_cell, .initialized RX5, .code yX5_cell cX5_cell 5 (some .int), .fieldLink RX5 9 "PascalRows$Triangle" "halves" "[I"] ++ wsX50)
def wsX3_remainder : List Cond := .code yX3_remainder cX3_remainder 3 (some .int) :: ([.fieldLink RX3 39 "PascalRows$Setup" "triangle" "LPascalRows$Triangle;", .fieldLink RX3 36 "PascalRows$Setup" "modulus" "I", .methodLink RX3 75 yX5_remainder, .instanceMethod yX5_remainder, .selects RX5 yX5_remainder yX5_remainder, .initialized RX5, .code yX5_remainder cX5_remainder 4 (some .int), .methodLink RX5 15 yX5_cell, .instanceMethod yX5_cell, .selects RX5 yX5_cell yX5_cell, .code yX5_cell cX5_cell 5 (some .int), .fieldLink RX5 9 "PascalRows$Triangle" "halves" "[I"] ++ wsX30 ++ wsX50)
def wsX5_lucas : List Cond := .code yX5_lucas cX5_lucas 8 (some .int) :: ([.methodLink RX5 15 yX5_cell, .instanceMethod yX5_cell, .selects RX5 yX5_cell yX5_cell, .initialized RX5, .code yX5_cell cX5_cell 5 (some .int), .fieldLink RX5 9 "PascalRows$Triangle" "halves" "[I"] ++ wsX50)
def wsX3_tell_r1 : List Cond := [Cond.fieldLink RX3 39 "PascalRows$Setup" "triangle" "LPascalRows$Triangle;", Cond.fieldLink RX3 36 "PascalRows$Setup" "modulus" "I", Cond.fieldLink RX3 29 "PascalRows$Setup" "p" "I", Cond.methodLink RX3 75 yX5_remainder, Cond.instanceMethod yX5_remainder, Cond.selects RX5 yX5_remainder yX5_remainder, Cond.initialized RX5, Cond.code yX5_remainder cX5_remainder 4 (some .int), Cond.methodLink RX5 15 yX5_cell, Cond.instanceMethod yX5_cell, Cond.selects RX5 yX5_cell yX5_cell, Cond.code yX5_cell cX5_cell 5 (some .int), Cond.fieldLink RX5 9 "PascalRows$Triangle" "halves" "[I", Cond.methodLink RX3 81 yX5_lucas, Cond.instanceMethod yX5_lucas, Cond.selects RX5 yX5_lucas yX5_lucas, Cond.code yX5_lucas cX5_lucas 8 (some .int), Cond.methodLink RX3 84 yX0_carries, Cond.static yX0_carries, Cond.initialized RX0, Cond.code yX0_carries cX0_carries 8 (some .int), Cond.methodLink RX3 87 yX0_legendre, Cond.static yX0_legendre, Cond.code yX0_legendre cX0_legendre 8 (some .int)]
def wsX3_tell_r2 : List Cond := [Cond.methodLink RX3 90 yX0_isCovered, Cond.static yX0_isCovered, Cond.code yX0_isCovered cX0_isCovered 6 (some .boolean)]
def wsX3_tell : List Cond := .code yX3_tell cX3_tell 4 (some .int) :: ((wsX3_tell_r1 ++ wsX3_tell_r2) ++ wsX30 ++ wsX50)
def wsX6_isRow : List Cond := .code yX6_isRow cX6_isRow 1 (some .boolean) :: ([.methodLink RX6 58 yX6_isWithin, .static yX6_isWithin, .initialized RX6, .code yX6_isWithin cX6_isWithin 3 (some .boolean)])
def wsX6_isPlace : List Cond := .code yX6_isPlace cX6_isPlace 2 (some .boolean) :: ([.methodLink RX6 125 yX6_isRow, .static yX6_isRow, .initialized RX6, .code yX6_isRow cX6_isRow 1 (some .boolean), .methodLink RX6 58 yX6_isWithin, .static yX6_isWithin, .code yX6_isWithin cX6_isWithin 3 (some .boolean)])
def wsX3_isMarked_r1 : List Cond := [Cond.fieldLink RX3 16 "PascalRows$Setup" "marks" "LPascalRows$Lines;", Cond.static yX6_isPlace, Cond.initialized RX6, Cond.code yX6_isPlace cX6_isPlace 2 (some .boolean), Cond.methodLink RX6 125 yX6_isRow, Cond.static yX6_isRow, Cond.code yX6_isRow cX6_isRow 1 (some .boolean), Cond.methodLink RX6 58 yX6_isWithin, Cond.static yX6_isWithin, Cond.code yX6_isWithin cX6_isWithin 3 (some .boolean), Cond.methodLink RX3 101 yX1_number, Cond.instanceMethod yX1_number, Cond.selects RX1 yX1_number yX1_number, Cond.initialized RX1, Cond.code yX1_number cX1_number 4 (some .int), Cond.fieldLink RX1 24 "PascalRows$Lines" "size" "I", Cond.fieldLink RX1 20 "PascalRows$Lines" "numbers" "[I", Cond.methodLink RX3 104 yX3_tell, Cond.instanceMethod yX3_tell, Cond.selects RX3 yX3_tell yX3_tell, Cond.initialized RX3, Cond.code yX3_tell cX3_tell 4 (some .int), Cond.fieldLink RX3 39 "PascalRows$Setup" "triangle" "LPascalRows$Triangle;", Cond.fieldLink RX3 36 "PascalRows$Setup" "modulus" "I"]
def wsX3_isMarked_r2 : List Cond := [Cond.fieldLink RX3 29 "PascalRows$Setup" "p" "I", Cond.methodLink RX3 75 yX5_remainder, Cond.instanceMethod yX5_remainder, Cond.selects RX5 yX5_remainder yX5_remainder, Cond.initialized RX5, Cond.code yX5_remainder cX5_remainder 4 (some .int), Cond.methodLink RX5 15 yX5_cell, Cond.instanceMethod yX5_cell, Cond.selects RX5 yX5_cell yX5_cell, Cond.code yX5_cell cX5_cell 5 (some .int), Cond.fieldLink RX5 9 "PascalRows$Triangle" "halves" "[I", Cond.methodLink RX3 81 yX5_lucas, Cond.instanceMethod yX5_lucas, Cond.selects RX5 yX5_lucas yX5_lucas, Cond.code yX5_lucas cX5_lucas 8 (some .int), Cond.methodLink RX3 84 yX0_carries, Cond.static yX0_carries, Cond.initialized RX0, Cond.code yX0_carries cX0_carries 8 (some .int), Cond.methodLink RX3 87 yX0_legendre, Cond.static yX0_legendre, Cond.code yX0_legendre cX0_legendre 8 (some .int), Cond.methodLink RX3 90 yX0_isCovered, Cond.static yX0_isCovered]
def wsX3_isMarked_r3 : List Cond := [Cond.code yX0_isCovered cX0_isCovered 6 (some .boolean)]
def wsX3_isMarked : List Cond := .code yX3_isMarked cX3_isMarked 4 (some .boolean) :: ((wsX3_isMarked_r1 ++ (wsX3_isMarked_r2 ++ wsX3_isMarked_r3)) ++ wsX30 ++ wsX10 ++ wsX50)
def wsX3_pictureRow_r1 : List Cond := [Cond.fieldLink RX3 53 "PascalRows$Setup" "windowRow" "I", Cond.fieldLink RX3 56 "PascalRows$Setup" "windowPlace" "I", Cond.methodLink RX3 107 yX3_isMarked, Cond.instanceMethod yX3_isMarked, Cond.selects RX3 yX3_isMarked yX3_isMarked, Cond.initialized RX3, Cond.code yX3_isMarked cX3_isMarked 4 (some .boolean), Cond.fieldLink RX3 16 "PascalRows$Setup" "marks" "LPascalRows$Lines;", Cond.static yX6_isPlace, Cond.initialized RX6, Cond.code yX6_isPlace cX6_isPlace 2 (some .boolean), Cond.methodLink RX6 125 yX6_isRow, Cond.static yX6_isRow, Cond.code yX6_isRow cX6_isRow 1 (some .boolean), Cond.methodLink RX6 58 yX6_isWithin, Cond.static yX6_isWithin, Cond.code yX6_isWithin cX6_isWithin 3 (some .boolean), Cond.methodLink RX3 101 yX1_number, Cond.instanceMethod yX1_number, Cond.selects RX1 yX1_number yX1_number, Cond.initialized RX1, Cond.code yX1_number cX1_number 4 (some .int), Cond.fieldLink RX1 24 "PascalRows$Lines" "size" "I", Cond.fieldLink RX1 20 "PascalRows$Lines" "numbers" "[I"]
def wsX3_pictureRow_r2 : List Cond := [Cond.methodLink RX3 104 yX3_tell, Cond.instanceMethod yX3_tell, Cond.selects RX3 yX3_tell yX3_tell, Cond.code yX3_tell cX3_tell 4 (some .int), Cond.fieldLink RX3 39 "PascalRows$Setup" "triangle" "LPascalRows$Triangle;", Cond.fieldLink RX3 36 "PascalRows$Setup" "modulus" "I", Cond.fieldLink RX3 29 "PascalRows$Setup" "p" "I", Cond.methodLink RX3 75 yX5_remainder, Cond.instanceMethod yX5_remainder, Cond.selects RX5 yX5_remainder yX5_remainder, Cond.initialized RX5, Cond.code yX5_remainder cX5_remainder 4 (some .int), Cond.methodLink RX5 15 yX5_cell, Cond.instanceMethod yX5_cell, Cond.selects RX5 yX5_cell yX5_cell, Cond.code yX5_cell cX5_cell 5 (some .int), Cond.fieldLink RX5 9 "PascalRows$Triangle" "halves" "[I", Cond.methodLink RX3 81 yX5_lucas, Cond.instanceMethod yX5_lucas, Cond.selects RX5 yX5_lucas yX5_lucas, Cond.code yX5_lucas cX5_lucas 8 (some .int), Cond.methodLink RX3 84 yX0_carries, Cond.static yX0_carries, Cond.initialized RX0]
def wsX3_pictureRow_r3 : List Cond := [Cond.code yX0_carries cX0_carries 8 (some .int), Cond.methodLink RX3 87 yX0_legendre, Cond.static yX0_legendre, Cond.code yX0_legendre cX0_legendre 8 (some .int), Cond.methodLink RX3 90 yX0_isCovered, Cond.static yX0_isCovered, Cond.code yX0_isCovered cX0_isCovered 6 (some .boolean)]
def wsX3_pictureRow : List Cond := .code yX3_pictureRow cX3_pictureRow 4 (some .int) :: ((wsX3_pictureRow_r1 ++ (wsX3_pictureRow_r2 ++ wsX3_pictureRow_r3)) ++ wsX30 ++ wsX10 ++ wsX50)
def wsJ6_bitCount_0f7a4 : List Cond := .code yJ6_bitCount_0f7a4 cJ6_bitCount_0f7a4 1 (some .int) :: ([.constant RJ6 265 (1431655765), .constant RJ6 266 (858993459), .constant RJ6 267 (252645135)])
def wsX3_markedInWindow_r1 : List Cond := [Cond.methodLink RX3 110 yX3_pictureRow, Cond.instanceMethod yX3_pictureRow, Cond.selects RX3 yX3_pictureRow yX3_pictureRow, Cond.initialized RX3, Cond.code yX3_pictureRow cX3_pictureRow 4 (some .int), Cond.fieldLink RX3 53 "PascalRows$Setup" "windowRow" "I", Cond.fieldLink RX3 56 "PascalRows$Setup" "windowPlace" "I", Cond.methodLink RX3 107 yX3_isMarked, Cond.instanceMethod yX3_isMarked, Cond.selects RX3 yX3_isMarked yX3_isMarked, Cond.code yX3_isMarked cX3_isMarked 4 (some .boolean), Cond.fieldLink RX3 16 "PascalRows$Setup" "marks" "LPascalRows$Lines;", Cond.static yX6_isPlace, Cond.initialized RX6, Cond.code yX6_isPlace cX6_isPlace 2 (some .boolean), Cond.methodLink RX6 125 yX6_isRow, Cond.static yX6_isRow, Cond.code yX6_isRow cX6_isRow 1 (some .boolean), Cond.methodLink RX6 58 yX6_isWithin, Cond.static yX6_isWithin, Cond.code yX6_isWithin cX6_isWithin 3 (some .boolean), Cond.methodLink RX3 101 yX1_number, Cond.instanceMethod yX1_number, Cond.selects RX1 yX1_number yX1_number]
def wsX3_markedInWindow_r2 : List Cond := [Cond.initialized RX1, Cond.code yX1_number cX1_number 4 (some .int), Cond.fieldLink RX1 24 "PascalRows$Lines" "size" "I", Cond.fieldLink RX1 20 "PascalRows$Lines" "numbers" "[I", Cond.methodLink RX3 104 yX3_tell, Cond.instanceMethod yX3_tell, Cond.selects RX3 yX3_tell yX3_tell, Cond.code yX3_tell cX3_tell 4 (some .int), Cond.fieldLink RX3 39 "PascalRows$Setup" "triangle" "LPascalRows$Triangle;", Cond.fieldLink RX3 36 "PascalRows$Setup" "modulus" "I", Cond.fieldLink RX3 29 "PascalRows$Setup" "p" "I", Cond.methodLink RX3 75 yX5_remainder, Cond.instanceMethod yX5_remainder, Cond.selects RX5 yX5_remainder yX5_remainder, Cond.initialized RX5, Cond.code yX5_remainder cX5_remainder 4 (some .int), Cond.methodLink RX5 15 yX5_cell, Cond.instanceMethod yX5_cell, Cond.selects RX5 yX5_cell yX5_cell, Cond.code yX5_cell cX5_cell 5 (some .int), Cond.fieldLink RX5 9 "PascalRows$Triangle" "halves" "[I", Cond.methodLink RX3 81 yX5_lucas, Cond.instanceMethod yX5_lucas, Cond.selects RX5 yX5_lucas yX5_lucas]
def wsX3_markedInWindow_r3 : List Cond := [Cond.code yX5_lucas cX5_lucas 8 (some .int), Cond.methodLink RX3 84 yX0_carries, Cond.static yX0_carries, Cond.initialized RX0, Cond.code yX0_carries cX0_carries 8 (some .int), Cond.methodLink RX3 87 yX0_legendre, Cond.static yX0_legendre, Cond.code yX0_legendre cX0_legendre 8 (some .int), Cond.methodLink RX3 90 yX0_isCovered, Cond.static yX0_isCovered, Cond.code yX0_isCovered cX0_isCovered 6 (some .boolean), Cond.methodLink RX3 114 yJ6_bitCount_0f7a4, Cond.static yJ6_bitCount_0f7a4, Cond.initialized RJ6, Cond.code yJ6_bitCount_0f7a4 cJ6_bitCount_0f7a4 1 (some .int), Cond.constant RJ6 265 (1431655765), Cond.constant RJ6 266 (858993459), Cond.constant RJ6 267 (252645135)]
def wsX3_markedInWindow : List Cond := .code yX3_markedInWindow cX3_markedInWindow 3 (some .int) :: ((wsX3_markedInWindow_r1 ++ (wsX3_markedInWindow_r2 ++ wsX3_markedInWindow_r3)) ++ wsX30 ++ wsX10 ++ wsX50)
def wsX4_init : List Cond := .code yX4_init cX4_init 1 none :: ([.methodLink RX4 1 objectInit, .instanceMethod objectInit, .code objectInit ⟨#[0xb1]⟩ 1 none, .arrayClass .int, .fieldLink RX4 9 "PascalRows$Tapes" "sorts" "[I", .fieldLink RX4 13 "PascalRows$Tapes" "lengths" "[I", .arrayClass .long, .fieldLink RX4 16 "PascalRows$Tapes" "items" "[J"] ++ wsX40)
def wsX4_isThere : List Cond := .code yX4_isThere cX4_isThere 1 (some .boolean) :: ([.static yX6_isWithin, .initialized RX6, .code yX6_isWithin cX6_isWithin 3 (some .boolean)])
def wsX4_sortOf : List Cond := .code yX4_sortOf cX4_sortOf 2 (some .int) :: ([.fieldLink RX4 9 "PascalRows$Tapes" "sorts" "[I"] ++ wsX40)
def wsX4_lengthOf : List Cond := .code yX4_lengthOf cX4_lengthOf 2 (some .int) :: ([.fieldLink RX4 13 "PascalRows$Tapes" "lengths" "[I"] ++ wsX40)
def wsX4_hasRun : List Cond := .code yX4_hasRun cX4_hasRun 4 (some .boolean) :: ([.methodLink RX4 39 yX4_lengthOf, .instanceMethod yX4_lengthOf, .selects RX4 yX4_lengthOf yX4_lengthOf, .initialized RX4, .code yX4_lengthOf cX4_lengthOf 2 (some .int), .fieldLink RX4 13 "PascalRows$Tapes" "lengths" "[I"] ++ wsX40)
def wsX4_cutToSort : List Cond := .code yX4_cutToSort cX4_cutToSort 3 (some .long) :: ([])
def wsX4_put : List Cond := .code yX4_put cX4_put 6 none :: ([.fieldLink RX4 16 "PascalRows$Tapes" "items" "[J", .methodLink RX4 43 yX4_hasRun, .instanceMethod yX4_hasRun, .selects RX4 yX4_hasRun yX4_hasRun, .initialized RX4, .code yX4_hasRun cX4_hasRun 4 (some .boolean), .methodLink RX4 39 yX4_lengthOf, .instanceMethod yX4_lengthOf, .selects RX4 yX4_lengthOf yX4_lengthOf, .code yX4_lengthOf cX4_lengthOf 2 (some .int), .fieldLink RX4 13 "PascalRows$Tapes" "lengths" "[I", .methodLink RX4 46 yX4_sortOf, .instanceMethod yX4_sortOf, .selects RX4 yX4_sortOf yX4_sortOf, .code yX4_sortOf cX4_sortOf 2 (some .int), .fieldLink RX4 9 "PascalRows$Tapes" "sorts" "[I", .methodLink RX4 49 yX4_cutToSort, .static yX4_cutToSort, .code yX4_cutToSort cX4_cutToSort 3 (some .long)] ++ wsX40)
def wsX4_become_r1 : List Cond := [Cond.fieldLink RX4 9 "PascalRows$Tapes" "sorts" "[I", Cond.fieldLink RX4 13 "PascalRows$Tapes" "lengths" "[I", Cond.methodLink RX4 26 Lib.Math.min.name, Cond.static Lib.Math.min.name, Cond.initialized "java/lang/Math", Cond.code Lib.Math.min.name Lib.Math.min.code 2 (some .int), Cond.methodLink RX4 32 Lib.Math.max.name, Cond.static Lib.Math.max.name, Cond.code Lib.Math.max.name Lib.Math.max.code 2 (some .int), Cond.methodLink RX4 35 yX4_put, Cond.instanceMethod yX4_put, Cond.selects RX4 yX4_put yX4_put, Cond.initialized RX4, Cond.code yX4_put cX4_put 6 none, Cond.fieldLink RX4 16 "PascalRows$Tapes" "items" "[J", Cond.methodLink RX4 43 yX4_hasRun, Cond.instanceMethod yX4_hasRun, Cond.selects RX4 yX4_hasRun yX4_hasRun, Cond.code yX4_hasRun cX4_hasRun 4 (some .boolean), Cond.methodLink RX4 39 yX4_lengthOf, Cond.instanceMethod yX4_lengthOf, Cond.selects RX4 yX4_lengthOf yX4_lengthOf, Cond.code yX4_lengthOf cX4_lengthOf 2 (some .int), Cond.methodLink RX4 46 yX4_sortOf]
def wsX4_become_r2 : List Cond := [Cond.instanceMethod yX4_sortOf, Cond.selects RX4 yX4_sortOf yX4_sortOf, Cond.code yX4_sortOf cX4_sortOf 2 (some .int), Cond.methodLink RX4 49 yX4_cutToSort, Cond.static yX4_cutToSort, Cond.code yX4_cutToSort cX4_cutToSort 3 (some .long)]
def wsX4_become : List Cond := .code yX4_become cX4_become 5 none :: ((wsX4_become_r1 ++ wsX4_become_r2) ++ wsX40)
def wsX4_value : List Cond := .code yX4_value cX4_value 4 (some .long) :: ([.fieldLink RX4 16 "PascalRows$Tapes" "items" "[J", .methodLink RX4 43 yX4_hasRun, .instanceMethod yX4_hasRun, .selects RX4 yX4_hasRun yX4_hasRun, .initialized RX4, .code yX4_hasRun cX4_hasRun 4 (some .boolean), .methodLink RX4 39 yX4_lengthOf, .instanceMethod yX4_lengthOf, .selects RX4 yX4_lengthOf yX4_lengthOf, .code yX4_lengthOf cX4_lengthOf 2 (some .int), .fieldLink RX4 13 "PascalRows$Tapes" "lengths" "[I"] ++ wsX40)
def wsX4_move : List Cond := .code yX4_move cX4_move 8 none :: ([.fieldLink RX4 16 "PascalRows$Tapes" "items" "[J", .methodLink RX4 53 arraycopyName, .native arraycopyName, .static arraycopyName, .initialized "java/lang/System", .methodLink RX4 43 yX4_hasRun, .instanceMethod yX4_hasRun, .selects RX4 yX4_hasRun yX4_hasRun, .initialized RX4, .code yX4_hasRun cX4_hasRun 4 (some .boolean), .methodLink RX4 39 yX4_lengthOf, .instanceMethod yX4_lengthOf, .selects RX4 yX4_lengthOf yX4_lengthOf, .code yX4_lengthOf cX4_lengthOf 2 (some .int), .fieldLink RX4 13 "PascalRows$Tapes" "lengths" "[I"] ++ wsX40)
def wsX5_init : List Cond := .code yX5_init cX5_init 6 none :: ([.methodLink RX5 3 objectInit, .instanceMethod objectInit, .code objectInit ⟨#[0xb1]⟩ 1 none, .arrayClass .int, .fieldLink RX5 9 "PascalRows$Triangle" "halves" "[I", .constantLong RX5 19 (1944810000), .methodLink RX5 15 yX5_cell, .instanceMethod yX5_cell, .selects RX5 yX5_cell yX5_cell, .initialized RX5, .code yX5_cell cX5_cell 5 (some .int)] ++ wsX50)
def wsX6_init_r1 : List Cond := [Cond.methodLink RX6 3 objectInit, Cond.instanceMethod objectInit, Cond.code objectInit ⟨#[0xb1]⟩ 1 none, Cond.classLink RX6 9 RX5, Cond.instantiable RX5 1, Cond.initialized RX5, Cond.fieldLink RX6 12 "PascalRows" "triangle" "LPascalRows$Triangle;", Cond.classLink RX6 18 RX3, Cond.instantiable RX3 10, Cond.initialized RX3, Cond.fieldLink RX6 23 "PascalRows" "now" "LPascalRows$Setup;", Cond.fieldLink RX6 27 "PascalRows" "kept" "LPascalRows$Setup;", Cond.fieldLink RX6 30 "PascalRows" "trial" "LPascalRows$Setup;", Cond.classLink RX6 33 RX2, Cond.instantiable RX2 4, Cond.initialized RX2, Cond.fieldLink RX6 36 "PascalRows" "reader" "LPascalRows$Reader;", Cond.classLink RX6 40 RX4, Cond.instantiable RX4 3, Cond.initialized RX4, Cond.fieldLink RX6 43 "PascalRows" "tapes" "LPascalRows$Tapes;", Cond.methodLink RX6 11 yX5_init, Cond.instanceMethod yX5_init, Cond.code yX5_init cX5_init 6 none]
def wsX6_init_r2 : List Cond := [Cond.methodLink RX5 3 objectInit, Cond.arrayClass .int, Cond.fieldLink RX5 9 "PascalRows$Triangle" "halves" "[I", Cond.constantLong RX5 19 (1944810000), Cond.methodLink RX5 15 yX5_cell, Cond.instanceMethod yX5_cell, Cond.selects RX5 yX5_cell yX5_cell, Cond.code yX5_cell cX5_cell 5 (some .int), Cond.methodLink RX6 20 yX3_init, Cond.instanceMethod yX3_init, Cond.code yX3_init cX3_init 2 none, Cond.methodLink RX3 3 objectInit, Cond.classLink RX3 9 RX1, Cond.instantiable RX1 2, Cond.initialized RX1, Cond.fieldLink RX3 16 "PascalRows$Setup" "marks" "LPascalRows$Lines;", Cond.fieldLink RX3 20 "PascalRows$Setup" "seen" "LPascalRows$Lines;", Cond.fieldLink RX3 23 "PascalRows$Setup" "events" "LPascalRows$Lines;", Cond.fieldLink RX3 26 "PascalRows$Setup" "book" "LPascalRows$Lines;", Cond.fieldLink RX3 29 "PascalRows$Setup" "p" "I", Cond.fieldLink RX3 33 "PascalRows$Setup" "e" "I", Cond.fieldLink RX3 36 "PascalRows$Setup" "modulus" "I", Cond.fieldLink RX3 39 "PascalRows$Setup" "triangle" "LPascalRows$Triangle;", Cond.methodLink RX3 13 yX1_init]
def wsX6_init_r3 : List Cond := [Cond.instanceMethod yX1_init, Cond.code yX1_init cX1_init 2 none, Cond.methodLink RX1 3 objectInit, Cond.methodLink RX1 11 Lib.Math.min.name, Cond.static Lib.Math.min.name, Cond.initialized "java/lang/Math", Cond.code Lib.Math.min.name Lib.Math.min.code 2 (some .int), Cond.methodLink RX1 17 Lib.Math.max.name, Cond.static Lib.Math.max.name, Cond.code Lib.Math.max.name Lib.Math.max.code 2 (some .int), Cond.fieldLink RX1 20 "PascalRows$Lines" "numbers" "[I", Cond.instanceMethod yX2_init, Cond.code yX2_init cX2_init 1 none, Cond.methodLink RX2 3 objectInit, Cond.fieldLink RX2 11 "PascalRows$Reader" "text" "[I", Cond.classLink RX2 15 RX1, Cond.fieldLink RX2 20 "PascalRows$Reader" "clauses" "LPascalRows$Lines;", Cond.methodLink RX2 17 yX1_init, Cond.instanceMethod yX4_init, Cond.code yX4_init cX4_init 1 none, Cond.methodLink RX4 1 objectInit, Cond.fieldLink RX4 9 "PascalRows$Tapes" "sorts" "[I", Cond.fieldLink RX4 13 "PascalRows$Tapes" "lengths" "[I", Cond.arrayClass .long]
def wsX6_init_r4 : List Cond := [Cond.fieldLink RX4 16 "PascalRows$Tapes" "items" "[J"]
def wsX6_init : List Cond := .code yX6_init cX6_init 1 none :: ((wsX6_init_r1 ++ (wsX6_init_r2 ++ (wsX6_init_r3 ++ wsX6_init_r4))) ++ wsX50 ++ wsX60 ++ wsX30 ++ wsX20 ++ wsX40 ++ wsX10)
def wsX6_prime : List Cond := .code yX6_prime cX6_prime 3 (some .int) :: ([.fieldLink RX6 23 "PascalRows" "now" "LPascalRows$Setup;", .methodLink RX6 54 yX3_become, .instanceMethod yX3_become, .selects RX3 yX3_become yX3_become, .initialized RX3, .code yX3_become cX3_become 3 none, .fieldLink RX3 29 "PascalRows$Setup" "p" "I", .fieldLink RX3 33 "PascalRows$Setup" "e" "I", .fieldLink RX3 36 "PascalRows$Setup" "modulus" "I", .methodLink RX3 43 yX0_powerOf, .static yX0_powerOf, .initialized RX0, .code yX0_powerOf cX0_powerOf 4 (some .int)] ++ wsX60 ++ wsX30)
def wsX6_power : List Cond := .code yX6_power cX6_power 3 (some .int) :: ([.fieldLink RX6 23 "PascalRows" "now" "LPascalRows$Setup;", .methodLink RX6 58 yX6_isWithin, .static yX6_isWithin, .initialized RX6, .code yX6_isWithin cX6_isWithin 3 (some .boolean), .methodLink RX6 54 yX3_become, .instanceMethod yX3_become, .selects RX3 yX3_become yX3_become, .initialized RX3, .code yX3_become cX3_become 3 none, .fieldLink RX3 29 "PascalRows$Setup" "p" "I", .fieldLink RX3 33 "PascalRows$Setup" "e" "I", .fieldLink RX3 36 "PascalRows$Setup" "modulus" "I", .methodLink RX3 43 yX0_powerOf, .static yX0_powerOf, .initialized RX0, .code yX0_powerOf cX0_powerOf 4 (some .int)] ++ wsX60 ++ wsX30)
def wsX6_mark : List Cond := .code yX6_mark cX6_mark 3 (some .int) :: ([.fieldLink RX6 23 "PascalRows" "now" "LPascalRows$Setup;", .methodLink RX6 58 yX6_isWithin, .static yX6_isWithin, .initialized RX6, .code yX6_isWithin cX6_isWithin 3 (some .boolean), .methodLink RX6 66 yX1_add, .instanceMethod yX1_add, .selects RX1 yX1_add yX1_add, .initialized RX1, .code yX1_add cX1_add 5 (some .int), .fieldLink RX1 24 "PascalRows$Lines" "size" "I", .fieldLink RX1 20 "PascalRows$Lines" "numbers" "[I"] ++ wsX60 ++ wsX30 ++ wsX10)
def wsX6_clear : List Cond := .code yX6_clear cX6_clear 2 (some .int) :: ([.fieldLink RX6 23 "PascalRows" "now" "LPascalRows$Setup;", .methodLink RX6 75 yX1_empty, .instanceMethod yX1_empty, .selects RX1 yX1_empty yX1_empty, .initialized RX1, .code yX1_empty cX1_empty 1 none, .fieldLink RX1 24 "PascalRows$Lines" "size" "I"] ++ wsX60 ++ wsX30 ++ wsX10)
def wsX6_window : List Cond := .code yX6_window cX6_window 4 (some .int) :: ([.fieldLink RX6 23 "PascalRows" "now" "LPascalRows$Setup;", .methodLink RX6 58 yX6_isWithin, .static yX6_isWithin, .initialized RX6, .code yX6_isWithin cX6_isWithin 3 (some .boolean)] ++ wsX60 ++ wsX30)
def wsX6_feed : List Cond := .code yX6_feed cX6_feed 2 (some .int) :: ([.fieldLink RX6 36 "PascalRows" "reader" "LPascalRows$Reader;", .methodLink RX6 58 yX6_isWithin, .static yX6_isWithin, .initialized RX6, .code yX6_isWithin cX6_isWithin 3 (some .boolean), .methodLink RX6 84 yX2_add, .instanceMethod yX2_add, .selects RX2 yX2_add yX2_add, .initialized RX2, .code yX2_add cX2_add 2 (some .int), .fieldLink RX2 24 "PascalRows$Reader" "length" "I", .fieldLink RX2 11 "PascalRows$Reader" "text" "[I"] ++ wsX60 ++ wsX20)
def wsX6_doClause_r1 : List Cond := [Cond.methodLink RX6 104 yX6_prime, Cond.instanceMethod yX6_prime, Cond.selects RX6 yX6_prime yX6_prime, Cond.initialized RX6, Cond.code yX6_prime cX6_prime 3 (some .int), Cond.fieldLink RX6 23 "PascalRows" "now" "LPascalRows$Setup;", Cond.methodLink RX6 54 yX3_become, Cond.instanceMethod yX3_become, Cond.selects RX3 yX3_become yX3_become, Cond.initialized RX3, Cond.code yX3_become cX3_become 3 none, Cond.fieldLink RX3 29 "PascalRows$Setup" "p" "I", Cond.fieldLink RX3 33 "PascalRows$Setup" "e" "I", Cond.fieldLink RX3 36 "PascalRows$Setup" "modulus" "I", Cond.methodLink RX3 43 yX0_powerOf, Cond.static yX0_powerOf, Cond.initialized RX0, Cond.code yX0_powerOf cX0_powerOf 4 (some .int), Cond.methodLink RX6 107 yX6_power, Cond.instanceMethod yX6_power, Cond.selects RX6 yX6_power yX6_power, Cond.code yX6_power cX6_power 3 (some .int), Cond.methodLink RX6 58 yX6_isWithin, Cond.static yX6_isWithin]
def wsX6_doClause_r2 : List Cond := [Cond.code yX6_isWithin cX6_isWithin 3 (some .boolean), Cond.methodLink RX6 110 yX6_mark, Cond.instanceMethod yX6_mark, Cond.selects RX6 yX6_mark yX6_mark, Cond.code yX6_mark cX6_mark 3 (some .int), Cond.methodLink RX6 66 yX1_add, Cond.instanceMethod yX1_add, Cond.selects RX1 yX1_add yX1_add, Cond.initialized RX1, Cond.code yX1_add cX1_add 5 (some .int), Cond.fieldLink RX1 24 "PascalRows$Lines" "size" "I", Cond.fieldLink RX1 20 "PascalRows$Lines" "numbers" "[I", Cond.methodLink RX6 113 yX6_window, Cond.instanceMethod yX6_window, Cond.selects RX6 yX6_window yX6_window, Cond.code yX6_window cX6_window 4 (some .int), Cond.methodLink RX6 116 yX6_clear, Cond.instanceMethod yX6_clear, Cond.selects RX6 yX6_clear yX6_clear, Cond.code yX6_clear cX6_clear 2 (some .int), Cond.methodLink RX6 75 yX1_empty, Cond.instanceMethod yX1_empty, Cond.selects RX1 yX1_empty yX1_empty, Cond.code yX1_empty cX1_empty 1 none]
def wsX6_doClause : List Cond := .code yX6_doClause cX6_doClause 4 (some .int) :: ((wsX6_doClause_r1 ++ wsX6_doClause_r2) ++ wsX60 ++ wsX30 ++ wsX10)
def wsX6_read_r1 : List Cond := [Cond.fieldLink RX6 36 "PascalRows" "reader" "LPascalRows$Reader;", Cond.methodLink RX6 87 yX2_faultOfText, Cond.instanceMethod yX2_faultOfText, Cond.selects RX2 yX2_faultOfText yX2_faultOfText, Cond.initialized RX2, Cond.code yX2_faultOfText cX2_faultOfText 2 (some .int), Cond.fieldLink RX2 20 "PascalRows$Reader" "clauses" "LPascalRows$Lines;", Cond.fieldLink RX2 31 "PascalRows$Reader" "next" "I", Cond.fieldLink RX2 24 "PascalRows$Reader" "length" "I", Cond.methodLink RX2 28 yX1_empty, Cond.instanceMethod yX1_empty, Cond.selects RX1 yX1_empty yX1_empty, Cond.initialized RX1, Cond.code yX1_empty cX1_empty 1 none, Cond.fieldLink RX1 24 "PascalRows$Lines" "size" "I", Cond.methodLink RX2 34 yX2_takeClause, Cond.instanceMethod yX2_takeClause, Cond.selects RX2 yX2_takeClause yX2_takeClause, Cond.code yX2_takeClause cX2_takeClause 4 (some .boolean), Cond.methodLink RX2 42 yX2_sign, Cond.instanceMethod yX2_sign, Cond.selects RX2 yX2_sign yX2_sign, Cond.code yX2_sign cX2_sign 1 (some .int), Cond.fieldLink RX2 11 "PascalRows$Reader" "text" "[I"]
def wsX6_read_r2 : List Cond := [Cond.methodLink RX2 46 yX2_takeNumber, Cond.instanceMethod yX2_takeNumber, Cond.selects RX2 yX2_takeNumber yX2_takeNumber, Cond.code yX2_takeNumber cX2_takeNumber 5 (some .int), Cond.methodLink RX2 58 Lib.Math.max.name, Cond.static Lib.Math.max.name, Cond.initialized "java/lang/Math", Cond.code Lib.Math.max.name Lib.Math.max.code 2 (some .int), Cond.static yX6_isWithin, Cond.initialized RX6, Cond.code yX6_isWithin cX6_isWithin 3 (some .boolean), Cond.methodLink RX2 38 yX2_take, Cond.instanceMethod yX2_take, Cond.selects RX2 yX2_take yX2_take, Cond.code yX2_take cX2_take 3 (some .boolean), Cond.methodLink RX2 50 yX1_add, Cond.instanceMethod yX1_add, Cond.selects RX1 yX1_add yX1_add, Cond.code yX1_add cX1_add 5 (some .int), Cond.fieldLink RX1 20 "PascalRows$Lines" "numbers" "[I", Cond.methodLink RX6 91 yX2_emptyText, Cond.instanceMethod yX2_emptyText, Cond.selects RX2 yX2_emptyText yX2_emptyText, Cond.code yX2_emptyText cX2_emptyText 1 none]
def wsX6_read_r3 : List Cond := [Cond.methodLink RX6 97 yX1_number, Cond.instanceMethod yX1_number, Cond.selects RX1 yX1_number yX1_number, Cond.code yX1_number cX1_number 4 (some .int), Cond.methodLink RX6 101 yX6_doClause, Cond.instanceMethod yX6_doClause, Cond.selects RX6 yX6_doClause yX6_doClause, Cond.code yX6_doClause cX6_doClause 4 (some .int), Cond.methodLink RX6 104 yX6_prime, Cond.instanceMethod yX6_prime, Cond.selects RX6 yX6_prime yX6_prime, Cond.code yX6_prime cX6_prime 3 (some .int), Cond.fieldLink RX6 23 "PascalRows" "now" "LPascalRows$Setup;", Cond.methodLink RX6 54 yX3_become, Cond.instanceMethod yX3_become, Cond.selects RX3 yX3_become yX3_become, Cond.initialized RX3, Cond.code yX3_become cX3_become 3 none, Cond.fieldLink RX3 29 "PascalRows$Setup" "p" "I", Cond.fieldLink RX3 33 "PascalRows$Setup" "e" "I", Cond.fieldLink RX3 36 "PascalRows$Setup" "modulus" "I", Cond.methodLink RX3 43 yX0_powerOf, Cond.static yX0_powerOf, Cond.initialized RX0]
def wsX6_read_r4 : List Cond := [Cond.code yX0_powerOf cX0_powerOf 4 (some .int), Cond.methodLink RX6 107 yX6_power, Cond.instanceMethod yX6_power, Cond.selects RX6 yX6_power yX6_power, Cond.code yX6_power cX6_power 3 (some .int), Cond.methodLink RX6 58 yX6_isWithin, Cond.methodLink RX6 110 yX6_mark, Cond.instanceMethod yX6_mark, Cond.selects RX6 yX6_mark yX6_mark, Cond.code yX6_mark cX6_mark 3 (some .int), Cond.methodLink RX6 66 yX1_add, Cond.methodLink RX6 113 yX6_window, Cond.instanceMethod yX6_window, Cond.selects RX6 yX6_window yX6_window, Cond.code yX6_window cX6_window 4 (some .int), Cond.methodLink RX6 116 yX6_clear, Cond.instanceMethod yX6_clear, Cond.selects RX6 yX6_clear yX6_clear, Cond.code yX6_clear cX6_clear 2 (some .int), Cond.methodLink RX6 75 yX1_empty]
def wsX6_read : List Cond := .code yX6_read cX6_read 4 (some .int) :: ((wsX6_read_r1 ++ (wsX6_read_r2 ++ (wsX6_read_r3 ++ wsX6_read_r4))) ++ wsX60 ++ wsX20 ++ wsX10 ++ wsX30)
def wsX6_told_r1 : List Cond := [Cond.fieldLink RX6 23 "PascalRows" "now" "LPascalRows$Setup;", Cond.methodLink RX6 122 yX3_markedInWindow, Cond.instanceMethod yX3_markedInWindow, Cond.selects RX3 yX3_markedInWindow yX3_markedInWindow, Cond.initialized RX3, Cond.code yX3_markedInWindow cX3_markedInWindow 3 (some .int), Cond.methodLink RX3 110 yX3_pictureRow, Cond.instanceMethod yX3_pictureRow, Cond.selects RX3 yX3_pictureRow yX3_pictureRow, Cond.code yX3_pictureRow cX3_pictureRow 4 (some .int), Cond.fieldLink RX3 53 "PascalRows$Setup" "windowRow" "I", Cond.fieldLink RX3 56 "PascalRows$Setup" "windowPlace" "I", Cond.methodLink RX3 107 yX3_isMarked, Cond.instanceMethod yX3_isMarked, Cond.selects RX3 yX3_isMarked yX3_isMarked, Cond.code yX3_isMarked cX3_isMarked 4 (some .boolean), Cond.fieldLink RX3 16 "PascalRows$Setup" "marks" "LPascalRows$Lines;", Cond.static yX6_isPlace, Cond.initialized RX6, Cond.code yX6_isPlace cX6_isPlace 2 (some .boolean), Cond.methodLink RX6 125 yX6_isRow, Cond.static yX6_isRow, Cond.code yX6_isRow cX6_isRow 1 (some .boolean), Cond.methodLink RX6 58 yX6_isWithin]
def wsX6_told_r2 : List Cond := [Cond.static yX6_isWithin, Cond.code yX6_isWithin cX6_isWithin 3 (some .boolean), Cond.methodLink RX3 101 yX1_number, Cond.instanceMethod yX1_number, Cond.selects RX1 yX1_number yX1_number, Cond.initialized RX1, Cond.code yX1_number cX1_number 4 (some .int), Cond.fieldLink RX1 24 "PascalRows$Lines" "size" "I", Cond.fieldLink RX1 20 "PascalRows$Lines" "numbers" "[I", Cond.methodLink RX3 104 yX3_tell, Cond.instanceMethod yX3_tell, Cond.selects RX3 yX3_tell yX3_tell, Cond.code yX3_tell cX3_tell 4 (some .int), Cond.fieldLink RX3 39 "PascalRows$Setup" "triangle" "LPascalRows$Triangle;", Cond.fieldLink RX3 36 "PascalRows$Setup" "modulus" "I", Cond.fieldLink RX3 29 "PascalRows$Setup" "p" "I", Cond.methodLink RX3 75 yX5_remainder, Cond.instanceMethod yX5_remainder, Cond.selects RX5 yX5_remainder yX5_remainder, Cond.initialized RX5, Cond.code yX5_remainder cX5_remainder 4 (some .int), Cond.methodLink RX5 15 yX5_cell, Cond.instanceMethod yX5_cell, Cond.selects RX5 yX5_cell yX5_cell]
def wsX6_told_r3 : List Cond := [Cond.code yX5_cell cX5_cell 5 (some .int), Cond.fieldLink RX5 9 "PascalRows$Triangle" "halves" "[I", Cond.methodLink RX3 81 yX5_lucas, Cond.instanceMethod yX5_lucas, Cond.selects RX5 yX5_lucas yX5_lucas, Cond.code yX5_lucas cX5_lucas 8 (some .int), Cond.methodLink RX3 84 yX0_carries, Cond.static yX0_carries, Cond.initialized RX0, Cond.code yX0_carries cX0_carries 8 (some .int), Cond.methodLink RX3 87 yX0_legendre, Cond.static yX0_legendre, Cond.code yX0_legendre cX0_legendre 8 (some .int), Cond.methodLink RX3 90 yX0_isCovered, Cond.static yX0_isCovered, Cond.code yX0_isCovered cX0_isCovered 6 (some .boolean), Cond.methodLink RX3 114 yJ6_bitCount_0f7a4, Cond.static yJ6_bitCount_0f7a4, Cond.initialized RJ6, Cond.code yJ6_bitCount_0f7a4 cJ6_bitCount_0f7a4 1 (some .int), Cond.constant RJ6 265 (1431655765), Cond.constant RJ6 266 (858993459), Cond.constant RJ6 267 (252645135)]
def wsX6_told : List Cond := .code yX6_told cX6_told 2 (some .int) :: ((wsX6_told_r1 ++ (wsX6_told_r2 ++ wsX6_told_r3)) ++ wsX60 ++ wsX30 ++ wsX10 ++ wsX50)
def wsX6_markOf : List Cond := .code yX6_markOf cX6_markOf 3 (some .int) :: ([.fieldLink RX6 23 "PascalRows" "now" "LPascalRows$Setup;", .methodLink RX6 58 yX6_isWithin, .static yX6_isWithin, .initialized RX6, .code yX6_isWithin cX6_isWithin 3 (some .boolean), .methodLink RX6 97 yX1_number, .instanceMethod yX1_number, .selects RX1 yX1_number yX1_number, .initialized RX1, .code yX1_number cX1_number 4 (some .int), .fieldLink RX1 24 "PascalRows$Lines" "size" "I", .fieldLink RX1 20 "PascalRows$Lines" "numbers" "[I"] ++ wsX60 ++ wsX30 ++ wsX10)
def wsX6_at_r1 : List Cond := [Cond.fieldLink RX6 23 "PascalRows" "now" "LPascalRows$Setup;", Cond.methodLink RX6 125 yX6_isRow, Cond.static yX6_isRow, Cond.initialized RX6, Cond.code yX6_isRow cX6_isRow 1 (some .boolean), Cond.methodLink RX6 58 yX6_isWithin, Cond.static yX6_isWithin, Cond.code yX6_isWithin cX6_isWithin 3 (some .boolean), Cond.methodLink RX6 129 yX3_remainder, Cond.instanceMethod yX3_remainder, Cond.selects RX3 yX3_remainder yX3_remainder, Cond.initialized RX3, Cond.code yX3_remainder cX3_remainder 3 (some .int), Cond.fieldLink RX3 39 "PascalRows$Setup" "triangle" "LPascalRows$Triangle;", Cond.fieldLink RX3 36 "PascalRows$Setup" "modulus" "I", Cond.methodLink RX3 75 yX5_remainder, Cond.instanceMethod yX5_remainder, Cond.selects RX5 yX5_remainder yX5_remainder, Cond.initialized RX5, Cond.code yX5_remainder cX5_remainder 4 (some .int), Cond.methodLink RX5 15 yX5_cell, Cond.instanceMethod yX5_cell, Cond.selects RX5 yX5_cell yX5_cell, Cond.code yX5_cell cX5_cell 5 (some .int)]
def wsX6_at_r2 : List Cond := [Cond.fieldLink RX5 9 "PascalRows$Triangle" "halves" "[I"]
def wsX6_at : List Cond := .code yX6_at cX6_at 3 (some .int) :: ((wsX6_at_r1 ++ wsX6_at_r2) ++ wsX60 ++ wsX30 ++ wsX50)
def wsX6_rule_r1 : List Cond := [Cond.fieldLink RX6 23 "PascalRows" "now" "LPascalRows$Setup;", Cond.methodLink RX6 58 yX6_isWithin, Cond.static yX6_isWithin, Cond.initialized RX6, Cond.code yX6_isWithin cX6_isWithin 3 (some .boolean), Cond.methodLink RX6 132 yX6_isPlace, Cond.static yX6_isPlace, Cond.code yX6_isPlace cX6_isPlace 2 (some .boolean), Cond.methodLink RX6 125 yX6_isRow, Cond.static yX6_isRow, Cond.code yX6_isRow cX6_isRow 1 (some .boolean), Cond.methodLink RX6 136 yX3_tell, Cond.instanceMethod yX3_tell, Cond.selects RX3 yX3_tell yX3_tell, Cond.initialized RX3, Cond.code yX3_tell cX3_tell 4 (some .int), Cond.fieldLink RX3 39 "PascalRows$Setup" "triangle" "LPascalRows$Triangle;", Cond.fieldLink RX3 36 "PascalRows$Setup" "modulus" "I", Cond.fieldLink RX3 29 "PascalRows$Setup" "p" "I", Cond.methodLink RX3 75 yX5_remainder, Cond.instanceMethod yX5_remainder, Cond.selects RX5 yX5_remainder yX5_remainder, Cond.initialized RX5, Cond.code yX5_remainder cX5_remainder 4 (some .int)]
def wsX6_rule_r2 : List Cond := [Cond.methodLink RX5 15 yX5_cell, Cond.instanceMethod yX5_cell, Cond.selects RX5 yX5_cell yX5_cell, Cond.code yX5_cell cX5_cell 5 (some .int), Cond.fieldLink RX5 9 "PascalRows$Triangle" "halves" "[I", Cond.methodLink RX3 81 yX5_lucas, Cond.instanceMethod yX5_lucas, Cond.selects RX5 yX5_lucas yX5_lucas, Cond.code yX5_lucas cX5_lucas 8 (some .int), Cond.methodLink RX3 84 yX0_carries, Cond.static yX0_carries, Cond.initialized RX0, Cond.code yX0_carries cX0_carries 8 (some .int), Cond.methodLink RX3 87 yX0_legendre, Cond.static yX0_legendre, Cond.code yX0_legendre cX0_legendre 8 (some .int), Cond.methodLink RX3 90 yX0_isCovered, Cond.static yX0_isCovered, Cond.code yX0_isCovered cX0_isCovered 6 (some .boolean)]
def wsX6_rule : List Cond := .code yX6_rule cX6_rule 4 (some .int) :: ((wsX6_rule_r1 ++ wsX6_rule_r2) ++ wsX60 ++ wsX30 ++ wsX50)
def wsX6_marked_r1 : List Cond := [Cond.fieldLink RX6 23 "PascalRows" "now" "LPascalRows$Setup;", Cond.methodLink RX6 132 yX6_isPlace, Cond.static yX6_isPlace, Cond.initialized RX6, Cond.code yX6_isPlace cX6_isPlace 2 (some .boolean), Cond.methodLink RX6 125 yX6_isRow, Cond.static yX6_isRow, Cond.code yX6_isRow cX6_isRow 1 (some .boolean), Cond.methodLink RX6 58 yX6_isWithin, Cond.static yX6_isWithin, Cond.code yX6_isWithin cX6_isWithin 3 (some .boolean), Cond.methodLink RX6 139 yX3_isMarked, Cond.instanceMethod yX3_isMarked, Cond.selects RX3 yX3_isMarked yX3_isMarked, Cond.initialized RX3, Cond.code yX3_isMarked cX3_isMarked 4 (some .boolean), Cond.fieldLink RX3 16 "PascalRows$Setup" "marks" "LPascalRows$Lines;", Cond.methodLink RX3 101 yX1_number, Cond.instanceMethod yX1_number, Cond.selects RX1 yX1_number yX1_number, Cond.initialized RX1, Cond.code yX1_number cX1_number 4 (some .int), Cond.fieldLink RX1 24 "PascalRows$Lines" "size" "I", Cond.fieldLink RX1 20 "PascalRows$Lines" "numbers" "[I"]
def wsX6_marked_r2 : List Cond := [Cond.methodLink RX3 104 yX3_tell, Cond.instanceMethod yX3_tell, Cond.selects RX3 yX3_tell yX3_tell, Cond.code yX3_tell cX3_tell 4 (some .int), Cond.fieldLink RX3 39 "PascalRows$Setup" "triangle" "LPascalRows$Triangle;", Cond.fieldLink RX3 36 "PascalRows$Setup" "modulus" "I", Cond.fieldLink RX3 29 "PascalRows$Setup" "p" "I", Cond.methodLink RX3 75 yX5_remainder, Cond.instanceMethod yX5_remainder, Cond.selects RX5 yX5_remainder yX5_remainder, Cond.initialized RX5, Cond.code yX5_remainder cX5_remainder 4 (some .int), Cond.methodLink RX5 15 yX5_cell, Cond.instanceMethod yX5_cell, Cond.selects RX5 yX5_cell yX5_cell, Cond.code yX5_cell cX5_cell 5 (some .int), Cond.fieldLink RX5 9 "PascalRows$Triangle" "halves" "[I", Cond.methodLink RX3 81 yX5_lucas, Cond.instanceMethod yX5_lucas, Cond.selects RX5 yX5_lucas yX5_lucas, Cond.code yX5_lucas cX5_lucas 8 (some .int), Cond.methodLink RX3 84 yX0_carries, Cond.static yX0_carries, Cond.initialized RX0]
def wsX6_marked_r3 : List Cond := [Cond.code yX0_carries cX0_carries 8 (some .int), Cond.methodLink RX3 87 yX0_legendre, Cond.static yX0_legendre, Cond.code yX0_legendre cX0_legendre 8 (some .int), Cond.methodLink RX3 90 yX0_isCovered, Cond.static yX0_isCovered, Cond.code yX0_isCovered cX0_isCovered 6 (some .boolean)]
def wsX6_marked : List Cond := .code yX6_marked cX6_marked 3 (some .int) :: ((wsX6_marked_r1 ++ (wsX6_marked_r2 ++ wsX6_marked_r3)) ++ wsX60 ++ wsX30 ++ wsX10 ++ wsX50)
def wsX6_digit : List Cond := .code yX6_digit cX6_digit 4 (some .int) :: ([.fieldLink RX6 23 "PascalRows" "now" "LPascalRows$Setup;", .methodLink RX6 58 yX6_isWithin, .static yX6_isWithin, .initialized RX6, .code yX6_isWithin cX6_isWithin 3 (some .boolean), .methodLink RX6 142 yX0_howMany, .static yX0_howMany, .initialized RX0, .code yX0_howMany cX0_howMany 5 (some .int), .methodLink RX6 147 yX0_one, .static yX0_one, .code yX0_one cX0_one 5 (some .int)] ++ wsX60 ++ wsX30)
def wsX6_pure : List Cond := .code yX6_pure cX6_pure 3 (some .int) :: ([.fieldLink RX6 23 "PascalRows" "now" "LPascalRows$Setup;", .methodLink RX6 58 yX6_isWithin, .static yX6_isWithin, .initialized RX6, .code yX6_isWithin cX6_isWithin 3 (some .boolean), .methodLink RX6 150 yX0_withoutPrime, .static yX0_withoutPrime, .initialized RX0, .code yX0_withoutPrime cX0_withoutPrime 4 (some .int), .methodLink RX6 153 yX0_timesDivided, .static yX0_timesDivided, .code yX0_timesDivided cX0_timesDivided 5 (some .int)] ++ wsX60 ++ wsX30)
def wsX6_countOf : List Cond := .code yX6_countOf cX6_countOf 5 (some .int) :: ([.fieldLink RX6 23 "PascalRows" "now" "LPascalRows$Setup;", .methodLink RX6 129 yX3_remainder, .instanceMethod yX3_remainder, .selects RX3 yX3_remainder yX3_remainder, .initialized RX3, .code yX3_remainder cX3_remainder 3 (some .int), .fieldLink RX3 39 "PascalRows$Setup" "triangle" "LPascalRows$Triangle;", .fieldLink RX3 36 "PascalRows$Setup" "modulus" "I", .methodLink RX3 75 yX5_remainder, .instanceMethod yX5_remainder, .selects RX5 yX5_remainder yX5_remainder, .initialized RX5, .code yX5_remainder cX5_remainder 4 (some .int), .methodLink RX5 15 yX5_cell, .instanceMethod yX5_cell, .selects RX5 yX5_cell yX5_cell, .code yX5_cell cX5_cell 5 (some .int), .fieldLink RX5 9 "PascalRows$Triangle" "halves" "[I"] ++ wsX60 ++ wsX30 ++ wsX50)
def wsX6_counted_r1 : List Cond := [Cond.methodLink RX6 125 yX6_isRow, Cond.static yX6_isRow, Cond.initialized RX6, Cond.code yX6_isRow cX6_isRow 1 (some .boolean), Cond.methodLink RX6 58 yX6_isWithin, Cond.static yX6_isWithin, Cond.code yX6_isWithin cX6_isWithin 3 (some .boolean), Cond.methodLink RX6 156 yX6_countOf, Cond.instanceMethod yX6_countOf, Cond.selects RX6 yX6_countOf yX6_countOf, Cond.code yX6_countOf cX6_countOf 5 (some .int), Cond.fieldLink RX6 23 "PascalRows" "now" "LPascalRows$Setup;", Cond.methodLink RX6 129 yX3_remainder, Cond.instanceMethod yX3_remainder, Cond.selects RX3 yX3_remainder yX3_remainder, Cond.initialized RX3, Cond.code yX3_remainder cX3_remainder 3 (some .int), Cond.fieldLink RX3 39 "PascalRows$Setup" "triangle" "LPascalRows$Triangle;", Cond.fieldLink RX3 36 "PascalRows$Setup" "modulus" "I", Cond.methodLink RX3 75 yX5_remainder, Cond.instanceMethod yX5_remainder, Cond.selects RX5 yX5_remainder yX5_remainder, Cond.initialized RX5, Cond.code yX5_remainder cX5_remainder 4 (some .int)]
def wsX6_counted_r2 : List Cond := [Cond.methodLink RX5 15 yX5_cell, Cond.instanceMethod yX5_cell, Cond.selects RX5 yX5_cell yX5_cell, Cond.code yX5_cell cX5_cell 5 (some .int), Cond.fieldLink RX5 9 "PascalRows$Triangle" "halves" "[I"]
def wsX6_counted : List Cond := .code yX6_counted cX6_counted 3 (some .int) :: ((wsX6_counted_r1 ++ wsX6_counted_r2) ++ wsX60 ++ wsX30 ++ wsX50)
def wsX6_nextKind : List Cond := .code yX6_nextKind cX6_nextKind 6 (some .int) :: ([.fieldLink RX6 23 "PascalRows" "now" "LPascalRows$Setup;", .methodLink RX6 129 yX3_remainder, .instanceMethod yX3_remainder, .selects RX3 yX3_remainder yX3_remainder, .initialized RX3, .code yX3_remainder cX3_remainder 3 (some .int), .fieldLink RX3 39 "PascalRows$Setup" "triangle" "LPascalRows$Triangle;", .fieldLink RX3 36 "PascalRows$Setup" "modulus" "I", .methodLink RX3 75 yX5_remainder, .instanceMethod yX5_remainder, .selects RX5 yX5_remainder yX5_remainder, .initialized RX5, .code yX5_remainder cX5_remainder 4 (some .int), .methodLink RX5 15 yX5_cell, .instanceMethod yX5_cell, .selects RX5 yX5_cell yX5_cell, .code yX5_cell cX5_cell 5 (some .int), .fieldLink RX5 9 "PascalRows$Triangle" "halves" "[I"] ++ wsX60 ++ wsX30 ++ wsX50)
def wsX6_kindsOf : List Cond := .code yX6_kindsOf cX6_kindsOf 4 (some .int) :: ([.methodLink RX6 171 yX6_nextKind, .instanceMethod yX6_nextKind, .selects RX6 yX6_nextKind yX6_nextKind, .initialized RX6, .code yX6_nextKind cX6_nextKind 6 (some .int), .fieldLink RX6 23 "PascalRows" "now" "LPascalRows$Setup;", .methodLink RX6 129 yX3_remainder, .instanceMethod yX3_remainder, .selects RX3 yX3_remainder yX3_remainder, .initialized RX3, .code yX3_remainder cX3_remainder 3 (some .int), .fieldLink RX3 39 "PascalRows$Setup" "triangle" "LPascalRows$Triangle;", .fieldLink RX3 36 "PascalRows$Setup" "modulus" "I", .methodLink RX3 75 yX5_remainder, .instanceMethod yX5_remainder, .selects RX5 yX5_remainder yX5_remainder, .initialized RX5, .code yX5_remainder cX5_remainder 4 (some .int), .methodLink RX5 15 yX5_cell, .instanceMethod yX5_cell, .selects RX5 yX5_cell yX5_cell, .code yX5_cell cX5_cell 5 (some .int), .fieldLink RX5 9 "PascalRows$Triangle" "halves" "[I"] ++ wsX60 ++ wsX30 ++ wsX50)
def wsX6_usualOf_r1 : List Cond := [Cond.methodLink RX6 171 yX6_nextKind, Cond.instanceMethod yX6_nextKind, Cond.selects RX6 yX6_nextKind yX6_nextKind, Cond.initialized RX6, Cond.code yX6_nextKind cX6_nextKind 6 (some .int), Cond.fieldLink RX6 23 "PascalRows" "now" "LPascalRows$Setup;", Cond.methodLink RX6 129 yX3_remainder, Cond.instanceMethod yX3_remainder, Cond.selects RX3 yX3_remainder yX3_remainder, Cond.initialized RX3, Cond.code yX3_remainder cX3_remainder 3 (some .int), Cond.fieldLink RX3 39 "PascalRows$Setup" "triangle" "LPascalRows$Triangle;", Cond.fieldLink RX3 36 "PascalRows$Setup" "modulus" "I", Cond.methodLink RX3 75 yX5_remainder, Cond.instanceMethod yX5_remainder, Cond.selects RX5 yX5_remainder yX5_remainder, Cond.initialized RX5, Cond.code yX5_remainder cX5_remainder 4 (some .int), Cond.methodLink RX5 15 yX5_cell, Cond.instanceMethod yX5_cell, Cond.selects RX5 yX5_cell yX5_cell, Cond.code yX5_cell cX5_cell 5 (some .int), Cond.fieldLink RX5 9 "PascalRows$Triangle" "halves" "[I", Cond.methodLink RX6 156 yX6_countOf]
def wsX6_usualOf_r2 : List Cond := [Cond.instanceMethod yX6_countOf, Cond.selects RX6 yX6_countOf yX6_countOf, Cond.code yX6_countOf cX6_countOf 5 (some .int)]
def wsX6_usualOf : List Cond := .code yX6_usualOf cX6_usualOf 7 (some .int) :: ((wsX6_usualOf_r1 ++ wsX6_usualOf_r2) ++ wsX60 ++ wsX30 ++ wsX50)
def wsX6_sumOf : List Cond := .code yX6_sumOf cX6_sumOf 4 (some .int) :: ([.fieldLink RX6 23 "PascalRows" "now" "LPascalRows$Setup;", .methodLink RX6 129 yX3_remainder, .instanceMethod yX3_remainder, .selects RX3 yX3_remainder yX3_remainder, .initialized RX3, .code yX3_remainder cX3_remainder 3 (some .int), .fieldLink RX3 39 "PascalRows$Setup" "triangle" "LPascalRows$Triangle;", .fieldLink RX3 36 "PascalRows$Setup" "modulus" "I", .methodLink RX3 75 yX5_remainder, .instanceMethod yX5_remainder, .selects RX5 yX5_remainder yX5_remainder, .initialized RX5, .code yX5_remainder cX5_remainder 4 (some .int), .methodLink RX5 15 yX5_cell, .instanceMethod yX5_cell, .selects RX5 yX5_cell yX5_cell, .code yX5_cell cX5_cell 5 (some .int), .fieldLink RX5 9 "PascalRows$Triangle" "halves" "[I"] ++ wsX60 ++ wsX30 ++ wsX50)
def wsX6_depthOf : List Cond := .code yX6_depthOf cX6_depthOf 4 (some .int) :: ([.fieldLink RX6 23 "PascalRows" "now" "LPascalRows$Setup;", .methodLink RX6 186 Lib.Math.max.name, .static Lib.Math.max.name, .initialized "java/lang/Math", .code Lib.Math.max.name Lib.Math.max.code 2 (some .int), .methodLink RX6 183 yX0_carries, .static yX0_carries, .initialized RX0, .code yX0_carries cX0_carries 8 (some .int)] ++ wsX60 ++ wsX30)
def wsX6_row_r1 : List Cond := [Cond.methodLink RX6 125 yX6_isRow, Cond.static yX6_isRow, Cond.initialized RX6, Cond.code yX6_isRow cX6_isRow 1 (some .boolean), Cond.methodLink RX6 58 yX6_isWithin, Cond.static yX6_isWithin, Cond.code yX6_isWithin cX6_isWithin 3 (some .boolean), Cond.methodLink RX6 159 yX6_kindsOf, Cond.instanceMethod yX6_kindsOf, Cond.selects RX6 yX6_kindsOf yX6_kindsOf, Cond.code yX6_kindsOf cX6_kindsOf 4 (some .int), Cond.methodLink RX6 171 yX6_nextKind, Cond.instanceMethod yX6_nextKind, Cond.selects RX6 yX6_nextKind yX6_nextKind, Cond.code yX6_nextKind cX6_nextKind 6 (some .int), Cond.fieldLink RX6 23 "PascalRows" "now" "LPascalRows$Setup;", Cond.methodLink RX6 129 yX3_remainder, Cond.instanceMethod yX3_remainder, Cond.selects RX3 yX3_remainder yX3_remainder, Cond.initialized RX3, Cond.code yX3_remainder cX3_remainder 3 (some .int), Cond.fieldLink RX3 39 "PascalRows$Setup" "triangle" "LPascalRows$Triangle;", Cond.fieldLink RX3 36 "PascalRows$Setup" "modulus" "I", Cond.methodLink RX3 75 yX5_remainder]
def wsX6_row_r2 : List Cond := [Cond.instanceMethod yX5_remainder, Cond.selects RX5 yX5_remainder yX5_remainder, Cond.initialized RX5, Cond.code yX5_remainder cX5_remainder 4 (some .int), Cond.methodLink RX5 15 yX5_cell, Cond.instanceMethod yX5_cell, Cond.selects RX5 yX5_cell yX5_cell, Cond.code yX5_cell cX5_cell 5 (some .int), Cond.fieldLink RX5 9 "PascalRows$Triangle" "halves" "[I", Cond.methodLink RX6 162 yX6_usualOf, Cond.instanceMethod yX6_usualOf, Cond.selects RX6 yX6_usualOf yX6_usualOf, Cond.code yX6_usualOf cX6_usualOf 7 (some .int), Cond.methodLink RX6 156 yX6_countOf, Cond.instanceMethod yX6_countOf, Cond.selects RX6 yX6_countOf yX6_countOf, Cond.code yX6_countOf cX6_countOf 5 (some .int), Cond.methodLink RX6 165 yX6_sumOf, Cond.instanceMethod yX6_sumOf, Cond.selects RX6 yX6_sumOf yX6_sumOf, Cond.code yX6_sumOf cX6_sumOf 4 (some .int), Cond.methodLink RX6 168 yX6_depthOf, Cond.instanceMethod yX6_depthOf, Cond.selects RX6 yX6_depthOf yX6_depthOf]
def wsX6_row_r3 : List Cond := [Cond.code yX6_depthOf cX6_depthOf 4 (some .int), Cond.methodLink RX6 186 Lib.Math.max.name, Cond.static Lib.Math.max.name, Cond.initialized "java/lang/Math", Cond.code Lib.Math.max.name Lib.Math.max.code 2 (some .int), Cond.methodLink RX6 183 yX0_carries, Cond.static yX0_carries, Cond.initialized RX0, Cond.code yX0_carries cX0_carries 8 (some .int)]
def wsX6_row : List Cond := .code yX6_row cX6_row 3 (some .int) :: ((wsX6_row_r1 ++ (wsX6_row_r2 ++ wsX6_row_r3)) ++ wsX60 ++ wsX30 ++ wsX50)
def wsX6_kind_r1 : List Cond := [Cond.methodLink RX6 125 yX6_isRow, Cond.static yX6_isRow, Cond.initialized RX6, Cond.code yX6_isRow cX6_isRow 1 (some .boolean), Cond.methodLink RX6 58 yX6_isWithin, Cond.static yX6_isWithin, Cond.code yX6_isWithin cX6_isWithin 3 (some .boolean), Cond.methodLink RX6 171 yX6_nextKind, Cond.instanceMethod yX6_nextKind, Cond.selects RX6 yX6_nextKind yX6_nextKind, Cond.code yX6_nextKind cX6_nextKind 6 (some .int), Cond.fieldLink RX6 23 "PascalRows" "now" "LPascalRows$Setup;", Cond.methodLink RX6 129 yX3_remainder, Cond.instanceMethod yX3_remainder, Cond.selects RX3 yX3_remainder yX3_remainder, Cond.initialized RX3, Cond.code yX3_remainder cX3_remainder 3 (some .int), Cond.fieldLink RX3 39 "PascalRows$Setup" "triangle" "LPascalRows$Triangle;", Cond.fieldLink RX3 36 "PascalRows$Setup" "modulus" "I", Cond.methodLink RX3 75 yX5_remainder, Cond.instanceMethod yX5_remainder, Cond.selects RX5 yX5_remainder yX5_remainder, Cond.initialized RX5, Cond.code yX5_remainder cX5_remainder 4 (some .int)]
def wsX6_kind_r2 : List Cond := [Cond.methodLink RX5 15 yX5_cell, Cond.instanceMethod yX5_cell, Cond.selects RX5 yX5_cell yX5_cell, Cond.code yX5_cell cX5_cell 5 (some .int), Cond.fieldLink RX5 9 "PascalRows$Triangle" "halves" "[I"]
def wsX6_kind : List Cond := .code yX6_kind cX6_kind 5 (some .int) :: ((wsX6_kind_r1 ++ wsX6_kind_r2) ++ wsX60 ++ wsX30 ++ wsX50)
def wsX6_fullRows : List Cond := .code yX6_fullRows cX6_fullRows 4 (some .int) :: ([.methodLink RX6 156 yX6_countOf, .instanceMethod yX6_countOf, .selects RX6 yX6_countOf yX6_countOf, .initialized RX6, .code yX6_countOf cX6_countOf 5 (some .int), .fieldLink RX6 23 "PascalRows" "now" "LPascalRows$Setup;", .methodLink RX6 129 yX3_remainder, .instanceMethod yX3_remainder, .selects RX3 yX3_remainder yX3_remainder, .initialized RX3, .code yX3_remainder cX3_remainder 3 (some .int), .fieldLink RX3 39 "PascalRows$Setup" "triangle" "LPascalRows$Triangle;", .fieldLink RX3 36 "PascalRows$Setup" "modulus" "I", .methodLink RX3 75 yX5_remainder, .instanceMethod yX5_remainder, .selects RX5 yX5_remainder yX5_remainder, .initialized RX5, .code yX5_remainder cX5_remainder 4 (some .int), .methodLink RX5 15 yX5_cell, .instanceMethod yX5_cell, .selects RX5 yX5_cell yX5_cell, .code yX5_cell cX5_cell 5 (some .int), .fieldLink RX5 9 "PascalRows$Triangle" "halves" "[I"] ++ wsX60 ++ wsX30 ++ wsX50)
def wsX6_lastFullRow : List Cond := .code yX6_lastFullRow cX6_lastFullRow 3 (some .int) :: ([.methodLink RX6 156 yX6_countOf, .instanceMethod yX6_countOf, .selects RX6 yX6_countOf yX6_countOf, .initialized RX6, .code yX6_countOf cX6_countOf 5 (some .int), .fieldLink RX6 23 "PascalRows" "now" "LPascalRows$Setup;", .methodLink RX6 129 yX3_remainder, .instanceMethod yX3_remainder, .selects RX3 yX3_remainder yX3_remainder, .initialized RX3, .code yX3_remainder cX3_remainder 3 (some .int), .fieldLink RX3 39 "PascalRows$Setup" "triangle" "LPascalRows$Triangle;", .fieldLink RX3 36 "PascalRows$Setup" "modulus" "I", .methodLink RX3 75 yX5_remainder, .instanceMethod yX5_remainder, .selects RX5 yX5_remainder yX5_remainder, .initialized RX5, .code yX5_remainder cX5_remainder 4 (some .int), .methodLink RX5 15 yX5_cell, .instanceMethod yX5_cell, .selects RX5 yX5_cell yX5_cell, .code yX5_cell cX5_cell 5 (some .int), .fieldLink RX5 9 "PascalRows$Triangle" "halves" "[I"] ++ wsX60 ++ wsX30 ++ wsX50)
def wsX6_heaviestRow : List Cond := .code yX6_heaviestRow cX6_heaviestRow 6 (some .int) :: ([.methodLink RX6 156 yX6_countOf, .instanceMethod yX6_countOf, .selects RX6 yX6_countOf yX6_countOf, .initialized RX6, .code yX6_countOf cX6_countOf 5 (some .int), .fieldLink RX6 23 "PascalRows" "now" "LPascalRows$Setup;", .methodLink RX6 129 yX3_remainder, .instanceMethod yX3_remainder, .selects RX3 yX3_remainder yX3_remainder, .initialized RX3, .code yX3_remainder cX3_remainder 3 (some .int), .fieldLink RX3 39 "PascalRows$Setup" "triangle" "LPascalRows$Triangle;", .fieldLink RX3 36 "PascalRows$Setup" "modulus" "I", .methodLink RX3 75 yX5_remainder, .instanceMethod yX5_remainder, .selects RX5 yX5_remainder yX5_remainder, .initialized RX5, .code yX5_remainder cX5_remainder 4 (some .int), .methodLink RX5 15 yX5_cell, .instanceMethod yX5_cell, .selects RX5 yX5_cell yX5_cell, .code yX5_cell cX5_cell 5 (some .int), .fieldLink RX5 9 "PascalRows$Triangle" "halves" "[I"] ++ wsX60 ++ wsX30 ++ wsX50)
def wsX6_upTo_r1 : List Cond := [Cond.methodLink RX6 125 yX6_isRow, Cond.static yX6_isRow, Cond.initialized RX6, Cond.code yX6_isRow cX6_isRow 1 (some .boolean), Cond.methodLink RX6 58 yX6_isWithin, Cond.static yX6_isWithin, Cond.code yX6_isWithin cX6_isWithin 3 (some .boolean), Cond.methodLink RX6 174 yX6_fullRows, Cond.instanceMethod yX6_fullRows, Cond.selects RX6 yX6_fullRows yX6_fullRows, Cond.code yX6_fullRows cX6_fullRows 4 (some .int), Cond.methodLink RX6 156 yX6_countOf, Cond.instanceMethod yX6_countOf, Cond.selects RX6 yX6_countOf yX6_countOf, Cond.code yX6_countOf cX6_countOf 5 (some .int), Cond.fieldLink RX6 23 "PascalRows" "now" "LPascalRows$Setup;", Cond.methodLink RX6 129 yX3_remainder, Cond.instanceMethod yX3_remainder, Cond.selects RX3 yX3_remainder yX3_remainder, Cond.initialized RX3, Cond.code yX3_remainder cX3_remainder 3 (some .int), Cond.fieldLink RX3 39 "PascalRows$Setup" "triangle" "LPascalRows$Triangle;", Cond.fieldLink RX3 36 "PascalRows$Setup" "modulus" "I", Cond.methodLink RX3 75 yX5_remainder]
def wsX6_upTo_r2 : List Cond := [Cond.instanceMethod yX5_remainder, Cond.selects RX5 yX5_remainder yX5_remainder, Cond.initialized RX5, Cond.code yX5_remainder cX5_remainder 4 (some .int), Cond.methodLink RX5 15 yX5_cell, Cond.instanceMethod yX5_cell, Cond.selects RX5 yX5_cell yX5_cell, Cond.code yX5_cell cX5_cell 5 (some .int), Cond.fieldLink RX5 9 "PascalRows$Triangle" "halves" "[I", Cond.methodLink RX6 177 yX6_lastFullRow, Cond.instanceMethod yX6_lastFullRow, Cond.selects RX6 yX6_lastFullRow yX6_lastFullRow, Cond.code yX6_lastFullRow cX6_lastFullRow 3 (some .int), Cond.methodLink RX6 180 yX6_heaviestRow, Cond.instanceMethod yX6_heaviestRow, Cond.selects RX6 yX6_heaviestRow yX6_heaviestRow, Cond.code yX6_heaviestRow cX6_heaviestRow 6 (some .int)]
def wsX6_upTo : List Cond := .code yX6_upTo cX6_upTo 3 (some .int) :: ((wsX6_upTo_r1 ++ wsX6_upTo_r2) ++ wsX60 ++ wsX30 ++ wsX50)
def wsX6_picture_r1 : List Cond := [Cond.fieldLink RX6 23 "PascalRows" "now" "LPascalRows$Setup;", Cond.methodLink RX6 58 yX6_isWithin, Cond.static yX6_isWithin, Cond.initialized RX6, Cond.code yX6_isWithin cX6_isWithin 3 (some .boolean), Cond.methodLink RX6 191 yX3_pictureRow, Cond.instanceMethod yX3_pictureRow, Cond.selects RX3 yX3_pictureRow yX3_pictureRow, Cond.initialized RX3, Cond.code yX3_pictureRow cX3_pictureRow 4 (some .int), Cond.fieldLink RX3 53 "PascalRows$Setup" "windowRow" "I", Cond.fieldLink RX3 56 "PascalRows$Setup" "windowPlace" "I", Cond.methodLink RX3 107 yX3_isMarked, Cond.instanceMethod yX3_isMarked, Cond.selects RX3 yX3_isMarked yX3_isMarked, Cond.code yX3_isMarked cX3_isMarked 4 (some .boolean), Cond.fieldLink RX3 16 "PascalRows$Setup" "marks" "LPascalRows$Lines;", Cond.static yX6_isPlace, Cond.code yX6_isPlace cX6_isPlace 2 (some .boolean), Cond.methodLink RX6 125 yX6_isRow, Cond.static yX6_isRow, Cond.code yX6_isRow cX6_isRow 1 (some .boolean), Cond.methodLink RX3 101 yX1_number, Cond.instanceMethod yX1_number]
def wsX6_picture_r2 : List Cond := [Cond.selects RX1 yX1_number yX1_number, Cond.initialized RX1, Cond.code yX1_number cX1_number 4 (some .int), Cond.fieldLink RX1 24 "PascalRows$Lines" "size" "I", Cond.fieldLink RX1 20 "PascalRows$Lines" "numbers" "[I", Cond.methodLink RX3 104 yX3_tell, Cond.instanceMethod yX3_tell, Cond.selects RX3 yX3_tell yX3_tell, Cond.code yX3_tell cX3_tell 4 (some .int), Cond.fieldLink RX3 39 "PascalRows$Setup" "triangle" "LPascalRows$Triangle;", Cond.fieldLink RX3 36 "PascalRows$Setup" "modulus" "I", Cond.fieldLink RX3 29 "PascalRows$Setup" "p" "I", Cond.methodLink RX3 75 yX5_remainder, Cond.instanceMethod yX5_remainder, Cond.selects RX5 yX5_remainder yX5_remainder, Cond.initialized RX5, Cond.code yX5_remainder cX5_remainder 4 (some .int), Cond.methodLink RX5 15 yX5_cell, Cond.instanceMethod yX5_cell, Cond.selects RX5 yX5_cell yX5_cell, Cond.code yX5_cell cX5_cell 5 (some .int), Cond.fieldLink RX5 9 "PascalRows$Triangle" "halves" "[I", Cond.methodLink RX3 81 yX5_lucas, Cond.instanceMethod yX5_lucas]
def wsX6_picture_r3 : List Cond := [Cond.selects RX5 yX5_lucas yX5_lucas, Cond.code yX5_lucas cX5_lucas 8 (some .int), Cond.methodLink RX3 84 yX0_carries, Cond.static yX0_carries, Cond.initialized RX0, Cond.code yX0_carries cX0_carries 8 (some .int), Cond.methodLink RX3 87 yX0_legendre, Cond.static yX0_legendre, Cond.code yX0_legendre cX0_legendre 8 (some .int), Cond.methodLink RX3 90 yX0_isCovered, Cond.static yX0_isCovered, Cond.code yX0_isCovered cX0_isCovered 6 (some .boolean)]
def wsX6_picture : List Cond := .code yX6_picture cX6_picture 2 (some .int) :: ((wsX6_picture_r1 ++ (wsX6_picture_r2 ++ wsX6_picture_r3)) ++ wsX60 ++ wsX30 ++ wsX10 ++ wsX50)
def wsX6_areLike : List Cond := .code yX6_areLike cX6_areLike 8 (some .boolean) :: ([.fieldLink RX6 23 "PascalRows" "now" "LPascalRows$Setup;", .methodLink RX6 129 yX3_remainder, .instanceMethod yX3_remainder, .selects RX3 yX3_remainder yX3_remainder, .initialized RX3, .code yX3_remainder cX3_remainder 3 (some .int), .fieldLink RX3 39 "PascalRows$Setup" "triangle" "LPascalRows$Triangle;", .fieldLink RX3 36 "PascalRows$Setup" "modulus" "I", .methodLink RX3 75 yX5_remainder, .instanceMethod yX5_remainder, .selects RX5 yX5_remainder yX5_remainder, .initialized RX5, .code yX5_remainder cX5_remainder 4 (some .int), .methodLink RX5 15 yX5_cell, .instanceMethod yX5_cell, .selects RX5 yX5_cell yX5_cell, .code yX5_cell cX5_cell 5 (some .int), .fieldLink RX5 9 "PascalRows$Triangle" "halves" "[I"] ++ wsX60 ++ wsX30 ++ wsX50)
def wsX6_like_r1 : List Cond := [Cond.methodLink RX6 125 yX6_isRow, Cond.static yX6_isRow, Cond.initialized RX6, Cond.code yX6_isRow cX6_isRow 1 (some .boolean), Cond.methodLink RX6 58 yX6_isWithin, Cond.static yX6_isWithin, Cond.code yX6_isWithin cX6_isWithin 3 (some .boolean), Cond.methodLink RX6 194 yX6_areLike, Cond.instanceMethod yX6_areLike, Cond.selects RX6 yX6_areLike yX6_areLike, Cond.code yX6_areLike cX6_areLike 8 (some .boolean), Cond.fieldLink RX6 23 "PascalRows" "now" "LPascalRows$Setup;", Cond.methodLink RX6 129 yX3_remainder, Cond.instanceMethod yX3_remainder, Cond.selects RX3 yX3_remainder yX3_remainder, Cond.initialized RX3, Cond.code yX3_remainder cX3_remainder 3 (some .int), Cond.fieldLink RX3 39 "PascalRows$Setup" "triangle" "LPascalRows$Triangle;", Cond.fieldLink RX3 36 "PascalRows$Setup" "modulus" "I", Cond.methodLink RX3 75 yX5_remainder, Cond.instanceMethod yX5_remainder, Cond.selects RX5 yX5_remainder yX5_remainder, Cond.initialized RX5, Cond.code yX5_remainder cX5_remainder 4 (some .int)]
def wsX6_like_r2 : List Cond := [Cond.methodLink RX5 15 yX5_cell, Cond.instanceMethod yX5_cell, Cond.selects RX5 yX5_cell yX5_cell, Cond.code yX5_cell cX5_cell 5 (some .int), Cond.fieldLink RX5 9 "PascalRows$Triangle" "halves" "[I"]
def wsX6_like : List Cond := .code yX6_like cX6_like 6 (some .int) :: ((wsX6_like_r1 ++ wsX6_like_r2) ++ wsX60 ++ wsX30 ++ wsX50)
def wsX6_scaled_r1 : List Cond := [Cond.methodLink RX6 58 yX6_isWithin, Cond.static yX6_isWithin, Cond.initialized RX6, Cond.code yX6_isWithin cX6_isWithin 3 (some .boolean), Cond.methodLink RX6 194 yX6_areLike, Cond.instanceMethod yX6_areLike, Cond.selects RX6 yX6_areLike yX6_areLike, Cond.code yX6_areLike cX6_areLike 8 (some .boolean), Cond.fieldLink RX6 23 "PascalRows" "now" "LPascalRows$Setup;", Cond.methodLink RX6 129 yX3_remainder, Cond.instanceMethod yX3_remainder, Cond.selects RX3 yX3_remainder yX3_remainder, Cond.initialized RX3, Cond.code yX3_remainder cX3_remainder 3 (some .int), Cond.fieldLink RX3 39 "PascalRows$Setup" "triangle" "LPascalRows$Triangle;", Cond.fieldLink RX3 36 "PascalRows$Setup" "modulus" "I", Cond.methodLink RX3 75 yX5_remainder, Cond.instanceMethod yX5_remainder, Cond.selects RX5 yX5_remainder yX5_remainder, Cond.initialized RX5, Cond.code yX5_remainder cX5_remainder 4 (some .int), Cond.methodLink RX5 15 yX5_cell, Cond.instanceMethod yX5_cell, Cond.selects RX5 yX5_cell yX5_cell]
def wsX6_scaled_r2 : List Cond := [Cond.code yX5_cell cX5_cell 5 (some .int), Cond.fieldLink RX5 9 "PascalRows$Triangle" "halves" "[I"]
def wsX6_scaled : List Cond := .code yX6_scaled cX6_scaled 3 (some .int) :: ((wsX6_scaled_r1 ++ wsX6_scaled_r2) ++ wsX60 ++ wsX30 ++ wsX50)
def wsX6_see : List Cond := .code yX6_see cX6_see 4 (some .int) :: ([.fieldLink RX6 23 "PascalRows" "now" "LPascalRows$Setup;", .methodLink RX6 75 yX1_empty, .instanceMethod yX1_empty, .selects RX1 yX1_empty yX1_empty, .initialized RX1, .code yX1_empty cX1_empty 1 none, .fieldLink RX1 24 "PascalRows$Lines" "size" "I", .methodLink RX6 132 yX6_isPlace, .static yX6_isPlace, .initialized RX6, .code yX6_isPlace cX6_isPlace 2 (some .boolean), .methodLink RX6 125 yX6_isRow, .static yX6_isRow, .code yX6_isRow cX6_isRow 1 (some .boolean), .methodLink RX6 58 yX6_isWithin, .static yX6_isWithin, .code yX6_isWithin cX6_isWithin 3 (some .boolean), .methodLink RX6 66 yX1_add, .instanceMethod yX1_add, .selects RX1 yX1_add yX1_add, .code yX1_add cX1_add 5 (some .int), .fieldLink RX1 20 "PascalRows$Lines" "numbers" "[I"] ++ wsX60 ++ wsX30 ++ wsX10)
def wsX6_isSeenBy_r1 : List Cond := [Cond.fieldLink RX6 23 "PascalRows" "now" "LPascalRows$Setup;", Cond.fieldLink RX6 12 "PascalRows" "triangle" "LPascalRows$Triangle;", Cond.methodLink RX6 208 yX0_powerOf, Cond.static yX0_powerOf, Cond.initialized RX0, Cond.code yX0_powerOf cX0_powerOf 4 (some .int), Cond.methodLink RX6 97 yX1_number, Cond.instanceMethod yX1_number, Cond.selects RX1 yX1_number yX1_number, Cond.initialized RX1, Cond.code yX1_number cX1_number 4 (some .int), Cond.fieldLink RX1 24 "PascalRows$Lines" "size" "I", Cond.fieldLink RX1 20 "PascalRows$Lines" "numbers" "[I", Cond.static yX6_isWithin, Cond.initialized RX6, Cond.code yX6_isWithin cX6_isWithin 3 (some .boolean), Cond.methodLink RX6 211 yX5_remainder, Cond.instanceMethod yX5_remainder, Cond.selects RX5 yX5_remainder yX5_remainder, Cond.initialized RX5, Cond.code yX5_remainder cX5_remainder 4 (some .int), Cond.methodLink RX5 15 yX5_cell, Cond.instanceMethod yX5_cell, Cond.selects RX5 yX5_cell yX5_cell]
def wsX6_isSeenBy_r2 : List Cond := [Cond.code yX5_cell cX5_cell 5 (some .int), Cond.fieldLink RX5 9 "PascalRows$Triangle" "halves" "[I"]
def wsX6_isSeenBy : List Cond := .code yX6_isSeenBy cX6_isSeenBy 4 (some .boolean) :: ((wsX6_isSeenBy_r1 ++ wsX6_isSeenBy_r2) ++ wsX60 ++ wsX30 ++ wsX10 ++ wsX50)
def wsX6_fits_r1 : List Cond := [Cond.fieldLink RX6 201 "PascalRows" "PRIMES" "[I", Cond.methodLink RX6 205 yX6_isSeenBy, Cond.instanceMethod yX6_isSeenBy, Cond.selects RX6 yX6_isSeenBy yX6_isSeenBy, Cond.initialized RX6, Cond.code yX6_isSeenBy cX6_isSeenBy 4 (some .boolean), Cond.fieldLink RX6 23 "PascalRows" "now" "LPascalRows$Setup;", Cond.fieldLink RX6 12 "PascalRows" "triangle" "LPascalRows$Triangle;", Cond.methodLink RX6 208 yX0_powerOf, Cond.static yX0_powerOf, Cond.initialized RX0, Cond.code yX0_powerOf cX0_powerOf 4 (some .int), Cond.methodLink RX6 97 yX1_number, Cond.instanceMethod yX1_number, Cond.selects RX1 yX1_number yX1_number, Cond.initialized RX1, Cond.code yX1_number cX1_number 4 (some .int), Cond.fieldLink RX1 24 "PascalRows$Lines" "size" "I", Cond.fieldLink RX1 20 "PascalRows$Lines" "numbers" "[I", Cond.static yX6_isWithin, Cond.code yX6_isWithin cX6_isWithin 3 (some .boolean), Cond.methodLink RX6 211 yX5_remainder, Cond.instanceMethod yX5_remainder, Cond.selects RX5 yX5_remainder yX5_remainder]
def wsX6_fits_r2 : List Cond := [Cond.initialized RX5, Cond.code yX5_remainder cX5_remainder 4 (some .int), Cond.methodLink RX5 15 yX5_cell, Cond.instanceMethod yX5_cell, Cond.selects RX5 yX5_cell yX5_cell, Cond.code yX5_cell cX5_cell 5 (some .int), Cond.fieldLink RX5 9 "PascalRows$Triangle" "halves" "[I"]
def wsX6_fits : List Cond := .code yX6_fits cX6_fits 3 (some .int) :: ((wsX6_fits_r1 ++ wsX6_fits_r2) ++ wsX60 ++ wsX30 ++ wsX10 ++ wsX50)
def wsX6_partOfFraction : List Cond := .code yX6_partOfFraction cX6_partOfFraction 5 (some .int) :: ([.methodLink RX6 218 yX0_commonDivisor, .static yX0_commonDivisor, .initialized RX0, .code yX0_commonDivisor cX0_commonDivisor 6 (some .int)])
def wsX6_odds_r1 : List Cond := [Cond.constantLong RX6 213 (-9223372036854775808), Cond.fieldLink RX6 23 "PascalRows" "now" "LPascalRows$Setup;", Cond.methodLink RX6 125 yX6_isRow, Cond.static yX6_isRow, Cond.initialized RX6, Cond.code yX6_isRow cX6_isRow 1 (some .boolean), Cond.methodLink RX6 58 yX6_isWithin, Cond.static yX6_isWithin, Cond.code yX6_isWithin cX6_isWithin 3 (some .boolean), Cond.methodLink RX6 136 yX3_tell, Cond.instanceMethod yX3_tell, Cond.selects RX3 yX3_tell yX3_tell, Cond.initialized RX3, Cond.code yX3_tell cX3_tell 4 (some .int), Cond.fieldLink RX3 39 "PascalRows$Setup" "triangle" "LPascalRows$Triangle;", Cond.fieldLink RX3 36 "PascalRows$Setup" "modulus" "I", Cond.fieldLink RX3 29 "PascalRows$Setup" "p" "I", Cond.methodLink RX3 75 yX5_remainder, Cond.instanceMethod yX5_remainder, Cond.selects RX5 yX5_remainder yX5_remainder, Cond.initialized RX5, Cond.code yX5_remainder cX5_remainder 4 (some .int), Cond.methodLink RX5 15 yX5_cell, Cond.instanceMethod yX5_cell]
def wsX6_odds_r2 : List Cond := [Cond.selects RX5 yX5_cell yX5_cell, Cond.code yX5_cell cX5_cell 5 (some .int), Cond.fieldLink RX5 9 "PascalRows$Triangle" "halves" "[I", Cond.methodLink RX3 81 yX5_lucas, Cond.instanceMethod yX5_lucas, Cond.selects RX5 yX5_lucas yX5_lucas, Cond.code yX5_lucas cX5_lucas 8 (some .int), Cond.methodLink RX3 84 yX0_carries, Cond.static yX0_carries, Cond.initialized RX0, Cond.code yX0_carries cX0_carries 8 (some .int), Cond.methodLink RX3 87 yX0_legendre, Cond.static yX0_legendre, Cond.code yX0_legendre cX0_legendre 8 (some .int), Cond.methodLink RX3 90 yX0_isCovered, Cond.static yX0_isCovered, Cond.code yX0_isCovered cX0_isCovered 6 (some .boolean), Cond.methodLink RX6 215 yX6_partOfFraction, Cond.static yX6_partOfFraction, Cond.code yX6_partOfFraction cX6_partOfFraction 5 (some .int), Cond.methodLink RX6 218 yX0_commonDivisor, Cond.static yX0_commonDivisor, Cond.code yX0_commonDivisor cX0_commonDivisor 6 (some .int)]
def wsX6_odds : List Cond := .code yX6_odds cX6_odds 7 (some .long) :: ((wsX6_odds_r1 ++ wsX6_odds_r2) ++ wsX60 ++ wsX30 ++ wsX50)
def wsX6_mean_r1 : List Cond := [Cond.constantLong RX6 213 (-9223372036854775808), Cond.methodLink RX6 125 yX6_isRow, Cond.static yX6_isRow, Cond.initialized RX6, Cond.code yX6_isRow cX6_isRow 1 (some .boolean), Cond.methodLink RX6 58 yX6_isWithin, Cond.static yX6_isWithin, Cond.code yX6_isWithin cX6_isWithin 3 (some .boolean), Cond.methodLink RX6 165 yX6_sumOf, Cond.instanceMethod yX6_sumOf, Cond.selects RX6 yX6_sumOf yX6_sumOf, Cond.code yX6_sumOf cX6_sumOf 4 (some .int), Cond.fieldLink RX6 23 "PascalRows" "now" "LPascalRows$Setup;", Cond.methodLink RX6 129 yX3_remainder, Cond.instanceMethod yX3_remainder, Cond.selects RX3 yX3_remainder yX3_remainder, Cond.initialized RX3, Cond.code yX3_remainder cX3_remainder 3 (some .int), Cond.fieldLink RX3 39 "PascalRows$Setup" "triangle" "LPascalRows$Triangle;", Cond.fieldLink RX3 36 "PascalRows$Setup" "modulus" "I", Cond.methodLink RX3 75 yX5_remainder, Cond.instanceMethod yX5_remainder, Cond.selects RX5 yX5_remainder yX5_remainder, Cond.initialized RX5]
def wsX6_mean_r2 : List Cond := [Cond.code yX5_remainder cX5_remainder 4 (some .int), Cond.methodLink RX5 15 yX5_cell, Cond.instanceMethod yX5_cell, Cond.selects RX5 yX5_cell yX5_cell, Cond.code yX5_cell cX5_cell 5 (some .int), Cond.fieldLink RX5 9 "PascalRows$Triangle" "halves" "[I", Cond.methodLink RX6 215 yX6_partOfFraction, Cond.static yX6_partOfFraction, Cond.code yX6_partOfFraction cX6_partOfFraction 5 (some .int), Cond.methodLink RX6 218 yX0_commonDivisor, Cond.static yX0_commonDivisor, Cond.initialized RX0, Cond.code yX0_commonDivisor cX0_commonDivisor 6 (some .int)]
def wsX6_mean : List Cond := .code yX6_mean cX6_mean 3 (some .long) :: ((wsX6_mean_r1 ++ wsX6_mean_r2) ++ wsX60 ++ wsX30 ++ wsX50)
def wsX6_addEvent : List Cond := .code yX6_addEvent cX6_addEvent 5 (some .int) :: ([.fieldLink RX6 23 "PascalRows" "now" "LPascalRows$Setup;", .methodLink RX6 58 yX6_isWithin, .static yX6_isWithin, .initialized RX6, .code yX6_isWithin cX6_isWithin 3 (some .boolean), .methodLink RX6 66 yX1_add, .instanceMethod yX1_add, .selects RX1 yX1_add yX1_add, .initialized RX1, .code yX1_add cX1_add 5 (some .int), .fieldLink RX1 24 "PascalRows$Lines" "size" "I", .fieldLink RX1 20 "PascalRows$Lines" "numbers" "[I"] ++ wsX60 ++ wsX30 ++ wsX10)
def wsX6_event : List Cond := .code yX6_event cX6_event 3 (some .int) :: ([.fieldLink RX6 23 "PascalRows" "now" "LPascalRows$Setup;", .methodLink RX6 75 yX1_empty, .instanceMethod yX1_empty, .selects RX1 yX1_empty yX1_empty, .initialized RX1, .code yX1_empty cX1_empty 1 none, .fieldLink RX1 24 "PascalRows$Lines" "size" "I", .methodLink RX6 224 yX6_addEvent, .instanceMethod yX6_addEvent, .selects RX6 yX6_addEvent yX6_addEvent, .initialized RX6, .code yX6_addEvent cX6_addEvent 5 (some .int), .methodLink RX6 58 yX6_isWithin, .static yX6_isWithin, .code yX6_isWithin cX6_isWithin 3 (some .boolean), .methodLink RX6 66 yX1_add, .instanceMethod yX1_add, .selects RX1 yX1_add yX1_add, .code yX1_add cX1_add 5 (some .int), .fieldLink RX1 20 "PascalRows$Lines" "numbers" "[I"] ++ wsX60 ++ wsX30 ++ wsX10)
def wsX6_after_r1 : List Cond := [Cond.fieldLink RX6 30 "PascalRows" "trial" "LPascalRows$Setup;", Cond.fieldLink RX6 23 "PascalRows" "now" "LPascalRows$Setup;", Cond.methodLink RX6 58 yX6_isWithin, Cond.static yX6_isWithin, Cond.initialized RX6, Cond.code yX6_isWithin cX6_isWithin 3 (some .boolean), Cond.methodLink RX6 228 yX3_copyFrom, Cond.instanceMethod yX3_copyFrom, Cond.selects RX3 yX3_copyFrom yX3_copyFrom, Cond.initialized RX3, Cond.code yX3_copyFrom cX3_copyFrom 2 none, Cond.fieldLink RX3 29 "PascalRows$Setup" "p" "I", Cond.fieldLink RX3 33 "PascalRows$Setup" "e" "I", Cond.fieldLink RX3 53 "PascalRows$Setup" "windowRow" "I", Cond.fieldLink RX3 56 "PascalRows$Setup" "windowPlace" "I", Cond.fieldLink RX3 16 "PascalRows$Setup" "marks" "LPascalRows$Lines;", Cond.fieldLink RX3 20 "PascalRows$Setup" "seen" "LPascalRows$Lines;", Cond.fieldLink RX3 23 "PascalRows$Setup" "events" "LPascalRows$Lines;", Cond.fieldLink RX3 26 "PascalRows$Setup" "book" "LPascalRows$Lines;", Cond.methodLink RX3 49 yX3_become, Cond.instanceMethod yX3_become, Cond.selects RX3 yX3_become yX3_become, Cond.code yX3_become cX3_become 3 none, Cond.fieldLink RX3 36 "PascalRows$Setup" "modulus" "I"]
def wsX6_after_r2 : List Cond := [Cond.methodLink RX3 43 yX0_powerOf, Cond.static yX0_powerOf, Cond.initialized RX0, Cond.code yX0_powerOf cX0_powerOf 4 (some .int), Cond.methodLink RX3 59 yX1_copyFrom, Cond.instanceMethod yX1_copyFrom, Cond.selects RX1 yX1_copyFrom yX1_copyFrom, Cond.initialized RX1, Cond.code yX1_copyFrom cX1_copyFrom 2 none, Cond.fieldLink RX1 20 "PascalRows$Lines" "numbers" "[I", Cond.methodLink RX1 32 arraycopyName, Cond.native arraycopyName, Cond.static arraycopyName, Cond.initialized "java/lang/System", Cond.fieldLink RX1 24 "PascalRows$Lines" "size" "I", Cond.methodLink RX6 97 yX1_number, Cond.instanceMethod yX1_number, Cond.selects RX1 yX1_number yX1_number, Cond.code yX1_number cX1_number 4 (some .int), Cond.methodLink RX6 232 yX3_happen, Cond.instanceMethod yX3_happen, Cond.selects RX3 yX3_happen yX3_happen, Cond.code yX3_happen cX3_happen 3 none, Cond.methodLink RX3 67 Lib.Math.min.name]
def wsX6_after_r3 : List Cond := [Cond.static Lib.Math.min.name, Cond.initialized "java/lang/Math", Cond.code Lib.Math.min.name Lib.Math.min.code 2 (some .int), Cond.methodLink RX3 63 yX3_nextPrime, Cond.instanceMethod yX3_nextPrime, Cond.selects RX3 yX3_nextPrime yX3_nextPrime, Cond.code yX3_nextPrime cX3_nextPrime 1 (some .int), Cond.methodLink RX3 72 yX1_remove, Cond.instanceMethod yX1_remove, Cond.selects RX1 yX1_remove yX1_remove, Cond.code yX1_remove cX1_remove 4 none, Cond.methodLink RX6 122 yX3_markedInWindow, Cond.instanceMethod yX3_markedInWindow, Cond.selects RX3 yX3_markedInWindow yX3_markedInWindow, Cond.code yX3_markedInWindow cX3_markedInWindow 3 (some .int), Cond.methodLink RX3 110 yX3_pictureRow, Cond.instanceMethod yX3_pictureRow, Cond.selects RX3 yX3_pictureRow yX3_pictureRow, Cond.code yX3_pictureRow cX3_pictureRow 4 (some .int), Cond.methodLink RX3 107 yX3_isMarked, Cond.instanceMethod yX3_isMarked, Cond.selects RX3 yX3_isMarked yX3_isMarked, Cond.code yX3_isMarked cX3_isMarked 4 (some .boolean), Cond.static yX6_isPlace]
def wsX6_after_r4 : List Cond := [Cond.code yX6_isPlace cX6_isPlace 2 (some .boolean), Cond.methodLink RX6 125 yX6_isRow, Cond.static yX6_isRow, Cond.code yX6_isRow cX6_isRow 1 (some .boolean), Cond.methodLink RX3 101 yX1_number, Cond.methodLink RX3 104 yX3_tell, Cond.instanceMethod yX3_tell, Cond.selects RX3 yX3_tell yX3_tell, Cond.code yX3_tell cX3_tell 4 (some .int), Cond.fieldLink RX3 39 "PascalRows$Setup" "triangle" "LPascalRows$Triangle;", Cond.methodLink RX3 75 yX5_remainder, Cond.instanceMethod yX5_remainder, Cond.selects RX5 yX5_remainder yX5_remainder, Cond.initialized RX5, Cond.code yX5_remainder cX5_remainder 4 (some .int), Cond.methodLink RX5 15 yX5_cell, Cond.instanceMethod yX5_cell, Cond.selects RX5 yX5_cell yX5_cell, Cond.code yX5_cell cX5_cell 5 (some .int), Cond.fieldLink RX5 9 "PascalRows$Triangle" "halves" "[I", Cond.methodLink RX3 81 yX5_lucas, Cond.instanceMethod yX5_lucas, Cond.selects RX5 yX5_lucas yX5_lucas, Cond.code yX5_lucas cX5_lucas 8 (some .int)]
def wsX6_after_r5 : List Cond := [Cond.methodLink RX3 84 yX0_carries, Cond.static yX0_carries, Cond.code yX0_carries cX0_carries 8 (some .int), Cond.methodLink RX3 87 yX0_legendre, Cond.static yX0_legendre, Cond.code yX0_legendre cX0_legendre 8 (some .int), Cond.methodLink RX3 90 yX0_isCovered, Cond.static yX0_isCovered, Cond.code yX0_isCovered cX0_isCovered 6 (some .boolean), Cond.methodLink RX3 114 yJ6_bitCount_0f7a4, Cond.static yJ6_bitCount_0f7a4, Cond.initialized RJ6, Cond.code yJ6_bitCount_0f7a4 cJ6_bitCount_0f7a4 1 (some .int), Cond.constant RJ6 265 (1431655765), Cond.constant RJ6 266 (858993459), Cond.constant RJ6 267 (252645135)]
def wsX6_after : List Cond := .code yX6_after cX6_after 3 (some .int) :: ((wsX6_after_r1 ++ (wsX6_after_r2 ++ (wsX6_after_r3 ++ (wsX6_after_r4 ++ wsX6_after_r5)))) ++ wsX60 ++ wsX30 ++ wsX10 ++ wsX50)
def wsX6_book : List Cond := .code yX6_book cX6_book 3 (some .int) :: ([.fieldLink RX6 23 "PascalRows" "now" "LPascalRows$Setup;", .methodLink RX6 75 yX1_empty, .instanceMethod yX1_empty, .selects RX1 yX1_empty yX1_empty, .initialized RX1, .code yX1_empty cX1_empty 1 none, .fieldLink RX1 24 "PascalRows$Lines" "size" "I", .methodLink RX6 125 yX6_isRow, .static yX6_isRow, .initialized RX6, .code yX6_isRow cX6_isRow 1 (some .boolean), .methodLink RX6 58 yX6_isWithin, .static yX6_isWithin, .code yX6_isWithin cX6_isWithin 3 (some .boolean), .methodLink RX6 66 yX1_add, .instanceMethod yX1_add, .selects RX1 yX1_add yX1_add, .code yX1_add cX1_add 5 (some .int), .fieldLink RX1 20 "PascalRows$Lines" "numbers" "[I"] ++ wsX60 ++ wsX30 ++ wsX10)
def wsX6_looked_r1 : List Cond := [Cond.fieldLink RX6 23 "PascalRows" "now" "LPascalRows$Setup;", Cond.methodLink RX6 97 yX1_number, Cond.instanceMethod yX1_number, Cond.selects RX1 yX1_number yX1_number, Cond.initialized RX1, Cond.code yX1_number cX1_number 4 (some .int), Cond.fieldLink RX1 24 "PascalRows$Lines" "size" "I", Cond.fieldLink RX1 20 "PascalRows$Lines" "numbers" "[I", Cond.static yX6_isWithin, Cond.initialized RX6, Cond.code yX6_isWithin cX6_isWithin 3 (some .boolean), Cond.methodLink RX6 129 yX3_remainder, Cond.instanceMethod yX3_remainder, Cond.selects RX3 yX3_remainder yX3_remainder, Cond.initialized RX3, Cond.code yX3_remainder cX3_remainder 3 (some .int), Cond.fieldLink RX3 39 "PascalRows$Setup" "triangle" "LPascalRows$Triangle;", Cond.fieldLink RX3 36 "PascalRows$Setup" "modulus" "I", Cond.methodLink RX3 75 yX5_remainder, Cond.instanceMethod yX5_remainder, Cond.selects RX5 yX5_remainder yX5_remainder, Cond.initialized RX5, Cond.code yX5_remainder cX5_remainder 4 (some .int), Cond.methodLink RX5 15 yX5_cell]
def wsX6_looked_r2 : List Cond := [Cond.instanceMethod yX5_cell, Cond.selects RX5 yX5_cell yX5_cell, Cond.code yX5_cell cX5_cell 5 (some .int), Cond.fieldLink RX5 9 "PascalRows$Triangle" "halves" "[I"]
def wsX6_looked : List Cond := .code yX6_looked cX6_looked 2 (some .int) :: ((wsX6_looked_r1 ++ wsX6_looked_r2) ++ wsX60 ++ wsX30 ++ wsX10 ++ wsX50)
def wsX6_judge_r1 : List Cond := [Cond.fieldLink RX6 43 "PascalRows" "tapes" "LPascalRows$Tapes;", Cond.fieldLink RX6 23 "PascalRows" "now" "LPascalRows$Setup;", Cond.methodLink RX6 125 yX6_isRow, Cond.static yX6_isRow, Cond.initialized RX6, Cond.code yX6_isRow cX6_isRow 1 (some .boolean), Cond.methodLink RX6 58 yX6_isWithin, Cond.static yX6_isWithin, Cond.code yX6_isWithin cX6_isWithin 3 (some .boolean), Cond.methodLink RX6 238 yX4_isThere, Cond.static yX4_isThere, Cond.initialized RX4, Cond.code yX4_isThere cX4_isThere 1 (some .boolean), Cond.methodLink RX6 241 yX4_sortOf, Cond.instanceMethod yX4_sortOf, Cond.selects RX4 yX4_sortOf yX4_sortOf, Cond.code yX4_sortOf cX4_sortOf 2 (some .int), Cond.fieldLink RX4 9 "PascalRows$Tapes" "sorts" "[I", Cond.methodLink RX6 244 yX4_lengthOf, Cond.instanceMethod yX4_lengthOf, Cond.selects RX4 yX4_lengthOf yX4_lengthOf, Cond.code yX4_lengthOf cX4_lengthOf 2 (some .int), Cond.fieldLink RX4 13 "PascalRows$Tapes" "lengths" "[I", Cond.methodLink RX6 247 yX4_value]
def wsX6_judge_r2 : List Cond := [Cond.instanceMethod yX4_value, Cond.selects RX4 yX4_value yX4_value, Cond.code yX4_value cX4_value 4 (some .long), Cond.fieldLink RX4 16 "PascalRows$Tapes" "items" "[J", Cond.methodLink RX4 43 yX4_hasRun, Cond.instanceMethod yX4_hasRun, Cond.selects RX4 yX4_hasRun yX4_hasRun, Cond.code yX4_hasRun cX4_hasRun 4 (some .boolean), Cond.methodLink RX4 39 yX4_lengthOf, Cond.methodLink RX6 129 yX3_remainder, Cond.instanceMethod yX3_remainder, Cond.selects RX3 yX3_remainder yX3_remainder, Cond.initialized RX3, Cond.code yX3_remainder cX3_remainder 3 (some .int), Cond.fieldLink RX3 39 "PascalRows$Setup" "triangle" "LPascalRows$Triangle;", Cond.fieldLink RX3 36 "PascalRows$Setup" "modulus" "I", Cond.methodLink RX3 75 yX5_remainder, Cond.instanceMethod yX5_remainder, Cond.selects RX5 yX5_remainder yX5_remainder, Cond.initialized RX5, Cond.code yX5_remainder cX5_remainder 4 (some .int), Cond.methodLink RX5 15 yX5_cell, Cond.instanceMethod yX5_cell, Cond.selects RX5 yX5_cell yX5_cell]
def wsX6_judge_r3 : List Cond := [Cond.code yX5_cell cX5_cell 5 (some .int), Cond.fieldLink RX5 9 "PascalRows$Triangle" "halves" "[I"]
def wsX6_judge : List Cond := .code yX6_judge cX6_judge 7 (some .int) :: ((wsX6_judge_r1 ++ (wsX6_judge_r2 ++ wsX6_judge_r3)) ++ wsX60 ++ wsX40 ++ wsX30 ++ wsX50)
def wsX6_image_r1 : List Cond := [Cond.fieldLink RX6 27 "PascalRows" "kept" "LPascalRows$Setup;", Cond.fieldLink RX6 23 "PascalRows" "now" "LPascalRows$Setup;", Cond.fieldLink RX6 251 "PascalRows" "hasImage" "Z", Cond.methodLink RX6 228 yX3_copyFrom, Cond.instanceMethod yX3_copyFrom, Cond.selects RX3 yX3_copyFrom yX3_copyFrom, Cond.initialized RX3, Cond.code yX3_copyFrom cX3_copyFrom 2 none, Cond.fieldLink RX3 29 "PascalRows$Setup" "p" "I", Cond.fieldLink RX3 33 "PascalRows$Setup" "e" "I", Cond.fieldLink RX3 53 "PascalRows$Setup" "windowRow" "I", Cond.fieldLink RX3 56 "PascalRows$Setup" "windowPlace" "I", Cond.fieldLink RX3 16 "PascalRows$Setup" "marks" "LPascalRows$Lines;", Cond.fieldLink RX3 20 "PascalRows$Setup" "seen" "LPascalRows$Lines;", Cond.fieldLink RX3 23 "PascalRows$Setup" "events" "LPascalRows$Lines;", Cond.fieldLink RX3 26 "PascalRows$Setup" "book" "LPascalRows$Lines;", Cond.methodLink RX3 49 yX3_become, Cond.instanceMethod yX3_become, Cond.selects RX3 yX3_become yX3_become, Cond.code yX3_become cX3_become 3 none, Cond.fieldLink RX3 36 "PascalRows$Setup" "modulus" "I", Cond.methodLink RX3 43 yX0_powerOf, Cond.static yX0_powerOf, Cond.initialized RX0]
def wsX6_image_r2 : List Cond := [Cond.code yX0_powerOf cX0_powerOf 4 (some .int), Cond.methodLink RX3 59 yX1_copyFrom, Cond.instanceMethod yX1_copyFrom, Cond.selects RX1 yX1_copyFrom yX1_copyFrom, Cond.initialized RX1, Cond.code yX1_copyFrom cX1_copyFrom 2 none, Cond.fieldLink RX1 20 "PascalRows$Lines" "numbers" "[I", Cond.methodLink RX1 32 arraycopyName, Cond.native arraycopyName, Cond.static arraycopyName, Cond.initialized "java/lang/System", Cond.fieldLink RX1 24 "PascalRows$Lines" "size" "I"]
def wsX6_image : List Cond := .code yX6_image cX6_image 1 (some .int) :: ((wsX6_image_r1 ++ wsX6_image_r2) ++ wsX60 ++ wsX30 ++ wsX10)
def wsX6_undo_r1 : List Cond := [Cond.fieldLink RX6 251 "PascalRows" "hasImage" "Z", Cond.fieldLink RX6 23 "PascalRows" "now" "LPascalRows$Setup;", Cond.fieldLink RX6 27 "PascalRows" "kept" "LPascalRows$Setup;", Cond.methodLink RX6 228 yX3_copyFrom, Cond.instanceMethod yX3_copyFrom, Cond.selects RX3 yX3_copyFrom yX3_copyFrom, Cond.initialized RX3, Cond.code yX3_copyFrom cX3_copyFrom 2 none, Cond.fieldLink RX3 29 "PascalRows$Setup" "p" "I", Cond.fieldLink RX3 33 "PascalRows$Setup" "e" "I", Cond.fieldLink RX3 53 "PascalRows$Setup" "windowRow" "I", Cond.fieldLink RX3 56 "PascalRows$Setup" "windowPlace" "I", Cond.fieldLink RX3 16 "PascalRows$Setup" "marks" "LPascalRows$Lines;", Cond.fieldLink RX3 20 "PascalRows$Setup" "seen" "LPascalRows$Lines;", Cond.fieldLink RX3 23 "PascalRows$Setup" "events" "LPascalRows$Lines;", Cond.fieldLink RX3 26 "PascalRows$Setup" "book" "LPascalRows$Lines;", Cond.methodLink RX3 49 yX3_become, Cond.instanceMethod yX3_become, Cond.selects RX3 yX3_become yX3_become, Cond.code yX3_become cX3_become 3 none, Cond.fieldLink RX3 36 "PascalRows$Setup" "modulus" "I", Cond.methodLink RX3 43 yX0_powerOf, Cond.static yX0_powerOf, Cond.initialized RX0]
def wsX6_undo_r2 : List Cond := [Cond.code yX0_powerOf cX0_powerOf 4 (some .int), Cond.methodLink RX3 59 yX1_copyFrom, Cond.instanceMethod yX1_copyFrom, Cond.selects RX1 yX1_copyFrom yX1_copyFrom, Cond.initialized RX1, Cond.code yX1_copyFrom cX1_copyFrom 2 none, Cond.fieldLink RX1 20 "PascalRows$Lines" "numbers" "[I", Cond.methodLink RX1 32 arraycopyName, Cond.native arraycopyName, Cond.static arraycopyName, Cond.initialized "java/lang/System", Cond.fieldLink RX1 24 "PascalRows$Lines" "size" "I"]
def wsX6_undo : List Cond := .code yX6_undo cX6_undo 1 (some .int) :: ((wsX6_undo_r1 ++ wsX6_undo_r2) ++ wsX60 ++ wsX30 ++ wsX10)
def wsX6_count : List Cond := .code yX6_count cX6_count 2 (some .int) :: ([.fieldLink RX6 23 "PascalRows" "now" "LPascalRows$Setup;", .fieldLink RX6 36 "PascalRows" "reader" "LPascalRows$Reader;"] ++ wsX60 ++ wsX30 ++ wsX10 ++ wsX20)
def wsX6_tape_r1 : List Cond := [Cond.fieldLink RX6 43 "PascalRows" "tapes" "LPascalRows$Tapes;", Cond.methodLink RX6 238 yX4_isThere, Cond.static yX4_isThere, Cond.initialized RX4, Cond.code yX4_isThere cX4_isThere 1 (some .boolean), Cond.static yX6_isWithin, Cond.initialized RX6, Cond.code yX6_isWithin cX6_isWithin 3 (some .boolean), Cond.methodLink RX6 258 yX4_become, Cond.instanceMethod yX4_become, Cond.selects RX4 yX4_become yX4_become, Cond.code yX4_become cX4_become 5 none, Cond.fieldLink RX4 9 "PascalRows$Tapes" "sorts" "[I", Cond.fieldLink RX4 13 "PascalRows$Tapes" "lengths" "[I", Cond.methodLink RX4 26 Lib.Math.min.name, Cond.static Lib.Math.min.name, Cond.initialized "java/lang/Math", Cond.code Lib.Math.min.name Lib.Math.min.code 2 (some .int), Cond.methodLink RX4 32 Lib.Math.max.name, Cond.static Lib.Math.max.name, Cond.code Lib.Math.max.name Lib.Math.max.code 2 (some .int), Cond.methodLink RX4 35 yX4_put, Cond.instanceMethod yX4_put, Cond.selects RX4 yX4_put yX4_put]
def wsX6_tape_r2 : List Cond := [Cond.code yX4_put cX4_put 6 none, Cond.fieldLink RX4 16 "PascalRows$Tapes" "items" "[J", Cond.methodLink RX4 43 yX4_hasRun, Cond.instanceMethod yX4_hasRun, Cond.selects RX4 yX4_hasRun yX4_hasRun, Cond.code yX4_hasRun cX4_hasRun 4 (some .boolean), Cond.methodLink RX4 39 yX4_lengthOf, Cond.instanceMethod yX4_lengthOf, Cond.selects RX4 yX4_lengthOf yX4_lengthOf, Cond.code yX4_lengthOf cX4_lengthOf 2 (some .int), Cond.methodLink RX4 46 yX4_sortOf, Cond.instanceMethod yX4_sortOf, Cond.selects RX4 yX4_sortOf yX4_sortOf, Cond.code yX4_sortOf cX4_sortOf 2 (some .int), Cond.methodLink RX4 49 yX4_cutToSort, Cond.static yX4_cutToSort, Cond.code yX4_cutToSort cX4_cutToSort 3 (some .long), Cond.methodLink RX6 58 yX6_isWithin]
def wsX6_tape : List Cond := .code yX6_tape cX6_tape 4 (some .int) :: ((wsX6_tape_r1 ++ wsX6_tape_r2) ++ wsX60 ++ wsX40)
def wsX6_item_r1 : List Cond := [Cond.fieldLink RX6 43 "PascalRows" "tapes" "LPascalRows$Tapes;", Cond.methodLink RX6 238 yX4_isThere, Cond.static yX4_isThere, Cond.initialized RX4, Cond.code yX4_isThere cX4_isThere 1 (some .boolean), Cond.static yX6_isWithin, Cond.initialized RX6, Cond.code yX6_isWithin cX6_isWithin 3 (some .boolean), Cond.methodLink RX6 241 yX4_sortOf, Cond.instanceMethod yX4_sortOf, Cond.selects RX4 yX4_sortOf yX4_sortOf, Cond.code yX4_sortOf cX4_sortOf 2 (some .int), Cond.fieldLink RX4 9 "PascalRows$Tapes" "sorts" "[I", Cond.methodLink RX6 244 yX4_lengthOf, Cond.instanceMethod yX4_lengthOf, Cond.selects RX4 yX4_lengthOf yX4_lengthOf, Cond.code yX4_lengthOf cX4_lengthOf 2 (some .int), Cond.fieldLink RX4 13 "PascalRows$Tapes" "lengths" "[I", Cond.methodLink RX6 58 yX6_isWithin, Cond.methodLink RX6 261 yX4_put, Cond.instanceMethod yX4_put, Cond.selects RX4 yX4_put yX4_put, Cond.code yX4_put cX4_put 6 none, Cond.fieldLink RX4 16 "PascalRows$Tapes" "items" "[J"]
def wsX6_item_r2 : List Cond := [Cond.methodLink RX4 43 yX4_hasRun, Cond.instanceMethod yX4_hasRun, Cond.selects RX4 yX4_hasRun yX4_hasRun, Cond.code yX4_hasRun cX4_hasRun 4 (some .boolean), Cond.methodLink RX4 39 yX4_lengthOf, Cond.methodLink RX4 46 yX4_sortOf, Cond.methodLink RX4 49 yX4_cutToSort, Cond.static yX4_cutToSort, Cond.code yX4_cutToSort cX4_cutToSort 3 (some .long)]
def wsX6_item : List Cond := .code yX6_item cX6_item 5 (some .int) :: ((wsX6_item_r1 ++ wsX6_item_r2) ++ wsX60 ++ wsX40)
def wsX6_peek_r1 : List Cond := [Cond.fieldLink RX6 43 "PascalRows" "tapes" "LPascalRows$Tapes;", Cond.constantLong RX6 213 (-9223372036854775808), Cond.methodLink RX6 238 yX4_isThere, Cond.static yX4_isThere, Cond.initialized RX4, Cond.code yX4_isThere cX4_isThere 1 (some .boolean), Cond.static yX6_isWithin, Cond.initialized RX6, Cond.code yX6_isWithin cX6_isWithin 3 (some .boolean), Cond.methodLink RX6 244 yX4_lengthOf, Cond.instanceMethod yX4_lengthOf, Cond.selects RX4 yX4_lengthOf yX4_lengthOf, Cond.code yX4_lengthOf cX4_lengthOf 2 (some .int), Cond.fieldLink RX4 13 "PascalRows$Tapes" "lengths" "[I", Cond.methodLink RX6 58 yX6_isWithin, Cond.methodLink RX6 247 yX4_value, Cond.instanceMethod yX4_value, Cond.selects RX4 yX4_value yX4_value, Cond.code yX4_value cX4_value 4 (some .long), Cond.fieldLink RX4 16 "PascalRows$Tapes" "items" "[J", Cond.methodLink RX4 43 yX4_hasRun, Cond.instanceMethod yX4_hasRun, Cond.selects RX4 yX4_hasRun yX4_hasRun, Cond.code yX4_hasRun cX4_hasRun 4 (some .boolean)]
def wsX6_peek_r2 : List Cond := [Cond.methodLink RX4 39 yX4_lengthOf]
def wsX6_peek : List Cond := .code yX6_peek cX6_peek 3 (some .long) :: ((wsX6_peek_r1 ++ wsX6_peek_r2) ++ wsX60 ++ wsX40)
def wsX6_shift_r1 : List Cond := [Cond.fieldLink RX6 43 "PascalRows" "tapes" "LPascalRows$Tapes;", Cond.methodLink RX6 238 yX4_isThere, Cond.static yX4_isThere, Cond.initialized RX4, Cond.code yX4_isThere cX4_isThere 1 (some .boolean), Cond.static yX6_isWithin, Cond.initialized RX6, Cond.code yX6_isWithin cX6_isWithin 3 (some .boolean), Cond.methodLink RX6 241 yX4_sortOf, Cond.instanceMethod yX4_sortOf, Cond.selects RX4 yX4_sortOf yX4_sortOf, Cond.code yX4_sortOf cX4_sortOf 2 (some .int), Cond.fieldLink RX4 9 "PascalRows$Tapes" "sorts" "[I", Cond.methodLink RX6 265 yX4_hasRun, Cond.instanceMethod yX4_hasRun, Cond.selects RX4 yX4_hasRun yX4_hasRun, Cond.code yX4_hasRun cX4_hasRun 4 (some .boolean), Cond.methodLink RX4 39 yX4_lengthOf, Cond.instanceMethod yX4_lengthOf, Cond.selects RX4 yX4_lengthOf yX4_lengthOf, Cond.code yX4_lengthOf cX4_lengthOf 2 (some .int), Cond.fieldLink RX4 13 "PascalRows$Tapes" "lengths" "[I", Cond.methodLink RX6 268 yX4_move, Cond.instanceMethod yX4_move]
def wsX6_shift_r2 : List Cond := [Cond.selects RX4 yX4_move yX4_move, Cond.code yX4_move cX4_move 8 none, Cond.fieldLink RX4 16 "PascalRows$Tapes" "items" "[J", Cond.methodLink RX4 53 arraycopyName, Cond.native arraycopyName, Cond.static arraycopyName, Cond.initialized "java/lang/System", Cond.methodLink RX4 43 yX4_hasRun]
def wsX6_shift : List Cond := .code yX6_shift cX6_shift 6 (some .int) :: ((wsX6_shift_r1 ++ wsX6_shift_r2) ++ wsX60 ++ wsX40)
def wsX7_init : List Cond := .code yX7_init cX7_init 2 none :: ([.methodLink RX7 5 objectInit, .instanceMethod objectInit, .code objectInit ⟨#[0xb1]⟩ 1 none, .arrayClass .int, .fieldLink RX7 11 "PascalRowsModel" "g" "[I", .fieldLink RX7 15 "PascalRowsModel" "kept" "[I", .fieldLink RX7 18 "PascalRowsModel" "was" "[I", .fieldLink RX7 21 "PascalRowsModel" "triangle" "[I", .fieldLink RX7 24 "PascalRowsModel" "text" "[I", .fieldLink RX7 27 "PascalRowsModel" "sort" "[I", .fieldLink RX7 30 "PascalRowsModel" "size" "[I", .arrayClass .long, .fieldLink RX7 33 "PascalRowsModel" "items" "[J"] ++ wsX70)
def wsX7_isIn : List Cond := .code yX7_isIn cX7_isIn 6 (some .boolean) :: ([])
def wsX7_copies : List Cond := .code yX7_copies cX7_copies 3 none :: ([])
def wsX7_isPrime : List Cond := .code yX7_isPrime cX7_isPrime 1 (some .boolean) :: ([])
def wsX7_power : List Cond := .code yX7_power cX7_power 4 (some .int) :: ([])
def wsX7_modulus : List Cond := .code yX7_modulus cX7_modulus 1 (some .int) :: ([.fieldLink RX7 11 "PascalRowsModel" "g" "[I", .methodLink RX7 37 yX7_power, .static yX7_power, .initialized RX7, .code yX7_power cX7_power 4 (some .int)] ++ wsX70)
def wsX7_takes : List Cond := .code yX7_takes cX7_takes 4 none :: ([.fieldLink RX7 41 "PascalRowsModel" "takenBy" "I", .fieldLink RX7 21 "PascalRowsModel" "triangle" "[I"] ++ wsX70)
def wsX7_remainder : List Cond := .code yX7_remainder cX7_remainder 3 (some .int) :: ([.constantLong RX7 53 (127), .fieldLink RX7 21 "PascalRowsModel" "triangle" "[I", .methodLink RX7 45 yX7_modulus, .instanceMethod yX7_modulus, .selects RX7 yX7_modulus yX7_modulus, .initialized RX7, .code yX7_modulus cX7_modulus 1 (some .int), .fieldLink RX7 11 "PascalRowsModel" "g" "[I", .methodLink RX7 37 yX7_power, .static yX7_power, .code yX7_power cX7_power 4 (some .int), .methodLink RX7 49 yX7_takes, .instanceMethod yX7_takes, .selects RX7 yX7_takes yX7_takes, .code yX7_takes cX7_takes 4 none, .fieldLink RX7 41 "PascalRowsModel" "takenBy" "I", .methodLink RX7 55 yX7_isIn, .static yX7_isIn, .code yX7_isIn cX7_isIn 6 (some .boolean)] ++ wsX70)
def wsX7_carries : List Cond := .code yX7_carries cX7_carries 8 (some .int) :: ([.fieldLink RX7 11 "PascalRowsModel" "g" "[I"] ++ wsX70)
def wsX7_small : List Cond := .code yX7_small cX7_small 4 (some .int) :: ([])
def wsX7_lucas : List Cond := .code yX7_lucas cX7_lucas 6 (some .int) :: ([.fieldLink RX7 11 "PascalRowsModel" "g" "[I", .methodLink RX7 59 yX7_small, .static yX7_small, .initialized RX7, .code yX7_small cX7_small 4 (some .int)] ++ wsX70)
def wsX7_legendre : List Cond := .code yX7_legendre cX7_legendre 5 (some .int) :: ([.fieldLink RX7 11 "PascalRowsModel" "g" "[I"] ++ wsX70)
def wsX7_within : List Cond := .code yX7_within cX7_within 5 (some .int) :: ([.fieldLink RX7 11 "PascalRowsModel" "g" "[I"] ++ wsX70)
def wsX7_tells_r1 : List Cond := [Cond.methodLink RX7 62 yX7_remainder, Cond.instanceMethod yX7_remainder, Cond.selects RX7 yX7_remainder yX7_remainder, Cond.initialized RX7, Cond.code yX7_remainder cX7_remainder 3 (some .int), Cond.constantLong RX7 53 (127), Cond.fieldLink RX7 21 "PascalRowsModel" "triangle" "[I", Cond.methodLink RX7 45 yX7_modulus, Cond.instanceMethod yX7_modulus, Cond.selects RX7 yX7_modulus yX7_modulus, Cond.code yX7_modulus cX7_modulus 1 (some .int), Cond.fieldLink RX7 11 "PascalRowsModel" "g" "[I", Cond.methodLink RX7 37 yX7_power, Cond.static yX7_power, Cond.code yX7_power cX7_power 4 (some .int), Cond.methodLink RX7 49 yX7_takes, Cond.instanceMethod yX7_takes, Cond.selects RX7 yX7_takes yX7_takes, Cond.code yX7_takes cX7_takes 4 none, Cond.fieldLink RX7 41 "PascalRowsModel" "takenBy" "I", Cond.methodLink RX7 55 yX7_isIn, Cond.static yX7_isIn, Cond.code yX7_isIn cX7_isIn 6 (some .boolean), Cond.methodLink RX7 65 yX7_lucas]
def wsX7_tells_r2 : List Cond := [Cond.instanceMethod yX7_lucas, Cond.selects RX7 yX7_lucas yX7_lucas, Cond.code yX7_lucas cX7_lucas 6 (some .int), Cond.methodLink RX7 59 yX7_small, Cond.static yX7_small, Cond.code yX7_small cX7_small 4 (some .int), Cond.methodLink RX7 68 yX7_carries, Cond.instanceMethod yX7_carries, Cond.selects RX7 yX7_carries yX7_carries, Cond.code yX7_carries cX7_carries 8 (some .int), Cond.methodLink RX7 71 yX7_legendre, Cond.instanceMethod yX7_legendre, Cond.selects RX7 yX7_legendre yX7_legendre, Cond.code yX7_legendre cX7_legendre 5 (some .int), Cond.methodLink RX7 74 yX7_within, Cond.instanceMethod yX7_within, Cond.selects RX7 yX7_within yX7_within, Cond.code yX7_within cX7_within 5 (some .int)]
def wsX7_tells : List Cond := .code yX7_tells cX7_tells 4 (some .int) :: ((wsX7_tells_r1 ++ wsX7_tells_r2) ++ wsX70)
def wsX7_isRow : List Cond := .code yX7_isRow cX7_isRow 1 (some .boolean) :: ([.constantLong RX7 53 (127), .methodLink RX7 55 yX7_isIn, .static yX7_isIn, .initialized RX7, .code yX7_isIn cX7_isIn 6 (some .boolean)])
def wsX7_isPlace : List Cond := .code yX7_isPlace cX7_isPlace 2 (some .boolean) :: ([.methodLink RX7 77 yX7_isRow, .static yX7_isRow, .initialized RX7, .code yX7_isRow cX7_isRow 1 (some .boolean), .constantLong RX7 53 (127), .methodLink RX7 55 yX7_isIn, .static yX7_isIn, .code yX7_isIn cX7_isIn 6 (some .boolean)])
def wsX7_isKind : List Cond := .code yX7_isKind cX7_isKind 1 (some .boolean) :: ([.constantLong RX7 81 (4), .methodLink RX7 55 yX7_isIn, .static yX7_isIn, .initialized RX7, .code yX7_isIn cX7_isIn 6 (some .boolean)])
def wsX7_isMarked_r1 : List Cond := [Cond.fieldLink RX7 11 "PascalRowsModel" "g" "[I", Cond.methodLink RX7 83 yX7_isPlace, Cond.static yX7_isPlace, Cond.initialized RX7, Cond.code yX7_isPlace cX7_isPlace 2 (some .boolean), Cond.methodLink RX7 77 yX7_isRow, Cond.static yX7_isRow, Cond.code yX7_isRow cX7_isRow 1 (some .boolean), Cond.constantLong RX7 53 (127), Cond.methodLink RX7 55 yX7_isIn, Cond.static yX7_isIn, Cond.code yX7_isIn cX7_isIn 6 (some .boolean), Cond.methodLink RX7 87 yX7_tells, Cond.instanceMethod yX7_tells, Cond.selects RX7 yX7_tells yX7_tells, Cond.code yX7_tells cX7_tells 4 (some .int), Cond.methodLink RX7 62 yX7_remainder, Cond.instanceMethod yX7_remainder, Cond.selects RX7 yX7_remainder yX7_remainder, Cond.code yX7_remainder cX7_remainder 3 (some .int), Cond.fieldLink RX7 21 "PascalRowsModel" "triangle" "[I", Cond.methodLink RX7 45 yX7_modulus, Cond.instanceMethod yX7_modulus, Cond.selects RX7 yX7_modulus yX7_modulus]
def wsX7_isMarked_r2 : List Cond := [Cond.code yX7_modulus cX7_modulus 1 (some .int), Cond.methodLink RX7 37 yX7_power, Cond.static yX7_power, Cond.code yX7_power cX7_power 4 (some .int), Cond.methodLink RX7 49 yX7_takes, Cond.instanceMethod yX7_takes, Cond.selects RX7 yX7_takes yX7_takes, Cond.code yX7_takes cX7_takes 4 none, Cond.fieldLink RX7 41 "PascalRowsModel" "takenBy" "I", Cond.methodLink RX7 65 yX7_lucas, Cond.instanceMethod yX7_lucas, Cond.selects RX7 yX7_lucas yX7_lucas, Cond.code yX7_lucas cX7_lucas 6 (some .int), Cond.methodLink RX7 59 yX7_small, Cond.static yX7_small, Cond.code yX7_small cX7_small 4 (some .int), Cond.methodLink RX7 68 yX7_carries, Cond.instanceMethod yX7_carries, Cond.selects RX7 yX7_carries yX7_carries, Cond.code yX7_carries cX7_carries 8 (some .int), Cond.methodLink RX7 71 yX7_legendre, Cond.instanceMethod yX7_legendre, Cond.selects RX7 yX7_legendre yX7_legendre, Cond.code yX7_legendre cX7_legendre 5 (some .int)]
def wsX7_isMarked_r3 : List Cond := [Cond.methodLink RX7 74 yX7_within, Cond.instanceMethod yX7_within, Cond.selects RX7 yX7_within yX7_within, Cond.code yX7_within cX7_within 5 (some .int)]
def wsX7_isMarked : List Cond := .code yX7_isMarked cX7_isMarked 5 (some .boolean) :: ((wsX7_isMarked_r1 ++ (wsX7_isMarked_r2 ++ wsX7_isMarked_r3)) ++ wsX70)
def wsX7_prime : List Cond := .code yX7_prime cX7_prime 3 (some .int) :: ([.fieldLink RX7 11 "PascalRowsModel" "g" "[I", .methodLink RX7 91 yX7_isPrime, .static yX7_isPrime, .initialized RX7, .code yX7_isPrime cX7_isPrime 1 (some .boolean)] ++ wsX70)
def wsX7_power_ : List Cond := .code yX7_power_ cX7_power_ 3 (some .int) :: ([.constantLong RX7 81 (4), .fieldLink RX7 11 "PascalRowsModel" "g" "[I", .methodLink RX7 55 yX7_isIn, .static yX7_isIn, .initialized RX7, .code yX7_isIn cX7_isIn 6 (some .boolean)] ++ wsX70)
def wsX7_mark : List Cond := .code yX7_mark cX7_mark 3 (some .int) :: ([.constantLong RX7 97 (2400), .fieldLink RX7 11 "PascalRowsModel" "g" "[I", .methodLink RX7 94 yX7_isKind, .static yX7_isKind, .initialized RX7, .code yX7_isKind cX7_isKind 1 (some .boolean), .constantLong RX7 81 (4), .methodLink RX7 55 yX7_isIn, .static yX7_isIn, .code yX7_isIn cX7_isIn 6 (some .boolean)] ++ wsX70)
def wsX7_clear : List Cond := .code yX7_clear cX7_clear 2 (some .int) :: ([.fieldLink RX7 11 "PascalRowsModel" "g" "[I"] ++ wsX70)
def wsX7_window : List Cond := .code yX7_window cX7_window 4 (some .int) :: ([.fieldLink RX7 11 "PascalRowsModel" "g" "[I", .methodLink RX7 77 yX7_isRow, .static yX7_isRow, .initialized RX7, .code yX7_isRow cX7_isRow 1 (some .boolean), .constantLong RX7 53 (127), .methodLink RX7 55 yX7_isIn, .static yX7_isIn, .code yX7_isIn cX7_isIn 6 (some .boolean)] ++ wsX70)
def wsX7_feed : List Cond := .code yX7_feed cX7_feed 2 (some .int) :: ([.constantLong RX7 53 (127), .fieldLink RX7 99 "PascalRowsModel" "fed" "I", .fieldLink RX7 24 "PascalRowsModel" "text" "[I", .methodLink RX7 55 yX7_isIn, .static yX7_isIn, .initialized RX7, .code yX7_isIn cX7_isIn 6 (some .boolean)] ++ wsX70)
def wsX7_here : List Cond := .code yX7_here cX7_here 1 (some .int) :: ([.fieldLink RX7 102 "PascalRowsModel" "place" "I", .fieldLink RX7 99 "PascalRowsModel" "fed" "I", .fieldLink RX7 24 "PascalRowsModel" "text" "[I"] ++ wsX70)
def wsX7_readsNumber : List Cond := .code yX7_readsNumber cX7_readsNumber 4 (some .int) :: ([.constantLong RX7 108 (48), .constantLong RX7 110 (57), .fieldLink RX7 102 "PascalRowsModel" "place" "I", .methodLink RX7 105 yX7_here, .instanceMethod yX7_here, .selects RX7 yX7_here yX7_here, .initialized RX7, .code yX7_here cX7_here 1 (some .int), .fieldLink RX7 99 "PascalRowsModel" "fed" "I", .fieldLink RX7 24 "PascalRowsModel" "text" "[I", .methodLink RX7 55 yX7_isIn, .static yX7_isIn, .code yX7_isIn cX7_isIn 6 (some .boolean)] ++ wsX70)
def wsX7_readsClause : List Cond := .code yX7_readsClause cX7_readsClause 1 (some .boolean) :: ([.fieldLink RX7 112 "PascalRowsModel" "letter" "I", .fieldLink RX7 102 "PascalRowsModel" "place" "I", .fieldLink RX7 119 "PascalRowsModel" "first" "I", .fieldLink RX7 122 "PascalRowsModel" "second" "I", .methodLink RX7 105 yX7_here, .instanceMethod yX7_here, .selects RX7 yX7_here yX7_here, .initialized RX7, .code yX7_here cX7_here 1 (some .int), .fieldLink RX7 99 "PascalRowsModel" "fed" "I", .fieldLink RX7 24 "PascalRowsModel" "text" "[I", .methodLink RX7 115 yX7_readsNumber, .instanceMethod yX7_readsNumber, .selects RX7 yX7_readsNumber yX7_readsNumber, .code yX7_readsNumber cX7_readsNumber 4 (some .int), .constantLong RX7 108 (48), .constantLong RX7 110 (57), .methodLink RX7 55 yX7_isIn, .static yX7_isIn, .code yX7_isIn cX7_isIn 6 (some .boolean)] ++ wsX70)
def wsX7_fault : List Cond := .code yX7_fault cX7_fault 3 (some .int) :: ([.fieldLink RX7 102 "PascalRowsModel" "place" "I", .fieldLink RX7 99 "PascalRowsModel" "fed" "I", .methodLink RX7 125 yX7_readsClause, .instanceMethod yX7_readsClause, .selects RX7 yX7_readsClause yX7_readsClause, .initialized RX7, .code yX7_readsClause cX7_readsClause 1 (some .boolean), .fieldLink RX7 112 "PascalRowsModel" "letter" "I", .fieldLink RX7 119 "PascalRowsModel" "first" "I", .fieldLink RX7 122 "PascalRowsModel" "second" "I", .methodLink RX7 105 yX7_here, .instanceMethod yX7_here, .selects RX7 yX7_here yX7_here, .code yX7_here cX7_here 1 (some .int), .fieldLink RX7 24 "PascalRowsModel" "text" "[I", .methodLink RX7 115 yX7_readsNumber, .instanceMethod yX7_readsNumber, .selects RX7 yX7_readsNumber yX7_readsNumber, .code yX7_readsNumber cX7_readsNumber 4 (some .int), .constantLong RX7 108 (48), .constantLong RX7 110 (57), .methodLink RX7 55 yX7_isIn, .static yX7_isIn, .code yX7_isIn cX7_isIn 6 (some .boolean)] ++ wsX70)
def wsX7_isDone_r1 : List Cond := [Cond.fieldLink RX7 112 "PascalRowsModel" "letter" "I", Cond.fieldLink RX7 119 "PascalRowsModel" "first" "I", Cond.fieldLink RX7 122 "PascalRowsModel" "second" "I", Cond.methodLink RX7 129 yX7_prime, Cond.instanceMethod yX7_prime, Cond.selects RX7 yX7_prime yX7_prime, Cond.initialized RX7, Cond.code yX7_prime cX7_prime 3 (some .int), Cond.fieldLink RX7 11 "PascalRowsModel" "g" "[I", Cond.methodLink RX7 91 yX7_isPrime, Cond.static yX7_isPrime, Cond.code yX7_isPrime cX7_isPrime 1 (some .boolean), Cond.methodLink RX7 132 yX7_power_, Cond.instanceMethod yX7_power_, Cond.selects RX7 yX7_power_ yX7_power_, Cond.code yX7_power_ cX7_power_ 3 (some .int), Cond.constantLong RX7 81 (4), Cond.methodLink RX7 55 yX7_isIn, Cond.static yX7_isIn, Cond.code yX7_isIn cX7_isIn 6 (some .boolean), Cond.methodLink RX7 134 yX7_mark, Cond.instanceMethod yX7_mark, Cond.selects RX7 yX7_mark yX7_mark, Cond.code yX7_mark cX7_mark 3 (some .int)]
def wsX7_isDone_r2 : List Cond := [Cond.constantLong RX7 97 (2400), Cond.methodLink RX7 94 yX7_isKind, Cond.static yX7_isKind, Cond.code yX7_isKind cX7_isKind 1 (some .boolean), Cond.methodLink RX7 137 yX7_clear, Cond.instanceMethod yX7_clear, Cond.selects RX7 yX7_clear yX7_clear, Cond.code yX7_clear cX7_clear 2 (some .int), Cond.methodLink RX7 140 yX7_window, Cond.instanceMethod yX7_window, Cond.selects RX7 yX7_window yX7_window, Cond.code yX7_window cX7_window 4 (some .int), Cond.methodLink RX7 77 yX7_isRow, Cond.static yX7_isRow, Cond.code yX7_isRow cX7_isRow 1 (some .boolean), Cond.constantLong RX7 53 (127)]
def wsX7_isDone : List Cond := .code yX7_isDone cX7_isDone 1 (some .boolean) :: ((wsX7_isDone_r1 ++ wsX7_isDone_r2) ++ wsX70)
def wsX7_read_r1 : List Cond := [Cond.fieldLink RX7 102 "PascalRowsModel" "place" "I", Cond.fieldLink RX7 99 "PascalRowsModel" "fed" "I", Cond.methodLink RX7 143 yX7_fault, Cond.instanceMethod yX7_fault, Cond.selects RX7 yX7_fault yX7_fault, Cond.initialized RX7, Cond.code yX7_fault cX7_fault 3 (some .int), Cond.methodLink RX7 125 yX7_readsClause, Cond.instanceMethod yX7_readsClause, Cond.selects RX7 yX7_readsClause yX7_readsClause, Cond.code yX7_readsClause cX7_readsClause 1 (some .boolean), Cond.fieldLink RX7 112 "PascalRowsModel" "letter" "I", Cond.fieldLink RX7 119 "PascalRowsModel" "first" "I", Cond.fieldLink RX7 122 "PascalRowsModel" "second" "I", Cond.methodLink RX7 105 yX7_here, Cond.instanceMethod yX7_here, Cond.selects RX7 yX7_here yX7_here, Cond.code yX7_here cX7_here 1 (some .int), Cond.fieldLink RX7 24 "PascalRowsModel" "text" "[I", Cond.methodLink RX7 115 yX7_readsNumber, Cond.instanceMethod yX7_readsNumber, Cond.selects RX7 yX7_readsNumber yX7_readsNumber, Cond.code yX7_readsNumber cX7_readsNumber 4 (some .int), Cond.constantLong RX7 108 (48)]
def wsX7_read_r2 : List Cond := [Cond.constantLong RX7 110 (57), Cond.methodLink RX7 55 yX7_isIn, Cond.static yX7_isIn, Cond.code yX7_isIn cX7_isIn 6 (some .boolean), Cond.methodLink RX7 146 yX7_isDone, Cond.instanceMethod yX7_isDone, Cond.selects RX7 yX7_isDone yX7_isDone, Cond.code yX7_isDone cX7_isDone 1 (some .boolean), Cond.methodLink RX7 129 yX7_prime, Cond.instanceMethod yX7_prime, Cond.selects RX7 yX7_prime yX7_prime, Cond.code yX7_prime cX7_prime 3 (some .int), Cond.fieldLink RX7 11 "PascalRowsModel" "g" "[I", Cond.methodLink RX7 91 yX7_isPrime, Cond.static yX7_isPrime, Cond.code yX7_isPrime cX7_isPrime 1 (some .boolean), Cond.methodLink RX7 132 yX7_power_, Cond.instanceMethod yX7_power_, Cond.selects RX7 yX7_power_ yX7_power_, Cond.code yX7_power_ cX7_power_ 3 (some .int), Cond.constantLong RX7 81 (4), Cond.methodLink RX7 134 yX7_mark, Cond.instanceMethod yX7_mark, Cond.selects RX7 yX7_mark yX7_mark]
def wsX7_read_r3 : List Cond := [Cond.code yX7_mark cX7_mark 3 (some .int), Cond.constantLong RX7 97 (2400), Cond.methodLink RX7 94 yX7_isKind, Cond.static yX7_isKind, Cond.code yX7_isKind cX7_isKind 1 (some .boolean), Cond.methodLink RX7 137 yX7_clear, Cond.instanceMethod yX7_clear, Cond.selects RX7 yX7_clear yX7_clear, Cond.code yX7_clear cX7_clear 2 (some .int), Cond.methodLink RX7 140 yX7_window, Cond.instanceMethod yX7_window, Cond.selects RX7 yX7_window yX7_window, Cond.code yX7_window cX7_window 4 (some .int), Cond.methodLink RX7 77 yX7_isRow, Cond.static yX7_isRow, Cond.code yX7_isRow cX7_isRow 1 (some .boolean), Cond.constantLong RX7 53 (127)]
def wsX7_read : List Cond := .code yX7_read cX7_read 4 (some .int) :: ((wsX7_read_r1 ++ (wsX7_read_r2 ++ wsX7_read_r3)) ++ wsX70)
def wsX7_markedInWindow_r1 : List Cond := [Cond.fieldLink RX7 11 "PascalRowsModel" "g" "[I", Cond.methodLink RX7 149 yX7_isMarked, Cond.instanceMethod yX7_isMarked, Cond.selects RX7 yX7_isMarked yX7_isMarked, Cond.initialized RX7, Cond.code yX7_isMarked cX7_isMarked 5 (some .boolean), Cond.methodLink RX7 83 yX7_isPlace, Cond.static yX7_isPlace, Cond.code yX7_isPlace cX7_isPlace 2 (some .boolean), Cond.methodLink RX7 77 yX7_isRow, Cond.static yX7_isRow, Cond.code yX7_isRow cX7_isRow 1 (some .boolean), Cond.constantLong RX7 53 (127), Cond.methodLink RX7 55 yX7_isIn, Cond.static yX7_isIn, Cond.code yX7_isIn cX7_isIn 6 (some .boolean), Cond.methodLink RX7 87 yX7_tells, Cond.instanceMethod yX7_tells, Cond.selects RX7 yX7_tells yX7_tells, Cond.code yX7_tells cX7_tells 4 (some .int), Cond.methodLink RX7 62 yX7_remainder, Cond.instanceMethod yX7_remainder, Cond.selects RX7 yX7_remainder yX7_remainder, Cond.code yX7_remainder cX7_remainder 3 (some .int)]
def wsX7_markedInWindow_r2 : List Cond := [Cond.fieldLink RX7 21 "PascalRowsModel" "triangle" "[I", Cond.methodLink RX7 45 yX7_modulus, Cond.instanceMethod yX7_modulus, Cond.selects RX7 yX7_modulus yX7_modulus, Cond.code yX7_modulus cX7_modulus 1 (some .int), Cond.methodLink RX7 37 yX7_power, Cond.static yX7_power, Cond.code yX7_power cX7_power 4 (some .int), Cond.methodLink RX7 49 yX7_takes, Cond.instanceMethod yX7_takes, Cond.selects RX7 yX7_takes yX7_takes, Cond.code yX7_takes cX7_takes 4 none, Cond.fieldLink RX7 41 "PascalRowsModel" "takenBy" "I", Cond.methodLink RX7 65 yX7_lucas, Cond.instanceMethod yX7_lucas, Cond.selects RX7 yX7_lucas yX7_lucas, Cond.code yX7_lucas cX7_lucas 6 (some .int), Cond.methodLink RX7 59 yX7_small, Cond.static yX7_small, Cond.code yX7_small cX7_small 4 (some .int), Cond.methodLink RX7 68 yX7_carries, Cond.instanceMethod yX7_carries, Cond.selects RX7 yX7_carries yX7_carries, Cond.code yX7_carries cX7_carries 8 (some .int)]
def wsX7_markedInWindow_r3 : List Cond := [Cond.methodLink RX7 71 yX7_legendre, Cond.instanceMethod yX7_legendre, Cond.selects RX7 yX7_legendre yX7_legendre, Cond.code yX7_legendre cX7_legendre 5 (some .int), Cond.methodLink RX7 74 yX7_within, Cond.instanceMethod yX7_within, Cond.selects RX7 yX7_within yX7_within, Cond.code yX7_within cX7_within 5 (some .int)]
def wsX7_markedInWindow : List Cond := .code yX7_markedInWindow cX7_markedInWindow 4 (some .int) :: ((wsX7_markedInWindow_r1 ++ (wsX7_markedInWindow_r2 ++ wsX7_markedInWindow_r3)) ++ wsX70)
def wsX7_told_r1 : List Cond := [Cond.fieldLink RX7 11 "PascalRowsModel" "g" "[I", Cond.methodLink RX7 45 yX7_modulus, Cond.instanceMethod yX7_modulus, Cond.selects RX7 yX7_modulus yX7_modulus, Cond.initialized RX7, Cond.code yX7_modulus cX7_modulus 1 (some .int), Cond.methodLink RX7 37 yX7_power, Cond.static yX7_power, Cond.code yX7_power cX7_power 4 (some .int), Cond.methodLink RX7 152 yX7_markedInWindow, Cond.instanceMethod yX7_markedInWindow, Cond.selects RX7 yX7_markedInWindow yX7_markedInWindow, Cond.code yX7_markedInWindow cX7_markedInWindow 4 (some .int), Cond.methodLink RX7 149 yX7_isMarked, Cond.instanceMethod yX7_isMarked, Cond.selects RX7 yX7_isMarked yX7_isMarked, Cond.code yX7_isMarked cX7_isMarked 5 (some .boolean), Cond.methodLink RX7 83 yX7_isPlace, Cond.static yX7_isPlace, Cond.code yX7_isPlace cX7_isPlace 2 (some .boolean), Cond.methodLink RX7 77 yX7_isRow, Cond.static yX7_isRow, Cond.code yX7_isRow cX7_isRow 1 (some .boolean), Cond.constantLong RX7 53 (127)]
def wsX7_told_r2 : List Cond := [Cond.methodLink RX7 55 yX7_isIn, Cond.static yX7_isIn, Cond.code yX7_isIn cX7_isIn 6 (some .boolean), Cond.methodLink RX7 87 yX7_tells, Cond.instanceMethod yX7_tells, Cond.selects RX7 yX7_tells yX7_tells, Cond.code yX7_tells cX7_tells 4 (some .int), Cond.methodLink RX7 62 yX7_remainder, Cond.instanceMethod yX7_remainder, Cond.selects RX7 yX7_remainder yX7_remainder, Cond.code yX7_remainder cX7_remainder 3 (some .int), Cond.fieldLink RX7 21 "PascalRowsModel" "triangle" "[I", Cond.methodLink RX7 49 yX7_takes, Cond.instanceMethod yX7_takes, Cond.selects RX7 yX7_takes yX7_takes, Cond.code yX7_takes cX7_takes 4 none, Cond.fieldLink RX7 41 "PascalRowsModel" "takenBy" "I", Cond.methodLink RX7 65 yX7_lucas, Cond.instanceMethod yX7_lucas, Cond.selects RX7 yX7_lucas yX7_lucas, Cond.code yX7_lucas cX7_lucas 6 (some .int), Cond.methodLink RX7 59 yX7_small, Cond.static yX7_small, Cond.code yX7_small cX7_small 4 (some .int)]
def wsX7_told_r3 : List Cond := [Cond.methodLink RX7 68 yX7_carries, Cond.instanceMethod yX7_carries, Cond.selects RX7 yX7_carries yX7_carries, Cond.code yX7_carries cX7_carries 8 (some .int), Cond.methodLink RX7 71 yX7_legendre, Cond.instanceMethod yX7_legendre, Cond.selects RX7 yX7_legendre yX7_legendre, Cond.code yX7_legendre cX7_legendre 5 (some .int), Cond.methodLink RX7 74 yX7_within, Cond.instanceMethod yX7_within, Cond.selects RX7 yX7_within yX7_within, Cond.code yX7_within cX7_within 5 (some .int)]
def wsX7_told : List Cond := .code yX7_told cX7_told 2 (some .int) :: ((wsX7_told_r1 ++ (wsX7_told_r2 ++ wsX7_told_r3)) ++ wsX70)
def wsX7_markOf : List Cond := .code yX7_markOf cX7_markOf 3 (some .int) :: ([.fieldLink RX7 11 "PascalRowsModel" "g" "[I", .methodLink RX7 55 yX7_isIn, .static yX7_isIn, .initialized RX7, .code yX7_isIn cX7_isIn 6 (some .boolean)] ++ wsX70)
def wsX7_at_r1 : List Cond := [Cond.methodLink RX7 77 yX7_isRow, Cond.static yX7_isRow, Cond.initialized RX7, Cond.code yX7_isRow cX7_isRow 1 (some .boolean), Cond.constantLong RX7 53 (127), Cond.methodLink RX7 55 yX7_isIn, Cond.static yX7_isIn, Cond.code yX7_isIn cX7_isIn 6 (some .boolean), Cond.methodLink RX7 62 yX7_remainder, Cond.instanceMethod yX7_remainder, Cond.selects RX7 yX7_remainder yX7_remainder, Cond.code yX7_remainder cX7_remainder 3 (some .int), Cond.fieldLink RX7 21 "PascalRowsModel" "triangle" "[I", Cond.methodLink RX7 45 yX7_modulus, Cond.instanceMethod yX7_modulus, Cond.selects RX7 yX7_modulus yX7_modulus, Cond.code yX7_modulus cX7_modulus 1 (some .int), Cond.fieldLink RX7 11 "PascalRowsModel" "g" "[I", Cond.methodLink RX7 37 yX7_power, Cond.static yX7_power, Cond.code yX7_power cX7_power 4 (some .int), Cond.methodLink RX7 49 yX7_takes, Cond.instanceMethod yX7_takes, Cond.selects RX7 yX7_takes yX7_takes]
def wsX7_at_r2 : List Cond := [Cond.code yX7_takes cX7_takes 4 none, Cond.fieldLink RX7 41 "PascalRowsModel" "takenBy" "I"]
def wsX7_at : List Cond := .code yX7_at cX7_at 3 (some .int) :: ((wsX7_at_r1 ++ wsX7_at_r2) ++ wsX70)
def wsX7_rule_r1 : List Cond := [Cond.methodLink RX7 94 yX7_isKind, Cond.static yX7_isKind, Cond.initialized RX7, Cond.code yX7_isKind cX7_isKind 1 (some .boolean), Cond.constantLong RX7 81 (4), Cond.methodLink RX7 55 yX7_isIn, Cond.static yX7_isIn, Cond.code yX7_isIn cX7_isIn 6 (some .boolean), Cond.methodLink RX7 83 yX7_isPlace, Cond.static yX7_isPlace, Cond.code yX7_isPlace cX7_isPlace 2 (some .boolean), Cond.methodLink RX7 77 yX7_isRow, Cond.static yX7_isRow, Cond.code yX7_isRow cX7_isRow 1 (some .boolean), Cond.constantLong RX7 53 (127), Cond.methodLink RX7 87 yX7_tells, Cond.instanceMethod yX7_tells, Cond.selects RX7 yX7_tells yX7_tells, Cond.code yX7_tells cX7_tells 4 (some .int), Cond.methodLink RX7 62 yX7_remainder, Cond.instanceMethod yX7_remainder, Cond.selects RX7 yX7_remainder yX7_remainder, Cond.code yX7_remainder cX7_remainder 3 (some .int), Cond.fieldLink RX7 21 "PascalRowsModel" "triangle" "[I"]
def wsX7_rule_r2 : List Cond := [Cond.methodLink RX7 45 yX7_modulus, Cond.instanceMethod yX7_modulus, Cond.selects RX7 yX7_modulus yX7_modulus, Cond.code yX7_modulus cX7_modulus 1 (some .int), Cond.fieldLink RX7 11 "PascalRowsModel" "g" "[I", Cond.methodLink RX7 37 yX7_power, Cond.static yX7_power, Cond.code yX7_power cX7_power 4 (some .int), Cond.methodLink RX7 49 yX7_takes, Cond.instanceMethod yX7_takes, Cond.selects RX7 yX7_takes yX7_takes, Cond.code yX7_takes cX7_takes 4 none, Cond.fieldLink RX7 41 "PascalRowsModel" "takenBy" "I", Cond.methodLink RX7 65 yX7_lucas, Cond.instanceMethod yX7_lucas, Cond.selects RX7 yX7_lucas yX7_lucas, Cond.code yX7_lucas cX7_lucas 6 (some .int), Cond.methodLink RX7 59 yX7_small, Cond.static yX7_small, Cond.code yX7_small cX7_small 4 (some .int), Cond.methodLink RX7 68 yX7_carries, Cond.instanceMethod yX7_carries, Cond.selects RX7 yX7_carries yX7_carries, Cond.code yX7_carries cX7_carries 8 (some .int)]
def wsX7_rule_r3 : List Cond := [Cond.methodLink RX7 71 yX7_legendre, Cond.instanceMethod yX7_legendre, Cond.selects RX7 yX7_legendre yX7_legendre, Cond.code yX7_legendre cX7_legendre 5 (some .int), Cond.methodLink RX7 74 yX7_within, Cond.instanceMethod yX7_within, Cond.selects RX7 yX7_within yX7_within, Cond.code yX7_within cX7_within 5 (some .int)]
def wsX7_rule : List Cond := .code yX7_rule cX7_rule 4 (some .int) :: ((wsX7_rule_r1 ++ (wsX7_rule_r2 ++ wsX7_rule_r3)) ++ wsX70)
def wsX7_marked_r1 : List Cond := [Cond.methodLink RX7 83 yX7_isPlace, Cond.static yX7_isPlace, Cond.initialized RX7, Cond.code yX7_isPlace cX7_isPlace 2 (some .boolean), Cond.methodLink RX7 77 yX7_isRow, Cond.static yX7_isRow, Cond.code yX7_isRow cX7_isRow 1 (some .boolean), Cond.constantLong RX7 53 (127), Cond.methodLink RX7 55 yX7_isIn, Cond.static yX7_isIn, Cond.code yX7_isIn cX7_isIn 6 (some .boolean), Cond.methodLink RX7 149 yX7_isMarked, Cond.instanceMethod yX7_isMarked, Cond.selects RX7 yX7_isMarked yX7_isMarked, Cond.code yX7_isMarked cX7_isMarked 5 (some .boolean), Cond.fieldLink RX7 11 "PascalRowsModel" "g" "[I", Cond.methodLink RX7 87 yX7_tells, Cond.instanceMethod yX7_tells, Cond.selects RX7 yX7_tells yX7_tells, Cond.code yX7_tells cX7_tells 4 (some .int), Cond.methodLink RX7 62 yX7_remainder, Cond.instanceMethod yX7_remainder, Cond.selects RX7 yX7_remainder yX7_remainder, Cond.code yX7_remainder cX7_remainder 3 (some .int)]
def wsX7_marked_r2 : List Cond := [Cond.fieldLink RX7 21 "PascalRowsModel" "triangle" "[I", Cond.methodLink RX7 45 yX7_modulus, Cond.instanceMethod yX7_modulus, Cond.selects RX7 yX7_modulus yX7_modulus, Cond.code yX7_modulus cX7_modulus 1 (some .int), Cond.methodLink RX7 37 yX7_power, Cond.static yX7_power, Cond.code yX7_power cX7_power 4 (some .int), Cond.methodLink RX7 49 yX7_takes, Cond.instanceMethod yX7_takes, Cond.selects RX7 yX7_takes yX7_takes, Cond.code yX7_takes cX7_takes 4 none, Cond.fieldLink RX7 41 "PascalRowsModel" "takenBy" "I", Cond.methodLink RX7 65 yX7_lucas, Cond.instanceMethod yX7_lucas, Cond.selects RX7 yX7_lucas yX7_lucas, Cond.code yX7_lucas cX7_lucas 6 (some .int), Cond.methodLink RX7 59 yX7_small, Cond.static yX7_small, Cond.code yX7_small cX7_small 4 (some .int), Cond.methodLink RX7 68 yX7_carries, Cond.instanceMethod yX7_carries, Cond.selects RX7 yX7_carries yX7_carries, Cond.code yX7_carries cX7_carries 8 (some .int)]
def wsX7_marked_r3 : List Cond := [Cond.methodLink RX7 71 yX7_legendre, Cond.instanceMethod yX7_legendre, Cond.selects RX7 yX7_legendre yX7_legendre, Cond.code yX7_legendre cX7_legendre 5 (some .int), Cond.methodLink RX7 74 yX7_within, Cond.instanceMethod yX7_within, Cond.selects RX7 yX7_within yX7_within, Cond.code yX7_within cX7_within 5 (some .int)]
def wsX7_marked : List Cond := .code yX7_marked cX7_marked 3 (some .int) :: ((wsX7_marked_r1 ++ (wsX7_marked_r2 ++ wsX7_marked_r3)) ++ wsX70)
def wsX7_digit : List Cond := .code yX7_digit cX7_digit 6 (some .int) :: ([.constantLong RX7 155 (9999), .fieldLink RX7 11 "PascalRowsModel" "g" "[I", .methodLink RX7 55 yX7_isIn, .static yX7_isIn, .initialized RX7, .code yX7_isIn cX7_isIn 6 (some .boolean)] ++ wsX70)
def wsX7_pure : List Cond := .code yX7_pure cX7_pure 5 (some .int) :: ([.constantLong RX7 155 (9999), .fieldLink RX7 11 "PascalRowsModel" "g" "[I", .methodLink RX7 55 yX7_isIn, .static yX7_isIn, .initialized RX7, .code yX7_isIn cX7_isIn 6 (some .boolean)] ++ wsX70)
def wsX7_countOf : List Cond := .code yX7_countOf cX7_countOf 5 (some .int) :: ([.methodLink RX7 62 yX7_remainder, .instanceMethod yX7_remainder, .selects RX7 yX7_remainder yX7_remainder, .initialized RX7, .code yX7_remainder cX7_remainder 3 (some .int), .constantLong RX7 53 (127), .fieldLink RX7 21 "PascalRowsModel" "triangle" "[I", .methodLink RX7 45 yX7_modulus, .instanceMethod yX7_modulus, .selects RX7 yX7_modulus yX7_modulus, .code yX7_modulus cX7_modulus 1 (some .int), .fieldLink RX7 11 "PascalRowsModel" "g" "[I", .methodLink RX7 37 yX7_power, .static yX7_power, .code yX7_power cX7_power 4 (some .int), .methodLink RX7 49 yX7_takes, .instanceMethod yX7_takes, .selects RX7 yX7_takes yX7_takes, .code yX7_takes cX7_takes 4 none, .fieldLink RX7 41 "PascalRowsModel" "takenBy" "I", .methodLink RX7 55 yX7_isIn, .static yX7_isIn, .code yX7_isIn cX7_isIn 6 (some .boolean)] ++ wsX70)
def wsX7_counted_r1 : List Cond := [Cond.methodLink RX7 77 yX7_isRow, Cond.static yX7_isRow, Cond.initialized RX7, Cond.code yX7_isRow cX7_isRow 1 (some .boolean), Cond.constantLong RX7 53 (127), Cond.methodLink RX7 55 yX7_isIn, Cond.static yX7_isIn, Cond.code yX7_isIn cX7_isIn 6 (some .boolean), Cond.methodLink RX7 157 yX7_countOf, Cond.instanceMethod yX7_countOf, Cond.selects RX7 yX7_countOf yX7_countOf, Cond.code yX7_countOf cX7_countOf 5 (some .int), Cond.methodLink RX7 62 yX7_remainder, Cond.instanceMethod yX7_remainder, Cond.selects RX7 yX7_remainder yX7_remainder, Cond.code yX7_remainder cX7_remainder 3 (some .int), Cond.fieldLink RX7 21 "PascalRowsModel" "triangle" "[I", Cond.methodLink RX7 45 yX7_modulus, Cond.instanceMethod yX7_modulus, Cond.selects RX7 yX7_modulus yX7_modulus, Cond.code yX7_modulus cX7_modulus 1 (some .int), Cond.fieldLink RX7 11 "PascalRowsModel" "g" "[I", Cond.methodLink RX7 37 yX7_power, Cond.static yX7_power]
def wsX7_counted_r2 : List Cond := [Cond.code yX7_power cX7_power 4 (some .int), Cond.methodLink RX7 49 yX7_takes, Cond.instanceMethod yX7_takes, Cond.selects RX7 yX7_takes yX7_takes, Cond.code yX7_takes cX7_takes 4 none, Cond.fieldLink RX7 41 "PascalRowsModel" "takenBy" "I"]
def wsX7_counted : List Cond := .code yX7_counted cX7_counted 3 (some .int) :: ((wsX7_counted_r1 ++ wsX7_counted_r2) ++ wsX70)
def wsX7_sumOf : List Cond := .code yX7_sumOf cX7_sumOf 4 (some .int) :: ([.methodLink RX7 62 yX7_remainder, .instanceMethod yX7_remainder, .selects RX7 yX7_remainder yX7_remainder, .initialized RX7, .code yX7_remainder cX7_remainder 3 (some .int), .constantLong RX7 53 (127), .fieldLink RX7 21 "PascalRowsModel" "triangle" "[I", .methodLink RX7 45 yX7_modulus, .instanceMethod yX7_modulus, .selects RX7 yX7_modulus yX7_modulus, .code yX7_modulus cX7_modulus 1 (some .int), .fieldLink RX7 11 "PascalRowsModel" "g" "[I", .methodLink RX7 37 yX7_power, .static yX7_power, .code yX7_power cX7_power 4 (some .int), .methodLink RX7 49 yX7_takes, .instanceMethod yX7_takes, .selects RX7 yX7_takes yX7_takes, .code yX7_takes cX7_takes 4 none, .fieldLink RX7 41 "PascalRowsModel" "takenBy" "I", .methodLink RX7 55 yX7_isIn, .static yX7_isIn, .code yX7_isIn cX7_isIn 6 (some .boolean)] ++ wsX70)
def wsX7_row_r1 : List Cond := [Cond.constantLong RX7 160 (3), Cond.methodLink RX7 165 Lib.Math.max.name, Cond.static Lib.Math.max.name, Cond.initialized "java/lang/Math", Cond.code Lib.Math.max.name Lib.Math.max.code 2 (some .int), Cond.methodLink RX7 77 yX7_isRow, Cond.static yX7_isRow, Cond.initialized RX7, Cond.code yX7_isRow cX7_isRow 1 (some .boolean), Cond.constantLong RX7 53 (127), Cond.methodLink RX7 55 yX7_isIn, Cond.static yX7_isIn, Cond.code yX7_isIn cX7_isIn 6 (some .boolean), Cond.methodLink RX7 162 yX7_sumOf, Cond.instanceMethod yX7_sumOf, Cond.selects RX7 yX7_sumOf yX7_sumOf, Cond.code yX7_sumOf cX7_sumOf 4 (some .int), Cond.methodLink RX7 62 yX7_remainder, Cond.instanceMethod yX7_remainder, Cond.selects RX7 yX7_remainder yX7_remainder, Cond.code yX7_remainder cX7_remainder 3 (some .int), Cond.fieldLink RX7 21 "PascalRowsModel" "triangle" "[I", Cond.methodLink RX7 45 yX7_modulus, Cond.instanceMethod yX7_modulus]
def wsX7_row_r2 : List Cond := [Cond.selects RX7 yX7_modulus yX7_modulus, Cond.code yX7_modulus cX7_modulus 1 (some .int), Cond.fieldLink RX7 11 "PascalRowsModel" "g" "[I", Cond.methodLink RX7 37 yX7_power, Cond.static yX7_power, Cond.code yX7_power cX7_power 4 (some .int), Cond.methodLink RX7 49 yX7_takes, Cond.instanceMethod yX7_takes, Cond.selects RX7 yX7_takes yX7_takes, Cond.code yX7_takes cX7_takes 4 none, Cond.fieldLink RX7 41 "PascalRowsModel" "takenBy" "I", Cond.methodLink RX7 157 yX7_countOf, Cond.instanceMethod yX7_countOf, Cond.selects RX7 yX7_countOf yX7_countOf, Cond.code yX7_countOf cX7_countOf 5 (some .int), Cond.methodLink RX7 68 yX7_carries, Cond.instanceMethod yX7_carries, Cond.selects RX7 yX7_carries yX7_carries, Cond.code yX7_carries cX7_carries 8 (some .int)]
def wsX7_row : List Cond := .code yX7_row cX7_row 9 (some .int) :: ((wsX7_row_r1 ++ wsX7_row_r2) ++ wsX70)
def wsX7_kind_r1 : List Cond := [Cond.methodLink RX7 77 yX7_isRow, Cond.static yX7_isRow, Cond.initialized RX7, Cond.code yX7_isRow cX7_isRow 1 (some .boolean), Cond.constantLong RX7 53 (127), Cond.methodLink RX7 55 yX7_isIn, Cond.static yX7_isIn, Cond.code yX7_isIn cX7_isIn 6 (some .boolean), Cond.methodLink RX7 45 yX7_modulus, Cond.instanceMethod yX7_modulus, Cond.selects RX7 yX7_modulus yX7_modulus, Cond.code yX7_modulus cX7_modulus 1 (some .int), Cond.fieldLink RX7 11 "PascalRowsModel" "g" "[I", Cond.methodLink RX7 37 yX7_power, Cond.static yX7_power, Cond.code yX7_power cX7_power 4 (some .int), Cond.methodLink RX7 157 yX7_countOf, Cond.instanceMethod yX7_countOf, Cond.selects RX7 yX7_countOf yX7_countOf, Cond.code yX7_countOf cX7_countOf 5 (some .int), Cond.methodLink RX7 62 yX7_remainder, Cond.instanceMethod yX7_remainder, Cond.selects RX7 yX7_remainder yX7_remainder, Cond.code yX7_remainder cX7_remainder 3 (some .int)]
def wsX7_kind_r2 : List Cond := [Cond.fieldLink RX7 21 "PascalRowsModel" "triangle" "[I", Cond.methodLink RX7 49 yX7_takes, Cond.instanceMethod yX7_takes, Cond.selects RX7 yX7_takes yX7_takes, Cond.code yX7_takes cX7_takes 4 none, Cond.fieldLink RX7 41 "PascalRowsModel" "takenBy" "I"]
def wsX7_kind : List Cond := .code yX7_kind cX7_kind 5 (some .int) :: ((wsX7_kind_r1 ++ wsX7_kind_r2) ++ wsX70)
def wsX7_upTo_r1 : List Cond := [Cond.constantLong RX7 170 (2), Cond.methodLink RX7 77 yX7_isRow, Cond.static yX7_isRow, Cond.initialized RX7, Cond.code yX7_isRow cX7_isRow 1 (some .boolean), Cond.constantLong RX7 53 (127), Cond.methodLink RX7 55 yX7_isIn, Cond.static yX7_isIn, Cond.code yX7_isIn cX7_isIn 6 (some .boolean), Cond.methodLink RX7 157 yX7_countOf, Cond.instanceMethod yX7_countOf, Cond.selects RX7 yX7_countOf yX7_countOf, Cond.code yX7_countOf cX7_countOf 5 (some .int), Cond.methodLink RX7 62 yX7_remainder, Cond.instanceMethod yX7_remainder, Cond.selects RX7 yX7_remainder yX7_remainder, Cond.code yX7_remainder cX7_remainder 3 (some .int), Cond.fieldLink RX7 21 "PascalRowsModel" "triangle" "[I", Cond.methodLink RX7 45 yX7_modulus, Cond.instanceMethod yX7_modulus, Cond.selects RX7 yX7_modulus yX7_modulus, Cond.code yX7_modulus cX7_modulus 1 (some .int), Cond.fieldLink RX7 11 "PascalRowsModel" "g" "[I", Cond.methodLink RX7 37 yX7_power]
def wsX7_upTo_r2 : List Cond := [Cond.static yX7_power, Cond.code yX7_power cX7_power 4 (some .int), Cond.methodLink RX7 49 yX7_takes, Cond.instanceMethod yX7_takes, Cond.selects RX7 yX7_takes yX7_takes, Cond.code yX7_takes cX7_takes 4 none, Cond.fieldLink RX7 41 "PascalRowsModel" "takenBy" "I"]
def wsX7_upTo : List Cond := .code yX7_upTo cX7_upTo 8 (some .int) :: ((wsX7_upTo_r1 ++ wsX7_upTo_r2) ++ wsX70)
def wsX7_picture_r1 : List Cond := [Cond.constantLong RX7 172 (7), Cond.fieldLink RX7 11 "PascalRowsModel" "g" "[I", Cond.methodLink RX7 55 yX7_isIn, Cond.static yX7_isIn, Cond.initialized RX7, Cond.code yX7_isIn cX7_isIn 6 (some .boolean), Cond.methodLink RX7 149 yX7_isMarked, Cond.instanceMethod yX7_isMarked, Cond.selects RX7 yX7_isMarked yX7_isMarked, Cond.code yX7_isMarked cX7_isMarked 5 (some .boolean), Cond.methodLink RX7 83 yX7_isPlace, Cond.static yX7_isPlace, Cond.code yX7_isPlace cX7_isPlace 2 (some .boolean), Cond.methodLink RX7 77 yX7_isRow, Cond.static yX7_isRow, Cond.code yX7_isRow cX7_isRow 1 (some .boolean), Cond.constantLong RX7 53 (127), Cond.methodLink RX7 87 yX7_tells, Cond.instanceMethod yX7_tells, Cond.selects RX7 yX7_tells yX7_tells, Cond.code yX7_tells cX7_tells 4 (some .int), Cond.methodLink RX7 62 yX7_remainder, Cond.instanceMethod yX7_remainder, Cond.selects RX7 yX7_remainder yX7_remainder]
def wsX7_picture_r2 : List Cond := [Cond.code yX7_remainder cX7_remainder 3 (some .int), Cond.fieldLink RX7 21 "PascalRowsModel" "triangle" "[I", Cond.methodLink RX7 45 yX7_modulus, Cond.instanceMethod yX7_modulus, Cond.selects RX7 yX7_modulus yX7_modulus, Cond.code yX7_modulus cX7_modulus 1 (some .int), Cond.methodLink RX7 37 yX7_power, Cond.static yX7_power, Cond.code yX7_power cX7_power 4 (some .int), Cond.methodLink RX7 49 yX7_takes, Cond.instanceMethod yX7_takes, Cond.selects RX7 yX7_takes yX7_takes, Cond.code yX7_takes cX7_takes 4 none, Cond.fieldLink RX7 41 "PascalRowsModel" "takenBy" "I", Cond.methodLink RX7 65 yX7_lucas, Cond.instanceMethod yX7_lucas, Cond.selects RX7 yX7_lucas yX7_lucas, Cond.code yX7_lucas cX7_lucas 6 (some .int), Cond.methodLink RX7 59 yX7_small, Cond.static yX7_small, Cond.code yX7_small cX7_small 4 (some .int), Cond.methodLink RX7 68 yX7_carries, Cond.instanceMethod yX7_carries, Cond.selects RX7 yX7_carries yX7_carries]
def wsX7_picture_r3 : List Cond := [Cond.code yX7_carries cX7_carries 8 (some .int), Cond.methodLink RX7 71 yX7_legendre, Cond.instanceMethod yX7_legendre, Cond.selects RX7 yX7_legendre yX7_legendre, Cond.code yX7_legendre cX7_legendre 5 (some .int), Cond.methodLink RX7 74 yX7_within, Cond.instanceMethod yX7_within, Cond.selects RX7 yX7_within yX7_within, Cond.code yX7_within cX7_within 5 (some .int)]
def wsX7_picture : List Cond := .code yX7_picture cX7_picture 4 (some .int) :: ((wsX7_picture_r1 ++ (wsX7_picture_r2 ++ wsX7_picture_r3)) ++ wsX70)
def wsX7_areLike : List Cond := .code yX7_areLike cX7_areLike 9 (some .boolean) :: ([.methodLink RX7 62 yX7_remainder, .instanceMethod yX7_remainder, .selects RX7 yX7_remainder yX7_remainder, .initialized RX7, .code yX7_remainder cX7_remainder 3 (some .int), .constantLong RX7 53 (127), .fieldLink RX7 21 "PascalRowsModel" "triangle" "[I", .methodLink RX7 45 yX7_modulus, .instanceMethod yX7_modulus, .selects RX7 yX7_modulus yX7_modulus, .code yX7_modulus cX7_modulus 1 (some .int), .fieldLink RX7 11 "PascalRowsModel" "g" "[I", .methodLink RX7 37 yX7_power, .static yX7_power, .code yX7_power cX7_power 4 (some .int), .methodLink RX7 49 yX7_takes, .instanceMethod yX7_takes, .selects RX7 yX7_takes yX7_takes, .code yX7_takes cX7_takes 4 none, .fieldLink RX7 41 "PascalRowsModel" "takenBy" "I", .methodLink RX7 55 yX7_isIn, .static yX7_isIn, .code yX7_isIn cX7_isIn 6 (some .boolean)] ++ wsX70)
def wsX7_like_r1 : List Cond := [Cond.constantLong RX7 174 (32), Cond.methodLink RX7 77 yX7_isRow, Cond.static yX7_isRow, Cond.initialized RX7, Cond.code yX7_isRow cX7_isRow 1 (some .boolean), Cond.constantLong RX7 53 (127), Cond.methodLink RX7 55 yX7_isIn, Cond.static yX7_isIn, Cond.code yX7_isIn cX7_isIn 6 (some .boolean), Cond.methodLink RX7 176 yX7_areLike, Cond.instanceMethod yX7_areLike, Cond.selects RX7 yX7_areLike yX7_areLike, Cond.code yX7_areLike cX7_areLike 9 (some .boolean), Cond.methodLink RX7 62 yX7_remainder, Cond.instanceMethod yX7_remainder, Cond.selects RX7 yX7_remainder yX7_remainder, Cond.code yX7_remainder cX7_remainder 3 (some .int), Cond.fieldLink RX7 21 "PascalRowsModel" "triangle" "[I", Cond.methodLink RX7 45 yX7_modulus, Cond.instanceMethod yX7_modulus, Cond.selects RX7 yX7_modulus yX7_modulus, Cond.code yX7_modulus cX7_modulus 1 (some .int), Cond.fieldLink RX7 11 "PascalRowsModel" "g" "[I", Cond.methodLink RX7 37 yX7_power]
def wsX7_like_r2 : List Cond := [Cond.static yX7_power, Cond.code yX7_power cX7_power 4 (some .int), Cond.methodLink RX7 49 yX7_takes, Cond.instanceMethod yX7_takes, Cond.selects RX7 yX7_takes yX7_takes, Cond.code yX7_takes cX7_takes 4 none, Cond.fieldLink RX7 41 "PascalRowsModel" "takenBy" "I"]
def wsX7_like : List Cond := .code yX7_like cX7_like 6 (some .int) :: ((wsX7_like_r1 ++ wsX7_like_r2) ++ wsX70)
def wsX7_scaled_r1 : List Cond := [Cond.constantLong RX7 174 (32), Cond.constantLong RX7 180 (9), Cond.methodLink RX7 55 yX7_isIn, Cond.static yX7_isIn, Cond.initialized RX7, Cond.code yX7_isIn cX7_isIn 6 (some .boolean), Cond.methodLink RX7 176 yX7_areLike, Cond.instanceMethod yX7_areLike, Cond.selects RX7 yX7_areLike yX7_areLike, Cond.code yX7_areLike cX7_areLike 9 (some .boolean), Cond.methodLink RX7 62 yX7_remainder, Cond.instanceMethod yX7_remainder, Cond.selects RX7 yX7_remainder yX7_remainder, Cond.code yX7_remainder cX7_remainder 3 (some .int), Cond.constantLong RX7 53 (127), Cond.fieldLink RX7 21 "PascalRowsModel" "triangle" "[I", Cond.methodLink RX7 45 yX7_modulus, Cond.instanceMethod yX7_modulus, Cond.selects RX7 yX7_modulus yX7_modulus, Cond.code yX7_modulus cX7_modulus 1 (some .int), Cond.fieldLink RX7 11 "PascalRowsModel" "g" "[I", Cond.methodLink RX7 37 yX7_power, Cond.static yX7_power, Cond.code yX7_power cX7_power 4 (some .int)]
def wsX7_scaled_r2 : List Cond := [Cond.methodLink RX7 49 yX7_takes, Cond.instanceMethod yX7_takes, Cond.selects RX7 yX7_takes yX7_takes, Cond.code yX7_takes cX7_takes 4 none, Cond.fieldLink RX7 41 "PascalRowsModel" "takenBy" "I"]
def wsX7_scaled : List Cond := .code yX7_scaled cX7_scaled 3 (some .int) :: ((wsX7_scaled_r1 ++ wsX7_scaled_r2) ++ wsX70)
def wsX7_see : List Cond := .code yX7_see cX7_see 5 (some .int) :: ([.fieldLink RX7 11 "PascalRowsModel" "g" "[I", .constantLong RX7 97 (2400), .methodLink RX7 83 yX7_isPlace, .static yX7_isPlace, .initialized RX7, .code yX7_isPlace cX7_isPlace 2 (some .boolean), .methodLink RX7 77 yX7_isRow, .static yX7_isRow, .code yX7_isRow cX7_isRow 1 (some .boolean), .constantLong RX7 53 (127), .methodLink RX7 55 yX7_isIn, .static yX7_isIn, .code yX7_isIn cX7_isIn 6 (some .boolean)] ++ wsX70)
def wsX7_fits : List Cond := .code yX7_fits cX7_fits 6 (some .int) :: ([.fieldLink RX7 11 "PascalRowsModel" "g" "[I", .fieldLink RX7 21 "PascalRowsModel" "triangle" "[I", .methodLink RX7 37 yX7_power, .static yX7_power, .initialized RX7, .code yX7_power cX7_power 4 (some .int), .methodLink RX7 49 yX7_takes, .instanceMethod yX7_takes, .selects RX7 yX7_takes yX7_takes, .code yX7_takes cX7_takes 4 none, .fieldLink RX7 41 "PascalRowsModel" "takenBy" "I"] ++ wsX70)
def wsX7_common : List Cond := .code yX7_common cX7_common 2 (some .int) :: ([.methodLink RX7 182 yX7_common, .static yX7_common, .initialized RX7])
def wsX7_fraction : List Cond := .code yX7_fraction cX7_fraction 3 (some .long) :: ([.methodLink RX7 182 yX7_common, .static yX7_common, .initialized RX7, .code yX7_common cX7_common 2 (some .int)])
def wsX7_odds_r1 : List Cond := [Cond.constantLong RX7 185 (-9223372036854775808), Cond.methodLink RX7 77 yX7_isRow, Cond.static yX7_isRow, Cond.initialized RX7, Cond.code yX7_isRow cX7_isRow 1 (some .boolean), Cond.constantLong RX7 53 (127), Cond.methodLink RX7 55 yX7_isIn, Cond.static yX7_isIn, Cond.code yX7_isIn cX7_isIn 6 (some .boolean), Cond.methodLink RX7 94 yX7_isKind, Cond.static yX7_isKind, Cond.code yX7_isKind cX7_isKind 1 (some .boolean), Cond.constantLong RX7 81 (4), Cond.methodLink RX7 87 yX7_tells, Cond.instanceMethod yX7_tells, Cond.selects RX7 yX7_tells yX7_tells, Cond.code yX7_tells cX7_tells 4 (some .int), Cond.methodLink RX7 62 yX7_remainder, Cond.instanceMethod yX7_remainder, Cond.selects RX7 yX7_remainder yX7_remainder, Cond.code yX7_remainder cX7_remainder 3 (some .int), Cond.fieldLink RX7 21 "PascalRowsModel" "triangle" "[I", Cond.methodLink RX7 45 yX7_modulus, Cond.instanceMethod yX7_modulus]
def wsX7_odds_r2 : List Cond := [Cond.selects RX7 yX7_modulus yX7_modulus, Cond.code yX7_modulus cX7_modulus 1 (some .int), Cond.fieldLink RX7 11 "PascalRowsModel" "g" "[I", Cond.methodLink RX7 37 yX7_power, Cond.static yX7_power, Cond.code yX7_power cX7_power 4 (some .int), Cond.methodLink RX7 49 yX7_takes, Cond.instanceMethod yX7_takes, Cond.selects RX7 yX7_takes yX7_takes, Cond.code yX7_takes cX7_takes 4 none, Cond.fieldLink RX7 41 "PascalRowsModel" "takenBy" "I", Cond.methodLink RX7 65 yX7_lucas, Cond.instanceMethod yX7_lucas, Cond.selects RX7 yX7_lucas yX7_lucas, Cond.code yX7_lucas cX7_lucas 6 (some .int), Cond.methodLink RX7 59 yX7_small, Cond.static yX7_small, Cond.code yX7_small cX7_small 4 (some .int), Cond.methodLink RX7 68 yX7_carries, Cond.instanceMethod yX7_carries, Cond.selects RX7 yX7_carries yX7_carries, Cond.code yX7_carries cX7_carries 8 (some .int), Cond.methodLink RX7 71 yX7_legendre, Cond.instanceMethod yX7_legendre]
def wsX7_odds_r3 : List Cond := [Cond.selects RX7 yX7_legendre yX7_legendre, Cond.code yX7_legendre cX7_legendre 5 (some .int), Cond.methodLink RX7 74 yX7_within, Cond.instanceMethod yX7_within, Cond.selects RX7 yX7_within yX7_within, Cond.code yX7_within cX7_within 5 (some .int), Cond.methodLink RX7 187 yX7_fraction, Cond.static yX7_fraction, Cond.code yX7_fraction cX7_fraction 3 (some .long), Cond.methodLink RX7 182 yX7_common, Cond.static yX7_common, Cond.code yX7_common cX7_common 2 (some .int)]
def wsX7_odds : List Cond := .code yX7_odds cX7_odds 7 (some .long) :: ((wsX7_odds_r1 ++ (wsX7_odds_r2 ++ wsX7_odds_r3)) ++ wsX70)
def wsX7_mean_r1 : List Cond := [Cond.constantLong RX7 185 (-9223372036854775808), Cond.methodLink RX7 77 yX7_isRow, Cond.static yX7_isRow, Cond.initialized RX7, Cond.code yX7_isRow cX7_isRow 1 (some .boolean), Cond.constantLong RX7 53 (127), Cond.methodLink RX7 55 yX7_isIn, Cond.static yX7_isIn, Cond.code yX7_isIn cX7_isIn 6 (some .boolean), Cond.methodLink RX7 162 yX7_sumOf, Cond.instanceMethod yX7_sumOf, Cond.selects RX7 yX7_sumOf yX7_sumOf, Cond.code yX7_sumOf cX7_sumOf 4 (some .int), Cond.methodLink RX7 62 yX7_remainder, Cond.instanceMethod yX7_remainder, Cond.selects RX7 yX7_remainder yX7_remainder, Cond.code yX7_remainder cX7_remainder 3 (some .int), Cond.fieldLink RX7 21 "PascalRowsModel" "triangle" "[I", Cond.methodLink RX7 45 yX7_modulus, Cond.instanceMethod yX7_modulus, Cond.selects RX7 yX7_modulus yX7_modulus, Cond.code yX7_modulus cX7_modulus 1 (some .int), Cond.fieldLink RX7 11 "PascalRowsModel" "g" "[I", Cond.methodLink RX7 37 yX7_power]
def wsX7_mean_r2 : List Cond := [Cond.static yX7_power, Cond.code yX7_power cX7_power 4 (some .int), Cond.methodLink RX7 49 yX7_takes, Cond.instanceMethod yX7_takes, Cond.selects RX7 yX7_takes yX7_takes, Cond.code yX7_takes cX7_takes 4 none, Cond.fieldLink RX7 41 "PascalRowsModel" "takenBy" "I", Cond.methodLink RX7 187 yX7_fraction, Cond.static yX7_fraction, Cond.code yX7_fraction cX7_fraction 3 (some .long), Cond.methodLink RX7 182 yX7_common, Cond.static yX7_common, Cond.code yX7_common cX7_common 2 (some .int)]
def wsX7_mean : List Cond := .code yX7_mean cX7_mean 3 (some .long) :: ((wsX7_mean_r1 ++ wsX7_mean_r2) ++ wsX70)
def wsX7_event : List Cond := .code yX7_event cX7_event 3 (some .int) :: ([.fieldLink RX7 11 "PascalRowsModel" "g" "[I", .constantLong RX7 160 (3), .constantLong RX7 81 (4), .constantLong RX7 191 (99), .constantLong RX7 193 (5), .methodLink RX7 55 yX7_isIn, .static yX7_isIn, .initialized RX7, .code yX7_isIn cX7_isIn 6 (some .boolean)] ++ wsX70)
def wsX7_happens : List Cond := .code yX7_happens cX7_happens 4 none :: ([.fieldLink RX7 11 "PascalRowsModel" "g" "[I", .methodLink RX7 195 Lib.Math.min.name, .static Lib.Math.min.name, .initialized "java/lang/Math", .code Lib.Math.min.name Lib.Math.min.code 2 (some .int)] ++ wsX70)
def wsX7_after_r1 : List Cond := [Cond.constantLong RX7 170 (2), Cond.fieldLink RX7 11 "PascalRowsModel" "g" "[I", Cond.fieldLink RX7 18 "PascalRowsModel" "was" "[I", Cond.methodLink RX7 55 yX7_isIn, Cond.static yX7_isIn, Cond.initialized RX7, Cond.code yX7_isIn cX7_isIn 6 (some .boolean), Cond.methodLink RX7 198 yX7_copies, Cond.static yX7_copies, Cond.code yX7_copies cX7_copies 3 none, Cond.methodLink RX7 202 yX7_happens, Cond.instanceMethod yX7_happens, Cond.selects RX7 yX7_happens yX7_happens, Cond.code yX7_happens cX7_happens 4 none, Cond.methodLink RX7 195 Lib.Math.min.name, Cond.static Lib.Math.min.name, Cond.initialized "java/lang/Math", Cond.code Lib.Math.min.name Lib.Math.min.code 2 (some .int), Cond.methodLink RX7 152 yX7_markedInWindow, Cond.instanceMethod yX7_markedInWindow, Cond.selects RX7 yX7_markedInWindow yX7_markedInWindow, Cond.code yX7_markedInWindow cX7_markedInWindow 4 (some .int), Cond.methodLink RX7 149 yX7_isMarked, Cond.instanceMethod yX7_isMarked]
def wsX7_after_r2 : List Cond := [Cond.selects RX7 yX7_isMarked yX7_isMarked, Cond.code yX7_isMarked cX7_isMarked 5 (some .boolean), Cond.methodLink RX7 83 yX7_isPlace, Cond.static yX7_isPlace, Cond.code yX7_isPlace cX7_isPlace 2 (some .boolean), Cond.methodLink RX7 77 yX7_isRow, Cond.static yX7_isRow, Cond.code yX7_isRow cX7_isRow 1 (some .boolean), Cond.constantLong RX7 53 (127), Cond.methodLink RX7 87 yX7_tells, Cond.instanceMethod yX7_tells, Cond.selects RX7 yX7_tells yX7_tells, Cond.code yX7_tells cX7_tells 4 (some .int), Cond.methodLink RX7 62 yX7_remainder, Cond.instanceMethod yX7_remainder, Cond.selects RX7 yX7_remainder yX7_remainder, Cond.code yX7_remainder cX7_remainder 3 (some .int), Cond.fieldLink RX7 21 "PascalRowsModel" "triangle" "[I", Cond.methodLink RX7 45 yX7_modulus, Cond.instanceMethod yX7_modulus, Cond.selects RX7 yX7_modulus yX7_modulus, Cond.code yX7_modulus cX7_modulus 1 (some .int), Cond.methodLink RX7 37 yX7_power, Cond.static yX7_power]
def wsX7_after_r3 : List Cond := [Cond.code yX7_power cX7_power 4 (some .int), Cond.methodLink RX7 49 yX7_takes, Cond.instanceMethod yX7_takes, Cond.selects RX7 yX7_takes yX7_takes, Cond.code yX7_takes cX7_takes 4 none, Cond.fieldLink RX7 41 "PascalRowsModel" "takenBy" "I", Cond.methodLink RX7 65 yX7_lucas, Cond.instanceMethod yX7_lucas, Cond.selects RX7 yX7_lucas yX7_lucas, Cond.code yX7_lucas cX7_lucas 6 (some .int), Cond.methodLink RX7 59 yX7_small, Cond.static yX7_small, Cond.code yX7_small cX7_small 4 (some .int), Cond.methodLink RX7 68 yX7_carries, Cond.instanceMethod yX7_carries, Cond.selects RX7 yX7_carries yX7_carries, Cond.code yX7_carries cX7_carries 8 (some .int), Cond.methodLink RX7 71 yX7_legendre, Cond.instanceMethod yX7_legendre, Cond.selects RX7 yX7_legendre yX7_legendre, Cond.code yX7_legendre cX7_legendre 5 (some .int), Cond.methodLink RX7 74 yX7_within, Cond.instanceMethod yX7_within, Cond.selects RX7 yX7_within yX7_within]
def wsX7_after_r4 : List Cond := [Cond.code yX7_within cX7_within 5 (some .int)]
def wsX7_after : List Cond := .code yX7_after cX7_after 3 (some .int) :: ((wsX7_after_r1 ++ (wsX7_after_r2 ++ (wsX7_after_r3 ++ wsX7_after_r4))) ++ wsX70)
def wsX7_book : List Cond := .code yX7_book cX7_book 3 (some .int) :: ([.fieldLink RX7 11 "PascalRowsModel" "g" "[I", .constantLong RX7 97 (2400), .methodLink RX7 77 yX7_isRow, .static yX7_isRow, .initialized RX7, .code yX7_isRow cX7_isRow 1 (some .boolean), .constantLong RX7 53 (127), .methodLink RX7 55 yX7_isIn, .static yX7_isIn, .code yX7_isIn cX7_isIn 6 (some .boolean)] ++ wsX70)
def wsX7_looked : List Cond := .code yX7_looked cX7_looked 2 (some .int) :: ([.fieldLink RX7 11 "PascalRowsModel" "g" "[I", .methodLink RX7 62 yX7_remainder, .instanceMethod yX7_remainder, .selects RX7 yX7_remainder yX7_remainder, .initialized RX7, .code yX7_remainder cX7_remainder 3 (some .int), .constantLong RX7 53 (127), .fieldLink RX7 21 "PascalRowsModel" "triangle" "[I", .methodLink RX7 45 yX7_modulus, .instanceMethod yX7_modulus, .selects RX7 yX7_modulus yX7_modulus, .code yX7_modulus cX7_modulus 1 (some .int), .methodLink RX7 37 yX7_power, .static yX7_power, .code yX7_power cX7_power 4 (some .int), .methodLink RX7 49 yX7_takes, .instanceMethod yX7_takes, .selects RX7 yX7_takes yX7_takes, .code yX7_takes cX7_takes 4 none, .fieldLink RX7 41 "PascalRowsModel" "takenBy" "I", .methodLink RX7 55 yX7_isIn, .static yX7_isIn, .code yX7_isIn cX7_isIn 6 (some .boolean)] ++ wsX70)
def wsX7_isTape : List Cond := .code yX7_isTape cX7_isTape 1 (some .boolean) :: ([.constantLong RX7 193 (5), .methodLink RX7 55 yX7_isIn, .static yX7_isIn, .initialized RX7, .code yX7_isIn cX7_isIn 6 (some .boolean)])
def wsX7_isItem : List Cond := .code yX7_isItem cX7_isItem 3 (some .boolean) :: ([.fieldLink RX7 30 "PascalRowsModel" "size" "[I", .methodLink RX7 55 yX7_isIn, .static yX7_isIn, .initialized RX7, .code yX7_isIn cX7_isIn 6 (some .boolean)] ++ wsX70)
def wsX7_judge_r1 : List Cond := [Cond.fieldLink RX7 27 "PascalRowsModel" "sort" "[I", Cond.fieldLink RX7 30 "PascalRowsModel" "size" "[I", Cond.fieldLink RX7 33 "PascalRowsModel" "items" "[J", Cond.methodLink RX7 77 yX7_isRow, Cond.static yX7_isRow, Cond.initialized RX7, Cond.code yX7_isRow cX7_isRow 1 (some .boolean), Cond.constantLong RX7 53 (127), Cond.methodLink RX7 55 yX7_isIn, Cond.static yX7_isIn, Cond.code yX7_isIn cX7_isIn 6 (some .boolean), Cond.methodLink RX7 206 yX7_isTape, Cond.static yX7_isTape, Cond.code yX7_isTape cX7_isTape 1 (some .boolean), Cond.constantLong RX7 193 (5), Cond.methodLink RX7 62 yX7_remainder, Cond.instanceMethod yX7_remainder, Cond.selects RX7 yX7_remainder yX7_remainder, Cond.code yX7_remainder cX7_remainder 3 (some .int), Cond.fieldLink RX7 21 "PascalRowsModel" "triangle" "[I", Cond.methodLink RX7 45 yX7_modulus, Cond.instanceMethod yX7_modulus, Cond.selects RX7 yX7_modulus yX7_modulus, Cond.code yX7_modulus cX7_modulus 1 (some .int)]
def wsX7_judge_r2 : List Cond := [Cond.fieldLink RX7 11 "PascalRowsModel" "g" "[I", Cond.methodLink RX7 37 yX7_power, Cond.static yX7_power, Cond.code yX7_power cX7_power 4 (some .int), Cond.methodLink RX7 49 yX7_takes, Cond.instanceMethod yX7_takes, Cond.selects RX7 yX7_takes yX7_takes, Cond.code yX7_takes cX7_takes 4 none, Cond.fieldLink RX7 41 "PascalRowsModel" "takenBy" "I"]
def wsX7_judge : List Cond := .code yX7_judge cX7_judge 5 (some .int) :: ((wsX7_judge_r1 ++ wsX7_judge_r2) ++ wsX70)
def wsX7_image : List Cond := .code yX7_image cX7_image 1 (some .int) :: ([.fieldLink RX7 11 "PascalRowsModel" "g" "[I", .fieldLink RX7 15 "PascalRowsModel" "kept" "[I", .fieldLink RX7 209 "PascalRowsModel" "isKept" "Z", .methodLink RX7 198 yX7_copies, .static yX7_copies, .initialized RX7, .code yX7_copies cX7_copies 3 none, .methodLink RX7 45 yX7_modulus, .instanceMethod yX7_modulus, .selects RX7 yX7_modulus yX7_modulus, .code yX7_modulus cX7_modulus 1 (some .int), .methodLink RX7 37 yX7_power, .static yX7_power, .code yX7_power cX7_power 4 (some .int)] ++ wsX70)
def wsX7_undo : List Cond := .code yX7_undo cX7_undo 1 (some .int) :: ([.fieldLink RX7 209 "PascalRowsModel" "isKept" "Z", .fieldLink RX7 15 "PascalRowsModel" "kept" "[I", .fieldLink RX7 11 "PascalRowsModel" "g" "[I", .methodLink RX7 198 yX7_copies, .static yX7_copies, .initialized RX7, .code yX7_copies cX7_copies 3 none, .methodLink RX7 45 yX7_modulus, .instanceMethod yX7_modulus, .selects RX7 yX7_modulus yX7_modulus, .code yX7_modulus cX7_modulus 1 (some .int), .methodLink RX7 37 yX7_power, .static yX7_power, .code yX7_power cX7_power 4 (some .int)] ++ wsX70)
def wsX7_count : List Cond := .code yX7_count cX7_count 2 (some .int) :: ([.fieldLink RX7 11 "PascalRowsModel" "g" "[I", .fieldLink RX7 99 "PascalRowsModel" "fed" "I"] ++ wsX70)
def wsX7_tape : List Cond := .code yX7_tape cX7_tape 5 (some .int) :: ([.constantLong RX7 213 (-1), .constantLong RX7 81 (4), .fieldLink RX7 27 "PascalRowsModel" "sort" "[I", .fieldLink RX7 30 "PascalRowsModel" "size" "[I", .fieldLink RX7 33 "PascalRowsModel" "items" "[J", .methodLink RX7 206 yX7_isTape, .static yX7_isTape, .initialized RX7, .code yX7_isTape cX7_isTape 1 (some .boolean), .constantLong RX7 193 (5), .methodLink RX7 55 yX7_isIn, .static yX7_isIn, .code yX7_isIn cX7_isIn 6 (some .boolean)] ++ wsX70)
def wsX7_lies : List Cond := .code yX7_lies cX7_lies 3 (some .long) :: ([])
def wsX7_item : List Cond := .code yX7_item cX7_item 5 (some .int) :: ([.fieldLink RX7 27 "PascalRowsModel" "sort" "[I", .fieldLink RX7 33 "PascalRowsModel" "items" "[J", .methodLink RX7 206 yX7_isTape, .static yX7_isTape, .initialized RX7, .code yX7_isTape cX7_isTape 1 (some .boolean), .constantLong RX7 193 (5), .methodLink RX7 55 yX7_isIn, .static yX7_isIn, .code yX7_isIn cX7_isIn 6 (some .boolean), .methodLink RX7 215 yX7_isItem, .instanceMethod yX7_isItem, .selects RX7 yX7_isItem yX7_isItem, .code yX7_isItem cX7_isItem 3 (some .boolean), .fieldLink RX7 30 "PascalRowsModel" "size" "[I", .methodLink RX7 218 yX7_lies, .static yX7_lies, .code yX7_lies cX7_lies 3 (some .long)] ++ wsX70)
def wsX7_peek : List Cond := .code yX7_peek cX7_peek 3 (some .long) :: ([.fieldLink RX7 33 "PascalRowsModel" "items" "[J", .constantLong RX7 185 (-9223372036854775808), .methodLink RX7 206 yX7_isTape, .static yX7_isTape, .initialized RX7, .code yX7_isTape cX7_isTape 1 (some .boolean), .constantLong RX7 193 (5), .methodLink RX7 55 yX7_isIn, .static yX7_isIn, .code yX7_isIn cX7_isIn 6 (some .boolean), .methodLink RX7 215 yX7_isItem, .instanceMethod yX7_isItem, .selects RX7 yX7_isItem yX7_isItem, .code yX7_isItem cX7_isItem 3 (some .boolean), .fieldLink RX7 30 "PascalRowsModel" "size" "[I"] ++ wsX70)
def wsX7_shift : List Cond := .code yX7_shift cX7_shift 8 (some .int) :: ([.fieldLink RX7 27 "PascalRowsModel" "sort" "[I", .fieldLink RX7 30 "PascalRowsModel" "size" "[I", .fieldLink RX7 33 "PascalRowsModel" "items" "[J", .methodLink RX7 206 yX7_isTape, .static yX7_isTape, .initialized RX7, .code yX7_isTape cX7_isTape 1 (some .boolean), .constantLong RX7 193 (5), .methodLink RX7 55 yX7_isIn, .static yX7_isIn, .code yX7_isIn cX7_isIn 6 (some .boolean)] ++ wsX70)
def wsJ9_max_7cf53 : List Cond := .code yJ9_max_7cf53 cJ9_max_7cf53 2 (some .int) :: ([])
def wsJ9_min_7cf53 : List Cond := .code yJ9_min_7cf53 cJ9_min_7cf53 2 (some .int) :: ([])
def wsL_law_r1 : List Cond := [Cond.classLink RL 7 RX6, Cond.instantiable RX6 7, Cond.initialized RX6, Cond.classLink RL 10 RX7, Cond.instantiable RX7 15, Cond.initialized RX7, Cond.constantLong RL 156 (4294967295), Cond.methodLink RL 9 yX6_init, Cond.instanceMethod yX6_init, Cond.code yX6_init cX6_init 1 none, Cond.methodLink RX6 3 objectInit, Cond.instanceMethod objectInit, Cond.code objectInit ⟨#[0xb1]⟩ 1 none, Cond.classLink RX6 9 RX5, Cond.instantiable RX5 1, Cond.initialized RX5, Cond.fieldLink RX6 12 "PascalRows" "triangle" "LPascalRows$Triangle;", Cond.classLink RX6 18 RX3, Cond.instantiable RX3 10, Cond.initialized RX3, Cond.fieldLink RX6 23 "PascalRows" "now" "LPascalRows$Setup;", Cond.fieldLink RX6 27 "PascalRows" "kept" "LPascalRows$Setup;", Cond.fieldLink RX6 30 "PascalRows" "trial" "LPascalRows$Setup;", Cond.classLink RX6 33 RX2]
def wsL_law_r2 : List Cond := [Cond.instantiable RX2 4, Cond.initialized RX2, Cond.fieldLink RX6 36 "PascalRows" "reader" "LPascalRows$Reader;", Cond.classLink RX6 40 RX4, Cond.instantiable RX4 3, Cond.initialized RX4, Cond.fieldLink RX6 43 "PascalRows" "tapes" "LPascalRows$Tapes;", Cond.methodLink RX6 11 yX5_init, Cond.instanceMethod yX5_init, Cond.code yX5_init cX5_init 6 none, Cond.methodLink RX5 3 objectInit, Cond.arrayClass .int, Cond.fieldLink RX5 9 "PascalRows$Triangle" "halves" "[I", Cond.constantLong RX5 19 (1944810000), Cond.methodLink RX5 15 yX5_cell, Cond.instanceMethod yX5_cell, Cond.selects RX5 yX5_cell yX5_cell, Cond.code yX5_cell cX5_cell 5 (some .int), Cond.methodLink RX6 20 yX3_init, Cond.instanceMethod yX3_init, Cond.code yX3_init cX3_init 2 none, Cond.methodLink RX3 3 objectInit, Cond.classLink RX3 9 RX1, Cond.instantiable RX1 2]
def wsL_law_r3 : List Cond := [Cond.initialized RX1, Cond.fieldLink RX3 16 "PascalRows$Setup" "marks" "LPascalRows$Lines;", Cond.fieldLink RX3 20 "PascalRows$Setup" "seen" "LPascalRows$Lines;", Cond.fieldLink RX3 23 "PascalRows$Setup" "events" "LPascalRows$Lines;", Cond.fieldLink RX3 26 "PascalRows$Setup" "book" "LPascalRows$Lines;", Cond.fieldLink RX3 29 "PascalRows$Setup" "p" "I", Cond.fieldLink RX3 33 "PascalRows$Setup" "e" "I", Cond.fieldLink RX3 36 "PascalRows$Setup" "modulus" "I", Cond.fieldLink RX3 39 "PascalRows$Setup" "triangle" "LPascalRows$Triangle;", Cond.methodLink RX3 13 yX1_init, Cond.instanceMethod yX1_init, Cond.code yX1_init cX1_init 2 none, Cond.methodLink RX1 3 objectInit, Cond.methodLink RX1 11 Lib.Math.min.name, Cond.static Lib.Math.min.name, Cond.initialized "java/lang/Math", Cond.code Lib.Math.min.name Lib.Math.min.code 2 (some .int), Cond.methodLink RX1 17 Lib.Math.max.name, Cond.static Lib.Math.max.name, Cond.code Lib.Math.max.name Lib.Math.max.code 2 (some .int), Cond.fieldLink RX1 20 "PascalRows$Lines" "numbers" "[I", Cond.instanceMethod yX2_init, Cond.code yX2_init cX2_init 1 none, Cond.methodLink RX2 3 objectInit]
def wsL_law_r4 : List Cond := [Cond.fieldLink RX2 11 "PascalRows$Reader" "text" "[I", Cond.classLink RX2 15 RX1, Cond.fieldLink RX2 20 "PascalRows$Reader" "clauses" "LPascalRows$Lines;", Cond.methodLink RX2 17 yX1_init, Cond.instanceMethod yX4_init, Cond.code yX4_init cX4_init 1 none, Cond.methodLink RX4 1 objectInit, Cond.fieldLink RX4 9 "PascalRows$Tapes" "sorts" "[I", Cond.fieldLink RX4 13 "PascalRows$Tapes" "lengths" "[I", Cond.arrayClass .long, Cond.fieldLink RX4 16 "PascalRows$Tapes" "items" "[J", Cond.methodLink RL 12 yX7_init, Cond.instanceMethod yX7_init, Cond.code yX7_init cX7_init 2 none, Cond.methodLink RX7 5 objectInit, Cond.fieldLink RX7 11 "PascalRowsModel" "g" "[I", Cond.fieldLink RX7 15 "PascalRowsModel" "kept" "[I", Cond.fieldLink RX7 18 "PascalRowsModel" "was" "[I", Cond.fieldLink RX7 21 "PascalRowsModel" "triangle" "[I", Cond.fieldLink RX7 24 "PascalRowsModel" "text" "[I", Cond.fieldLink RX7 27 "PascalRowsModel" "sort" "[I", Cond.fieldLink RX7 30 "PascalRowsModel" "size" "[I", Cond.fieldLink RX7 33 "PascalRowsModel" "items" "[J", Cond.methodLink RL 13 yX6_prime]
def wsL_law_r5 : List Cond := [Cond.instanceMethod yX6_prime, Cond.selects RX6 yX6_prime yX6_prime, Cond.code yX6_prime cX6_prime 3 (some .int), Cond.methodLink RX6 54 yX3_become, Cond.instanceMethod yX3_become, Cond.selects RX3 yX3_become yX3_become, Cond.code yX3_become cX3_become 3 none, Cond.methodLink RX3 43 yX0_powerOf, Cond.static yX0_powerOf, Cond.initialized RX0, Cond.code yX0_powerOf cX0_powerOf 4 (some .int), Cond.methodLink RL 17 yX7_prime, Cond.instanceMethod yX7_prime, Cond.selects RX7 yX7_prime yX7_prime, Cond.code yX7_prime cX7_prime 3 (some .int), Cond.methodLink RX7 91 yX7_isPrime, Cond.static yX7_isPrime, Cond.code yX7_isPrime cX7_isPrime 1 (some .boolean), Cond.methodLink RL 18 yX6_power, Cond.instanceMethod yX6_power, Cond.selects RX6 yX6_power yX6_power, Cond.code yX6_power cX6_power 3 (some .int), Cond.methodLink RX6 58 yX6_isWithin, Cond.static yX6_isWithin]
def wsL_law_r6 : List Cond := [Cond.code yX6_isWithin cX6_isWithin 3 (some .boolean), Cond.methodLink RL 21 yX7_power_, Cond.instanceMethod yX7_power_, Cond.selects RX7 yX7_power_ yX7_power_, Cond.code yX7_power_ cX7_power_ 3 (some .int), Cond.constantLong RX7 81 (4), Cond.methodLink RX7 55 yX7_isIn, Cond.static yX7_isIn, Cond.code yX7_isIn cX7_isIn 6 (some .boolean), Cond.methodLink RL 22 yX6_mark, Cond.instanceMethod yX6_mark, Cond.selects RX6 yX6_mark yX6_mark, Cond.code yX6_mark cX6_mark 3 (some .int), Cond.methodLink RX6 66 yX1_add, Cond.instanceMethod yX1_add, Cond.selects RX1 yX1_add yX1_add, Cond.code yX1_add cX1_add 5 (some .int), Cond.fieldLink RX1 24 "PascalRows$Lines" "size" "I", Cond.methodLink RL 26 yX7_mark, Cond.instanceMethod yX7_mark, Cond.selects RX7 yX7_mark yX7_mark, Cond.code yX7_mark cX7_mark 3 (some .int), Cond.constantLong RX7 97 (2400), Cond.methodLink RX7 94 yX7_isKind]
def wsL_law_r7 : List Cond := [Cond.static yX7_isKind, Cond.code yX7_isKind cX7_isKind 1 (some .boolean), Cond.methodLink RL 27 yX6_clear, Cond.instanceMethod yX6_clear, Cond.selects RX6 yX6_clear yX6_clear, Cond.code yX6_clear cX6_clear 2 (some .int), Cond.methodLink RX6 75 yX1_empty, Cond.instanceMethod yX1_empty, Cond.selects RX1 yX1_empty yX1_empty, Cond.code yX1_empty cX1_empty 1 none, Cond.methodLink RL 31 yX7_clear, Cond.instanceMethod yX7_clear, Cond.selects RX7 yX7_clear yX7_clear, Cond.code yX7_clear cX7_clear 2 (some .int), Cond.methodLink RL 32 yX6_window, Cond.instanceMethod yX6_window, Cond.selects RX6 yX6_window yX6_window, Cond.code yX6_window cX6_window 4 (some .int), Cond.methodLink RL 35 yX7_window, Cond.instanceMethod yX7_window, Cond.selects RX7 yX7_window yX7_window, Cond.code yX7_window cX7_window 4 (some .int), Cond.methodLink RX7 77 yX7_isRow, Cond.static yX7_isRow]
def wsL_law_r8 : List Cond := [Cond.code yX7_isRow cX7_isRow 1 (some .boolean), Cond.constantLong RX7 53 (127), Cond.methodLink RL 36 yX6_feed, Cond.instanceMethod yX6_feed, Cond.selects RX6 yX6_feed yX6_feed, Cond.code yX6_feed cX6_feed 2 (some .int), Cond.methodLink RX6 84 yX2_add, Cond.instanceMethod yX2_add, Cond.selects RX2 yX2_add yX2_add, Cond.code yX2_add cX2_add 2 (some .int), Cond.fieldLink RX2 24 "PascalRows$Reader" "length" "I", Cond.methodLink RL 39 yX7_feed, Cond.instanceMethod yX7_feed, Cond.selects RX7 yX7_feed yX7_feed, Cond.code yX7_feed cX7_feed 2 (some .int), Cond.fieldLink RX7 99 "PascalRowsModel" "fed" "I", Cond.methodLink RL 40 yX6_read, Cond.instanceMethod yX6_read, Cond.selects RX6 yX6_read yX6_read, Cond.code yX6_read cX6_read 4 (some .int), Cond.methodLink RX6 87 yX2_faultOfText, Cond.instanceMethod yX2_faultOfText, Cond.selects RX2 yX2_faultOfText yX2_faultOfText, Cond.code yX2_faultOfText cX2_faultOfText 2 (some .int)]
def wsL_law_r9 : List Cond := [Cond.fieldLink RX2 31 "PascalRows$Reader" "next" "I", Cond.methodLink RX2 28 yX1_empty, Cond.methodLink RX2 34 yX2_takeClause, Cond.instanceMethod yX2_takeClause, Cond.selects RX2 yX2_takeClause yX2_takeClause, Cond.code yX2_takeClause cX2_takeClause 4 (some .boolean), Cond.methodLink RX2 42 yX2_sign, Cond.instanceMethod yX2_sign, Cond.selects RX2 yX2_sign yX2_sign, Cond.code yX2_sign cX2_sign 1 (some .int), Cond.methodLink RX2 46 yX2_takeNumber, Cond.instanceMethod yX2_takeNumber, Cond.selects RX2 yX2_takeNumber yX2_takeNumber, Cond.code yX2_takeNumber cX2_takeNumber 5 (some .int), Cond.methodLink RX2 58 Lib.Math.max.name, Cond.methodLink RX2 38 yX2_take, Cond.instanceMethod yX2_take, Cond.selects RX2 yX2_take yX2_take, Cond.code yX2_take cX2_take 3 (some .boolean), Cond.methodLink RX2 50 yX1_add, Cond.methodLink RX6 91 yX2_emptyText, Cond.instanceMethod yX2_emptyText, Cond.selects RX2 yX2_emptyText yX2_emptyText, Cond.code yX2_emptyText cX2_emptyText 1 none]
def wsL_law_r10 : List Cond := [Cond.methodLink RX6 97 yX1_number, Cond.instanceMethod yX1_number, Cond.selects RX1 yX1_number yX1_number, Cond.code yX1_number cX1_number 4 (some .int), Cond.methodLink RX6 101 yX6_doClause, Cond.instanceMethod yX6_doClause, Cond.selects RX6 yX6_doClause yX6_doClause, Cond.code yX6_doClause cX6_doClause 4 (some .int), Cond.methodLink RX6 104 yX6_prime, Cond.methodLink RX6 107 yX6_power, Cond.methodLink RX6 110 yX6_mark, Cond.methodLink RX6 113 yX6_window, Cond.methodLink RX6 116 yX6_clear, Cond.methodLink RL 43 yX7_read, Cond.instanceMethod yX7_read, Cond.selects RX7 yX7_read yX7_read, Cond.code yX7_read cX7_read 4 (some .int), Cond.fieldLink RX7 102 "PascalRowsModel" "place" "I", Cond.methodLink RX7 143 yX7_fault, Cond.instanceMethod yX7_fault, Cond.selects RX7 yX7_fault yX7_fault, Cond.code yX7_fault cX7_fault 3 (some .int), Cond.methodLink RX7 125 yX7_readsClause, Cond.instanceMethod yX7_readsClause]
def wsL_law_r11 : List Cond := [Cond.selects RX7 yX7_readsClause yX7_readsClause, Cond.code yX7_readsClause cX7_readsClause 1 (some .boolean), Cond.fieldLink RX7 112 "PascalRowsModel" "letter" "I", Cond.fieldLink RX7 119 "PascalRowsModel" "first" "I", Cond.fieldLink RX7 122 "PascalRowsModel" "second" "I", Cond.methodLink RX7 105 yX7_here, Cond.instanceMethod yX7_here, Cond.selects RX7 yX7_here yX7_here, Cond.code yX7_here cX7_here 1 (some .int), Cond.methodLink RX7 115 yX7_readsNumber, Cond.instanceMethod yX7_readsNumber, Cond.selects RX7 yX7_readsNumber yX7_readsNumber, Cond.code yX7_readsNumber cX7_readsNumber 4 (some .int), Cond.constantLong RX7 108 (48), Cond.constantLong RX7 110 (57), Cond.methodLink RX7 146 yX7_isDone, Cond.instanceMethod yX7_isDone, Cond.selects RX7 yX7_isDone yX7_isDone, Cond.code yX7_isDone cX7_isDone 1 (some .boolean), Cond.methodLink RX7 129 yX7_prime, Cond.methodLink RX7 132 yX7_power_, Cond.methodLink RX7 134 yX7_mark, Cond.methodLink RX7 137 yX7_clear, Cond.methodLink RX7 140 yX7_window]
def wsL_law_r12 : List Cond := [Cond.methodLink RL 44 yX6_told, Cond.instanceMethod yX6_told, Cond.selects RX6 yX6_told yX6_told, Cond.code yX6_told cX6_told 2 (some .int), Cond.methodLink RX6 122 yX3_markedInWindow, Cond.instanceMethod yX3_markedInWindow, Cond.selects RX3 yX3_markedInWindow yX3_markedInWindow, Cond.code yX3_markedInWindow cX3_markedInWindow 3 (some .int), Cond.methodLink RX3 110 yX3_pictureRow, Cond.instanceMethod yX3_pictureRow, Cond.selects RX3 yX3_pictureRow yX3_pictureRow, Cond.code yX3_pictureRow cX3_pictureRow 4 (some .int), Cond.fieldLink RX3 53 "PascalRows$Setup" "windowRow" "I", Cond.fieldLink RX3 56 "PascalRows$Setup" "windowPlace" "I", Cond.methodLink RX3 107 yX3_isMarked, Cond.instanceMethod yX3_isMarked, Cond.selects RX3 yX3_isMarked yX3_isMarked, Cond.code yX3_isMarked cX3_isMarked 4 (some .boolean), Cond.static yX6_isPlace, Cond.code yX6_isPlace cX6_isPlace 2 (some .boolean), Cond.methodLink RX6 125 yX6_isRow, Cond.static yX6_isRow, Cond.code yX6_isRow cX6_isRow 1 (some .boolean), Cond.methodLink RX3 101 yX1_number]
def wsL_law_r13 : List Cond := [Cond.methodLink RX3 104 yX3_tell, Cond.instanceMethod yX3_tell, Cond.selects RX3 yX3_tell yX3_tell, Cond.code yX3_tell cX3_tell 4 (some .int), Cond.methodLink RX3 75 yX5_remainder, Cond.instanceMethod yX5_remainder, Cond.selects RX5 yX5_remainder yX5_remainder, Cond.code yX5_remainder cX5_remainder 4 (some .int), Cond.methodLink RX3 81 yX5_lucas, Cond.instanceMethod yX5_lucas, Cond.selects RX5 yX5_lucas yX5_lucas, Cond.code yX5_lucas cX5_lucas 8 (some .int), Cond.methodLink RX3 84 yX0_carries, Cond.static yX0_carries, Cond.code yX0_carries cX0_carries 8 (some .int), Cond.methodLink RX3 87 yX0_legendre, Cond.static yX0_legendre, Cond.code yX0_legendre cX0_legendre 8 (some .int), Cond.methodLink RX3 90 yX0_isCovered, Cond.static yX0_isCovered, Cond.code yX0_isCovered cX0_isCovered 6 (some .boolean), Cond.methodLink RX3 114 yJ6_bitCount_0f7a4, Cond.static yJ6_bitCount_0f7a4, Cond.initialized RJ6]
def wsL_law_r14 : List Cond := [Cond.code yJ6_bitCount_0f7a4 cJ6_bitCount_0f7a4 1 (some .int), Cond.constant RJ6 265 (1431655765), Cond.constant RJ6 266 (858993459), Cond.constant RJ6 267 (252645135), Cond.methodLink RL 47 yX7_told, Cond.instanceMethod yX7_told, Cond.selects RX7 yX7_told yX7_told, Cond.code yX7_told cX7_told 2 (some .int), Cond.methodLink RX7 45 yX7_modulus, Cond.instanceMethod yX7_modulus, Cond.selects RX7 yX7_modulus yX7_modulus, Cond.code yX7_modulus cX7_modulus 1 (some .int), Cond.methodLink RX7 37 yX7_power, Cond.static yX7_power, Cond.code yX7_power cX7_power 4 (some .int), Cond.methodLink RX7 152 yX7_markedInWindow, Cond.instanceMethod yX7_markedInWindow, Cond.selects RX7 yX7_markedInWindow yX7_markedInWindow, Cond.code yX7_markedInWindow cX7_markedInWindow 4 (some .int), Cond.methodLink RX7 149 yX7_isMarked, Cond.instanceMethod yX7_isMarked, Cond.selects RX7 yX7_isMarked yX7_isMarked, Cond.code yX7_isMarked cX7_isMarked 5 (some .boolean), Cond.methodLink RX7 83 yX7_isPlace]
def wsL_law_r15 : List Cond := [Cond.static yX7_isPlace, Cond.code yX7_isPlace cX7_isPlace 2 (some .boolean), Cond.methodLink RX7 87 yX7_tells, Cond.instanceMethod yX7_tells, Cond.selects RX7 yX7_tells yX7_tells, Cond.code yX7_tells cX7_tells 4 (some .int), Cond.methodLink RX7 62 yX7_remainder, Cond.instanceMethod yX7_remainder, Cond.selects RX7 yX7_remainder yX7_remainder, Cond.code yX7_remainder cX7_remainder 3 (some .int), Cond.methodLink RX7 49 yX7_takes, Cond.instanceMethod yX7_takes, Cond.selects RX7 yX7_takes yX7_takes, Cond.code yX7_takes cX7_takes 4 none, Cond.fieldLink RX7 41 "PascalRowsModel" "takenBy" "I", Cond.methodLink RX7 65 yX7_lucas, Cond.instanceMethod yX7_lucas, Cond.selects RX7 yX7_lucas yX7_lucas, Cond.code yX7_lucas cX7_lucas 6 (some .int), Cond.methodLink RX7 59 yX7_small, Cond.static yX7_small, Cond.code yX7_small cX7_small 4 (some .int), Cond.methodLink RX7 68 yX7_carries, Cond.instanceMethod yX7_carries]
def wsL_law_r16 : List Cond := [Cond.selects RX7 yX7_carries yX7_carries, Cond.code yX7_carries cX7_carries 8 (some .int), Cond.methodLink RX7 71 yX7_legendre, Cond.instanceMethod yX7_legendre, Cond.selects RX7 yX7_legendre yX7_legendre, Cond.code yX7_legendre cX7_legendre 5 (some .int), Cond.methodLink RX7 74 yX7_within, Cond.instanceMethod yX7_within, Cond.selects RX7 yX7_within yX7_within, Cond.code yX7_within cX7_within 5 (some .int), Cond.methodLink RL 48 yX6_markOf, Cond.instanceMethod yX6_markOf, Cond.selects RX6 yX6_markOf yX6_markOf, Cond.code yX6_markOf cX6_markOf 3 (some .int), Cond.methodLink RL 51 yX7_markOf, Cond.instanceMethod yX7_markOf, Cond.selects RX7 yX7_markOf yX7_markOf, Cond.code yX7_markOf cX7_markOf 3 (some .int), Cond.methodLink RL 52 yX6_at, Cond.instanceMethod yX6_at, Cond.selects RX6 yX6_at yX6_at, Cond.code yX6_at cX6_at 3 (some .int), Cond.methodLink RX6 129 yX3_remainder, Cond.instanceMethod yX3_remainder]
def wsL_law_r17 : List Cond := [Cond.selects RX3 yX3_remainder yX3_remainder, Cond.code yX3_remainder cX3_remainder 3 (some .int), Cond.methodLink RL 55 yX7_at, Cond.instanceMethod yX7_at, Cond.selects RX7 yX7_at yX7_at, Cond.code yX7_at cX7_at 3 (some .int), Cond.methodLink RL 56 yX6_rule, Cond.instanceMethod yX6_rule, Cond.selects RX6 yX6_rule yX6_rule, Cond.code yX6_rule cX6_rule 4 (some .int), Cond.methodLink RX6 132 yX6_isPlace, Cond.methodLink RX6 136 yX3_tell, Cond.methodLink RL 60 yX7_rule, Cond.instanceMethod yX7_rule, Cond.selects RX7 yX7_rule yX7_rule, Cond.code yX7_rule cX7_rule 4 (some .int), Cond.methodLink RL 61 yX6_marked, Cond.instanceMethod yX6_marked, Cond.selects RX6 yX6_marked yX6_marked, Cond.code yX6_marked cX6_marked 3 (some .int), Cond.methodLink RX6 139 yX3_isMarked, Cond.methodLink RL 64 yX7_marked, Cond.instanceMethod yX7_marked, Cond.selects RX7 yX7_marked yX7_marked]
def wsL_law_r18 : List Cond := [Cond.code yX7_marked cX7_marked 3 (some .int), Cond.methodLink RL 65 yX6_digit, Cond.instanceMethod yX6_digit, Cond.selects RX6 yX6_digit yX6_digit, Cond.code yX6_digit cX6_digit 4 (some .int), Cond.methodLink RX6 142 yX0_howMany, Cond.static yX0_howMany, Cond.code yX0_howMany cX0_howMany 5 (some .int), Cond.methodLink RX6 147 yX0_one, Cond.static yX0_one, Cond.code yX0_one cX0_one 5 (some .int), Cond.methodLink RL 68 yX7_digit, Cond.instanceMethod yX7_digit, Cond.selects RX7 yX7_digit yX7_digit, Cond.code yX7_digit cX7_digit 6 (some .int), Cond.constantLong RX7 155 (9999), Cond.methodLink RL 69 yX6_pure, Cond.instanceMethod yX6_pure, Cond.selects RX6 yX6_pure yX6_pure, Cond.code yX6_pure cX6_pure 3 (some .int), Cond.methodLink RX6 150 yX0_withoutPrime, Cond.static yX0_withoutPrime, Cond.code yX0_withoutPrime cX0_withoutPrime 4 (some .int), Cond.methodLink RX6 153 yX0_timesDivided]
def wsL_law_r19 : List Cond := [Cond.static yX0_timesDivided, Cond.code yX0_timesDivided cX0_timesDivided 5 (some .int), Cond.methodLink RL 72 yX7_pure, Cond.instanceMethod yX7_pure, Cond.selects RX7 yX7_pure yX7_pure, Cond.code yX7_pure cX7_pure 5 (some .int), Cond.methodLink RL 73 yX6_counted, Cond.instanceMethod yX6_counted, Cond.selects RX6 yX6_counted yX6_counted, Cond.code yX6_counted cX6_counted 3 (some .int), Cond.methodLink RX6 156 yX6_countOf, Cond.instanceMethod yX6_countOf, Cond.selects RX6 yX6_countOf yX6_countOf, Cond.code yX6_countOf cX6_countOf 5 (some .int), Cond.methodLink RL 76 yX7_counted, Cond.instanceMethod yX7_counted, Cond.selects RX7 yX7_counted yX7_counted, Cond.code yX7_counted cX7_counted 3 (some .int), Cond.methodLink RX7 157 yX7_countOf, Cond.instanceMethod yX7_countOf, Cond.selects RX7 yX7_countOf yX7_countOf, Cond.code yX7_countOf cX7_countOf 5 (some .int), Cond.methodLink RL 77 yX6_row, Cond.instanceMethod yX6_row]
def wsL_law_r20 : List Cond := [Cond.selects RX6 yX6_row yX6_row, Cond.code yX6_row cX6_row 3 (some .int), Cond.methodLink RX6 159 yX6_kindsOf, Cond.instanceMethod yX6_kindsOf, Cond.selects RX6 yX6_kindsOf yX6_kindsOf, Cond.code yX6_kindsOf cX6_kindsOf 4 (some .int), Cond.methodLink RX6 171 yX6_nextKind, Cond.instanceMethod yX6_nextKind, Cond.selects RX6 yX6_nextKind yX6_nextKind, Cond.code yX6_nextKind cX6_nextKind 6 (some .int), Cond.methodLink RX6 162 yX6_usualOf, Cond.instanceMethod yX6_usualOf, Cond.selects RX6 yX6_usualOf yX6_usualOf, Cond.code yX6_usualOf cX6_usualOf 7 (some .int), Cond.methodLink RX6 165 yX6_sumOf, Cond.instanceMethod yX6_sumOf, Cond.selects RX6 yX6_sumOf yX6_sumOf, Cond.code yX6_sumOf cX6_sumOf 4 (some .int), Cond.methodLink RX6 168 yX6_depthOf, Cond.instanceMethod yX6_depthOf, Cond.selects RX6 yX6_depthOf yX6_depthOf, Cond.code yX6_depthOf cX6_depthOf 4 (some .int), Cond.methodLink RX6 186 Lib.Math.max.name, Cond.methodLink RX6 183 yX0_carries]
def wsL_law_r21 : List Cond := [Cond.methodLink RL 80 yX7_row, Cond.instanceMethod yX7_row, Cond.selects RX7 yX7_row yX7_row, Cond.code yX7_row cX7_row 9 (some .int), Cond.constantLong RX7 160 (3), Cond.methodLink RX7 165 Lib.Math.max.name, Cond.methodLink RX7 162 yX7_sumOf, Cond.instanceMethod yX7_sumOf, Cond.selects RX7 yX7_sumOf yX7_sumOf, Cond.code yX7_sumOf cX7_sumOf 4 (some .int), Cond.methodLink RL 81 yX6_kind, Cond.instanceMethod yX6_kind, Cond.selects RX6 yX6_kind yX6_kind, Cond.code yX6_kind cX6_kind 5 (some .int), Cond.methodLink RL 84 yX7_kind, Cond.instanceMethod yX7_kind, Cond.selects RX7 yX7_kind yX7_kind, Cond.code yX7_kind cX7_kind 5 (some .int), Cond.methodLink RL 85 yX6_upTo, Cond.instanceMethod yX6_upTo, Cond.selects RX6 yX6_upTo yX6_upTo, Cond.code yX6_upTo cX6_upTo 3 (some .int), Cond.methodLink RX6 174 yX6_fullRows, Cond.instanceMethod yX6_fullRows]
def wsL_law_r22 : List Cond := [Cond.selects RX6 yX6_fullRows yX6_fullRows, Cond.code yX6_fullRows cX6_fullRows 4 (some .int), Cond.methodLink RX6 177 yX6_lastFullRow, Cond.instanceMethod yX6_lastFullRow, Cond.selects RX6 yX6_lastFullRow yX6_lastFullRow, Cond.code yX6_lastFullRow cX6_lastFullRow 3 (some .int), Cond.methodLink RX6 180 yX6_heaviestRow, Cond.instanceMethod yX6_heaviestRow, Cond.selects RX6 yX6_heaviestRow yX6_heaviestRow, Cond.code yX6_heaviestRow cX6_heaviestRow 6 (some .int), Cond.methodLink RL 88 yX7_upTo, Cond.instanceMethod yX7_upTo, Cond.selects RX7 yX7_upTo yX7_upTo, Cond.code yX7_upTo cX7_upTo 8 (some .int), Cond.constantLong RX7 170 (2), Cond.methodLink RL 89 yX6_picture, Cond.instanceMethod yX6_picture, Cond.selects RX6 yX6_picture yX6_picture, Cond.code yX6_picture cX6_picture 2 (some .int), Cond.methodLink RX6 191 yX3_pictureRow, Cond.methodLink RL 92 yX7_picture, Cond.instanceMethod yX7_picture, Cond.selects RX7 yX7_picture yX7_picture, Cond.code yX7_picture cX7_picture 4 (some .int)]
def wsL_law_r23 : List Cond := [Cond.constantLong RX7 172 (7), Cond.methodLink RL 93 yX6_like, Cond.instanceMethod yX6_like, Cond.selects RX6 yX6_like yX6_like, Cond.code yX6_like cX6_like 6 (some .int), Cond.methodLink RX6 194 yX6_areLike, Cond.instanceMethod yX6_areLike, Cond.selects RX6 yX6_areLike yX6_areLike, Cond.code yX6_areLike cX6_areLike 8 (some .boolean), Cond.methodLink RL 97 yX7_like, Cond.instanceMethod yX7_like, Cond.selects RX7 yX7_like yX7_like, Cond.code yX7_like cX7_like 6 (some .int), Cond.constantLong RX7 174 (32), Cond.methodLink RX7 176 yX7_areLike, Cond.instanceMethod yX7_areLike, Cond.selects RX7 yX7_areLike yX7_areLike, Cond.code yX7_areLike cX7_areLike 9 (some .boolean), Cond.methodLink RL 98 yX6_scaled, Cond.instanceMethod yX6_scaled, Cond.selects RX6 yX6_scaled yX6_scaled, Cond.code yX6_scaled cX6_scaled 3 (some .int), Cond.methodLink RL 101 yX7_scaled, Cond.instanceMethod yX7_scaled]
def wsL_law_r24 : List Cond := [Cond.selects RX7 yX7_scaled yX7_scaled, Cond.code yX7_scaled cX7_scaled 3 (some .int), Cond.constantLong RX7 180 (9), Cond.methodLink RL 102 yX6_see, Cond.instanceMethod yX6_see, Cond.selects RX6 yX6_see yX6_see, Cond.code yX6_see cX6_see 4 (some .int), Cond.methodLink RL 105 yX7_see, Cond.instanceMethod yX7_see, Cond.selects RX7 yX7_see yX7_see, Cond.code yX7_see cX7_see 5 (some .int), Cond.methodLink RL 106 yX6_fits, Cond.instanceMethod yX6_fits, Cond.selects RX6 yX6_fits yX6_fits, Cond.code yX6_fits cX6_fits 3 (some .int), Cond.fieldLink RX6 201 "PascalRows" "PRIMES" "[I", Cond.methodLink RX6 205 yX6_isSeenBy, Cond.instanceMethod yX6_isSeenBy, Cond.selects RX6 yX6_isSeenBy yX6_isSeenBy, Cond.code yX6_isSeenBy cX6_isSeenBy 4 (some .boolean), Cond.methodLink RX6 208 yX0_powerOf, Cond.methodLink RX6 211 yX5_remainder, Cond.methodLink RL 109 yX7_fits, Cond.instanceMethod yX7_fits]
def wsL_law_r25 : List Cond := [Cond.selects RX7 yX7_fits yX7_fits, Cond.code yX7_fits cX7_fits 6 (some .int), Cond.methodLink RL 110 yX6_odds, Cond.instanceMethod yX6_odds, Cond.selects RX6 yX6_odds yX6_odds, Cond.code yX6_odds cX6_odds 7 (some .long), Cond.constantLong RX6 213 (-9223372036854775808), Cond.methodLink RX6 215 yX6_partOfFraction, Cond.static yX6_partOfFraction, Cond.code yX6_partOfFraction cX6_partOfFraction 5 (some .int), Cond.methodLink RX6 218 yX0_commonDivisor, Cond.static yX0_commonDivisor, Cond.code yX0_commonDivisor cX0_commonDivisor 6 (some .int), Cond.methodLink RL 114 yX7_odds, Cond.instanceMethod yX7_odds, Cond.selects RX7 yX7_odds yX7_odds, Cond.code yX7_odds cX7_odds 7 (some .long), Cond.constantLong RX7 185 (-9223372036854775808), Cond.methodLink RX7 187 yX7_fraction, Cond.static yX7_fraction, Cond.code yX7_fraction cX7_fraction 3 (some .long), Cond.methodLink RX7 182 yX7_common, Cond.static yX7_common, Cond.code yX7_common cX7_common 2 (some .int)]
def wsL_law_r26 : List Cond := [Cond.methodLink RL 115 yX6_mean, Cond.instanceMethod yX6_mean, Cond.selects RX6 yX6_mean yX6_mean, Cond.code yX6_mean cX6_mean 3 (some .long), Cond.methodLink RL 119 yX7_mean, Cond.instanceMethod yX7_mean, Cond.selects RX7 yX7_mean yX7_mean, Cond.code yX7_mean cX7_mean 3 (some .long), Cond.methodLink RL 120 yX6_event, Cond.instanceMethod yX6_event, Cond.selects RX6 yX6_event yX6_event, Cond.code yX6_event cX6_event 3 (some .int), Cond.methodLink RX6 224 yX6_addEvent, Cond.instanceMethod yX6_addEvent, Cond.selects RX6 yX6_addEvent yX6_addEvent, Cond.code yX6_addEvent cX6_addEvent 5 (some .int), Cond.methodLink RL 123 yX7_event, Cond.instanceMethod yX7_event, Cond.selects RX7 yX7_event yX7_event, Cond.code yX7_event cX7_event 3 (some .int), Cond.constantLong RX7 191 (99), Cond.constantLong RX7 193 (5), Cond.methodLink RL 124 yX6_after, Cond.instanceMethod yX6_after]
def wsL_law_r27 : List Cond := [Cond.selects RX6 yX6_after yX6_after, Cond.code yX6_after cX6_after 3 (some .int), Cond.methodLink RX6 228 yX3_copyFrom, Cond.instanceMethod yX3_copyFrom, Cond.selects RX3 yX3_copyFrom yX3_copyFrom, Cond.code yX3_copyFrom cX3_copyFrom 2 none, Cond.methodLink RX3 49 yX3_become, Cond.methodLink RX3 59 yX1_copyFrom, Cond.instanceMethod yX1_copyFrom, Cond.selects RX1 yX1_copyFrom yX1_copyFrom, Cond.code yX1_copyFrom cX1_copyFrom 2 none, Cond.methodLink RX1 32 arraycopyName, Cond.native arraycopyName, Cond.static arraycopyName, Cond.initialized "java/lang/System", Cond.methodLink RX6 232 yX3_happen, Cond.instanceMethod yX3_happen, Cond.selects RX3 yX3_happen yX3_happen, Cond.code yX3_happen cX3_happen 3 none, Cond.methodLink RX3 67 Lib.Math.min.name, Cond.methodLink RX3 63 yX3_nextPrime, Cond.instanceMethod yX3_nextPrime, Cond.selects RX3 yX3_nextPrime yX3_nextPrime, Cond.code yX3_nextPrime cX3_nextPrime 1 (some .int)]
def wsL_law_r28 : List Cond := [Cond.methodLink RX3 72 yX1_remove, Cond.instanceMethod yX1_remove, Cond.selects RX1 yX1_remove yX1_remove, Cond.code yX1_remove cX1_remove 4 none, Cond.methodLink RL 127 yX7_after, Cond.instanceMethod yX7_after, Cond.selects RX7 yX7_after yX7_after, Cond.code yX7_after cX7_after 3 (some .int), Cond.methodLink RX7 198 yX7_copies, Cond.static yX7_copies, Cond.code yX7_copies cX7_copies 3 none, Cond.methodLink RX7 202 yX7_happens, Cond.instanceMethod yX7_happens, Cond.selects RX7 yX7_happens yX7_happens, Cond.code yX7_happens cX7_happens 4 none, Cond.methodLink RX7 195 Lib.Math.min.name, Cond.methodLink RL 128 yX6_book, Cond.instanceMethod yX6_book, Cond.selects RX6 yX6_book yX6_book, Cond.code yX6_book cX6_book 3 (some .int), Cond.methodLink RL 131 yX7_book, Cond.instanceMethod yX7_book, Cond.selects RX7 yX7_book yX7_book, Cond.code yX7_book cX7_book 3 (some .int)]
def wsL_law_r29 : List Cond := [Cond.methodLink RL 132 yX6_looked, Cond.instanceMethod yX6_looked, Cond.selects RX6 yX6_looked yX6_looked, Cond.code yX6_looked cX6_looked 2 (some .int), Cond.methodLink RL 135 yX7_looked, Cond.instanceMethod yX7_looked, Cond.selects RX7 yX7_looked yX7_looked, Cond.code yX7_looked cX7_looked 2 (some .int), Cond.methodLink RL 136 yX6_judge, Cond.instanceMethod yX6_judge, Cond.selects RX6 yX6_judge yX6_judge, Cond.code yX6_judge cX6_judge 7 (some .int), Cond.methodLink RX6 238 yX4_isThere, Cond.static yX4_isThere, Cond.code yX4_isThere cX4_isThere 1 (some .boolean), Cond.methodLink RX6 241 yX4_sortOf, Cond.instanceMethod yX4_sortOf, Cond.selects RX4 yX4_sortOf yX4_sortOf, Cond.code yX4_sortOf cX4_sortOf 2 (some .int), Cond.methodLink RX6 244 yX4_lengthOf, Cond.instanceMethod yX4_lengthOf, Cond.selects RX4 yX4_lengthOf yX4_lengthOf, Cond.code yX4_lengthOf cX4_lengthOf 2 (some .int), Cond.methodLink RX6 247 yX4_value]
def wsL_law_r30 : List Cond := [Cond.instanceMethod yX4_value, Cond.selects RX4 yX4_value yX4_value, Cond.code yX4_value cX4_value 4 (some .long), Cond.methodLink RX4 43 yX4_hasRun, Cond.instanceMethod yX4_hasRun, Cond.selects RX4 yX4_hasRun yX4_hasRun, Cond.code yX4_hasRun cX4_hasRun 4 (some .boolean), Cond.methodLink RX4 39 yX4_lengthOf, Cond.methodLink RL 139 yX7_judge, Cond.instanceMethod yX7_judge, Cond.selects RX7 yX7_judge yX7_judge, Cond.code yX7_judge cX7_judge 5 (some .int), Cond.methodLink RX7 206 yX7_isTape, Cond.static yX7_isTape, Cond.code yX7_isTape cX7_isTape 1 (some .boolean), Cond.methodLink RL 140 yX6_image, Cond.instanceMethod yX6_image, Cond.selects RX6 yX6_image yX6_image, Cond.code yX6_image cX6_image 1 (some .int), Cond.fieldLink RX6 251 "PascalRows" "hasImage" "Z", Cond.methodLink RL 143 yX7_image, Cond.instanceMethod yX7_image, Cond.selects RX7 yX7_image yX7_image, Cond.code yX7_image cX7_image 1 (some .int)]
def wsL_law_r31 : List Cond := [Cond.fieldLink RX7 209 "PascalRowsModel" "isKept" "Z", Cond.methodLink RL 144 yX6_undo, Cond.instanceMethod yX6_undo, Cond.selects RX6 yX6_undo yX6_undo, Cond.code yX6_undo cX6_undo 1 (some .int), Cond.methodLink RL 147 yX7_undo, Cond.instanceMethod yX7_undo, Cond.selects RX7 yX7_undo yX7_undo, Cond.code yX7_undo cX7_undo 1 (some .int), Cond.methodLink RL 148 yX6_count, Cond.instanceMethod yX6_count, Cond.selects RX6 yX6_count yX6_count, Cond.code yX6_count cX6_count 2 (some .int), Cond.methodLink RL 151 yX7_count, Cond.instanceMethod yX7_count, Cond.selects RX7 yX7_count yX7_count, Cond.code yX7_count cX7_count 2 (some .int), Cond.methodLink RL 152 yX6_tape, Cond.instanceMethod yX6_tape, Cond.selects RX6 yX6_tape yX6_tape, Cond.code yX6_tape cX6_tape 4 (some .int), Cond.methodLink RX6 258 yX4_become, Cond.instanceMethod yX4_become, Cond.selects RX4 yX4_become yX4_become]
def wsL_law_r32 : List Cond := [Cond.code yX4_become cX4_become 5 none, Cond.methodLink RX4 26 Lib.Math.min.name, Cond.methodLink RX4 32 Lib.Math.max.name, Cond.methodLink RX4 35 yX4_put, Cond.instanceMethod yX4_put, Cond.selects RX4 yX4_put yX4_put, Cond.code yX4_put cX4_put 6 none, Cond.methodLink RX4 46 yX4_sortOf, Cond.methodLink RX4 49 yX4_cutToSort, Cond.static yX4_cutToSort, Cond.code yX4_cutToSort cX4_cutToSort 3 (some .long), Cond.methodLink RL 155 yX7_tape, Cond.instanceMethod yX7_tape, Cond.selects RX7 yX7_tape yX7_tape, Cond.code yX7_tape cX7_tape 5 (some .int), Cond.constantLong RX7 213 (-1), Cond.methodLink RL 158 yX6_item, Cond.instanceMethod yX6_item, Cond.selects RX6 yX6_item yX6_item, Cond.code yX6_item cX6_item 5 (some .int), Cond.methodLink RX6 261 yX4_put, Cond.methodLink RL 162 yX7_item, Cond.instanceMethod yX7_item, Cond.selects RX7 yX7_item yX7_item]
def wsL_law_r33 : List Cond := [Cond.code yX7_item cX7_item 5 (some .int), Cond.methodLink RX7 215 yX7_isItem, Cond.instanceMethod yX7_isItem, Cond.selects RX7 yX7_isItem yX7_isItem, Cond.code yX7_isItem cX7_isItem 3 (some .boolean), Cond.methodLink RX7 218 yX7_lies, Cond.static yX7_lies, Cond.code yX7_lies cX7_lies 3 (some .long), Cond.methodLink RL 163 yX6_peek, Cond.instanceMethod yX6_peek, Cond.selects RX6 yX6_peek yX6_peek, Cond.code yX6_peek cX6_peek 3 (some .long), Cond.methodLink RL 166 yX7_peek, Cond.instanceMethod yX7_peek, Cond.selects RX7 yX7_peek yX7_peek, Cond.code yX7_peek cX7_peek 3 (some .long), Cond.methodLink RL 167 yX6_shift, Cond.instanceMethod yX6_shift, Cond.selects RX6 yX6_shift yX6_shift, Cond.code yX6_shift cX6_shift 6 (some .int), Cond.methodLink RX6 265 yX4_hasRun, Cond.methodLink RX6 268 yX4_move, Cond.instanceMethod yX4_move, Cond.selects RX4 yX4_move yX4_move]
def wsL_law_r34 : List Cond := [Cond.code yX4_move cX4_move 8 none, Cond.methodLink RX4 53 arraycopyName, Cond.methodLink RL 170 yX7_shift, Cond.instanceMethod yX7_shift, Cond.selects RX7 yX7_shift yX7_shift, Cond.code yX7_shift cX7_shift 8 (some .int)]
def wsL_law : List Cond := (wsL_law_r1 ++ (wsL_law_r2 ++ (wsL_law_r3 ++ (wsL_law_r4 ++ (wsL_law_r5 ++ (wsL_law_r6 ++ (wsL_law_r7 ++ (wsL_law_r8 ++ (wsL_law_r9 ++ (wsL_law_r10 ++ (wsL_law_r11 ++ (wsL_law_r12 ++ (wsL_law_r13 ++ (wsL_law_r14 ++ (wsL_law_r15 ++ (wsL_law_r16 ++ (wsL_law_r17 ++ (wsL_law_r18 ++ (wsL_law_r19 ++ (wsL_law_r20 ++ (wsL_law_r21 ++ (wsL_law_r22 ++ (wsL_law_r23 ++ (wsL_law_r24 ++ (wsL_law_r25 ++ (wsL_law_r26 ++ (wsL_law_r27 ++ (wsL_law_r28 ++ (wsL_law_r29 ++ (wsL_law_r30 ++ (wsL_law_r31 ++ (wsL_law_r32 ++ (wsL_law_r33 ++ wsL_law_r34))))))))))))))))))))))))))))))))) ++ wsX60 ++ wsX70 ++ wsX50 ++ wsX30 ++ wsX20 ++ wsX40 ++ wsX10 ++ ([] : List Cond)
abbrev vwCl : List vw_C := [(RX1, TX1, 2), (RX2, TX2, 4), (RX3, TX3, 10), (RX4, TX4, 3), (RX5, TX5, 1), (RX6, TX6, 7), (RX7, TX7, 15)]
end
section
/-! the law's words among the tables' words, by place -/
theorem memr_ {big : List Cond} (ws : List Cond) (ps : List Nat) (hp : ws = ps.filterMap (fun i => big[i]?)) : ∀ w ∈ ws, w ∈ big := by
  intro w hw
  rw [hp] at hw
  obtain ⟨i, -, hi⟩ := List.mem_filterMap.mp hw
  exact List.mem_of_getElem? hi
set_option maxRecDepth 20000 in
theorem lin_wsL_law_r1 : ∀ w ∈ wsL_law_r1, w ∈ lw_tbl := memr_ _ [51, 52, 40, 610, 611, 47, 948, 53, 54, 55, 56, 57, 58, 59, 60, 41, 182, 75, 76, 42, 183, 184, 185, 142] (by decide +kernel)
set_option maxRecDepth 20000 in
theorem lin_wsL_law_r2 : ∀ w ∈ wsL_law_r2, w ∈ lw_tbl := memr_ _ [143, 45, 186, 165, 166, 46, 187, 61, 62, 63, 64, 74, 70, 69, 65, 67, 0, 68, 77, 78, 79, 80, 81, 82] (by decide +kernel)
set_option maxRecDepth 20000 in
theorem lin_wsL_law_r3 : ∀ w ∈ wsL_law_r3, w ∈ lw_tbl := memr_ _ [43, 103, 105, 107, 109, 111, 113, 115, 102, 83, 84, 85, 86, 87, 88, 44, 89, 90, 91, 92, 93, 145, 146, 147] (by decide +kernel)
set_option maxRecDepth 20000 in
theorem lin_wsL_law_r4 : ∀ w ∈ wsL_law_r4, w ∈ lw_tbl := memr_ _ [150, 148, 151, 149, 168, 169, 170, 171, 172, 181, 173, 612, 613, 614, 615, 616, 617, 618, 620, 622, 628, 629, 630, 204] (by decide +kernel)
set_option maxRecDepth 20000 in
theorem lin_wsL_law_r5 : ∀ w ∈ wsL_law_r5, w ∈ lw_tbl := memr_ _ [205, 206, 207, 208, 209, 210, 211, 212, 213, 48, 214, 662, 663, 664, 665, 666, 667, 668, 215, 216, 217, 218, 219, 220] (by decide +kernel)
set_option maxRecDepth 20000 in
theorem lin_wsL_law_r6 : ∀ w ∈ wsL_law_r6, w ∈ lw_tbl := memr_ _ [221, 669, 670, 671, 672, 673, 674, 675, 676, 222, 223, 224, 225, 226, 227, 228, 229, 94, 677, 678, 679, 680, 684, 681] (by decide +kernel)
set_option maxRecDepth 20000 in
theorem lin_wsL_law_r7 : ∀ w ∈ wsL_law_r7, w ∈ lw_tbl := memr_ _ [682, 683, 230, 231, 232, 233, 234, 235, 236, 237, 685, 686, 687, 688, 238, 239, 240, 241, 689, 690, 691, 692, 693, 694] (by decide +kernel)
set_option maxRecDepth 20000 in
theorem lin_wsL_law_r8 : ∀ w ∈ wsL_law_r8, w ∈ lw_tbl := memr_ _ [695, 696, 242, 243, 244, 245, 246, 247, 248, 249, 153, 697, 698, 699, 700, 623, 250, 251, 252, 253, 254, 255, 256, 257] (by decide +kernel)
set_option maxRecDepth 20000 in
theorem lin_wsL_law_r9 : ∀ w ∈ wsL_law_r9, w ∈ lw_tbl := memr_ _ [155, 258, 259, 261, 1, 262, 263, 265, 2, 266, 267, 269, 3, 270, 272, 273, 275, 4, 276, 277, 278, 279, 280, 281] (by decide +kernel)
set_option maxRecDepth 20000 in
theorem lin_wsL_law_r10 : ∀ w ∈ wsL_law_r10, w ∈ lw_tbl := memr_ _ [282, 283, 284, 285, 287, 289, 5, 290, 291, 292, 293, 294, 295, 701, 702, 703, 704, 624, 705, 707, 19, 708, 709, 711] (by decide +kernel)
set_option maxRecDepth 20000 in
theorem lin_wsL_law_r11 : ∀ w ∈ wsL_law_r11, w ∈ lw_tbl := memr_ _ [20, 712, 625, 626, 627, 713, 715, 21, 716, 717, 719, 22, 720, 721, 722, 723, 725, 23, 726, 727, 728, 729, 730, 731] (by decide +kernel)
set_option maxRecDepth 20000 in
theorem lin_wsL_law_r12 : ∀ w ∈ wsL_law_r12, w ∈ lw_tbl := memr_ _ [296, 297, 298, 299, 300, 301, 302, 303, 304, 305, 306, 307, 117, 119, 308, 309, 310, 311, 313, 314, 315, 316, 317, 318] (by decide +kernel)
set_option maxRecDepth 20000 in
theorem lin_wsL_law_r13 : ∀ w ∈ wsL_law_r13, w ∈ lw_tbl := memr_ _ [319, 320, 321, 322, 323, 324, 325, 326, 327, 328, 329, 330, 331, 332, 333, 334, 335, 336, 337, 338, 339, 340, 341, 49] (by decide +kernel)
set_option maxRecDepth 20000 in
theorem lin_wsL_law_r14 : ∀ w ∈ wsL_law_r14, w ∈ lw_tbl := memr_ _ [342, 343, 344, 345, 732, 733, 734, 735, 736, 738, 24, 739, 740, 741, 742, 743, 745, 25, 746, 747, 749, 26, 750, 751] (by decide +kernel)
set_option maxRecDepth 20000 in
theorem lin_wsL_law_r15 : ∀ w ∈ wsL_law_r15, w ∈ lw_tbl := memr_ _ [752, 753, 754, 756, 27, 757, 758, 760, 28, 761, 762, 764, 29, 765, 621, 766, 768, 30, 769, 770, 771, 772, 773, 775] (by decide +kernel)
set_option maxRecDepth 20000 in
theorem lin_wsL_law_r16 : ∀ w ∈ wsL_law_r16, w ∈ lw_tbl := memr_ _ [31, 776, 777, 779, 32, 780, 781, 783, 33, 784, 346, 347, 348, 349, 785, 786, 787, 788, 350, 351, 352, 353, 354, 355] (by decide +kernel)
set_option maxRecDepth 20000 in
theorem lin_wsL_law_r17 : ∀ w ∈ wsL_law_r17, w ∈ lw_tbl := memr_ _ [356, 357, 789, 790, 791, 792, 358, 359, 360, 361, 362, 363, 793, 794, 795, 796, 364, 365, 366, 367, 368, 797, 798, 799] (by decide +kernel)
set_option maxRecDepth 20000 in
theorem lin_wsL_law_r18 : ∀ w ∈ wsL_law_r18, w ∈ lw_tbl := memr_ _ [800, 369, 370, 371, 372, 373, 374, 375, 376, 377, 378, 801, 802, 803, 804, 805, 379, 380, 381, 382, 383, 384, 385, 386] (by decide +kernel)
set_option maxRecDepth 20000 in
theorem lin_wsL_law_r19 : ∀ w ∈ wsL_law_r19, w ∈ lw_tbl := memr_ _ [387, 388, 806, 807, 808, 809, 389, 390, 391, 392, 393, 395, 6, 396, 810, 811, 812, 813, 814, 816, 34, 817, 397, 398] (by decide +kernel)
set_option maxRecDepth 20000 in
theorem lin_wsL_law_r20 : ∀ w ∈ wsL_law_r20, w ∈ lw_tbl := memr_ _ [399, 400, 401, 403, 7, 404, 405, 407, 8, 408, 409, 411, 9, 412, 413, 415, 10, 416, 417, 419, 11, 420, 422, 421] (by decide +kernel)
set_option maxRecDepth 20000 in
theorem lin_wsL_law_r21 : ∀ w ∈ wsL_law_r21, w ∈ lw_tbl := memr_ _ [818, 819, 820, 821, 822, 827, 823, 825, 35, 826, 423, 424, 425, 426, 828, 829, 830, 831, 427, 428, 429, 430, 431, 433] (by decide +kernel)
set_option maxRecDepth 20000 in
theorem lin_wsL_law_r22 : ∀ w ∈ wsL_law_r22, w ∈ lw_tbl := memr_ _ [12, 434, 435, 437, 13, 438, 439, 441, 14, 442, 832, 833, 834, 835, 836, 443, 444, 445, 446, 447, 837, 838, 839, 840] (by decide +kernel)
set_option maxRecDepth 20000 in
theorem lin_wsL_law_r23 : ∀ w ∈ wsL_law_r23, w ∈ lw_tbl := memr_ _ [841, 448, 449, 450, 451, 452, 454, 15, 455, 842, 843, 844, 845, 846, 847, 849, 36, 850, 456, 457, 458, 459, 851, 852] (by decide +kernel)
set_option maxRecDepth 20000 in
theorem lin_wsL_law_r24 : ∀ w ∈ wsL_law_r24, w ∈ lw_tbl := memr_ _ [853, 854, 855, 460, 461, 462, 463, 856, 857, 858, 859, 464, 465, 466, 467, 468, 470, 472, 16, 473, 474, 475, 860, 861] (by decide +kernel)
set_option maxRecDepth 20000 in
theorem lin_wsL_law_r25 : ∀ w ∈ wsL_law_r25, w ∈ lw_tbl := memr_ _ [862, 863, 476, 477, 478, 479, 480, 481, 482, 483, 484, 485, 486, 864, 865, 866, 867, 868, 869, 870, 871, 872, 873, 874] (by decide +kernel)
set_option maxRecDepth 20000 in
theorem lin_wsL_law_r26 : ∀ w ∈ wsL_law_r26, w ∈ lw_tbl := memr_ _ [487, 488, 489, 490, 875, 876, 877, 878, 491, 492, 493, 494, 495, 497, 17, 498, 879, 880, 881, 882, 883, 884, 499, 500] (by decide +kernel)
set_option maxRecDepth 20000 in
theorem lin_wsL_law_r27 : ∀ w ∈ wsL_law_r27, w ∈ lw_tbl := memr_ _ [501, 502, 503, 504, 505, 506, 507, 508, 509, 510, 511, 512, 514, 513, 50, 515, 516, 517, 518, 523, 519, 521, 18, 522] (by decide +kernel)
set_option maxRecDepth 20000 in
theorem lin_wsL_law_r28 : ∀ w ∈ wsL_law_r28, w ∈ lw_tbl := memr_ _ [524, 525, 526, 527, 885, 886, 887, 888, 889, 890, 891, 892, 894, 37, 895, 896, 528, 529, 530, 531, 897, 898, 899, 900] (by decide +kernel)
set_option maxRecDepth 20000 in
theorem lin_wsL_law_r29 : ∀ w ∈ wsL_law_r29, w ∈ lw_tbl := memr_ _ [532, 533, 534, 535, 901, 902, 903, 904, 536, 537, 538, 539, 540, 541, 542, 544, 545, 546, 547, 548, 549, 550, 551, 552] (by decide +kernel)
set_option maxRecDepth 20000 in
theorem lin_wsL_law_r30 : ∀ w ∈ wsL_law_r30, w ∈ lw_tbl := memr_ _ [553, 554, 555, 556, 557, 558, 559, 560, 905, 906, 907, 908, 909, 910, 911, 561, 562, 563, 564, 188, 912, 913, 914, 915] (by decide +kernel)
set_option maxRecDepth 20000 in
theorem lin_wsL_law_r31 : ∀ w ∈ wsL_law_r31, w ∈ lw_tbl := memr_ _ [619, 565, 566, 567, 568, 916, 917, 918, 919, 569, 570, 571, 572, 920, 921, 922, 923, 573, 574, 575, 576, 577, 578, 579] (by decide +kernel)
set_option maxRecDepth 20000 in
theorem lin_wsL_law_r32 : ∀ w ∈ wsL_law_r32, w ∈ lw_tbl := memr_ _ [580, 581, 582, 583, 584, 585, 586, 587, 588, 589, 590, 924, 925, 926, 927, 928, 591, 592, 593, 594, 595, 929, 930, 931] (by decide +kernel)
set_option maxRecDepth 20000 in
theorem lin_wsL_law_r33 : ∀ w ∈ wsL_law_r33, w ∈ lw_tbl := memr_ _ [932, 933, 935, 38, 936, 937, 938, 939, 596, 597, 598, 599, 940, 941, 942, 943, 600, 601, 602, 603, 604, 605, 606, 607] (by decide +kernel)
set_option maxRecDepth 20000 in
theorem lin_wsL_law_r34 : ∀ w ∈ wsL_law_r34, w ∈ lw_tbl := memr_ _ [608, 609, 944, 945, 946, 947] (by decide +kernel)
set_option maxRecDepth 20000 in
theorem lin_wsX60 : ∀ w ∈ wsX60, w ∈ lw_tbl := memr_ _ [189, 191, 193, 195, 197, 199, 201] (by decide +kernel)
set_option maxRecDepth 20000 in
theorem lin_wsX70 : ∀ w ∈ wsX70, w ∈ lw_tbl := memr_ _ [631, 633, 635, 637, 639, 641, 643, 645, 647, 649, 651, 653, 655, 657, 659] (by decide +kernel)
set_option maxRecDepth 20000 in
theorem lin_wsX50 : ∀ w ∈ wsX50, w ∈ lw_tbl := memr_ _ [71] (by decide +kernel)
set_option maxRecDepth 20000 in
theorem lin_wsX30 : ∀ w ∈ wsX30, w ∈ lw_tbl := memr_ _ [121, 123, 125, 127, 129, 131, 133, 135, 137, 139] (by decide +kernel)
set_option maxRecDepth 20000 in
theorem lin_wsX20 : ∀ w ∈ wsX20, w ∈ lw_tbl := memr_ _ [156, 158, 160, 162] (by decide +kernel)
set_option maxRecDepth 20000 in
theorem lin_wsX40 : ∀ w ∈ wsX40, w ∈ lw_tbl := memr_ _ [174, 176, 178] (by decide +kernel)
set_option maxRecDepth 20000 in
theorem lin_wsX10 : ∀ w ∈ wsX10, w ∈ lw_tbl := memr_ _ [97, 99] (by decide +kernel)
theorem wsL_law_in : ∀ w ∈ wsL_law, w ∈ lw_tbl := (List.forall_mem_append.mpr ⟨(List.forall_mem_append.mpr ⟨(List.forall_mem_append.mpr ⟨(List.forall_mem_append.mpr ⟨(List.forall_mem_append.mpr ⟨(List.forall_mem_append.mpr ⟨(List.forall_mem_append.mpr ⟨(List.forall_mem_append.mpr ⟨(List.forall_mem_append.mpr ⟨lin_wsL_law_r1, (List.forall_mem_append.mpr ⟨lin_wsL_law_r2, (List.forall_mem_append.mpr ⟨lin_wsL_law_r3, (List.forall_mem_append.mpr ⟨lin_wsL_law_r4, (List.forall_mem_append.mpr ⟨lin_wsL_law_r5, (List.forall_mem_append.mpr ⟨lin_wsL_law_r6, (List.forall_mem_append.mpr ⟨lin_wsL_law_r7, (List.forall_mem_append.mpr ⟨lin_wsL_law_r8, (List.forall_mem_append.mpr ⟨lin_wsL_law_r9, (List.forall_mem_append.mpr ⟨lin_wsL_law_r10, (List.forall_mem_append.mpr ⟨lin_wsL_law_r11, (List.forall_mem_append.mpr ⟨lin_wsL_law_r12, (List.forall_mem_append.mpr ⟨lin_wsL_law_r13, (List.forall_mem_append.mpr ⟨lin_wsL_law_r14, (List.forall_mem_append.mpr ⟨lin_wsL_law_r15, (List.forall_mem_append.mpr ⟨lin_wsL_law_r16, (List.forall_mem_append.mpr ⟨lin_wsL_law_r17, (List.forall_mem_append.mpr ⟨lin_wsL_law_r18, (List.forall_mem_append.mpr ⟨lin_wsL_law_r19, (List.forall_mem_append.mpr ⟨lin_wsL_law_r20, (List.forall_mem_append.mpr ⟨lin_wsL_law_r21, (List.forall_mem_append.mpr ⟨lin_wsL_law_r22, (List.forall_mem_append.mpr ⟨lin_wsL_law_r23, (List.forall_mem_append.mpr ⟨lin_wsL_law_r24, (List.forall_mem_append.mpr ⟨lin_wsL_law_r25, (List.forall_mem_append.mpr ⟨lin_wsL_law_r26, (List.forall_mem_append.mpr ⟨lin_wsL_law_r27, (List.forall_mem_append.mpr ⟨lin_wsL_law_r28, (List.forall_mem_append.mpr ⟨lin_wsL_law_r29, (List.forall_mem_append.mpr ⟨lin_wsL_law_r30, (List.forall_mem_append.mpr ⟨lin_wsL_law_r31, (List.forall_mem_append.mpr ⟨lin_wsL_law_r32, (List.forall_mem_append.mpr ⟨lin_wsL_law_r33, lin_wsL_law_r34⟩)⟩)⟩)⟩)⟩)⟩)⟩)⟩)⟩)⟩)⟩)⟩)⟩)⟩)⟩)⟩)⟩)⟩)⟩)⟩)⟩)⟩)⟩)⟩)⟩)⟩)⟩)⟩)⟩)⟩)⟩)⟩)⟩), lin_wsX60⟩), lin_wsX70⟩), lin_wsX50⟩), lin_wsX30⟩), lin_wsX20⟩), lin_wsX40⟩), lin_wsX10⟩), (fun _ h => absurd h List.not_mem_nil)⟩)
theorem inX0 : ∀ w ∈ wsX00, w ∈ lw_tbl := by decide +kernel
theorem inlX1 : ∀ w ∈ wsX10, w ∈ wsL_law := fun _ h => List.mem_append_left _ (List.mem_append_right _ h)
theorem inX1 : ∀ w ∈ wsX10, w ∈ lw_tbl := fun w h => wsL_law_in w (inlX1 w h)
theorem inlX2 : ∀ w ∈ wsX20, w ∈ wsL_law := fun _ h => List.mem_append_left _ (List.mem_append_left _ (List.mem_append_left _ (List.mem_append_right _ h)))
theorem inX2 : ∀ w ∈ wsX20, w ∈ lw_tbl := fun w h => wsL_law_in w (inlX2 w h)
theorem inlX3 : ∀ w ∈ wsX30, w ∈ wsL_law := fun _ h => List.mem_append_left _ (List.mem_append_left _ (List.mem_append_left _ (List.mem_append_left _ (List.mem_append_right _ h))))
theorem inX3 : ∀ w ∈ wsX30, w ∈ lw_tbl := fun w h => wsL_law_in w (inlX3 w h)
theorem inlX4 : ∀ w ∈ wsX40, w ∈ wsL_law := fun _ h => List.mem_append_left _ (List.mem_append_left _ (List.mem_append_right _ h))
theorem inX4 : ∀ w ∈ wsX40, w ∈ lw_tbl := fun w h => wsL_law_in w (inlX4 w h)
theorem inlX5 : ∀ w ∈ wsX50, w ∈ wsL_law := fun _ h => List.mem_append_left _ (List.mem_append_left _ (List.mem_append_left _ (List.mem_append_left _ (List.mem_append_left _ (List.mem_append_right _ h)))))
theorem inX5 : ∀ w ∈ wsX50, w ∈ lw_tbl := fun w h => wsL_law_in w (inlX5 w h)
theorem inlX6 : ∀ w ∈ wsX60, w ∈ wsL_law := fun _ h => List.mem_append_left _ (List.mem_append_left _ (List.mem_append_left _ (List.mem_append_left _ (List.mem_append_left _ (List.mem_append_left _ (List.mem_append_left _ (List.mem_append_right _ h)))))))
theorem inX6 : ∀ w ∈ wsX60, w ∈ lw_tbl := fun w h => wsL_law_in w (inlX6 w h)
theorem inlX7 : ∀ w ∈ wsX70, w ∈ wsL_law := fun _ h => List.mem_append_left _ (List.mem_append_left _ (List.mem_append_left _ (List.mem_append_left _ (List.mem_append_left _ (List.mem_append_left _ (List.mem_append_right _ h))))))
theorem inX7 : ∀ w ∈ wsX70, w ∈ lw_tbl := fun w h => wsL_law_in w (inlX7 w h)
theorem inJ6 : ∀ w ∈ wsJ60, w ∈ lw_tbl := by decide +kernel
theorem inJ9 : ∀ w ∈ wsJ90, w ∈ lw_tbl := by decide +kernel
theorem inJ10 : ∀ w ∈ wsJ100, w ∈ lw_tbl := by decide +kernel
end
section
theorem dX0_powerOf_0 : decode cX0_powerOf 0 = .ok (.iconst 1, 1) := by decide +kernel
theorem dX0_powerOf_1 : decode cX0_powerOf 1 = .ok (.istore_n 2, 1) := by decide +kernel
theorem dX0_powerOf_2 : decode cX0_powerOf 2 = .ok (.iconst 0, 1) := by decide +kernel
theorem dX0_powerOf_3 : decode cX0_powerOf 3 = .ok (.istore_n 3, 1) := by decide +kernel
theorem dX0_powerOf_4 : decode cX0_powerOf 4 = .ok (.iload_n 3, 1) := by decide +kernel
theorem dX0_powerOf_5 : decode cX0_powerOf 5 = .ok (.iload_n 1, 1) := by decide +kernel
theorem dX0_powerOf_6 : decode cX0_powerOf 6 = .ok (.if_icmp .ge 13, 3) := by decide +kernel
theorem dX0_powerOf_9 : decode cX0_powerOf 9 = .ok (.iload_n 2, 1) := by decide +kernel
theorem dX0_powerOf_10 : decode cX0_powerOf 10 = .ok (.iload_n 0, 1) := by decide +kernel
theorem dX0_powerOf_11 : decode cX0_powerOf 11 = .ok (.imul, 1) := by decide +kernel
theorem dX0_powerOf_12 : decode cX0_powerOf 12 = .ok (.istore_n 2, 1) := by decide +kernel
theorem dX0_powerOf_13 : decode cX0_powerOf 13 = .ok (.iinc 3 1, 3) := by decide +kernel
theorem dX0_powerOf_16 : decode cX0_powerOf 16 = .ok (.goto (-12), 3) := by decide +kernel
theorem dX0_powerOf_19 : decode cX0_powerOf 19 = .ok (.iload_n 2, 1) := by decide +kernel
theorem dX0_powerOf_20 : decode cX0_powerOf 20 = .ok (.ireturn, 1) := by decide +kernel
theorem dX0_howMany_0 : decode cX0_howMany 0 = .ok (.iload_n 0, 1) := by decide +kernel
theorem dX0_howMany_1 : decode cX0_howMany 1 = .ok (.iconst 2, 1) := by decide +kernel
theorem dX0_howMany_2 : decode cX0_howMany 2 = .ok (.if_icmp .ge 5, 3) := by decide +kernel
theorem dX0_howMany_5 : decode cX0_howMany 5 = .ok (.iconst 0, 1) := by decide +kernel
theorem dX0_howMany_6 : decode cX0_howMany 6 = .ok (.ireturn, 1) := by decide +kernel
theorem dX0_howMany_7 : decode cX0_howMany 7 = .ok (.iconst 1, 1) := by decide +kernel
theorem dX0_howMany_8 : decode cX0_howMany 8 = .ok (.istore_n 2, 1) := by decide +kernel
theorem dX0_howMany_9 : decode cX0_howMany 9 = .ok (.iload_n 1, 1) := by decide +kernel
theorem dX0_howMany_10 : decode cX0_howMany 10 = .ok (.iload_n 0, 1) := by decide +kernel
theorem dX0_howMany_11 : decode cX0_howMany 11 = .ok (.idiv, 1) := by decide +kernel
theorem dX0_howMany_12 : decode cX0_howMany 12 = .ok (.istore_n 3, 1) := by decide +kernel
theorem dX0_howMany_13 : decode cX0_howMany 13 = .ok (.iconst 1, 1) := by decide +kernel
theorem dX0_howMany_14 : decode cX0_howMany 14 = .ok (.istore 4, 2) := by decide +kernel
theorem dX0_howMany_16 : decode cX0_howMany 16 = .ok (.iload 4, 2) := by decide +kernel
theorem dX0_howMany_18 : decode cX0_howMany 18 = .ok (.bipush 14, 2) := by decide +kernel
theorem dX0_howMany_20 : decode cX0_howMany 20 = .ok (.if_icmp .ge 20, 3) := by decide +kernel
theorem dX0_howMany_23 : decode cX0_howMany 23 = .ok (.iload_n 3, 1) := by decide +kernel
theorem dX0_howMany_24 : decode cX0_howMany 24 = .ok (.ifCond .le 16, 3) := by decide +kernel
theorem dX0_howMany_27 : decode cX0_howMany 27 = .ok (.iload_n 3, 1) := by decide +kernel
theorem dX0_howMany_28 : decode cX0_howMany 28 = .ok (.iload_n 0, 1) := by decide +kernel
theorem dX0_howMany_29 : decode cX0_howMany 29 = .ok (.idiv, 1) := by decide +kernel
theorem dX0_howMany_30 : decode cX0_howMany 30 = .ok (.istore_n 3, 1) := by decide +kernel
theorem dX0_howMany_31 : decode cX0_howMany 31 = .ok (.iinc 2 1, 3) := by decide +kernel
theorem dX0_howMany_34 : decode cX0_howMany 34 = .ok (.iinc 4 1, 3) := by decide +kernel
theorem dX0_howMany_37 : decode cX0_howMany 37 = .ok (.goto (-21), 3) := by decide +kernel
theorem dX0_howMany_40 : decode cX0_howMany 40 = .ok (.iload_n 2, 1) := by decide +kernel
theorem dX0_howMany_41 : decode cX0_howMany 41 = .ok (.ireturn, 1) := by decide +kernel
theorem dX0_one_0 : decode cX0_one 0 = .ok (.iload_n 0, 1) := by decide +kernel
theorem dX0_one_1 : decode cX0_one 1 = .ok (.iconst 2, 1) := by decide +kernel
theorem dX0_one_2 : decode cX0_one 2 = .ok (.if_icmp .ge 5, 3) := by decide +kernel
theorem dX0_one_5 : decode cX0_one 5 = .ok (.iconst 0, 1) := by decide +kernel
theorem dX0_one_6 : decode cX0_one 6 = .ok (.ireturn, 1) := by decide +kernel
theorem dX0_one_7 : decode cX0_one 7 = .ok (.iload_n 1, 1) := by decide +kernel
theorem dX0_one_8 : decode cX0_one 8 = .ok (.istore_n 3, 1) := by decide +kernel
theorem dX0_one_9 : decode cX0_one 9 = .ok (.iconst 0, 1) := by decide +kernel
theorem dX0_one_10 : decode cX0_one 10 = .ok (.istore 4, 2) := by decide +kernel
theorem dX0_one_12 : decode cX0_one 12 = .ok (.iload 4, 2) := by decide +kernel
theorem dX0_one_14 : decode cX0_one 14 = .ok (.iload_n 2, 1) := by decide +kernel
theorem dX0_one_15 : decode cX0_one 15 = .ok (.if_icmp .ge 20, 3) := by decide +kernel
theorem dX0_one_18 : decode cX0_one 18 = .ok (.iload 4, 2) := by decide +kernel
theorem dX0_one_20 : decode cX0_one 20 = .ok (.bipush 14, 2) := by decide +kernel
theorem dX0_one_22 : decode cX0_one 22 = .ok (.if_icmp .ge 13, 3) := by decide +kernel
theorem dX0_one_25 : decode cX0_one 25 = .ok (.iload_n 3, 1) := by decide +kernel
theorem dX0_one_26 : decode cX0_one 26 = .ok (.iload_n 0, 1) := by decide +kernel
theorem dX0_one_27 : decode cX0_one 27 = .ok (.idiv, 1) := by decide +kernel
theorem dX0_one_28 : decode cX0_one 28 = .ok (.istore_n 3, 1) := by decide +kernel
theorem dX0_one_29 : decode cX0_one 29 = .ok (.iinc 4 1, 3) := by decide +kernel
theorem dX0_one_32 : decode cX0_one 32 = .ok (.goto (-20), 3) := by decide +kernel
theorem dX0_one_35 : decode cX0_one 35 = .ok (.iload_n 3, 1) := by decide +kernel
theorem dX0_one_36 : decode cX0_one 36 = .ok (.iload_n 0, 1) := by decide +kernel
theorem dX0_one_37 : decode cX0_one 37 = .ok (.irem, 1) := by decide +kernel
theorem dX0_one_38 : decode cX0_one 38 = .ok (.ireturn, 1) := by decide +kernel
theorem dX0_withoutPrime_0 : decode cX0_withoutPrime 0 = .ok (.iload_n 0, 1) := by decide +kernel
theorem dX0_withoutPrime_1 : decode cX0_withoutPrime 1 = .ok (.iconst 2, 1) := by decide +kernel
theorem dX0_withoutPrime_2 : decode cX0_withoutPrime 2 = .ok (.if_icmp .ge 5, 3) := by decide +kernel
theorem dX0_withoutPrime_5 : decode cX0_withoutPrime 5 = .ok (.iconst 0, 1) := by decide +kernel
theorem dX0_withoutPrime_6 : decode cX0_withoutPrime 6 = .ok (.ireturn, 1) := by decide +kernel
theorem dX0_withoutPrime_7 : decode cX0_withoutPrime 7 = .ok (.iload_n 1, 1) := by decide +kernel
theorem dX0_withoutPrime_8 : decode cX0_withoutPrime 8 = .ok (.istore_n 2, 1) := by decide +kernel
theorem dX0_withoutPrime_9 : decode cX0_withoutPrime 9 = .ok (.iconst 0, 1) := by decide +kernel
theorem dX0_withoutPrime_10 : decode cX0_withoutPrime 10 = .ok (.istore_n 3, 1) := by decide +kernel
theorem dX0_withoutPrime_11 : decode cX0_withoutPrime 11 = .ok (.iload_n 3, 1) := by decide +kernel
theorem dX0_withoutPrime_12 : decode cX0_withoutPrime 12 = .ok (.bipush 14, 2) := by decide +kernel
theorem dX0_withoutPrime_14 : decode cX0_withoutPrime 14 = .ok (.if_icmp .ge 19, 3) := by decide +kernel
theorem dX0_withoutPrime_17 : decode cX0_withoutPrime 17 = .ok (.iload_n 2, 1) := by decide +kernel
theorem dX0_withoutPrime_18 : decode cX0_withoutPrime 18 = .ok (.iload_n 0, 1) := by decide +kernel
theorem dX0_withoutPrime_19 : decode cX0_withoutPrime 19 = .ok (.irem, 1) := by decide +kernel
theorem dX0_withoutPrime_20 : decode cX0_withoutPrime 20 = .ok (.ifCond .ne 13, 3) := by decide +kernel
theorem dX0_withoutPrime_23 : decode cX0_withoutPrime 23 = .ok (.iload_n 2, 1) := by decide +kernel
theorem dX0_withoutPrime_24 : decode cX0_withoutPrime 24 = .ok (.iload_n 0, 1) := by decide +kernel
theorem dX0_withoutPrime_25 : decode cX0_withoutPrime 25 = .ok (.idiv, 1) := by decide +kernel
theorem dX0_withoutPrime_26 : decode cX0_withoutPrime 26 = .ok (.istore_n 2, 1) := by decide +kernel
theorem dX0_withoutPrime_27 : decode cX0_withoutPrime 27 = .ok (.iinc 3 1, 3) := by decide +kernel
theorem dX0_withoutPrime_30 : decode cX0_withoutPrime 30 = .ok (.goto (-19), 3) := by decide +kernel
theorem dX0_withoutPrime_33 : decode cX0_withoutPrime 33 = .ok (.iload_n 2, 1) := by decide +kernel
theorem dX0_withoutPrime_34 : decode cX0_withoutPrime 34 = .ok (.ireturn, 1) := by decide +kernel
theorem dX0_timesDivided_0 : decode cX0_timesDivided 0 = .ok (.iload_n 0, 1) := by decide +kernel
theorem dX0_timesDivided_1 : decode cX0_timesDivided 1 = .ok (.iconst 2, 1) := by decide +kernel
theorem dX0_timesDivided_2 : decode cX0_timesDivided 2 = .ok (.if_icmp .ge 5, 3) := by decide +kernel
theorem dX0_timesDivided_5 : decode cX0_timesDivided 5 = .ok (.iconst 0, 1) := by decide +kernel
theorem dX0_timesDivided_6 : decode cX0_timesDivided 6 = .ok (.ireturn, 1) := by decide +kernel
theorem dX0_timesDivided_7 : decode cX0_timesDivided 7 = .ok (.iconst 0, 1) := by decide +kernel
theorem dX0_timesDivided_8 : decode cX0_timesDivided 8 = .ok (.istore_n 2, 1) := by decide +kernel
theorem dX0_timesDivided_9 : decode cX0_timesDivided 9 = .ok (.iload_n 1, 1) := by decide +kernel
theorem dX0_timesDivided_10 : decode cX0_timesDivided 10 = .ok (.istore_n 3, 1) := by decide +kernel
theorem dX0_timesDivided_11 : decode cX0_timesDivided 11 = .ok (.iconst 0, 1) := by decide +kernel
theorem dX0_timesDivided_12 : decode cX0_timesDivided 12 = .ok (.istore 4, 2) := by decide +kernel
theorem dX0_timesDivided_14 : decode cX0_timesDivided 14 = .ok (.iload 4, 2) := by decide +kernel
theorem dX0_timesDivided_16 : decode cX0_timesDivided 16 = .ok (.bipush 14, 2) := by decide +kernel
theorem dX0_timesDivided_18 : decode cX0_timesDivided 18 = .ok (.if_icmp .ge 22, 3) := by decide +kernel
theorem dX0_timesDivided_21 : decode cX0_timesDivided 21 = .ok (.iload_n 3, 1) := by decide +kernel
theorem dX0_timesDivided_22 : decode cX0_timesDivided 22 = .ok (.iload_n 0, 1) := by decide +kernel
theorem dX0_timesDivided_23 : decode cX0_timesDivided 23 = .ok (.irem, 1) := by decide +kernel
theorem dX0_timesDivided_24 : decode cX0_timesDivided 24 = .ok (.ifCond .ne 16, 3) := by decide +kernel
theorem dX0_timesDivided_27 : decode cX0_timesDivided 27 = .ok (.iload_n 3, 1) := by decide +kernel
theorem dX0_timesDivided_28 : decode cX0_timesDivided 28 = .ok (.iload_n 0, 1) := by decide +kernel
theorem dX0_timesDivided_29 : decode cX0_timesDivided 29 = .ok (.idiv, 1) := by decide +kernel
theorem dX0_timesDivided_30 : decode cX0_timesDivided 30 = .ok (.istore_n 3, 1) := by decide +kernel
theorem dX0_timesDivided_31 : decode cX0_timesDivided 31 = .ok (.iinc 2 1, 3) := by decide +kernel
theorem dX0_timesDivided_34 : decode cX0_timesDivided 34 = .ok (.iinc 4 1, 3) := by decide +kernel
theorem dX0_timesDivided_37 : decode cX0_timesDivided 37 = .ok (.goto (-23), 3) := by decide +kernel
theorem dX0_timesDivided_40 : decode cX0_timesDivided 40 = .ok (.iload_n 2, 1) := by decide +kernel
theorem dX0_timesDivided_41 : decode cX0_timesDivided 41 = .ok (.ireturn, 1) := by decide +kernel
theorem dX0_carries_0 : decode cX0_carries 0 = .ok (.iload_n 0, 1) := by decide +kernel
theorem dX0_carries_1 : decode cX0_carries 1 = .ok (.iconst 2, 1) := by decide +kernel
theorem dX0_carries_2 : decode cX0_carries 2 = .ok (.if_icmp .ge 5, 3) := by decide +kernel
theorem dX0_carries_5 : decode cX0_carries 5 = .ok (.iconst 0, 1) := by decide +kernel
theorem dX0_carries_6 : decode cX0_carries 6 = .ok (.ireturn, 1) := by decide +kernel
theorem dX0_carries_7 : decode cX0_carries 7 = .ok (.iload_n 2, 1) := by decide +kernel
theorem dX0_carries_8 : decode cX0_carries 8 = .ok (.istore_n 3, 1) := by decide +kernel
theorem dX0_carries_9 : decode cX0_carries 9 = .ok (.iload_n 1, 1) := by decide +kernel
theorem dX0_carries_10 : decode cX0_carries 10 = .ok (.iload_n 2, 1) := by decide +kernel
theorem dX0_carries_11 : decode cX0_carries 11 = .ok (.isub, 1) := by decide +kernel
theorem dX0_carries_12 : decode cX0_carries 12 = .ok (.istore 4, 2) := by decide +kernel
theorem dX0_carries_14 : decode cX0_carries 14 = .ok (.iconst 0, 1) := by decide +kernel
theorem dX0_carries_15 : decode cX0_carries 15 = .ok (.istore 5, 2) := by decide +kernel
theorem dX0_carries_17 : decode cX0_carries 17 = .ok (.iconst 0, 1) := by decide +kernel
theorem dX0_carries_18 : decode cX0_carries 18 = .ok (.istore 6, 2) := by decide +kernel
theorem dX0_carries_20 : decode cX0_carries 20 = .ok (.iconst 0, 1) := by decide +kernel
theorem dX0_carries_21 : decode cX0_carries 21 = .ok (.istore 7, 2) := by decide +kernel
theorem dX0_carries_23 : decode cX0_carries 23 = .ok (.iload 7, 2) := by decide +kernel
theorem dX0_carries_25 : decode cX0_carries 25 = .ok (.bipush 14, 2) := by decide +kernel
theorem dX0_carries_27 : decode cX0_carries 27 = .ok (.if_icmp .ge 57, 3) := by decide +kernel
theorem dX0_carries_30 : decode cX0_carries 30 = .ok (.iload_n 3, 1) := by decide +kernel
theorem dX0_carries_31 : decode cX0_carries 31 = .ok (.ifCond .gt 8, 3) := by decide +kernel
theorem dX0_carries_34 : decode cX0_carries 34 = .ok (.iload 4, 2) := by decide +kernel
theorem dX0_carries_36 : decode cX0_carries 36 = .ok (.ifCond .le 48, 3) := by decide +kernel
theorem dX0_carries_39 : decode cX0_carries 39 = .ok (.iload_n 3, 1) := by decide +kernel
theorem dX0_carries_40 : decode cX0_carries 40 = .ok (.iload_n 0, 1) := by decide +kernel
theorem dX0_carries_41 : decode cX0_carries 41 = .ok (.irem, 1) := by decide +kernel
theorem dX0_carries_42 : decode cX0_carries 42 = .ok (.iload 4, 2) := by decide +kernel
theorem dX0_carries_44 : decode cX0_carries 44 = .ok (.iload_n 0, 1) := by decide +kernel
theorem dX0_carries_45 : decode cX0_carries 45 = .ok (.irem, 1) := by decide +kernel
theorem dX0_carries_46 : decode cX0_carries 46 = .ok (.iadd, 1) := by decide +kernel
theorem dX0_carries_47 : decode cX0_carries 47 = .ok (.iload 5, 2) := by decide +kernel
theorem dX0_carries_49 : decode cX0_carries 49 = .ok (.iadd, 1) := by decide +kernel
theorem dX0_carries_50 : decode cX0_carries 50 = .ok (.iload_n 0, 1) := by decide +kernel
theorem dX0_carries_51 : decode cX0_carries 51 = .ok (.if_icmp .lt 7, 3) := by decide +kernel
theorem dX0_carries_54 : decode cX0_carries 54 = .ok (.iconst 1, 1) := by decide +kernel
theorem dX0_carries_55 : decode cX0_carries 55 = .ok (.goto 4, 3) := by decide +kernel
theorem dX0_carries_58 : decode cX0_carries 58 = .ok (.iconst 0, 1) := by decide +kernel
theorem dX0_carries_59 : decode cX0_carries 59 = .ok (.istore 5, 2) := by decide +kernel
theorem dX0_carries_61 : decode cX0_carries 61 = .ok (.iload 6, 2) := by decide +kernel
theorem dX0_carries_63 : decode cX0_carries 63 = .ok (.iload 5, 2) := by decide +kernel
theorem dX0_carries_65 : decode cX0_carries 65 = .ok (.iadd, 1) := by decide +kernel
theorem dX0_carries_66 : decode cX0_carries 66 = .ok (.istore 6, 2) := by decide +kernel
theorem dX0_carries_68 : decode cX0_carries 68 = .ok (.iload_n 3, 1) := by decide +kernel
theorem dX0_carries_69 : decode cX0_carries 69 = .ok (.iload_n 0, 1) := by decide +kernel
theorem dX0_carries_70 : decode cX0_carries 70 = .ok (.idiv, 1) := by decide +kernel
theorem dX0_carries_71 : decode cX0_carries 71 = .ok (.istore_n 3, 1) := by decide +kernel
theorem dX0_carries_72 : decode cX0_carries 72 = .ok (.iload 4, 2) := by decide +kernel
theorem dX0_carries_74 : decode cX0_carries 74 = .ok (.iload_n 0, 1) := by decide +kernel
theorem dX0_carries_75 : decode cX0_carries 75 = .ok (.idiv, 1) := by decide +kernel
theorem dX0_carries_76 : decode cX0_carries 76 = .ok (.istore 4, 2) := by decide +kernel
theorem dX0_carries_78 : decode cX0_carries 78 = .ok (.iinc 7 1, 3) := by decide +kernel
theorem dX0_carries_81 : decode cX0_carries 81 = .ok (.goto (-58), 3) := by decide +kernel
theorem dX0_carries_84 : decode cX0_carries 84 = .ok (.iload 6, 2) := by decide +kernel
theorem dX0_carries_86 : decode cX0_carries 86 = .ok (.ireturn, 1) := by decide +kernel
theorem dX0_legendre_0 : decode cX0_legendre 0 = .ok (.iload_n 0, 1) := by decide +kernel
theorem dX0_legendre_1 : decode cX0_legendre 1 = .ok (.iconst 2, 1) := by decide +kernel
theorem dX0_legendre_2 : decode cX0_legendre 2 = .ok (.if_icmp .ge 5, 3) := by decide +kernel
theorem dX0_legendre_5 : decode cX0_legendre 5 = .ok (.iconst 0, 1) := by decide +kernel
theorem dX0_legendre_6 : decode cX0_legendre 6 = .ok (.ireturn, 1) := by decide +kernel
theorem dX0_legendre_7 : decode cX0_legendre 7 = .ok (.iconst 0, 1) := by decide +kernel
theorem dX0_legendre_8 : decode cX0_legendre 8 = .ok (.istore_n 3, 1) := by decide +kernel
theorem dX0_legendre_9 : decode cX0_legendre 9 = .ok (.iload_n 1, 1) := by decide +kernel
theorem dX0_legendre_10 : decode cX0_legendre 10 = .ok (.iload_n 0, 1) := by decide +kernel
theorem dX0_legendre_11 : decode cX0_legendre 11 = .ok (.idiv, 1) := by decide +kernel
theorem dX0_legendre_12 : decode cX0_legendre 12 = .ok (.istore 4, 2) := by decide +kernel
theorem dX0_legendre_14 : decode cX0_legendre 14 = .ok (.iload_n 2, 1) := by decide +kernel
theorem dX0_legendre_15 : decode cX0_legendre 15 = .ok (.iload_n 0, 1) := by decide +kernel
theorem dX0_legendre_16 : decode cX0_legendre 16 = .ok (.idiv, 1) := by decide +kernel
theorem dX0_legendre_17 : decode cX0_legendre 17 = .ok (.istore 5, 2) := by decide +kernel
theorem dX0_legendre_19 : decode cX0_legendre 19 = .ok (.iload_n 1, 1) := by decide +kernel
theorem dX0_legendre_20 : decode cX0_legendre 20 = .ok (.iload_n 2, 1) := by decide +kernel
theorem dX0_legendre_21 : decode cX0_legendre 21 = .ok (.isub, 1) := by decide +kernel
theorem dX0_legendre_22 : decode cX0_legendre 22 = .ok (.iload_n 0, 1) := by decide +kernel
theorem dX0_legendre_23 : decode cX0_legendre 23 = .ok (.idiv, 1) := by decide +kernel
theorem dX0_legendre_24 : decode cX0_legendre 24 = .ok (.istore 6, 2) := by decide +kernel
theorem dX0_legendre_26 : decode cX0_legendre 26 = .ok (.iconst 0, 1) := by decide +kernel
theorem dX0_legendre_27 : decode cX0_legendre 27 = .ok (.istore 7, 2) := by decide +kernel
theorem dX0_legendre_29 : decode cX0_legendre 29 = .ok (.iload 7, 2) := by decide +kernel
theorem dX0_legendre_31 : decode cX0_legendre 31 = .ok (.bipush 14, 2) := by decide +kernel
theorem dX0_legendre_33 : decode cX0_legendre 33 = .ok (.if_icmp .ge 43, 3) := by decide +kernel
theorem dX0_legendre_36 : decode cX0_legendre 36 = .ok (.iload 4, 2) := by decide +kernel
theorem dX0_legendre_38 : decode cX0_legendre 38 = .ok (.ifCond .le 38, 3) := by decide +kernel
theorem dX0_legendre_41 : decode cX0_legendre 41 = .ok (.iload_n 3, 1) := by decide +kernel
theorem dX0_legendre_42 : decode cX0_legendre 42 = .ok (.iload 4, 2) := by decide +kernel
theorem dX0_legendre_44 : decode cX0_legendre 44 = .ok (.iload 5, 2) := by decide +kernel
theorem dX0_legendre_46 : decode cX0_legendre 46 = .ok (.isub, 1) := by decide +kernel
theorem dX0_legendre_47 : decode cX0_legendre 47 = .ok (.iload 6, 2) := by decide +kernel
theorem dX0_legendre_49 : decode cX0_legendre 49 = .ok (.isub, 1) := by decide +kernel
theorem dX0_legendre_50 : decode cX0_legendre 50 = .ok (.iadd, 1) := by decide +kernel
theorem dX0_legendre_51 : decode cX0_legendre 51 = .ok (.istore_n 3, 1) := by decide +kernel
theorem dX0_legendre_52 : decode cX0_legendre 52 = .ok (.iload 4, 2) := by decide +kernel
theorem dX0_legendre_54 : decode cX0_legendre 54 = .ok (.iload_n 0, 1) := by decide +kernel
theorem dX0_legendre_55 : decode cX0_legendre 55 = .ok (.idiv, 1) := by decide +kernel
theorem dX0_legendre_56 : decode cX0_legendre 56 = .ok (.istore 4, 2) := by decide +kernel
theorem dX0_legendre_58 : decode cX0_legendre 58 = .ok (.iload 5, 2) := by decide +kernel
theorem dX0_legendre_60 : decode cX0_legendre 60 = .ok (.iload_n 0, 1) := by decide +kernel
theorem dX0_legendre_61 : decode cX0_legendre 61 = .ok (.idiv, 1) := by decide +kernel
theorem dX0_legendre_62 : decode cX0_legendre 62 = .ok (.istore 5, 2) := by decide +kernel
theorem dX0_legendre_64 : decode cX0_legendre 64 = .ok (.iload 6, 2) := by decide +kernel
theorem dX0_legendre_66 : decode cX0_legendre 66 = .ok (.iload_n 0, 1) := by decide +kernel
theorem dX0_legendre_67 : decode cX0_legendre 67 = .ok (.idiv, 1) := by decide +kernel
theorem dX0_legendre_68 : decode cX0_legendre 68 = .ok (.istore 6, 2) := by decide +kernel
theorem dX0_legendre_70 : decode cX0_legendre 70 = .ok (.iinc 7 1, 3) := by decide +kernel
theorem dX0_legendre_73 : decode cX0_legendre 73 = .ok (.goto (-44), 3) := by decide +kernel
theorem dX0_legendre_76 : decode cX0_legendre 76 = .ok (.iload_n 3, 1) := by decide +kernel
theorem dX0_legendre_77 : decode cX0_legendre 77 = .ok (.ireturn, 1) := by decide +kernel
theorem dX0_isCovered_0 : decode cX0_isCovered 0 = .ok (.iload_n 0, 1) := by decide +kernel
theorem dX0_isCovered_1 : decode cX0_isCovered 1 = .ok (.iconst 2, 1) := by decide +kernel
theorem dX0_isCovered_2 : decode cX0_isCovered 2 = .ok (.if_icmp .ge 5, 3) := by decide +kernel
theorem dX0_isCovered_5 : decode cX0_isCovered 5 = .ok (.iconst 0, 1) := by decide +kernel
theorem dX0_isCovered_6 : decode cX0_isCovered 6 = .ok (.ireturn, 1) := by decide +kernel
theorem dX0_isCovered_7 : decode cX0_isCovered 7 = .ok (.iload_n 1, 1) := by decide +kernel
theorem dX0_isCovered_8 : decode cX0_isCovered 8 = .ok (.istore_n 3, 1) := by decide +kernel
theorem dX0_isCovered_9 : decode cX0_isCovered 9 = .ok (.iload_n 2, 1) := by decide +kernel
theorem dX0_isCovered_10 : decode cX0_isCovered 10 = .ok (.istore 4, 2) := by decide +kernel
theorem dX0_isCovered_12 : decode cX0_isCovered 12 = .ok (.iconst 0, 1) := by decide +kernel
theorem dX0_isCovered_13 : decode cX0_isCovered 13 = .ok (.istore 5, 2) := by decide +kernel
theorem dX0_isCovered_15 : decode cX0_isCovered 15 = .ok (.iload 5, 2) := by decide +kernel
theorem dX0_isCovered_17 : decode cX0_isCovered 17 = .ok (.bipush 14, 2) := by decide +kernel
theorem dX0_isCovered_19 : decode cX0_isCovered 19 = .ok (.if_icmp .ge 36, 3) := by decide +kernel
theorem dX0_isCovered_22 : decode cX0_isCovered 22 = .ok (.iload 4, 2) := by decide +kernel
theorem dX0_isCovered_24 : decode cX0_isCovered 24 = .ok (.ifCond .le 31, 3) := by decide +kernel
theorem dX0_isCovered_27 : decode cX0_isCovered 27 = .ok (.iload 4, 2) := by decide +kernel
theorem dX0_isCovered_29 : decode cX0_isCovered 29 = .ok (.iload_n 0, 1) := by decide +kernel
theorem dX0_isCovered_30 : decode cX0_isCovered 30 = .ok (.irem, 1) := by decide +kernel
theorem dX0_isCovered_31 : decode cX0_isCovered 31 = .ok (.iload_n 3, 1) := by decide +kernel
theorem dX0_isCovered_32 : decode cX0_isCovered 32 = .ok (.iload_n 0, 1) := by decide +kernel
theorem dX0_isCovered_33 : decode cX0_isCovered 33 = .ok (.irem, 1) := by decide +kernel
theorem dX0_isCovered_34 : decode cX0_isCovered 34 = .ok (.if_icmp .le 5, 3) := by decide +kernel
theorem dX0_isCovered_37 : decode cX0_isCovered 37 = .ok (.iconst 0, 1) := by decide +kernel
theorem dX0_isCovered_38 : decode cX0_isCovered 38 = .ok (.ireturn, 1) := by decide +kernel
theorem dX0_isCovered_39 : decode cX0_isCovered 39 = .ok (.iload_n 3, 1) := by decide +kernel
theorem dX0_isCovered_40 : decode cX0_isCovered 40 = .ok (.iload_n 0, 1) := by decide +kernel
theorem dX0_isCovered_41 : decode cX0_isCovered 41 = .ok (.idiv, 1) := by decide +kernel
theorem dX0_isCovered_42 : decode cX0_isCovered 42 = .ok (.istore_n 3, 1) := by decide +kernel
theorem dX0_isCovered_43 : decode cX0_isCovered 43 = .ok (.iload 4, 2) := by decide +kernel
theorem dX0_isCovered_45 : decode cX0_isCovered 45 = .ok (.iload_n 0, 1) := by decide +kernel
theorem dX0_isCovered_46 : decode cX0_isCovered 46 = .ok (.idiv, 1) := by decide +kernel
theorem dX0_isCovered_47 : decode cX0_isCovered 47 = .ok (.istore 4, 2) := by decide +kernel
theorem dX0_isCovered_49 : decode cX0_isCovered 49 = .ok (.iinc 5 1, 3) := by decide +kernel
theorem dX0_isCovered_52 : decode cX0_isCovered 52 = .ok (.goto (-37), 3) := by decide +kernel
theorem dX0_isCovered_55 : decode cX0_isCovered 55 = .ok (.iconst 1, 1) := by decide +kernel
theorem dX0_isCovered_56 : decode cX0_isCovered 56 = .ok (.ireturn, 1) := by decide +kernel
theorem dX0_commonDivisor_0 : decode cX0_commonDivisor 0 = .ok (.iload_n 0, 1) := by decide +kernel
theorem dX0_commonDivisor_1 : decode cX0_commonDivisor 1 = .ok (.istore_n 2, 1) := by decide +kernel
theorem dX0_commonDivisor_2 : decode cX0_commonDivisor 2 = .ok (.iload_n 1, 1) := by decide +kernel
theorem dX0_commonDivisor_3 : decode cX0_commonDivisor 3 = .ok (.istore_n 3, 1) := by decide +kernel
theorem dX0_commonDivisor_4 : decode cX0_commonDivisor 4 = .ok (.iconst 0, 1) := by decide +kernel
theorem dX0_commonDivisor_5 : decode cX0_commonDivisor 5 = .ok (.istore 4, 2) := by decide +kernel
theorem dX0_commonDivisor_7 : decode cX0_commonDivisor 7 = .ok (.iload 4, 2) := by decide +kernel
theorem dX0_commonDivisor_9 : decode cX0_commonDivisor 9 = .ok (.bipush 64, 2) := by decide +kernel
theorem dX0_commonDivisor_11 : decode cX0_commonDivisor 11 = .ok (.if_icmp .ge 23, 3) := by decide +kernel
theorem dX0_commonDivisor_14 : decode cX0_commonDivisor 14 = .ok (.iload_n 3, 1) := by decide +kernel
theorem dX0_commonDivisor_15 : decode cX0_commonDivisor 15 = .ok (.ifCond .le 19, 3) := by decide +kernel
theorem dX0_commonDivisor_18 : decode cX0_commonDivisor 18 = .ok (.iload_n 2, 1) := by decide +kernel
theorem dX0_commonDivisor_19 : decode cX0_commonDivisor 19 = .ok (.iload_n 3, 1) := by decide +kernel
theorem dX0_commonDivisor_20 : decode cX0_commonDivisor 20 = .ok (.irem, 1) := by decide +kernel
theorem dX0_commonDivisor_21 : decode cX0_commonDivisor 21 = .ok (.istore 5, 2) := by decide +kernel
theorem dX0_commonDivisor_23 : decode cX0_commonDivisor 23 = .ok (.iload_n 3, 1) := by decide +kernel
theorem dX0_commonDivisor_24 : decode cX0_commonDivisor 24 = .ok (.istore_n 2, 1) := by decide +kernel
theorem dX0_commonDivisor_25 : decode cX0_commonDivisor 25 = .ok (.iload 5, 2) := by decide +kernel
theorem dX0_commonDivisor_27 : decode cX0_commonDivisor 27 = .ok (.istore_n 3, 1) := by decide +kernel
theorem dX0_commonDivisor_28 : decode cX0_commonDivisor 28 = .ok (.iinc 4 1, 3) := by decide +kernel
theorem dX0_commonDivisor_31 : decode cX0_commonDivisor 31 = .ok (.goto (-24), 3) := by decide +kernel
theorem dX0_commonDivisor_34 : decode cX0_commonDivisor 34 = .ok (.iload_n 2, 1) := by decide +kernel
theorem dX0_commonDivisor_35 : decode cX0_commonDivisor 35 = .ok (.ireturn, 1) := by decide +kernel
theorem dX1_init_0 : decode cX1_init 0 = .ok (.aload_n 0, 1) := by decide +kernel
theorem dX1_init_1 : decode cX1_init 1 = .ok (.invokespecial 3, 3) := by decide +kernel
theorem dX1_init_4 : decode cX1_init 4 = .ok (.aload_n 0, 1) := by decide +kernel
theorem dX1_init_5 : decode cX1_init 5 = .ok (.iconst 3, 1) := by decide +kernel
theorem dX1_init_6 : decode cX1_init 6 = .ok (.iconst 0, 1) := by decide +kernel
theorem dX1_init_7 : decode cX1_init 7 = .ok (.iload_n 1, 1) := by decide +kernel
theorem dX1_init_8 : decode cX1_init 8 = .ok (.bipush 12, 2) := by decide +kernel
theorem dX1_init_10 : decode cX1_init 10 = .ok (.invokestatic 11, 3) := by decide +kernel
theorem dX1_init_13 : decode cX1_init 13 = .ok (.invokestatic 17, 3) := by decide +kernel
theorem dX1_init_16 : decode cX1_init 16 = .ok (.imul, 1) := by decide +kernel
theorem dX1_init_17 : decode cX1_init 17 = .ok (.newarray .int, 2) := by decide +kernel
theorem dX1_init_19 : decode cX1_init 19 = .ok (.putfield 20, 3) := by decide +kernel
theorem dX1_init_22 : decode cX1_init 22 = .ok (.return_, 1) := by decide +kernel
theorem dX1_add_0 : decode cX1_add 0 = .ok (.iconst 3, 1) := by decide +kernel
theorem dX1_add_1 : decode cX1_add 1 = .ok (.aload_n 0, 1) := by decide +kernel
theorem dX1_add_2 : decode cX1_add 2 = .ok (.getfield 24, 3) := by decide +kernel
theorem dX1_add_5 : decode cX1_add 5 = .ok (.imul, 1) := by decide +kernel
theorem dX1_add_6 : decode cX1_add 6 = .ok (.istore 4, 2) := by decide +kernel
theorem dX1_add_8 : decode cX1_add 8 = .ok (.iload 4, 2) := by decide +kernel
theorem dX1_add_10 : decode cX1_add 10 = .ok (.ifCond .lt 15, 3) := by decide +kernel
theorem dX1_add_13 : decode cX1_add 13 = .ok (.iload 4, 2) := by decide +kernel
theorem dX1_add_15 : decode cX1_add 15 = .ok (.aload_n 0, 1) := by decide +kernel
theorem dX1_add_16 : decode cX1_add 16 = .ok (.getfield 20, 3) := by decide +kernel
theorem dX1_add_19 : decode cX1_add 19 = .ok (.arraylength, 1) := by decide +kernel
theorem dX1_add_20 : decode cX1_add 20 = .ok (.iconst 3, 1) := by decide +kernel
theorem dX1_add_21 : decode cX1_add 21 = .ok (.isub, 1) := by decide +kernel
theorem dX1_add_22 : decode cX1_add 22 = .ok (.if_icmp .le 6, 3) := by decide +kernel
theorem dX1_add_25 : decode cX1_add 25 = .ok (.bipush (-4), 2) := by decide +kernel
theorem dX1_add_27 : decode cX1_add 27 = .ok (.ireturn, 1) := by decide +kernel
theorem dX1_add_28 : decode cX1_add 28 = .ok (.aload_n 0, 1) := by decide +kernel
theorem dX1_add_29 : decode cX1_add 29 = .ok (.getfield 20, 3) := by decide +kernel
theorem dX1_add_32 : decode cX1_add 32 = .ok (.iload 4, 2) := by decide +kernel
theorem dX1_add_34 : decode cX1_add 34 = .ok (.iload_n 1, 1) := by decide +kernel
theorem dX1_add_35 : decode cX1_add 35 = .ok (.iastore, 1) := by decide +kernel
theorem dX1_add_36 : decode cX1_add 36 = .ok (.aload_n 0, 1) := by decide +kernel
theorem dX1_add_37 : decode cX1_add 37 = .ok (.getfield 20, 3) := by decide +kernel
theorem dX1_add_40 : decode cX1_add 40 = .ok (.iload 4, 2) := by decide +kernel
theorem dX1_add_42 : decode cX1_add 42 = .ok (.iconst 1, 1) := by decide +kernel
theorem dX1_add_43 : decode cX1_add 43 = .ok (.iadd, 1) := by decide +kernel
theorem dX1_add_44 : decode cX1_add 44 = .ok (.iload_n 2, 1) := by decide +kernel
theorem dX1_add_45 : decode cX1_add 45 = .ok (.iastore, 1) := by decide +kernel
theorem dX1_add_46 : decode cX1_add 46 = .ok (.aload_n 0, 1) := by decide +kernel
theorem dX1_add_47 : decode cX1_add 47 = .ok (.getfield 20, 3) := by decide +kernel
theorem dX1_add_50 : decode cX1_add 50 = .ok (.iload 4, 2) := by decide +kernel
theorem dX1_add_52 : decode cX1_add 52 = .ok (.iconst 2, 1) := by decide +kernel
theorem dX1_add_53 : decode cX1_add 53 = .ok (.iadd, 1) := by decide +kernel
theorem dX1_add_54 : decode cX1_add 54 = .ok (.iload_n 3, 1) := by decide +kernel
theorem dX1_add_55 : decode cX1_add 55 = .ok (.iastore, 1) := by decide +kernel
theorem dX1_add_56 : decode cX1_add 56 = .ok (.aload_n 0, 1) := by decide +kernel
theorem dX1_add_57 : decode cX1_add 57 = .ok (.dup, 1) := by decide +kernel
theorem dX1_add_58 : decode cX1_add 58 = .ok (.getfield 24, 3) := by decide +kernel
theorem dX1_add_61 : decode cX1_add 61 = .ok (.iconst 1, 1) := by decide +kernel
theorem dX1_add_62 : decode cX1_add 62 = .ok (.iadd, 1) := by decide +kernel
theorem dX1_add_63 : decode cX1_add 63 = .ok (.putfield 24, 3) := by decide +kernel
theorem dX1_add_66 : decode cX1_add 66 = .ok (.aload_n 0, 1) := by decide +kernel
theorem dX1_add_67 : decode cX1_add 67 = .ok (.getfield 24, 3) := by decide +kernel
theorem dX1_add_70 : decode cX1_add 70 = .ok (.ireturn, 1) := by decide +kernel
set_option maxRecDepth 20000 in
theorem ggX1_number_X6_isWithin : GoodIn wsX1_number wsX6_isWithin := goodIn_r _ [5] (by decide +kernel) (by decide +kernel)
set_option maxRecDepth 20000 in
theorem gX1_number_X6_isWithin_n28 : GoodIn wsX1_number (wsX6_isWithin) := ggX1_number_X6_isWithin
theorem dX1_number_0 : decode cX1_number 0 = .ok (.iload_n 1, 1) := by decide +kernel
theorem dX1_number_1 : decode cX1_number 1 = .ok (.iconst 0, 1) := by decide +kernel
theorem dX1_number_2 : decode cX1_number 2 = .ok (.aload_n 0, 1) := by decide +kernel
theorem dX1_number_3 : decode cX1_number 3 = .ok (.getfield 24, 3) := by decide +kernel
theorem dX1_number_6 : decode cX1_number 6 = .ok (.iconst 1, 1) := by decide +kernel
theorem dX1_number_7 : decode cX1_number 7 = .ok (.isub, 1) := by decide +kernel
theorem dX1_number_8 : decode cX1_number 8 = .ok (.invokestatic 28, 3) := by decide +kernel
theorem dX1_number_11 : decode cX1_number 11 = .ok (.ifCond .eq 12, 3) := by decide +kernel
theorem dX1_number_14 : decode cX1_number 14 = .ok (.iload_n 2, 1) := by decide +kernel
theorem dX1_number_15 : decode cX1_number 15 = .ok (.iconst 0, 1) := by decide +kernel
theorem dX1_number_16 : decode cX1_number 16 = .ok (.iconst 2, 1) := by decide +kernel
theorem dX1_number_17 : decode cX1_number 17 = .ok (.invokestatic 28, 3) := by decide +kernel
theorem dX1_number_20 : decode cX1_number 20 = .ok (.ifCond .ne 5, 3) := by decide +kernel
theorem dX1_number_23 : decode cX1_number 23 = .ok (.iconst 0, 1) := by decide +kernel
theorem dX1_number_24 : decode cX1_number 24 = .ok (.ireturn, 1) := by decide +kernel
theorem dX1_number_25 : decode cX1_number 25 = .ok (.iconst 3, 1) := by decide +kernel
theorem dX1_number_26 : decode cX1_number 26 = .ok (.iload_n 1, 1) := by decide +kernel
theorem dX1_number_27 : decode cX1_number 27 = .ok (.imul, 1) := by decide +kernel
theorem dX1_number_28 : decode cX1_number 28 = .ok (.iload_n 2, 1) := by decide +kernel
theorem dX1_number_29 : decode cX1_number 29 = .ok (.iadd, 1) := by decide +kernel
theorem dX1_number_30 : decode cX1_number 30 = .ok (.istore_n 3, 1) := by decide +kernel
theorem dX1_number_31 : decode cX1_number 31 = .ok (.iload_n 3, 1) := by decide +kernel
theorem dX1_number_32 : decode cX1_number 32 = .ok (.ifCond .lt 21, 3) := by decide +kernel
theorem dX1_number_35 : decode cX1_number 35 = .ok (.iload_n 3, 1) := by decide +kernel
theorem dX1_number_36 : decode cX1_number 36 = .ok (.aload_n 0, 1) := by decide +kernel
theorem dX1_number_37 : decode cX1_number 37 = .ok (.getfield 20, 3) := by decide +kernel
theorem dX1_number_40 : decode cX1_number 40 = .ok (.arraylength, 1) := by decide +kernel
theorem dX1_number_41 : decode cX1_number 41 = .ok (.if_icmp .ge 12, 3) := by decide +kernel
theorem dX1_number_44 : decode cX1_number 44 = .ok (.aload_n 0, 1) := by decide +kernel
theorem dX1_number_45 : decode cX1_number 45 = .ok (.getfield 20, 3) := by decide +kernel
theorem dX1_number_48 : decode cX1_number 48 = .ok (.iload_n 3, 1) := by decide +kernel
theorem dX1_number_49 : decode cX1_number 49 = .ok (.iaload, 1) := by decide +kernel
theorem dX1_number_50 : decode cX1_number 50 = .ok (.goto 4, 3) := by decide +kernel
theorem dX1_number_53 : decode cX1_number 53 = .ok (.iconst 0, 1) := by decide +kernel
theorem dX1_number_54 : decode cX1_number 54 = .ok (.ireturn, 1) := by decide +kernel
set_option maxRecDepth 20000 in
theorem ggX1_remove_X6_isWithin : GoodIn wsX1_remove wsX6_isWithin := goodIn_r _ [9] (by decide +kernel) (by decide +kernel)
set_option maxRecDepth 20000 in
theorem gX1_remove_X6_isWithin_n28 : GoodIn wsX1_remove (wsX6_isWithin) := ggX1_remove_X6_isWithin
theorem dX1_remove_0 : decode cX1_remove 0 = .ok (.iload_n 1, 1) := by decide +kernel
theorem dX1_remove_1 : decode cX1_remove 1 = .ok (.iconst 0, 1) := by decide +kernel
theorem dX1_remove_2 : decode cX1_remove 2 = .ok (.aload_n 0, 1) := by decide +kernel
theorem dX1_remove_3 : decode cX1_remove 3 = .ok (.getfield 24, 3) := by decide +kernel
theorem dX1_remove_6 : decode cX1_remove 6 = .ok (.iconst 1, 1) := by decide +kernel
theorem dX1_remove_7 : decode cX1_remove 7 = .ok (.isub, 1) := by decide +kernel
theorem dX1_remove_8 : decode cX1_remove 8 = .ok (.invokestatic 28, 3) := by decide +kernel
theorem dX1_remove_11 : decode cX1_remove 11 = .ok (.ifCond .ne 4, 3) := by decide +kernel
theorem dX1_remove_14 : decode cX1_remove 14 = .ok (.return_, 1) := by decide +kernel
theorem dX1_remove_15 : decode cX1_remove 15 = .ok (.iconst 3, 1) := by decide +kernel
theorem dX1_remove_16 : decode cX1_remove 16 = .ok (.iload_n 1, 1) := by decide +kernel
theorem dX1_remove_17 : decode cX1_remove 17 = .ok (.imul, 1) := by decide +kernel
theorem dX1_remove_18 : decode cX1_remove 18 = .ok (.istore_n 2, 1) := by decide +kernel
theorem dX1_remove_19 : decode cX1_remove 19 = .ok (.iconst 3, 1) := by decide +kernel
theorem dX1_remove_20 : decode cX1_remove 20 = .ok (.aload_n 0, 1) := by decide +kernel
theorem dX1_remove_21 : decode cX1_remove 21 = .ok (.getfield 24, 3) := by decide +kernel
theorem dX1_remove_24 : decode cX1_remove 24 = .ok (.iconst 1, 1) := by decide +kernel
theorem dX1_remove_25 : decode cX1_remove 25 = .ok (.isub, 1) := by decide +kernel
theorem dX1_remove_26 : decode cX1_remove 26 = .ok (.iload_n 1, 1) := by decide +kernel
theorem dX1_remove_27 : decode cX1_remove 27 = .ok (.isub, 1) := by decide +kernel
theorem dX1_remove_28 : decode cX1_remove 28 = .ok (.imul, 1) := by decide +kernel
theorem dX1_remove_29 : decode cX1_remove 29 = .ok (.istore_n 3, 1) := by decide +kernel
theorem dX1_remove_30 : decode cX1_remove 30 = .ok (.iload_n 2, 1) := by decide +kernel
theorem dX1_remove_31 : decode cX1_remove 31 = .ok (.ifCond .lt 46, 3) := by decide +kernel
theorem dX1_remove_34 : decode cX1_remove 34 = .ok (.iload_n 3, 1) := by decide +kernel
theorem dX1_remove_35 : decode cX1_remove 35 = .ok (.ifCond .lt 42, 3) := by decide +kernel
theorem dX1_remove_38 : decode cX1_remove 38 = .ok (.iload_n 3, 1) := by decide +kernel
theorem dX1_remove_39 : decode cX1_remove 39 = .ok (.aload_n 0, 1) := by decide +kernel
theorem dX1_remove_40 : decode cX1_remove 40 = .ok (.getfield 20, 3) := by decide +kernel
theorem dX1_remove_43 : decode cX1_remove 43 = .ok (.arraylength, 1) := by decide +kernel
theorem dX1_remove_44 : decode cX1_remove 44 = .ok (.iconst 3, 1) := by decide +kernel
theorem dX1_remove_45 : decode cX1_remove 45 = .ok (.isub, 1) := by decide +kernel
theorem dX1_remove_46 : decode cX1_remove 46 = .ok (.iload_n 2, 1) := by decide +kernel
theorem dX1_remove_47 : decode cX1_remove 47 = .ok (.isub, 1) := by decide +kernel
theorem dX1_remove_48 : decode cX1_remove 48 = .ok (.if_icmp .gt 29, 3) := by decide +kernel
theorem dX1_remove_51 : decode cX1_remove 51 = .ok (.aload_n 0, 1) := by decide +kernel
theorem dX1_remove_52 : decode cX1_remove 52 = .ok (.getfield 20, 3) := by decide +kernel
theorem dX1_remove_55 : decode cX1_remove 55 = .ok (.iload_n 2, 1) := by decide +kernel
theorem dX1_remove_56 : decode cX1_remove 56 = .ok (.iconst 3, 1) := by decide +kernel
theorem dX1_remove_57 : decode cX1_remove 57 = .ok (.iadd, 1) := by decide +kernel
theorem dX1_remove_58 : decode cX1_remove 58 = .ok (.aload_n 0, 1) := by decide +kernel
theorem dX1_remove_59 : decode cX1_remove 59 = .ok (.getfield 20, 3) := by decide +kernel
theorem dX1_remove_62 : decode cX1_remove 62 = .ok (.iload_n 2, 1) := by decide +kernel
theorem dX1_remove_63 : decode cX1_remove 63 = .ok (.iload_n 3, 1) := by decide +kernel
theorem dX1_remove_64 : decode cX1_remove 64 = .ok (.invokestatic 32, 3) := by decide +kernel
theorem dX1_remove_67 : decode cX1_remove 67 = .ok (.aload_n 0, 1) := by decide +kernel
theorem dX1_remove_68 : decode cX1_remove 68 = .ok (.dup, 1) := by decide +kernel
theorem dX1_remove_69 : decode cX1_remove 69 = .ok (.getfield 24, 3) := by decide +kernel
theorem dX1_remove_72 : decode cX1_remove 72 = .ok (.iconst 1, 1) := by decide +kernel
theorem dX1_remove_73 : decode cX1_remove 73 = .ok (.isub, 1) := by decide +kernel
theorem dX1_remove_74 : decode cX1_remove 74 = .ok (.putfield 24, 3) := by decide +kernel
theorem dX1_remove_77 : decode cX1_remove 77 = .ok (.return_, 1) := by decide +kernel
theorem dX1_empty_0 : decode cX1_empty 0 = .ok (.aload_n 0, 1) := by decide +kernel
theorem dX1_empty_1 : decode cX1_empty 1 = .ok (.iconst 0, 1) := by decide +kernel
theorem dX1_empty_2 : decode cX1_empty 2 = .ok (.putfield 24, 3) := by decide +kernel
theorem dX1_empty_5 : decode cX1_empty 5 = .ok (.return_, 1) := by decide +kernel
theorem dX1_copyFrom_0 : decode cX1_copyFrom 0 = .ok (.aload_n 1, 1) := by decide +kernel
theorem dX1_copyFrom_1 : decode cX1_copyFrom 1 = .ok (.ifnull 42, 3) := by decide +kernel
theorem dX1_copyFrom_4 : decode cX1_copyFrom 4 = .ok (.aload_n 1, 1) := by decide +kernel
theorem dX1_copyFrom_5 : decode cX1_copyFrom 5 = .ok (.getfield 20, 3) := by decide +kernel
theorem dX1_copyFrom_8 : decode cX1_copyFrom 8 = .ok (.arraylength, 1) := by decide +kernel
theorem dX1_copyFrom_9 : decode cX1_copyFrom 9 = .ok (.aload_n 0, 1) := by decide +kernel
theorem dX1_copyFrom_10 : decode cX1_copyFrom 10 = .ok (.getfield 20, 3) := by decide +kernel
theorem dX1_copyFrom_13 : decode cX1_copyFrom 13 = .ok (.arraylength, 1) := by decide +kernel
theorem dX1_copyFrom_14 : decode cX1_copyFrom 14 = .ok (.if_icmp .ne 29, 3) := by decide +kernel
theorem dX1_copyFrom_17 : decode cX1_copyFrom 17 = .ok (.aload_n 1, 1) := by decide +kernel
theorem dX1_copyFrom_18 : decode cX1_copyFrom 18 = .ok (.getfield 20, 3) := by decide +kernel
theorem dX1_copyFrom_21 : decode cX1_copyFrom 21 = .ok (.iconst 0, 1) := by decide +kernel
theorem dX1_copyFrom_22 : decode cX1_copyFrom 22 = .ok (.aload_n 0, 1) := by decide +kernel
theorem dX1_copyFrom_23 : decode cX1_copyFrom 23 = .ok (.getfield 20, 3) := by decide +kernel
theorem dX1_copyFrom_26 : decode cX1_copyFrom 26 = .ok (.iconst 0, 1) := by decide +kernel
theorem dX1_copyFrom_27 : decode cX1_copyFrom 27 = .ok (.aload_n 0, 1) := by decide +kernel
theorem dX1_copyFrom_28 : decode cX1_copyFrom 28 = .ok (.getfield 20, 3) := by decide +kernel
theorem dX1_copyFrom_31 : decode cX1_copyFrom 31 = .ok (.arraylength, 1) := by decide +kernel
theorem dX1_copyFrom_32 : decode cX1_copyFrom 32 = .ok (.invokestatic 32, 3) := by decide +kernel
theorem dX1_copyFrom_35 : decode cX1_copyFrom 35 = .ok (.aload_n 0, 1) := by decide +kernel
theorem dX1_copyFrom_36 : decode cX1_copyFrom 36 = .ok (.aload_n 1, 1) := by decide +kernel
theorem dX1_copyFrom_37 : decode cX1_copyFrom 37 = .ok (.getfield 24, 3) := by decide +kernel
theorem dX1_copyFrom_40 : decode cX1_copyFrom 40 = .ok (.putfield 24, 3) := by decide +kernel
theorem dX1_copyFrom_43 : decode cX1_copyFrom 43 = .ok (.return_, 1) := by decide +kernel
set_option maxRecDepth 20000 in
theorem ggX2_init_X1_init : GoodIn wsX2_init wsX1_init := goodIn_r _ [12, 13, 2, 3, 14, 15, 16, 17, 18, 19, 20, 4, 21, 26, 27] (by decide +kernel) (by decide +kernel)
set_option maxRecDepth 20000 in
theorem gX2_init_X1_init : GoodIn wsX2_init (wsX1_init) := ggX2_init_X1_init
theorem dX2_init_0 : decode cX2_init 0 = .ok (.aload_n 0, 1) := by decide +kernel
theorem dX2_init_1 : decode cX2_init 1 = .ok (.invokespecial 3, 3) := by decide +kernel
theorem dX2_init_4 : decode cX2_init 4 = .ok (.aload_n 0, 1) := by decide +kernel
theorem dX2_init_5 : decode cX2_init 5 = .ok (.bipush 100, 2) := by decide +kernel
theorem dX2_init_7 : decode cX2_init 7 = .ok (.newarray .int, 2) := by decide +kernel
theorem dX2_init_9 : decode cX2_init 9 = .ok (.putfield 11, 3) := by decide +kernel
theorem dX2_init_12 : decode cX2_init 12 = .ok (.aload_n 0, 1) := by decide +kernel
theorem dX2_init_13 : decode cX2_init 13 = .ok (.new 15, 3) := by decide +kernel
theorem dX2_init_16 : decode cX2_init 16 = .ok (.dup, 1) := by decide +kernel
theorem dX2_init_17 : decode cX2_init 17 = .ok (.bipush 12, 2) := by decide +kernel
theorem dX2_init_19 : decode cX2_init 19 = .ok (.invokespecial 17, 3) := by decide +kernel
theorem dX2_init_22 : decode cX2_init 22 = .ok (.putfield 20, 3) := by decide +kernel
theorem dX2_init_25 : decode cX2_init 25 = .ok (.return_, 1) := by decide +kernel
theorem dX2_add_0 : decode cX2_add 0 = .ok (.aload_n 0, 1) := by decide +kernel
theorem dX2_add_1 : decode cX2_add 1 = .ok (.getfield 24, 3) := by decide +kernel
theorem dX2_add_4 : decode cX2_add 4 = .ok (.ifCond .lt 15, 3) := by decide +kernel
theorem dX2_add_7 : decode cX2_add 7 = .ok (.aload_n 0, 1) := by decide +kernel
theorem dX2_add_8 : decode cX2_add 8 = .ok (.getfield 24, 3) := by decide +kernel
theorem dX2_add_11 : decode cX2_add 11 = .ok (.aload_n 0, 1) := by decide +kernel
theorem dX2_add_12 : decode cX2_add 12 = .ok (.getfield 11, 3) := by decide +kernel
theorem dX2_add_15 : decode cX2_add 15 = .ok (.arraylength, 1) := by decide +kernel
theorem dX2_add_16 : decode cX2_add 16 = .ok (.if_icmp .lt 6, 3) := by decide +kernel
theorem dX2_add_19 : decode cX2_add 19 = .ok (.bipush (-4), 2) := by decide +kernel
theorem dX2_add_21 : decode cX2_add 21 = .ok (.ireturn, 1) := by decide +kernel
theorem dX2_add_22 : decode cX2_add 22 = .ok (.aload_n 0, 1) := by decide +kernel
theorem dX2_add_23 : decode cX2_add 23 = .ok (.getfield 11, 3) := by decide +kernel
theorem dX2_add_26 : decode cX2_add 26 = .ok (.aload_n 0, 1) := by decide +kernel
theorem dX2_add_27 : decode cX2_add 27 = .ok (.getfield 24, 3) := by decide +kernel
theorem dX2_add_30 : decode cX2_add 30 = .ok (.iload_n 1, 1) := by decide +kernel
theorem dX2_add_31 : decode cX2_add 31 = .ok (.iastore, 1) := by decide +kernel
theorem dX2_add_32 : decode cX2_add 32 = .ok (.aload_n 0, 1) := by decide +kernel
theorem dX2_add_33 : decode cX2_add 33 = .ok (.dup, 1) := by decide +kernel
theorem dX2_add_34 : decode cX2_add 34 = .ok (.getfield 24, 3) := by decide +kernel
theorem dX2_add_37 : decode cX2_add 37 = .ok (.iconst 1, 1) := by decide +kernel
theorem dX2_add_38 : decode cX2_add 38 = .ok (.iadd, 1) := by decide +kernel
theorem dX2_add_39 : decode cX2_add 39 = .ok (.putfield 24, 3) := by decide +kernel
theorem dX2_add_42 : decode cX2_add 42 = .ok (.aload_n 0, 1) := by decide +kernel
theorem dX2_add_43 : decode cX2_add 43 = .ok (.getfield 24, 3) := by decide +kernel
theorem dX2_add_46 : decode cX2_add 46 = .ok (.ireturn, 1) := by decide +kernel
theorem dX2_emptyText_0 : decode cX2_emptyText 0 = .ok (.aload_n 0, 1) := by decide +kernel
theorem dX2_emptyText_1 : decode cX2_emptyText 1 = .ok (.iconst 0, 1) := by decide +kernel
theorem dX2_emptyText_2 : decode cX2_emptyText 2 = .ok (.putfield 24, 3) := by decide +kernel
theorem dX2_emptyText_5 : decode cX2_emptyText 5 = .ok (.return_, 1) := by decide +kernel
set_option maxRecDepth 20000 in
theorem ggX2_faultOfText_X1_empty : GoodIn wsX2_faultOfText wsX1_empty := goodIn_r _ [8, 9, 44, 45] (by decide +kernel) (by decide +kernel)
set_option maxRecDepth 20000 in
theorem gX2_faultOfText_X1_empty : GoodIn wsX2_faultOfText (wsV RX2 28 RX1 yX1_empty wsX1_empty) := goodIn_app (goodIn_of _ (by decide +kernel)) ggX2_faultOfText_X1_empty
set_option maxRecDepth 20000 in
theorem ggX2_faultOfText_X2_takeClause : GoodIn wsX2_faultOfText wsX2_takeClause := goodIn_r _ [14, 2, 1, 15, 16, 17, 13, 18, 3, 19, 20, 21, 22, 23, 24, 25, 26, 27, 28, 29, 30, 31, 32, 33, 34, 35, 36, 37, 7, 38, 9, 39, 40, 41, 42, 43, 44, 45] (by decide +kernel) (by decide +kernel)
set_option maxRecDepth 20000 in
theorem gX2_faultOfText_X2_takeClause : GoodIn wsX2_faultOfText (wsV RX2 34 RX2 yX2_takeClause wsX2_takeClause) := goodIn_app (goodIn_of _ (by decide +kernel)) ggX2_faultOfText_X2_takeClause
set_option maxRecDepth 20000 in
theorem ggX2_faultOfText_X2_take : GoodIn wsX2_faultOfText wsX2_take := goodIn_r _ [34, 2, 15, 16, 17, 13, 18, 3, 19, 40, 41, 42, 43] (by decide +kernel) (by decide +kernel)
set_option maxRecDepth 20000 in
theorem gX2_faultOfText_X2_take : GoodIn wsX2_faultOfText (wsV RX2 38 RX2 yX2_take wsX2_take) := goodIn_app (goodIn_of _ (by decide +kernel)) ggX2_faultOfText_X2_take
theorem dX2_faultOfText_0 : decode cX2_faultOfText 0 = .ok (.aload_n 0, 1) := by decide +kernel
theorem dX2_faultOfText_1 : decode cX2_faultOfText 1 = .ok (.getfield 20, 3) := by decide +kernel
theorem dX2_faultOfText_4 : decode cX2_faultOfText 4 = .ok (.invokevirtual 28, 3) := by decide +kernel
theorem dX2_faultOfText_7 : decode cX2_faultOfText 7 = .ok (.aload_n 0, 1) := by decide +kernel
theorem dX2_faultOfText_8 : decode cX2_faultOfText 8 = .ok (.iconst 0, 1) := by decide +kernel
theorem dX2_faultOfText_9 : decode cX2_faultOfText 9 = .ok (.putfield 31, 3) := by decide +kernel
theorem dX2_faultOfText_12 : decode cX2_faultOfText 12 = .ok (.iconst 0, 1) := by decide +kernel
theorem dX2_faultOfText_13 : decode cX2_faultOfText 13 = .ok (.istore_n 1, 1) := by decide +kernel
theorem dX2_faultOfText_14 : decode cX2_faultOfText 14 = .ok (.iload_n 1, 1) := by decide +kernel
theorem dX2_faultOfText_15 : decode cX2_faultOfText 15 = .ok (.bipush 12, 2) := by decide +kernel
theorem dX2_faultOfText_17 : decode cX2_faultOfText 17 = .ok (.if_icmp .ge 54, 3) := by decide +kernel
theorem dX2_faultOfText_20 : decode cX2_faultOfText 20 = .ok (.aload_n 0, 1) := by decide +kernel
theorem dX2_faultOfText_21 : decode cX2_faultOfText 21 = .ok (.invokevirtual 34, 3) := by decide +kernel
theorem dX2_faultOfText_24 : decode cX2_faultOfText 24 = .ok (.ifCond .ne 8, 3) := by decide +kernel
theorem dX2_faultOfText_27 : decode cX2_faultOfText 27 = .ok (.aload_n 0, 1) := by decide +kernel
theorem dX2_faultOfText_28 : decode cX2_faultOfText 28 = .ok (.getfield 31, 3) := by decide +kernel
theorem dX2_faultOfText_31 : decode cX2_faultOfText 31 = .ok (.ireturn, 1) := by decide +kernel
theorem dX2_faultOfText_32 : decode cX2_faultOfText 32 = .ok (.aload_n 0, 1) := by decide +kernel
theorem dX2_faultOfText_33 : decode cX2_faultOfText 33 = .ok (.getfield 31, 3) := by decide +kernel
theorem dX2_faultOfText_36 : decode cX2_faultOfText 36 = .ok (.aload_n 0, 1) := by decide +kernel
theorem dX2_faultOfText_37 : decode cX2_faultOfText 37 = .ok (.getfield 24, 3) := by decide +kernel
theorem dX2_faultOfText_40 : decode cX2_faultOfText 40 = .ok (.if_icmp .lt 5, 3) := by decide +kernel
theorem dX2_faultOfText_43 : decode cX2_faultOfText 43 = .ok (.iconst (-1), 1) := by decide +kernel
theorem dX2_faultOfText_44 : decode cX2_faultOfText 44 = .ok (.ireturn, 1) := by decide +kernel
theorem dX2_faultOfText_45 : decode cX2_faultOfText 45 = .ok (.iload_n 1, 1) := by decide +kernel
theorem dX2_faultOfText_46 : decode cX2_faultOfText 46 = .ok (.bipush 11, 2) := by decide +kernel
theorem dX2_faultOfText_48 : decode cX2_faultOfText 48 = .ok (.if_icmp .eq 12, 3) := by decide +kernel
theorem dX2_faultOfText_51 : decode cX2_faultOfText 51 = .ok (.aload_n 0, 1) := by decide +kernel
theorem dX2_faultOfText_52 : decode cX2_faultOfText 52 = .ok (.bipush 59, 2) := by decide +kernel
theorem dX2_faultOfText_54 : decode cX2_faultOfText 54 = .ok (.invokevirtual 38, 3) := by decide +kernel
theorem dX2_faultOfText_57 : decode cX2_faultOfText 57 = .ok (.ifCond .ne 8, 3) := by decide +kernel
theorem dX2_faultOfText_60 : decode cX2_faultOfText 60 = .ok (.aload_n 0, 1) := by decide +kernel
theorem dX2_faultOfText_61 : decode cX2_faultOfText 61 = .ok (.getfield 31, 3) := by decide +kernel
theorem dX2_faultOfText_64 : decode cX2_faultOfText 64 = .ok (.ireturn, 1) := by decide +kernel
theorem dX2_faultOfText_65 : decode cX2_faultOfText 65 = .ok (.iinc 1 1, 3) := by decide +kernel
theorem dX2_faultOfText_68 : decode cX2_faultOfText 68 = .ok (.goto (-54), 3) := by decide +kernel
theorem dX2_faultOfText_71 : decode cX2_faultOfText 71 = .ok (.aload_n 0, 1) := by decide +kernel
theorem dX2_faultOfText_72 : decode cX2_faultOfText 72 = .ok (.getfield 31, 3) := by decide +kernel
theorem dX2_faultOfText_75 : decode cX2_faultOfText 75 = .ok (.ireturn, 1) := by decide +kernel
set_option maxRecDepth 20000 in
theorem ggX2_takeClause_X2_sign : GoodIn wsX2_takeClause wsX2_sign := goodIn_r _ [7, 1, 8, 9, 32, 33, 34, 35] (by decide +kernel) (by decide +kernel)
set_option maxRecDepth 20000 in
theorem gX2_takeClause_X2_sign : GoodIn wsX2_takeClause (wsV RX2 42 RX2 yX2_sign wsX2_sign) := goodIn_app (goodIn_of _ (by decide +kernel)) ggX2_takeClause_X2_sign
set_option maxRecDepth 20000 in
theorem ggX2_takeClause_X2_takeNumber : GoodIn wsX2_takeClause wsX2_takeNumber := goodIn_r _ [13, 14, 15, 16, 17, 1, 3, 4, 5, 6, 7, 8, 9, 18, 19, 20, 32, 33, 34, 35] (by decide +kernel) (by decide +kernel)
set_option maxRecDepth 20000 in
theorem gX2_takeClause_X2_takeNumber : GoodIn wsX2_takeClause (wsV RX2 46 RX2 yX2_takeNumber wsX2_takeNumber) := goodIn_app (goodIn_of _ (by decide +kernel)) ggX2_takeClause_X2_takeNumber
set_option maxRecDepth 20000 in
theorem ggX2_takeClause_X2_take : GoodIn wsX2_takeClause wsX2_take := goodIn_r _ [24, 1, 3, 4, 5, 6, 7, 8, 9, 32, 33, 34, 35] (by decide +kernel) (by decide +kernel)
set_option maxRecDepth 20000 in
theorem gX2_takeClause_X2_take : GoodIn wsX2_takeClause (wsV RX2 38 RX2 yX2_take wsX2_take) := goodIn_app (goodIn_of _ (by decide +kernel)) ggX2_takeClause_X2_take
set_option maxRecDepth 20000 in
theorem ggX2_takeClause_X1_add : GoodIn wsX2_takeClause wsX1_add := goodIn_r _ [29, 30, 31, 36, 37] (by decide +kernel) (by decide +kernel)
set_option maxRecDepth 20000 in
theorem gX2_takeClause_X1_add : GoodIn wsX2_takeClause (wsV RX2 50 RX1 yX1_add wsX1_add) := goodIn_app (goodIn_of _ (by decide +kernel)) ggX2_takeClause_X1_add
theorem dX2_takeClause_0 : decode cX2_takeClause 0 = .ok (.aload_n 0, 1) := by decide +kernel
theorem dX2_takeClause_1 : decode cX2_takeClause 1 = .ok (.invokevirtual 42, 3) := by decide +kernel
theorem dX2_takeClause_4 : decode cX2_takeClause 4 = .ok (.istore_n 1, 1) := by decide +kernel
theorem dX2_takeClause_5 : decode cX2_takeClause 5 = .ok (.iload_n 1, 1) := by decide +kernel
theorem dX2_takeClause_6 : decode cX2_takeClause 6 = .ok (.bipush 112, 2) := by decide +kernel
theorem dX2_takeClause_8 : decode cX2_takeClause 8 = .ok (.if_icmp .eq 29, 3) := by decide +kernel
theorem dX2_takeClause_11 : decode cX2_takeClause 11 = .ok (.iload_n 1, 1) := by decide +kernel
theorem dX2_takeClause_12 : decode cX2_takeClause 12 = .ok (.bipush 101, 2) := by decide +kernel
theorem dX2_takeClause_14 : decode cX2_takeClause 14 = .ok (.if_icmp .eq 23, 3) := by decide +kernel
theorem dX2_takeClause_17 : decode cX2_takeClause 17 = .ok (.iload_n 1, 1) := by decide +kernel
theorem dX2_takeClause_18 : decode cX2_takeClause 18 = .ok (.bipush 109, 2) := by decide +kernel
theorem dX2_takeClause_20 : decode cX2_takeClause 20 = .ok (.if_icmp .eq 17, 3) := by decide +kernel
theorem dX2_takeClause_23 : decode cX2_takeClause 23 = .ok (.iload_n 1, 1) := by decide +kernel
theorem dX2_takeClause_24 : decode cX2_takeClause 24 = .ok (.bipush 120, 2) := by decide +kernel
theorem dX2_takeClause_26 : decode cX2_takeClause 26 = .ok (.if_icmp .eq 11, 3) := by decide +kernel
theorem dX2_takeClause_29 : decode cX2_takeClause 29 = .ok (.iload_n 1, 1) := by decide +kernel
theorem dX2_takeClause_30 : decode cX2_takeClause 30 = .ok (.bipush 119, 2) := by decide +kernel
theorem dX2_takeClause_32 : decode cX2_takeClause 32 = .ok (.if_icmp .eq 5, 3) := by decide +kernel
theorem dX2_takeClause_35 : decode cX2_takeClause 35 = .ok (.iconst 0, 1) := by decide +kernel
theorem dX2_takeClause_36 : decode cX2_takeClause 36 = .ok (.ireturn, 1) := by decide +kernel
theorem dX2_takeClause_37 : decode cX2_takeClause 37 = .ok (.aload_n 0, 1) := by decide +kernel
theorem dX2_takeClause_38 : decode cX2_takeClause 38 = .ok (.dup, 1) := by decide +kernel
theorem dX2_takeClause_39 : decode cX2_takeClause 39 = .ok (.getfield 31, 3) := by decide +kernel
theorem dX2_takeClause_42 : decode cX2_takeClause 42 = .ok (.iconst 1, 1) := by decide +kernel
theorem dX2_takeClause_43 : decode cX2_takeClause 43 = .ok (.iadd, 1) := by decide +kernel
theorem dX2_takeClause_44 : decode cX2_takeClause 44 = .ok (.putfield 31, 3) := by decide +kernel
theorem dX2_takeClause_47 : decode cX2_takeClause 47 = .ok (.iconst 0, 1) := by decide +kernel
theorem dX2_takeClause_48 : decode cX2_takeClause 48 = .ok (.istore_n 2, 1) := by decide +kernel
theorem dX2_takeClause_49 : decode cX2_takeClause 49 = .ok (.iload_n 1, 1) := by decide +kernel
theorem dX2_takeClause_50 : decode cX2_takeClause 50 = .ok (.bipush 120, 2) := by decide +kernel
theorem dX2_takeClause_52 : decode cX2_takeClause 52 = .ok (.if_icmp .eq 19, 3) := by decide +kernel
theorem dX2_takeClause_55 : decode cX2_takeClause 55 = .ok (.aload_n 0, 1) := by decide +kernel
theorem dX2_takeClause_56 : decode cX2_takeClause 56 = .ok (.iload_n 1, 1) := by decide +kernel
theorem dX2_takeClause_57 : decode cX2_takeClause 57 = .ok (.bipush 119, 2) := by decide +kernel
theorem dX2_takeClause_59 : decode cX2_takeClause 59 = .ok (.if_icmp .ne 7, 3) := by decide +kernel
theorem dX2_takeClause_62 : decode cX2_takeClause 62 = .ok (.iconst 3, 1) := by decide +kernel
theorem dX2_takeClause_63 : decode cX2_takeClause 63 = .ok (.goto 4, 3) := by decide +kernel
theorem dX2_takeClause_66 : decode cX2_takeClause 66 = .ok (.iconst 1, 1) := by decide +kernel
theorem dX2_takeClause_67 : decode cX2_takeClause 67 = .ok (.invokevirtual 46, 3) := by decide +kernel
theorem dX2_takeClause_70 : decode cX2_takeClause 70 = .ok (.istore_n 2, 1) := by decide +kernel
theorem dX2_takeClause_71 : decode cX2_takeClause 71 = .ok (.iload_n 2, 1) := by decide +kernel
theorem dX2_takeClause_72 : decode cX2_takeClause 72 = .ok (.iconst (-1), 1) := by decide +kernel
theorem dX2_takeClause_73 : decode cX2_takeClause 73 = .ok (.if_icmp .eq 18, 3) := by decide +kernel
theorem dX2_takeClause_76 : decode cX2_takeClause 76 = .ok (.iload_n 1, 1) := by decide +kernel
theorem dX2_takeClause_77 : decode cX2_takeClause 77 = .ok (.bipush 119, 2) := by decide +kernel
theorem dX2_takeClause_79 : decode cX2_takeClause 79 = .ok (.if_icmp .ne 14, 3) := by decide +kernel
theorem dX2_takeClause_82 : decode cX2_takeClause 82 = .ok (.aload_n 0, 1) := by decide +kernel
theorem dX2_takeClause_83 : decode cX2_takeClause 83 = .ok (.bipush 44, 2) := by decide +kernel
theorem dX2_takeClause_85 : decode cX2_takeClause 85 = .ok (.invokevirtual 38, 3) := by decide +kernel
theorem dX2_takeClause_88 : decode cX2_takeClause 88 = .ok (.ifCond .ne 5, 3) := by decide +kernel
theorem dX2_takeClause_91 : decode cX2_takeClause 91 = .ok (.iconst 0, 1) := by decide +kernel
theorem dX2_takeClause_92 : decode cX2_takeClause 92 = .ok (.ireturn, 1) := by decide +kernel
theorem dX2_takeClause_93 : decode cX2_takeClause 93 = .ok (.iload_n 1, 1) := by decide +kernel
theorem dX2_takeClause_94 : decode cX2_takeClause 94 = .ok (.bipush 109, 2) := by decide +kernel
theorem dX2_takeClause_96 : decode cX2_takeClause 96 = .ok (.if_icmp .eq 9, 3) := by decide +kernel
theorem dX2_takeClause_99 : decode cX2_takeClause 99 = .ok (.iload_n 1, 1) := by decide +kernel
theorem dX2_takeClause_100 : decode cX2_takeClause 100 = .ok (.bipush 119, 2) := by decide +kernel
theorem dX2_takeClause_102 : decode cX2_takeClause 102 = .ok (.if_icmp .ne 11, 3) := by decide +kernel
theorem dX2_takeClause_105 : decode cX2_takeClause 105 = .ok (.aload_n 0, 1) := by decide +kernel
theorem dX2_takeClause_106 : decode cX2_takeClause 106 = .ok (.iconst 3, 1) := by decide +kernel
theorem dX2_takeClause_107 : decode cX2_takeClause 107 = .ok (.invokevirtual 46, 3) := by decide +kernel
theorem dX2_takeClause_110 : decode cX2_takeClause 110 = .ok (.goto 4, 3) := by decide +kernel
theorem dX2_takeClause_113 : decode cX2_takeClause 113 = .ok (.iconst 0, 1) := by decide +kernel
theorem dX2_takeClause_114 : decode cX2_takeClause 114 = .ok (.istore_n 3, 1) := by decide +kernel
theorem dX2_takeClause_115 : decode cX2_takeClause 115 = .ok (.iload_n 3, 1) := by decide +kernel
theorem dX2_takeClause_116 : decode cX2_takeClause 116 = .ok (.iconst (-1), 1) := by decide +kernel
theorem dX2_takeClause_117 : decode cX2_takeClause 117 = .ok (.if_icmp .eq 20, 3) := by decide +kernel
theorem dX2_takeClause_120 : decode cX2_takeClause 120 = .ok (.aload_n 0, 1) := by decide +kernel
theorem dX2_takeClause_121 : decode cX2_takeClause 121 = .ok (.getfield 20, 3) := by decide +kernel
theorem dX2_takeClause_124 : decode cX2_takeClause 124 = .ok (.iload_n 1, 1) := by decide +kernel
theorem dX2_takeClause_125 : decode cX2_takeClause 125 = .ok (.iload_n 2, 1) := by decide +kernel
theorem dX2_takeClause_126 : decode cX2_takeClause 126 = .ok (.iload_n 3, 1) := by decide +kernel
theorem dX2_takeClause_127 : decode cX2_takeClause 127 = .ok (.invokevirtual 50, 3) := by decide +kernel
theorem dX2_takeClause_130 : decode cX2_takeClause 130 = .ok (.ifCond .le 7, 3) := by decide +kernel
theorem dX2_takeClause_133 : decode cX2_takeClause 133 = .ok (.iconst 1, 1) := by decide +kernel
theorem dX2_takeClause_134 : decode cX2_takeClause 134 = .ok (.goto 4, 3) := by decide +kernel
theorem dX2_takeClause_137 : decode cX2_takeClause 137 = .ok (.iconst 0, 1) := by decide +kernel
theorem dX2_takeClause_138 : decode cX2_takeClause 138 = .ok (.ireturn, 1) := by decide +kernel
set_option maxRecDepth 20000 in
theorem ggX2_takeNumber_X2_sign : GoodIn wsX2_takeNumber wsX2_sign := goodIn_r _ [10, 5, 11, 12, 16, 17, 18, 19] (by decide +kernel) (by decide +kernel)
set_option maxRecDepth 20000 in
theorem gX2_takeNumber_X2_sign : GoodIn wsX2_takeNumber (wsV RX2 42 RX2 yX2_sign wsX2_sign) := goodIn_app (goodIn_of _ (by decide +kernel)) ggX2_takeNumber_X2_sign
set_option maxRecDepth 20000 in
theorem ggX2_takeNumber_X6_isWithin : GoodIn wsX2_takeNumber wsX6_isWithin := goodIn_r _ [15] (by decide +kernel) (by decide +kernel)
set_option maxRecDepth 20000 in
theorem gX2_takeNumber_X6_isWithin_n54 : GoodIn wsX2_takeNumber (wsX6_isWithin) := ggX2_takeNumber_X6_isWithin
theorem dX2_takeNumber_0 : decode cX2_takeNumber 0 = .ok (.iconst (-1), 1) := by decide +kernel
theorem dX2_takeNumber_1 : decode cX2_takeNumber 1 = .ok (.istore_n 2, 1) := by decide +kernel
theorem dX2_takeNumber_2 : decode cX2_takeNumber 2 = .ok (.iconst 0, 1) := by decide +kernel
theorem dX2_takeNumber_3 : decode cX2_takeNumber 3 = .ok (.istore_n 3, 1) := by decide +kernel
theorem dX2_takeNumber_4 : decode cX2_takeNumber 4 = .ok (.iload_n 3, 1) := by decide +kernel
theorem dX2_takeNumber_5 : decode cX2_takeNumber 5 = .ok (.iload_n 1, 1) := by decide +kernel
theorem dX2_takeNumber_6 : decode cX2_takeNumber 6 = .ok (.if_icmp .ge 53, 3) := by decide +kernel
theorem dX2_takeNumber_9 : decode cX2_takeNumber 9 = .ok (.aload_n 0, 1) := by decide +kernel
theorem dX2_takeNumber_10 : decode cX2_takeNumber 10 = .ok (.invokevirtual 42, 3) := by decide +kernel
theorem dX2_takeNumber_13 : decode cX2_takeNumber 13 = .ok (.bipush 48, 2) := by decide +kernel
theorem dX2_takeNumber_15 : decode cX2_takeNumber 15 = .ok (.isub, 1) := by decide +kernel
theorem dX2_takeNumber_16 : decode cX2_takeNumber 16 = .ok (.istore 4, 2) := by decide +kernel
theorem dX2_takeNumber_18 : decode cX2_takeNumber 18 = .ok (.iload 4, 2) := by decide +kernel
theorem dX2_takeNumber_20 : decode cX2_takeNumber 20 = .ok (.iconst 0, 1) := by decide +kernel
theorem dX2_takeNumber_21 : decode cX2_takeNumber 21 = .ok (.bipush 9, 2) := by decide +kernel
theorem dX2_takeNumber_23 : decode cX2_takeNumber 23 = .ok (.invokestatic 54, 3) := by decide +kernel
theorem dX2_takeNumber_26 : decode cX2_takeNumber 26 = .ok (.ifCond .ne 5, 3) := by decide +kernel
theorem dX2_takeNumber_29 : decode cX2_takeNumber 29 = .ok (.iload_n 2, 1) := by decide +kernel
theorem dX2_takeNumber_30 : decode cX2_takeNumber 30 = .ok (.ireturn, 1) := by decide +kernel
theorem dX2_takeNumber_31 : decode cX2_takeNumber 31 = .ok (.bipush 10, 2) := by decide +kernel
theorem dX2_takeNumber_33 : decode cX2_takeNumber 33 = .ok (.iload_n 2, 1) := by decide +kernel
theorem dX2_takeNumber_34 : decode cX2_takeNumber 34 = .ok (.iconst 0, 1) := by decide +kernel
theorem dX2_takeNumber_35 : decode cX2_takeNumber 35 = .ok (.invokestatic 58, 3) := by decide +kernel
theorem dX2_takeNumber_38 : decode cX2_takeNumber 38 = .ok (.imul, 1) := by decide +kernel
theorem dX2_takeNumber_39 : decode cX2_takeNumber 39 = .ok (.iload 4, 2) := by decide +kernel
theorem dX2_takeNumber_41 : decode cX2_takeNumber 41 = .ok (.iadd, 1) := by decide +kernel
theorem dX2_takeNumber_42 : decode cX2_takeNumber 42 = .ok (.istore_n 2, 1) := by decide +kernel
theorem dX2_takeNumber_43 : decode cX2_takeNumber 43 = .ok (.aload_n 0, 1) := by decide +kernel
theorem dX2_takeNumber_44 : decode cX2_takeNumber 44 = .ok (.dup, 1) := by decide +kernel
theorem dX2_takeNumber_45 : decode cX2_takeNumber 45 = .ok (.getfield 31, 3) := by decide +kernel
theorem dX2_takeNumber_48 : decode cX2_takeNumber 48 = .ok (.iconst 1, 1) := by decide +kernel
theorem dX2_takeNumber_49 : decode cX2_takeNumber 49 = .ok (.iadd, 1) := by decide +kernel
theorem dX2_takeNumber_50 : decode cX2_takeNumber 50 = .ok (.putfield 31, 3) := by decide +kernel
theorem dX2_takeNumber_53 : decode cX2_takeNumber 53 = .ok (.iinc 3 1, 3) := by decide +kernel
theorem dX2_takeNumber_56 : decode cX2_takeNumber 56 = .ok (.goto (-52), 3) := by decide +kernel
theorem dX2_takeNumber_59 : decode cX2_takeNumber 59 = .ok (.iload_n 2, 1) := by decide +kernel
theorem dX2_takeNumber_60 : decode cX2_takeNumber 60 = .ok (.ireturn, 1) := by decide +kernel
set_option maxRecDepth 20000 in
theorem ggX2_take_X2_sign : GoodIn wsX2_take wsX2_sign := goodIn_r _ [6, 1, 7, 8, 9, 10, 11, 12] (by decide +kernel) (by decide +kernel)
set_option maxRecDepth 20000 in
theorem gX2_take_X2_sign : GoodIn wsX2_take (wsV RX2 42 RX2 yX2_sign wsX2_sign) := goodIn_app (goodIn_of _ (by decide +kernel)) ggX2_take_X2_sign
theorem dX2_take_0 : decode cX2_take 0 = .ok (.aload_n 0, 1) := by decide +kernel
theorem dX2_take_1 : decode cX2_take 1 = .ok (.invokevirtual 42, 3) := by decide +kernel
theorem dX2_take_4 : decode cX2_take 4 = .ok (.iload_n 1, 1) := by decide +kernel
theorem dX2_take_5 : decode cX2_take 5 = .ok (.if_icmp .ne 7, 3) := by decide +kernel
theorem dX2_take_8 : decode cX2_take 8 = .ok (.iconst 1, 1) := by decide +kernel
theorem dX2_take_9 : decode cX2_take 9 = .ok (.goto 4, 3) := by decide +kernel
theorem dX2_take_12 : decode cX2_take 12 = .ok (.iconst 0, 1) := by decide +kernel
theorem dX2_take_13 : decode cX2_take 13 = .ok (.istore_n 2, 1) := by decide +kernel
theorem dX2_take_14 : decode cX2_take 14 = .ok (.aload_n 0, 1) := by decide +kernel
theorem dX2_take_15 : decode cX2_take 15 = .ok (.dup, 1) := by decide +kernel
theorem dX2_take_16 : decode cX2_take 16 = .ok (.getfield 31, 3) := by decide +kernel
theorem dX2_take_19 : decode cX2_take 19 = .ok (.iload_n 2, 1) := by decide +kernel
theorem dX2_take_20 : decode cX2_take 20 = .ok (.ifCond .eq 7, 3) := by decide +kernel
theorem dX2_take_23 : decode cX2_take 23 = .ok (.iconst 1, 1) := by decide +kernel
theorem dX2_take_24 : decode cX2_take 24 = .ok (.goto 4, 3) := by decide +kernel
theorem dX2_take_27 : decode cX2_take 27 = .ok (.iconst 0, 1) := by decide +kernel
theorem dX2_take_28 : decode cX2_take 28 = .ok (.iadd, 1) := by decide +kernel
theorem dX2_take_29 : decode cX2_take 29 = .ok (.putfield 31, 3) := by decide +kernel
theorem dX2_take_32 : decode cX2_take 32 = .ok (.iload_n 2, 1) := by decide +kernel
theorem dX2_take_33 : decode cX2_take 33 = .ok (.ireturn, 1) := by decide +kernel
theorem dX2_sign_0 : decode cX2_sign 0 = .ok (.aload_n 0, 1) := by decide +kernel
theorem dX2_sign_1 : decode cX2_sign 1 = .ok (.getfield 31, 3) := by decide +kernel
theorem dX2_sign_4 : decode cX2_sign 4 = .ok (.ifCond .lt 38, 3) := by decide +kernel
theorem dX2_sign_7 : decode cX2_sign 7 = .ok (.aload_n 0, 1) := by decide +kernel
theorem dX2_sign_8 : decode cX2_sign 8 = .ok (.getfield 31, 3) := by decide +kernel
theorem dX2_sign_11 : decode cX2_sign 11 = .ok (.aload_n 0, 1) := by decide +kernel
theorem dX2_sign_12 : decode cX2_sign 12 = .ok (.getfield 24, 3) := by decide +kernel
theorem dX2_sign_15 : decode cX2_sign 15 = .ok (.if_icmp .ge 27, 3) := by decide +kernel
theorem dX2_sign_18 : decode cX2_sign 18 = .ok (.aload_n 0, 1) := by decide +kernel
theorem dX2_sign_19 : decode cX2_sign 19 = .ok (.getfield 31, 3) := by decide +kernel
theorem dX2_sign_22 : decode cX2_sign 22 = .ok (.aload_n 0, 1) := by decide +kernel
theorem dX2_sign_23 : decode cX2_sign 23 = .ok (.getfield 11, 3) := by decide +kernel
theorem dX2_sign_26 : decode cX2_sign 26 = .ok (.arraylength, 1) := by decide +kernel
theorem dX2_sign_27 : decode cX2_sign 27 = .ok (.if_icmp .ge 15, 3) := by decide +kernel
theorem dX2_sign_30 : decode cX2_sign 30 = .ok (.aload_n 0, 1) := by decide +kernel
theorem dX2_sign_31 : decode cX2_sign 31 = .ok (.getfield 11, 3) := by decide +kernel
theorem dX2_sign_34 : decode cX2_sign 34 = .ok (.aload_n 0, 1) := by decide +kernel
theorem dX2_sign_35 : decode cX2_sign 35 = .ok (.getfield 31, 3) := by decide +kernel
theorem dX2_sign_38 : decode cX2_sign 38 = .ok (.iaload, 1) := by decide +kernel
theorem dX2_sign_39 : decode cX2_sign 39 = .ok (.goto 4, 3) := by decide +kernel
theorem dX2_sign_42 : decode cX2_sign 42 = .ok (.iconst (-1), 1) := by decide +kernel
theorem dX2_sign_43 : decode cX2_sign 43 = .ok (.ireturn, 1) := by decide +kernel
set_option maxRecDepth 20000 in
theorem ggX3_init_X1_init : GoodIn wsX3_init wsX1_init := goodIn_r _ [17, 18, 2, 3, 19, 20, 21, 22, 23, 24, 25, 26, 27, 28, 29] (by decide +kernel) (by decide +kernel)
set_option maxRecDepth 20000 in
theorem gX3_init_X1_init : GoodIn wsX3_init (wsX1_init) := ggX3_init_X1_init
theorem dX3_init_0 : decode cX3_init 0 = .ok (.aload_n 0, 1) := by decide +kernel
theorem dX3_init_1 : decode cX3_init 1 = .ok (.invokespecial 3, 3) := by decide +kernel
theorem dX3_init_4 : decode cX3_init 4 = .ok (.aload_n 0, 1) := by decide +kernel
theorem dX3_init_5 : decode cX3_init 5 = .ok (.new 9, 3) := by decide +kernel
theorem dX3_init_8 : decode cX3_init 8 = .ok (.dup, 1) := by decide +kernel
theorem dX3_init_9 : decode cX3_init 9 = .ok (.bipush 6, 2) := by decide +kernel
theorem dX3_init_11 : decode cX3_init 11 = .ok (.invokespecial 13, 3) := by decide +kernel
theorem dX3_init_14 : decode cX3_init 14 = .ok (.putfield 16, 3) := by decide +kernel
theorem dX3_init_17 : decode cX3_init 17 = .ok (.aload_n 0, 1) := by decide +kernel
theorem dX3_init_18 : decode cX3_init 18 = .ok (.new 9, 3) := by decide +kernel
theorem dX3_init_21 : decode cX3_init 21 = .ok (.dup, 1) := by decide +kernel
theorem dX3_init_22 : decode cX3_init 22 = .ok (.iconst 4, 1) := by decide +kernel
theorem dX3_init_23 : decode cX3_init 23 = .ok (.invokespecial 13, 3) := by decide +kernel
theorem dX3_init_26 : decode cX3_init 26 = .ok (.putfield 20, 3) := by decide +kernel
theorem dX3_init_29 : decode cX3_init 29 = .ok (.aload_n 0, 1) := by decide +kernel
theorem dX3_init_30 : decode cX3_init 30 = .ok (.new 9, 3) := by decide +kernel
theorem dX3_init_33 : decode cX3_init 33 = .ok (.dup, 1) := by decide +kernel
theorem dX3_init_34 : decode cX3_init 34 = .ok (.bipush 8, 2) := by decide +kernel
theorem dX3_init_36 : decode cX3_init 36 = .ok (.invokespecial 13, 3) := by decide +kernel
theorem dX3_init_39 : decode cX3_init 39 = .ok (.putfield 23, 3) := by decide +kernel
theorem dX3_init_42 : decode cX3_init 42 = .ok (.aload_n 0, 1) := by decide +kernel
theorem dX3_init_43 : decode cX3_init 43 = .ok (.new 9, 3) := by decide +kernel
theorem dX3_init_46 : decode cX3_init 46 = .ok (.dup, 1) := by decide +kernel
theorem dX3_init_47 : decode cX3_init 47 = .ok (.bipush 8, 2) := by decide +kernel
theorem dX3_init_49 : decode cX3_init 49 = .ok (.invokespecial 13, 3) := by decide +kernel
theorem dX3_init_52 : decode cX3_init 52 = .ok (.putfield 26, 3) := by decide +kernel
theorem dX3_init_55 : decode cX3_init 55 = .ok (.aload_n 0, 1) := by decide +kernel
theorem dX3_init_56 : decode cX3_init 56 = .ok (.iconst 2, 1) := by decide +kernel
theorem dX3_init_57 : decode cX3_init 57 = .ok (.putfield 29, 3) := by decide +kernel
theorem dX3_init_60 : decode cX3_init 60 = .ok (.aload_n 0, 1) := by decide +kernel
theorem dX3_init_61 : decode cX3_init 61 = .ok (.iconst 1, 1) := by decide +kernel
theorem dX3_init_62 : decode cX3_init 62 = .ok (.putfield 33, 3) := by decide +kernel
theorem dX3_init_65 : decode cX3_init 65 = .ok (.aload_n 0, 1) := by decide +kernel
theorem dX3_init_66 : decode cX3_init 66 = .ok (.iconst 2, 1) := by decide +kernel
theorem dX3_init_67 : decode cX3_init 67 = .ok (.putfield 36, 3) := by decide +kernel
theorem dX3_init_70 : decode cX3_init 70 = .ok (.aload_n 0, 1) := by decide +kernel
theorem dX3_init_71 : decode cX3_init 71 = .ok (.aload_n 1, 1) := by decide +kernel
theorem dX3_init_72 : decode cX3_init 72 = .ok (.putfield 39, 3) := by decide +kernel
theorem dX3_init_75 : decode cX3_init 75 = .ok (.return_, 1) := by decide +kernel
set_option maxRecDepth 20000 in
theorem ggX3_become_X0_powerOf : GoodIn wsX3_become wsX0_powerOf := goodIn_r _ [7] (by decide +kernel) (by decide +kernel)
set_option maxRecDepth 20000 in
theorem gX3_become_X0_powerOf : GoodIn wsX3_become (va_wsS RX3 43 yX0_powerOf wsX0_powerOf) := goodIn_app (goodIn_of _ (by decide +kernel)) ggX3_become_X0_powerOf
theorem dX3_become_0 : decode cX3_become 0 = .ok (.aload_n 0, 1) := by decide +kernel
theorem dX3_become_1 : decode cX3_become 1 = .ok (.iload_n 1, 1) := by decide +kernel
theorem dX3_become_2 : decode cX3_become 2 = .ok (.putfield 29, 3) := by decide +kernel
theorem dX3_become_5 : decode cX3_become 5 = .ok (.aload_n 0, 1) := by decide +kernel
theorem dX3_become_6 : decode cX3_become 6 = .ok (.iload_n 2, 1) := by decide +kernel
theorem dX3_become_7 : decode cX3_become 7 = .ok (.putfield 33, 3) := by decide +kernel
theorem dX3_become_10 : decode cX3_become 10 = .ok (.aload_n 0, 1) := by decide +kernel
theorem dX3_become_11 : decode cX3_become 11 = .ok (.iload_n 1, 1) := by decide +kernel
theorem dX3_become_12 : decode cX3_become 12 = .ok (.iload_n 2, 1) := by decide +kernel
theorem dX3_become_13 : decode cX3_become 13 = .ok (.invokestatic 43, 3) := by decide +kernel
theorem dX3_become_16 : decode cX3_become 16 = .ok (.putfield 36, 3) := by decide +kernel
theorem dX3_become_19 : decode cX3_become 19 = .ok (.return_, 1) := by decide +kernel
set_option maxRecDepth 20000 in
theorem ggX3_copyFrom_X3_become : GoodIn wsX3_copyFrom wsX3_become := goodIn_r _ [13, 1, 2, 14, 15, 16, 17, 18, 30, 31, 32, 33, 34, 35, 36, 37, 38, 39] (by decide +kernel) (by decide +kernel)
set_option maxRecDepth 20000 in
theorem gX3_copyFrom_X3_become : GoodIn wsX3_copyFrom (wsV RX3 49 RX3 yX3_become wsX3_become) := goodIn_app (goodIn_of _ (by decide +kernel)) ggX3_copyFrom_X3_become
set_option maxRecDepth 20000 in
theorem ggX3_copyFrom_X1_copyFrom : GoodIn wsX3_copyFrom wsX1_copyFrom := goodIn_r _ [23, 24, 25, 26, 27, 28, 29, 40, 41] (by decide +kernel) (by decide +kernel)
set_option maxRecDepth 20000 in
theorem gX3_copyFrom_X1_copyFrom : GoodIn wsX3_copyFrom (wsV RX3 59 RX1 yX1_copyFrom wsX1_copyFrom) := goodIn_app (goodIn_of _ (by decide +kernel)) ggX3_copyFrom_X1_copyFrom
theorem dX3_copyFrom_0 : decode cX3_copyFrom 0 = .ok (.aload_n 1, 1) := by decide +kernel
theorem dX3_copyFrom_1 : decode cX3_copyFrom 1 = .ok (.ifnonnull 4, 3) := by decide +kernel
theorem dX3_copyFrom_4 : decode cX3_copyFrom 4 = .ok (.return_, 1) := by decide +kernel
theorem dX3_copyFrom_5 : decode cX3_copyFrom 5 = .ok (.aload_n 0, 1) := by decide +kernel
theorem dX3_copyFrom_6 : decode cX3_copyFrom 6 = .ok (.aload_n 1, 1) := by decide +kernel
theorem dX3_copyFrom_7 : decode cX3_copyFrom 7 = .ok (.getfield 29, 3) := by decide +kernel
theorem dX3_copyFrom_10 : decode cX3_copyFrom 10 = .ok (.aload_n 1, 1) := by decide +kernel
theorem dX3_copyFrom_11 : decode cX3_copyFrom 11 = .ok (.getfield 33, 3) := by decide +kernel
theorem dX3_copyFrom_14 : decode cX3_copyFrom 14 = .ok (.invokevirtual 49, 3) := by decide +kernel
theorem dX3_copyFrom_17 : decode cX3_copyFrom 17 = .ok (.aload_n 0, 1) := by decide +kernel
theorem dX3_copyFrom_18 : decode cX3_copyFrom 18 = .ok (.aload_n 1, 1) := by decide +kernel
theorem dX3_copyFrom_19 : decode cX3_copyFrom 19 = .ok (.getfield 53, 3) := by decide +kernel
theorem dX3_copyFrom_22 : decode cX3_copyFrom 22 = .ok (.putfield 53, 3) := by decide +kernel
theorem dX3_copyFrom_25 : decode cX3_copyFrom 25 = .ok (.aload_n 0, 1) := by decide +kernel
theorem dX3_copyFrom_26 : decode cX3_copyFrom 26 = .ok (.aload_n 1, 1) := by decide +kernel
theorem dX3_copyFrom_27 : decode cX3_copyFrom 27 = .ok (.getfield 56, 3) := by decide +kernel
theorem dX3_copyFrom_30 : decode cX3_copyFrom 30 = .ok (.putfield 56, 3) := by decide +kernel
theorem dX3_copyFrom_33 : decode cX3_copyFrom 33 = .ok (.aload_n 0, 1) := by decide +kernel
theorem dX3_copyFrom_34 : decode cX3_copyFrom 34 = .ok (.getfield 16, 3) := by decide +kernel
theorem dX3_copyFrom_37 : decode cX3_copyFrom 37 = .ok (.aload_n 1, 1) := by decide +kernel
theorem dX3_copyFrom_38 : decode cX3_copyFrom 38 = .ok (.getfield 16, 3) := by decide +kernel
theorem dX3_copyFrom_41 : decode cX3_copyFrom 41 = .ok (.invokevirtual 59, 3) := by decide +kernel
theorem dX3_copyFrom_44 : decode cX3_copyFrom 44 = .ok (.aload_n 0, 1) := by decide +kernel
theorem dX3_copyFrom_45 : decode cX3_copyFrom 45 = .ok (.getfield 20, 3) := by decide +kernel
theorem dX3_copyFrom_48 : decode cX3_copyFrom 48 = .ok (.aload_n 1, 1) := by decide +kernel
theorem dX3_copyFrom_49 : decode cX3_copyFrom 49 = .ok (.getfield 20, 3) := by decide +kernel
theorem dX3_copyFrom_52 : decode cX3_copyFrom 52 = .ok (.invokevirtual 59, 3) := by decide +kernel
theorem dX3_copyFrom_55 : decode cX3_copyFrom 55 = .ok (.aload_n 0, 1) := by decide +kernel
theorem dX3_copyFrom_56 : decode cX3_copyFrom 56 = .ok (.getfield 23, 3) := by decide +kernel
theorem dX3_copyFrom_59 : decode cX3_copyFrom 59 = .ok (.aload_n 1, 1) := by decide +kernel
theorem dX3_copyFrom_60 : decode cX3_copyFrom 60 = .ok (.getfield 23, 3) := by decide +kernel
theorem dX3_copyFrom_63 : decode cX3_copyFrom 63 = .ok (.invokevirtual 59, 3) := by decide +kernel
theorem dX3_copyFrom_66 : decode cX3_copyFrom 66 = .ok (.aload_n 0, 1) := by decide +kernel
theorem dX3_copyFrom_67 : decode cX3_copyFrom 67 = .ok (.getfield 26, 3) := by decide +kernel
theorem dX3_copyFrom_70 : decode cX3_copyFrom 70 = .ok (.aload_n 1, 1) := by decide +kernel
theorem dX3_copyFrom_71 : decode cX3_copyFrom 71 = .ok (.getfield 26, 3) := by decide +kernel
theorem dX3_copyFrom_74 : decode cX3_copyFrom 74 = .ok (.invokevirtual 59, 3) := by decide +kernel
theorem dX3_copyFrom_77 : decode cX3_copyFrom 77 = .ok (.return_, 1) := by decide +kernel
set_option maxRecDepth 20000 in
theorem ggX3_happen_X3_nextPrime : GoodIn wsX3_happen wsX3_nextPrime := goodIn_r _ [13, 2, 37, 38, 39, 40, 41, 42, 43, 44, 45, 46] (by decide +kernel) (by decide +kernel)
set_option maxRecDepth 20000 in
theorem gX3_happen_X3_nextPrime : GoodIn wsX3_happen (wsV RX3 63 RX3 yX3_nextPrime wsX3_nextPrime) := goodIn_app (goodIn_of _ (by decide +kernel)) ggX3_happen_X3_nextPrime
set_option maxRecDepth 20000 in
theorem ggX3_happen_X3_become : GoodIn wsX3_happen wsX3_become := goodIn_r _ [17, 2, 1, 18, 19, 20, 21, 22, 37, 38, 39, 40, 41, 42, 43, 44, 45, 46] (by decide +kernel) (by decide +kernel)
set_option maxRecDepth 20000 in
theorem gX3_happen_X3_become : GoodIn wsX3_happen (wsV RX3 49 RX3 yX3_become wsX3_become) := goodIn_app (goodIn_of _ (by decide +kernel)) ggX3_happen_X3_become
set_option maxRecDepth 20000 in
theorem ggX3_happen_X1_remove : GoodIn wsX3_happen wsX1_remove := goodIn_r _ [27, 28, 29, 30, 31, 32, 33, 34, 35, 36, 47, 48] (by decide +kernel) (by decide +kernel)
set_option maxRecDepth 20000 in
theorem gX3_happen_X1_remove : GoodIn wsX3_happen (wsV RX3 72 RX1 yX1_remove wsX1_remove) := goodIn_app (goodIn_of _ (by decide +kernel)) ggX3_happen_X1_remove
theorem dX3_happen_0 : decode cX3_happen 0 = .ok (.iload_n 1, 1) := by decide +kernel
theorem dX3_happen_1 : decode cX3_happen 1 = .ok (.tableswitch 72 0 2 #[27, 42, 54], 27) := by decide +kernel
theorem dX3_happen_28 : decode cX3_happen 28 = .ok (.aload_n 0, 1) := by decide +kernel
theorem dX3_happen_29 : decode cX3_happen 29 = .ok (.aload_n 0, 1) := by decide +kernel
theorem dX3_happen_30 : decode cX3_happen 30 = .ok (.invokevirtual 63, 3) := by decide +kernel
theorem dX3_happen_33 : decode cX3_happen 33 = .ok (.aload_n 0, 1) := by decide +kernel
theorem dX3_happen_34 : decode cX3_happen 34 = .ok (.getfield 33, 3) := by decide +kernel
theorem dX3_happen_37 : decode cX3_happen 37 = .ok (.invokevirtual 49, 3) := by decide +kernel
theorem dX3_happen_40 : decode cX3_happen 40 = .ok (.goto 41, 3) := by decide +kernel
theorem dX3_happen_43 : decode cX3_happen 43 = .ok (.aload_n 0, 1) := by decide +kernel
theorem dX3_happen_44 : decode cX3_happen 44 = .ok (.aload_n 0, 1) := by decide +kernel
theorem dX3_happen_45 : decode cX3_happen 45 = .ok (.getfield 29, 3) := by decide +kernel
theorem dX3_happen_48 : decode cX3_happen 48 = .ok (.iload_n 2, 1) := by decide +kernel
theorem dX3_happen_49 : decode cX3_happen 49 = .ok (.invokevirtual 49, 3) := by decide +kernel
theorem dX3_happen_52 : decode cX3_happen 52 = .ok (.goto 29, 3) := by decide +kernel
theorem dX3_happen_55 : decode cX3_happen 55 = .ok (.aload_n 0, 1) := by decide +kernel
theorem dX3_happen_56 : decode cX3_happen 56 = .ok (.bipush 127, 2) := by decide +kernel
theorem dX3_happen_58 : decode cX3_happen 58 = .ok (.aload_n 0, 1) := by decide +kernel
theorem dX3_happen_59 : decode cX3_happen 59 = .ok (.getfield 53, 3) := by decide +kernel
theorem dX3_happen_62 : decode cX3_happen 62 = .ok (.iload_n 2, 1) := by decide +kernel
theorem dX3_happen_63 : decode cX3_happen 63 = .ok (.iadd, 1) := by decide +kernel
theorem dX3_happen_64 : decode cX3_happen 64 = .ok (.invokestatic 67, 3) := by decide +kernel
theorem dX3_happen_67 : decode cX3_happen 67 = .ok (.putfield 53, 3) := by decide +kernel
theorem dX3_happen_70 : decode cX3_happen 70 = .ok (.goto 11, 3) := by decide +kernel
theorem dX3_happen_73 : decode cX3_happen 73 = .ok (.aload_n 0, 1) := by decide +kernel
theorem dX3_happen_74 : decode cX3_happen 74 = .ok (.getfield 16, 3) := by decide +kernel
theorem dX3_happen_77 : decode cX3_happen 77 = .ok (.iload_n 2, 1) := by decide +kernel
theorem dX3_happen_78 : decode cX3_happen 78 = .ok (.invokevirtual 72, 3) := by decide +kernel
theorem dX3_happen_81 : decode cX3_happen 81 = .ok (.return_, 1) := by decide +kernel
theorem dX3_nextPrime_0 : decode cX3_nextPrime 0 = .ok (.aload_n 0, 1) := by decide +kernel
theorem dX3_nextPrime_1 : decode cX3_nextPrime 1 = .ok (.getfield 29, 3) := by decide +kernel
theorem dX3_nextPrime_4 : decode cX3_nextPrime 4 = .ok (.tableswitch 39 2 5 #[32, 34, 39, 36], 32) := by decide +kernel
theorem dX3_nextPrime_36 : decode cX3_nextPrime 36 = .ok (.iconst 3, 1) := by decide +kernel
theorem dX3_nextPrime_37 : decode cX3_nextPrime 37 = .ok (.ireturn, 1) := by decide +kernel
theorem dX3_nextPrime_38 : decode cX3_nextPrime 38 = .ok (.iconst 5, 1) := by decide +kernel
theorem dX3_nextPrime_39 : decode cX3_nextPrime 39 = .ok (.ireturn, 1) := by decide +kernel
theorem dX3_nextPrime_40 : decode cX3_nextPrime 40 = .ok (.bipush 7, 2) := by decide +kernel
theorem dX3_nextPrime_42 : decode cX3_nextPrime 42 = .ok (.ireturn, 1) := by decide +kernel
theorem dX3_nextPrime_43 : decode cX3_nextPrime 43 = .ok (.iconst 2, 1) := by decide +kernel
theorem dX3_nextPrime_44 : decode cX3_nextPrime 44 = .ok (.ireturn, 1) := by decide +kernel
set_option maxRecDepth 20000 in
theorem ggX3_remainder_X5_remainder : GoodIn wsX3_remainder wsX5_remainder := goodIn_r _ [7, 8, 9, 10, 6, 11, 12, 23] (by decide +kernel) (by decide +kernel)
set_option maxRecDepth 20000 in
theorem gX3_remainder_X5_remainder : GoodIn wsX3_remainder (wsV RX3 75 RX5 yX5_remainder wsX5_remainder) := goodIn_app (goodIn_of _ (by decide +kernel)) ggX3_remainder_X5_remainder
theorem dX3_remainder_0 : decode cX3_remainder 0 = .ok (.aload_n 0, 1) := by decide +kernel
theorem dX3_remainder_1 : decode cX3_remainder 1 = .ok (.getfield 39, 3) := by decide +kernel
theorem dX3_remainder_4 : decode cX3_remainder 4 = .ok (.ifnonnull 7, 3) := by decide +kernel
theorem dX3_remainder_7 : decode cX3_remainder 7 = .ok (.iconst 0, 1) := by decide +kernel
theorem dX3_remainder_8 : decode cX3_remainder 8 = .ok (.goto 16, 3) := by decide +kernel
theorem dX3_remainder_11 : decode cX3_remainder 11 = .ok (.aload_n 0, 1) := by decide +kernel
theorem dX3_remainder_12 : decode cX3_remainder 12 = .ok (.getfield 39, 3) := by decide +kernel
theorem dX3_remainder_15 : decode cX3_remainder 15 = .ok (.iload_n 1, 1) := by decide +kernel
theorem dX3_remainder_16 : decode cX3_remainder 16 = .ok (.iload_n 2, 1) := by decide +kernel
theorem dX3_remainder_17 : decode cX3_remainder 17 = .ok (.aload_n 0, 1) := by decide +kernel
theorem dX3_remainder_18 : decode cX3_remainder 18 = .ok (.getfield 36, 3) := by decide +kernel
theorem dX3_remainder_21 : decode cX3_remainder 21 = .ok (.invokevirtual 75, 3) := by decide +kernel
theorem dX3_remainder_24 : decode cX3_remainder 24 = .ok (.ireturn, 1) := by decide +kernel
set_option maxRecDepth 20000 in
theorem ggX3_tell_X5_remainder : GoodIn wsX3_tell wsX5_remainder := goodIn_r _ [8, 9, 10, 11, 7, 12, 13, 38] (by decide +kernel) (by decide +kernel)
set_option maxRecDepth 20000 in
theorem gX3_tell_X5_remainder : GoodIn wsX3_tell (wsV RX3 75 RX5 yX5_remainder wsX5_remainder) := goodIn_app (goodIn_of _ (by decide +kernel)) ggX3_tell_X5_remainder
set_option maxRecDepth 20000 in
theorem ggX3_tell_X5_lucas : GoodIn wsX3_tell wsX5_lucas := goodIn_r _ [17, 9, 10, 11, 7, 12, 13, 38] (by decide +kernel) (by decide +kernel)
set_option maxRecDepth 20000 in
theorem gX3_tell_X5_lucas : GoodIn wsX3_tell (wsV RX3 81 RX5 yX5_lucas wsX5_lucas) := goodIn_app (goodIn_of _ (by decide +kernel)) ggX3_tell_X5_lucas
set_option maxRecDepth 20000 in
theorem ggX3_tell_X0_carries : GoodIn wsX3_tell wsX0_carries := goodIn_r _ [21] (by decide +kernel) (by decide +kernel)
set_option maxRecDepth 20000 in
theorem gX3_tell_X0_carries : GoodIn wsX3_tell (va_wsS RX3 84 yX0_carries wsX0_carries) := goodIn_app (goodIn_of _ (by decide +kernel)) ggX3_tell_X0_carries
set_option maxRecDepth 20000 in
theorem ggX3_tell_X0_legendre : GoodIn wsX3_tell wsX0_legendre := goodIn_r _ [24] (by decide +kernel) (by decide +kernel)
set_option maxRecDepth 20000 in
theorem gX3_tell_X0_legendre : GoodIn wsX3_tell (va_wsS RX3 87 yX0_legendre wsX0_legendre) := goodIn_app (goodIn_of _ (by decide +kernel)) ggX3_tell_X0_legendre
set_option maxRecDepth 20000 in
theorem ggX3_tell_X0_isCovered : GoodIn wsX3_tell wsX0_isCovered := goodIn_r _ [27] (by decide +kernel) (by decide +kernel)
set_option maxRecDepth 20000 in
theorem gX3_tell_X0_isCovered : GoodIn wsX3_tell (va_wsS RX3 90 yX0_isCovered wsX0_isCovered) := goodIn_app (goodIn_of _ (by decide +kernel)) ggX3_tell_X0_isCovered
theorem dX3_tell_0 : decode cX3_tell 0 = .ok (.aload_n 0, 1) := by decide +kernel
theorem dX3_tell_1 : decode cX3_tell 1 = .ok (.getfield 39, 3) := by decide +kernel
theorem dX3_tell_4 : decode cX3_tell 4 = .ok (.ifnonnull 5, 3) := by decide +kernel
theorem dX3_tell_7 : decode cX3_tell 7 = .ok (.iconst 0, 1) := by decide +kernel
theorem dX3_tell_8 : decode cX3_tell 8 = .ok (.ireturn, 1) := by decide +kernel
theorem dX3_tell_9 : decode cX3_tell 9 = .ok (.iload_n 1, 1) := by decide +kernel
theorem dX3_tell_10 : decode cX3_tell 10 = .ok (.tableswitch 78 0 3 #[30, 44, 58, 68], 30) := by decide +kernel
theorem dX3_tell_40 : decode cX3_tell 40 = .ok (.aload_n 0, 1) := by decide +kernel
theorem dX3_tell_41 : decode cX3_tell 41 = .ok (.getfield 39, 3) := by decide +kernel
theorem dX3_tell_44 : decode cX3_tell 44 = .ok (.iload_n 2, 1) := by decide +kernel
theorem dX3_tell_45 : decode cX3_tell 45 = .ok (.iload_n 3, 1) := by decide +kernel
theorem dX3_tell_46 : decode cX3_tell 46 = .ok (.aload_n 0, 1) := by decide +kernel
theorem dX3_tell_47 : decode cX3_tell 47 = .ok (.getfield 36, 3) := by decide +kernel
theorem dX3_tell_50 : decode cX3_tell 50 = .ok (.invokevirtual 75, 3) := by decide +kernel
theorem dX3_tell_53 : decode cX3_tell 53 = .ok (.ireturn, 1) := by decide +kernel
theorem dX3_tell_54 : decode cX3_tell 54 = .ok (.aload_n 0, 1) := by decide +kernel
theorem dX3_tell_55 : decode cX3_tell 55 = .ok (.getfield 39, 3) := by decide +kernel
theorem dX3_tell_58 : decode cX3_tell 58 = .ok (.aload_n 0, 1) := by decide +kernel
theorem dX3_tell_59 : decode cX3_tell 59 = .ok (.getfield 29, 3) := by decide +kernel
theorem dX3_tell_62 : decode cX3_tell 62 = .ok (.iload_n 2, 1) := by decide +kernel
theorem dX3_tell_63 : decode cX3_tell 63 = .ok (.iload_n 3, 1) := by decide +kernel
theorem dX3_tell_64 : decode cX3_tell 64 = .ok (.invokevirtual 81, 3) := by decide +kernel
theorem dX3_tell_67 : decode cX3_tell 67 = .ok (.ireturn, 1) := by decide +kernel
theorem dX3_tell_68 : decode cX3_tell 68 = .ok (.aload_n 0, 1) := by decide +kernel
theorem dX3_tell_69 : decode cX3_tell 69 = .ok (.getfield 29, 3) := by decide +kernel
theorem dX3_tell_72 : decode cX3_tell 72 = .ok (.iload_n 2, 1) := by decide +kernel
theorem dX3_tell_73 : decode cX3_tell 73 = .ok (.iload_n 3, 1) := by decide +kernel
theorem dX3_tell_74 : decode cX3_tell 74 = .ok (.invokestatic 84, 3) := by decide +kernel
theorem dX3_tell_77 : decode cX3_tell 77 = .ok (.ireturn, 1) := by decide +kernel
theorem dX3_tell_78 : decode cX3_tell 78 = .ok (.aload_n 0, 1) := by decide +kernel
theorem dX3_tell_79 : decode cX3_tell 79 = .ok (.getfield 29, 3) := by decide +kernel
theorem dX3_tell_82 : decode cX3_tell 82 = .ok (.iload_n 2, 1) := by decide +kernel
theorem dX3_tell_83 : decode cX3_tell 83 = .ok (.iload_n 3, 1) := by decide +kernel
theorem dX3_tell_84 : decode cX3_tell 84 = .ok (.invokestatic 87, 3) := by decide +kernel
theorem dX3_tell_87 : decode cX3_tell 87 = .ok (.ireturn, 1) := by decide +kernel
theorem dX3_tell_88 : decode cX3_tell 88 = .ok (.aload_n 0, 1) := by decide +kernel
theorem dX3_tell_89 : decode cX3_tell 89 = .ok (.getfield 29, 3) := by decide +kernel
theorem dX3_tell_92 : decode cX3_tell 92 = .ok (.iload_n 2, 1) := by decide +kernel
theorem dX3_tell_93 : decode cX3_tell 93 = .ok (.iload_n 3, 1) := by decide +kernel
theorem dX3_tell_94 : decode cX3_tell 94 = .ok (.invokestatic 90, 3) := by decide +kernel
theorem dX3_tell_97 : decode cX3_tell 97 = .ok (.ifCond .eq 7, 3) := by decide +kernel
theorem dX3_tell_100 : decode cX3_tell 100 = .ok (.iconst 1, 1) := by decide +kernel
theorem dX3_tell_101 : decode cX3_tell 101 = .ok (.goto 4, 3) := by decide +kernel
theorem dX3_tell_104 : decode cX3_tell 104 = .ok (.iconst 0, 1) := by decide +kernel
theorem dX3_tell_105 : decode cX3_tell 105 = .ok (.ireturn, 1) := by decide +kernel
set_option maxRecDepth 20000 in
theorem ggX3_isMarked_X6_isPlace : GoodIn wsX3_isMarked wsX6_isPlace := goodIn_r _ [4, 5, 6, 3, 7, 8, 9, 10] (by decide +kernel) (by decide +kernel)
set_option maxRecDepth 20000 in
theorem gX3_isMarked_X6_isPlace_n94 : GoodIn wsX3_isMarked (wsX6_isPlace) := ggX3_isMarked_X6_isPlace
set_option maxRecDepth 20000 in
theorem ggX3_isMarked_X1_number : GoodIn wsX3_isMarked wsX1_number := goodIn_r _ [15, 16, 17, 9, 3, 10, 60, 61] (by decide +kernel) (by decide +kernel)
set_option maxRecDepth 20000 in
theorem gX3_isMarked_X1_number : GoodIn wsX3_isMarked (wsV RX3 101 RX1 yX1_number wsX1_number) := goodIn_app (goodIn_of _ (by decide +kernel)) ggX3_isMarked_X1_number
set_option maxRecDepth 20000 in
theorem ggX3_isMarked_X3_tell : GoodIn wsX3_isMarked wsX3_tell := goodIn_r _ [22, 23, 24, 25, 26, 27, 28, 29, 30, 31, 32, 33, 34, 35, 36, 37, 38, 39, 40, 41, 42, 43, 44, 45, 46, 47, 48, 49, 50, 51, 52, 53, 54, 55, 56, 57, 58, 59, 62] (by decide +kernel) (by decide +kernel)
set_option maxRecDepth 20000 in
theorem gX3_isMarked_X3_tell : GoodIn wsX3_isMarked (wsV RX3 104 RX3 yX3_tell wsX3_tell) := goodIn_app (goodIn_of _ (by decide +kernel)) ggX3_isMarked_X3_tell
theorem dX3_isMarked_0 : decode cX3_isMarked 0 = .ok (.iload_n 1, 1) := by decide +kernel
theorem dX3_isMarked_1 : decode cX3_isMarked 1 = .ok (.iload_n 2, 1) := by decide +kernel
theorem dX3_isMarked_2 : decode cX3_isMarked 2 = .ok (.invokestatic 94, 3) := by decide +kernel
theorem dX3_isMarked_5 : decode cX3_isMarked 5 = .ok (.ifCond .ne 5, 3) := by decide +kernel
theorem dX3_isMarked_8 : decode cX3_isMarked 8 = .ok (.iconst 0, 1) := by decide +kernel
theorem dX3_isMarked_9 : decode cX3_isMarked 9 = .ok (.ireturn, 1) := by decide +kernel
theorem dX3_isMarked_10 : decode cX3_isMarked 10 = .ok (.iconst 0, 1) := by decide +kernel
theorem dX3_isMarked_11 : decode cX3_isMarked 11 = .ok (.istore_n 3, 1) := by decide +kernel
theorem dX3_isMarked_12 : decode cX3_isMarked 12 = .ok (.iload_n 3, 1) := by decide +kernel
theorem dX3_isMarked_13 : decode cX3_isMarked 13 = .ok (.aload_n 0, 1) := by decide +kernel
theorem dX3_isMarked_14 : decode cX3_isMarked 14 = .ok (.getfield 16, 3) := by decide +kernel
theorem dX3_isMarked_17 : decode cX3_isMarked 17 = .ok (.getfield 98, 3) := by decide +kernel
theorem dX3_isMarked_20 : decode cX3_isMarked 20 = .ok (.if_icmp .ge 38, 3) := by decide +kernel
theorem dX3_isMarked_23 : decode cX3_isMarked 23 = .ok (.aload_n 0, 1) := by decide +kernel
theorem dX3_isMarked_24 : decode cX3_isMarked 24 = .ok (.aload_n 0, 1) := by decide +kernel
theorem dX3_isMarked_25 : decode cX3_isMarked 25 = .ok (.getfield 16, 3) := by decide +kernel
theorem dX3_isMarked_28 : decode cX3_isMarked 28 = .ok (.iload_n 3, 1) := by decide +kernel
theorem dX3_isMarked_29 : decode cX3_isMarked 29 = .ok (.iconst 0, 1) := by decide +kernel
theorem dX3_isMarked_30 : decode cX3_isMarked 30 = .ok (.invokevirtual 101, 3) := by decide +kernel
theorem dX3_isMarked_33 : decode cX3_isMarked 33 = .ok (.iload_n 1, 1) := by decide +kernel
theorem dX3_isMarked_34 : decode cX3_isMarked 34 = .ok (.iload_n 2, 1) := by decide +kernel
theorem dX3_isMarked_35 : decode cX3_isMarked 35 = .ok (.invokevirtual 104, 3) := by decide +kernel
theorem dX3_isMarked_38 : decode cX3_isMarked 38 = .ok (.aload_n 0, 1) := by decide +kernel
theorem dX3_isMarked_39 : decode cX3_isMarked 39 = .ok (.getfield 16, 3) := by decide +kernel
theorem dX3_isMarked_42 : decode cX3_isMarked 42 = .ok (.iload_n 3, 1) := by decide +kernel
theorem dX3_isMarked_43 : decode cX3_isMarked 43 = .ok (.iconst 1, 1) := by decide +kernel
theorem dX3_isMarked_44 : decode cX3_isMarked 44 = .ok (.invokevirtual 101, 3) := by decide +kernel
theorem dX3_isMarked_47 : decode cX3_isMarked 47 = .ok (.if_icmp .ne 5, 3) := by decide +kernel
theorem dX3_isMarked_50 : decode cX3_isMarked 50 = .ok (.iconst 1, 1) := by decide +kernel
theorem dX3_isMarked_51 : decode cX3_isMarked 51 = .ok (.ireturn, 1) := by decide +kernel
theorem dX3_isMarked_52 : decode cX3_isMarked 52 = .ok (.iinc 3 1, 3) := by decide +kernel
theorem dX3_isMarked_55 : decode cX3_isMarked 55 = .ok (.goto (-43), 3) := by decide +kernel
theorem dX3_isMarked_58 : decode cX3_isMarked 58 = .ok (.iconst 0, 1) := by decide +kernel
theorem dX3_isMarked_59 : decode cX3_isMarked 59 = .ok (.ireturn, 1) := by decide +kernel
set_option maxRecDepth 20000 in
theorem ggX3_pictureRow_X3_isMarked : GoodIn wsX3_pictureRow wsX3_isMarked := goodIn_r _ [7, 8, 9, 10, 11, 12, 13, 14, 15, 16, 17, 18, 19, 20, 21, 22, 23, 24, 25, 26, 27, 6, 28, 29, 30, 31, 32, 33, 34, 35, 36, 37, 38, 39, 40, 41, 42, 43, 44, 45, 46, 47, 48, 49, 50, 51, 52, 53, 54, 55, 56, 57, 58, 59, 60, 61, 62, 63, 64, 65, 66, 67, 68] (by decide +kernel) (by decide +kernel)
set_option maxRecDepth 20000 in
theorem gX3_pictureRow_X3_isMarked : GoodIn wsX3_pictureRow (wsV RX3 107 RX3 yX3_isMarked wsX3_isMarked) := goodIn_app (goodIn_of _ (by decide +kernel)) ggX3_pictureRow_X3_isMarked
theorem dX3_pictureRow_0 : decode cX3_pictureRow 0 = .ok (.iconst 0, 1) := by decide +kernel
theorem dX3_pictureRow_1 : decode cX3_pictureRow 1 = .ok (.istore_n 2, 1) := by decide +kernel
theorem dX3_pictureRow_2 : decode cX3_pictureRow 2 = .ok (.iconst 0, 1) := by decide +kernel
theorem dX3_pictureRow_3 : decode cX3_pictureRow 3 = .ok (.istore_n 3, 1) := by decide +kernel
theorem dX3_pictureRow_4 : decode cX3_pictureRow 4 = .ok (.iload_n 3, 1) := by decide +kernel
theorem dX3_pictureRow_5 : decode cX3_pictureRow 5 = .ok (.bipush 8, 2) := by decide +kernel
theorem dX3_pictureRow_7 : decode cX3_pictureRow 7 = .ok (.if_icmp .ge 34, 3) := by decide +kernel
theorem dX3_pictureRow_10 : decode cX3_pictureRow 10 = .ok (.aload_n 0, 1) := by decide +kernel
theorem dX3_pictureRow_11 : decode cX3_pictureRow 11 = .ok (.aload_n 0, 1) := by decide +kernel
theorem dX3_pictureRow_12 : decode cX3_pictureRow 12 = .ok (.getfield 53, 3) := by decide +kernel
theorem dX3_pictureRow_15 : decode cX3_pictureRow 15 = .ok (.iload_n 1, 1) := by decide +kernel
theorem dX3_pictureRow_16 : decode cX3_pictureRow 16 = .ok (.iadd, 1) := by decide +kernel
theorem dX3_pictureRow_17 : decode cX3_pictureRow 17 = .ok (.aload_n 0, 1) := by decide +kernel
theorem dX3_pictureRow_18 : decode cX3_pictureRow 18 = .ok (.getfield 56, 3) := by decide +kernel
theorem dX3_pictureRow_21 : decode cX3_pictureRow 21 = .ok (.iload_n 3, 1) := by decide +kernel
theorem dX3_pictureRow_22 : decode cX3_pictureRow 22 = .ok (.iadd, 1) := by decide +kernel
theorem dX3_pictureRow_23 : decode cX3_pictureRow 23 = .ok (.invokevirtual 107, 3) := by decide +kernel
theorem dX3_pictureRow_26 : decode cX3_pictureRow 26 = .ok (.ifCond .eq 9, 3) := by decide +kernel
theorem dX3_pictureRow_29 : decode cX3_pictureRow 29 = .ok (.iload_n 2, 1) := by decide +kernel
theorem dX3_pictureRow_30 : decode cX3_pictureRow 30 = .ok (.iconst 1, 1) := by decide +kernel
theorem dX3_pictureRow_31 : decode cX3_pictureRow 31 = .ok (.iload_n 3, 1) := by decide +kernel
theorem dX3_pictureRow_32 : decode cX3_pictureRow 32 = .ok (.ishl, 1) := by decide +kernel
theorem dX3_pictureRow_33 : decode cX3_pictureRow 33 = .ok (.ior, 1) := by decide +kernel
theorem dX3_pictureRow_34 : decode cX3_pictureRow 34 = .ok (.istore_n 2, 1) := by decide +kernel
theorem dX3_pictureRow_35 : decode cX3_pictureRow 35 = .ok (.iinc 3 1, 3) := by decide +kernel
theorem dX3_pictureRow_38 : decode cX3_pictureRow 38 = .ok (.goto (-34), 3) := by decide +kernel
theorem dX3_pictureRow_41 : decode cX3_pictureRow 41 = .ok (.iload_n 2, 1) := by decide +kernel
theorem dX3_pictureRow_42 : decode cX3_pictureRow 42 = .ok (.ireturn, 1) := by decide +kernel
set_option maxRecDepth 20000 in
theorem ggX3_markedInWindow_X3_pictureRow : GoodIn wsX3_markedInWindow wsX3_pictureRow := goodIn_r _ [5, 6, 7, 8, 9, 10, 4, 11, 12, 13, 14, 15, 16, 17, 18, 19, 20, 21, 22, 23, 24, 25, 26, 27, 28, 29, 30, 31, 32, 33, 34, 35, 36, 37, 38, 39, 40, 41, 42, 43, 44, 45, 46, 47, 48, 49, 50, 51, 52, 53, 54, 55, 56, 57, 58, 59, 67, 68, 69, 70, 71, 72, 73, 74, 75, 76, 77, 78, 79] (by decide +kernel) (by decide +kernel)
set_option maxRecDepth 20000 in
theorem gX3_markedInWindow_X3_pictureRow : GoodIn wsX3_markedInWindow (wsV RX3 110 RX3 yX3_pictureRow wsX3_pictureRow) := goodIn_app (goodIn_of _ (by decide +kernel)) ggX3_markedInWindow_X3_pictureRow
set_option maxRecDepth 20000 in
theorem ggX3_markedInWindow_J6_bitCount_0f7a4 : GoodIn wsX3_markedInWindow wsJ6_bitCount_0f7a4 := goodIn_r _ [63, 64, 65, 66] (by decide +kernel) (by decide +kernel)
set_option maxRecDepth 20000 in
theorem gX3_markedInWindow_J6_bitCount_0f7a4 : GoodIn wsX3_markedInWindow (va_wsS RX3 114 yJ6_bitCount_0f7a4 wsJ6_bitCount_0f7a4) := goodIn_app (goodIn_of _ (by decide +kernel)) ggX3_markedInWindow_J6_bitCount_0f7a4
theorem dX3_markedInWindow_0 : decode cX3_markedInWindow 0 = .ok (.iconst 0, 1) := by decide +kernel
theorem dX3_markedInWindow_1 : decode cX3_markedInWindow 1 = .ok (.istore_n 1, 1) := by decide +kernel
theorem dX3_markedInWindow_2 : decode cX3_markedInWindow 2 = .ok (.iconst 0, 1) := by decide +kernel
theorem dX3_markedInWindow_3 : decode cX3_markedInWindow 3 = .ok (.istore_n 2, 1) := by decide +kernel
theorem dX3_markedInWindow_4 : decode cX3_markedInWindow 4 = .ok (.iload_n 2, 1) := by decide +kernel
theorem dX3_markedInWindow_5 : decode cX3_markedInWindow 5 = .ok (.bipush 8, 2) := by decide +kernel
theorem dX3_markedInWindow_7 : decode cX3_markedInWindow 7 = .ok (.if_icmp .ge 20, 3) := by decide +kernel
theorem dX3_markedInWindow_10 : decode cX3_markedInWindow 10 = .ok (.iload_n 1, 1) := by decide +kernel
theorem dX3_markedInWindow_11 : decode cX3_markedInWindow 11 = .ok (.aload_n 0, 1) := by decide +kernel
theorem dX3_markedInWindow_12 : decode cX3_markedInWindow 12 = .ok (.iload_n 2, 1) := by decide +kernel
theorem dX3_markedInWindow_13 : decode cX3_markedInWindow 13 = .ok (.invokevirtual 110, 3) := by decide +kernel
theorem dX3_markedInWindow_16 : decode cX3_markedInWindow 16 = .ok (.invokestatic 114, 3) := by decide +kernel
theorem dX3_markedInWindow_19 : decode cX3_markedInWindow 19 = .ok (.iadd, 1) := by decide +kernel
theorem dX3_markedInWindow_20 : decode cX3_markedInWindow 20 = .ok (.istore_n 1, 1) := by decide +kernel
theorem dX3_markedInWindow_21 : decode cX3_markedInWindow 21 = .ok (.iinc 2 1, 3) := by decide +kernel
theorem dX3_markedInWindow_24 : decode cX3_markedInWindow 24 = .ok (.goto (-20), 3) := by decide +kernel
theorem dX3_markedInWindow_27 : decode cX3_markedInWindow 27 = .ok (.iload_n 1, 1) := by decide +kernel
theorem dX3_markedInWindow_28 : decode cX3_markedInWindow 28 = .ok (.ireturn, 1) := by decide +kernel
theorem dX4_init_0 : decode cX4_init 0 = .ok (.aload_n 0, 1) := by decide +kernel
theorem dX4_init_1 : decode cX4_init 1 = .ok (.invokespecial 1, 3) := by decide +kernel
theorem dX4_init_4 : decode cX4_init 4 = .ok (.aload_n 0, 1) := by decide +kernel
theorem dX4_init_5 : decode cX4_init 5 = .ok (.bipush 6, 2) := by decide +kernel
theorem dX4_init_7 : decode cX4_init 7 = .ok (.newarray .int, 2) := by decide +kernel
theorem dX4_init_9 : decode cX4_init 9 = .ok (.dup, 1) := by decide +kernel
theorem dX4_init_10 : decode cX4_init 10 = .ok (.iconst 0, 1) := by decide +kernel
theorem dX4_init_11 : decode cX4_init 11 = .ok (.iconst (-1), 1) := by decide +kernel
theorem dX4_init_12 : decode cX4_init 12 = .ok (.iastore, 1) := by decide +kernel
theorem dX4_init_13 : decode cX4_init 13 = .ok (.dup, 1) := by decide +kernel
theorem dX4_init_14 : decode cX4_init 14 = .ok (.iconst 1, 1) := by decide +kernel
theorem dX4_init_15 : decode cX4_init 15 = .ok (.iconst (-1), 1) := by decide +kernel
theorem dX4_init_16 : decode cX4_init 16 = .ok (.iastore, 1) := by decide +kernel
theorem dX4_init_17 : decode cX4_init 17 = .ok (.dup, 1) := by decide +kernel
theorem dX4_init_18 : decode cX4_init 18 = .ok (.iconst 2, 1) := by decide +kernel
theorem dX4_init_19 : decode cX4_init 19 = .ok (.iconst (-1), 1) := by decide +kernel
theorem dX4_init_20 : decode cX4_init 20 = .ok (.iastore, 1) := by decide +kernel
theorem dX4_init_21 : decode cX4_init 21 = .ok (.dup, 1) := by decide +kernel
theorem dX4_init_22 : decode cX4_init 22 = .ok (.iconst 3, 1) := by decide +kernel
theorem dX4_init_23 : decode cX4_init 23 = .ok (.iconst (-1), 1) := by decide +kernel
theorem dX4_init_24 : decode cX4_init 24 = .ok (.iastore, 1) := by decide +kernel
theorem dX4_init_25 : decode cX4_init 25 = .ok (.dup, 1) := by decide +kernel
theorem dX4_init_26 : decode cX4_init 26 = .ok (.iconst 4, 1) := by decide +kernel
theorem dX4_init_27 : decode cX4_init 27 = .ok (.iconst (-1), 1) := by decide +kernel
theorem dX4_init_28 : decode cX4_init 28 = .ok (.iastore, 1) := by decide +kernel
theorem dX4_init_29 : decode cX4_init 29 = .ok (.dup, 1) := by decide +kernel
theorem dX4_init_30 : decode cX4_init 30 = .ok (.iconst 5, 1) := by decide +kernel
theorem dX4_init_31 : decode cX4_init 31 = .ok (.iconst (-1), 1) := by decide +kernel
theorem dX4_init_32 : decode cX4_init 32 = .ok (.iastore, 1) := by decide +kernel
theorem dX4_init_33 : decode cX4_init 33 = .ok (.putfield 9, 3) := by decide +kernel
theorem dX4_init_36 : decode cX4_init 36 = .ok (.aload_n 0, 1) := by decide +kernel
theorem dX4_init_37 : decode cX4_init 37 = .ok (.bipush 6, 2) := by decide +kernel
theorem dX4_init_39 : decode cX4_init 39 = .ok (.newarray .int, 2) := by decide +kernel
theorem dX4_init_41 : decode cX4_init 41 = .ok (.putfield 13, 3) := by decide +kernel
theorem dX4_init_44 : decode cX4_init 44 = .ok (.aload_n 0, 1) := by decide +kernel
theorem dX4_init_45 : decode cX4_init 45 = .ok (.sipush 360, 3) := by decide +kernel
theorem dX4_init_48 : decode cX4_init 48 = .ok (.newarray .long, 2) := by decide +kernel
theorem dX4_init_50 : decode cX4_init 50 = .ok (.putfield 16, 3) := by decide +kernel
theorem dX4_init_53 : decode cX4_init 53 = .ok (.return_, 1) := by decide +kernel
set_option maxRecDepth 20000 in
theorem ggX4_isThere_X6_isWithin : GoodIn wsX4_isThere wsX6_isWithin := goodIn_r _ [3] (by decide +kernel) (by decide +kernel)
set_option maxRecDepth 20000 in
theorem gX4_isThere_X6_isWithin_n20 : GoodIn wsX4_isThere (wsX6_isWithin) := ggX4_isThere_X6_isWithin
theorem dX4_isThere_0 : decode cX4_isThere 0 = .ok (.iload_n 0, 1) := by decide +kernel
theorem dX4_isThere_1 : decode cX4_isThere 1 = .ok (.iconst 0, 1) := by decide +kernel
theorem dX4_isThere_2 : decode cX4_isThere 2 = .ok (.iconst 5, 1) := by decide +kernel
theorem dX4_isThere_3 : decode cX4_isThere 3 = .ok (.invokestatic 20, 3) := by decide +kernel
theorem dX4_isThere_6 : decode cX4_isThere 6 = .ok (.ireturn, 1) := by decide +kernel
theorem dX4_sortOf_0 : decode cX4_sortOf 0 = .ok (.iload_n 1, 1) := by decide +kernel
theorem dX4_sortOf_1 : decode cX4_sortOf 1 = .ok (.ifCond .lt 21, 3) := by decide +kernel
theorem dX4_sortOf_4 : decode cX4_sortOf 4 = .ok (.iload_n 1, 1) := by decide +kernel
theorem dX4_sortOf_5 : decode cX4_sortOf 5 = .ok (.aload_n 0, 1) := by decide +kernel
theorem dX4_sortOf_6 : decode cX4_sortOf 6 = .ok (.getfield 9, 3) := by decide +kernel
theorem dX4_sortOf_9 : decode cX4_sortOf 9 = .ok (.arraylength, 1) := by decide +kernel
theorem dX4_sortOf_10 : decode cX4_sortOf 10 = .ok (.if_icmp .ge 12, 3) := by decide +kernel
theorem dX4_sortOf_13 : decode cX4_sortOf 13 = .ok (.aload_n 0, 1) := by decide +kernel
theorem dX4_sortOf_14 : decode cX4_sortOf 14 = .ok (.getfield 9, 3) := by decide +kernel
theorem dX4_sortOf_17 : decode cX4_sortOf 17 = .ok (.iload_n 1, 1) := by decide +kernel
theorem dX4_sortOf_18 : decode cX4_sortOf 18 = .ok (.iaload, 1) := by decide +kernel
theorem dX4_sortOf_19 : decode cX4_sortOf 19 = .ok (.goto 4, 3) := by decide +kernel
theorem dX4_sortOf_22 : decode cX4_sortOf 22 = .ok (.iconst (-1), 1) := by decide +kernel
theorem dX4_sortOf_23 : decode cX4_sortOf 23 = .ok (.ireturn, 1) := by decide +kernel
theorem dX4_lengthOf_0 : decode cX4_lengthOf 0 = .ok (.iload_n 1, 1) := by decide +kernel
theorem dX4_lengthOf_1 : decode cX4_lengthOf 1 = .ok (.ifCond .lt 21, 3) := by decide +kernel
theorem dX4_lengthOf_4 : decode cX4_lengthOf 4 = .ok (.iload_n 1, 1) := by decide +kernel
theorem dX4_lengthOf_5 : decode cX4_lengthOf 5 = .ok (.aload_n 0, 1) := by decide +kernel
theorem dX4_lengthOf_6 : decode cX4_lengthOf 6 = .ok (.getfield 13, 3) := by decide +kernel
theorem dX4_lengthOf_9 : decode cX4_lengthOf 9 = .ok (.arraylength, 1) := by decide +kernel
theorem dX4_lengthOf_10 : decode cX4_lengthOf 10 = .ok (.if_icmp .ge 12, 3) := by decide +kernel
theorem dX4_lengthOf_13 : decode cX4_lengthOf 13 = .ok (.aload_n 0, 1) := by decide +kernel
theorem dX4_lengthOf_14 : decode cX4_lengthOf 14 = .ok (.getfield 13, 3) := by decide +kernel
theorem dX4_lengthOf_17 : decode cX4_lengthOf 17 = .ok (.iload_n 1, 1) := by decide +kernel
theorem dX4_lengthOf_18 : decode cX4_lengthOf 18 = .ok (.iaload, 1) := by decide +kernel
theorem dX4_lengthOf_19 : decode cX4_lengthOf 19 = .ok (.goto 4, 3) := by decide +kernel
theorem dX4_lengthOf_22 : decode cX4_lengthOf 22 = .ok (.iconst 0, 1) := by decide +kernel
theorem dX4_lengthOf_23 : decode cX4_lengthOf 23 = .ok (.ireturn, 1) := by decide +kernel
set_option maxRecDepth 20000 in
theorem ggX4_become_X4_put : GoodIn wsX4_become wsX4_put := goodIn_r _ [14, 15, 16, 17, 18, 13, 19, 20, 21, 22, 23, 2, 24, 25, 26, 27, 1, 28, 29, 30, 31, 32, 33] (by decide +kernel) (by decide +kernel)
set_option maxRecDepth 20000 in
theorem gX4_become_X4_put : GoodIn wsX4_become (wsV RX4 35 RX4 yX4_put wsX4_put) := goodIn_app (goodIn_of _ (by decide +kernel)) ggX4_become_X4_put
theorem dX4_become_0 : decode cX4_become 0 = .ok (.iload_n 1, 1) := by decide +kernel
theorem dX4_become_1 : decode cX4_become 1 = .ok (.ifCond .lt 21, 3) := by decide +kernel
theorem dX4_become_4 : decode cX4_become 4 = .ok (.iload_n 1, 1) := by decide +kernel
theorem dX4_become_5 : decode cX4_become 5 = .ok (.aload_n 0, 1) := by decide +kernel
theorem dX4_become_6 : decode cX4_become 6 = .ok (.getfield 9, 3) := by decide +kernel
theorem dX4_become_9 : decode cX4_become 9 = .ok (.arraylength, 1) := by decide +kernel
theorem dX4_become_10 : decode cX4_become 10 = .ok (.if_icmp .ge 12, 3) := by decide +kernel
theorem dX4_become_13 : decode cX4_become 13 = .ok (.iload_n 1, 1) := by decide +kernel
theorem dX4_become_14 : decode cX4_become 14 = .ok (.aload_n 0, 1) := by decide +kernel
theorem dX4_become_15 : decode cX4_become 15 = .ok (.getfield 13, 3) := by decide +kernel
theorem dX4_become_18 : decode cX4_become 18 = .ok (.arraylength, 1) := by decide +kernel
theorem dX4_become_19 : decode cX4_become 19 = .ok (.if_icmp .lt 4, 3) := by decide +kernel
theorem dX4_become_22 : decode cX4_become 22 = .ok (.return_, 1) := by decide +kernel
theorem dX4_become_23 : decode cX4_become 23 = .ok (.aload_n 0, 1) := by decide +kernel
theorem dX4_become_24 : decode cX4_become 24 = .ok (.getfield 9, 3) := by decide +kernel
theorem dX4_become_27 : decode cX4_become 27 = .ok (.iload_n 1, 1) := by decide +kernel
theorem dX4_become_28 : decode cX4_become 28 = .ok (.iload_n 2, 1) := by decide +kernel
theorem dX4_become_29 : decode cX4_become 29 = .ok (.iastore, 1) := by decide +kernel
theorem dX4_become_30 : decode cX4_become 30 = .ok (.aload_n 0, 1) := by decide +kernel
theorem dX4_become_31 : decode cX4_become 31 = .ok (.getfield 13, 3) := by decide +kernel
theorem dX4_become_34 : decode cX4_become 34 = .ok (.iload_n 1, 1) := by decide +kernel
theorem dX4_become_35 : decode cX4_become 35 = .ok (.iconst 0, 1) := by decide +kernel
theorem dX4_become_36 : decode cX4_become 36 = .ok (.iload_n 3, 1) := by decide +kernel
theorem dX4_become_37 : decode cX4_become 37 = .ok (.bipush 60, 2) := by decide +kernel
theorem dX4_become_39 : decode cX4_become 39 = .ok (.invokestatic 26, 3) := by decide +kernel
theorem dX4_become_42 : decode cX4_become 42 = .ok (.invokestatic 32, 3) := by decide +kernel
theorem dX4_become_45 : decode cX4_become 45 = .ok (.iastore, 1) := by decide +kernel
theorem dX4_become_46 : decode cX4_become 46 = .ok (.iconst 0, 1) := by decide +kernel
theorem dX4_become_47 : decode cX4_become 47 = .ok (.istore 4, 2) := by decide +kernel
theorem dX4_become_49 : decode cX4_become 49 = .ok (.iload 4, 2) := by decide +kernel
theorem dX4_become_51 : decode cX4_become 51 = .ok (.aload_n 0, 1) := by decide +kernel
theorem dX4_become_52 : decode cX4_become 52 = .ok (.getfield 13, 3) := by decide +kernel
theorem dX4_become_55 : decode cX4_become 55 = .ok (.iload_n 1, 1) := by decide +kernel
theorem dX4_become_56 : decode cX4_become 56 = .ok (.iaload, 1) := by decide +kernel
theorem dX4_become_57 : decode cX4_become 57 = .ok (.if_icmp .ge 17, 3) := by decide +kernel
theorem dX4_become_60 : decode cX4_become 60 = .ok (.aload_n 0, 1) := by decide +kernel
theorem dX4_become_61 : decode cX4_become 61 = .ok (.iload_n 1, 1) := by decide +kernel
theorem dX4_become_62 : decode cX4_become 62 = .ok (.iload 4, 2) := by decide +kernel
theorem dX4_become_64 : decode cX4_become 64 = .ok (.lconst 0, 1) := by decide +kernel
theorem dX4_become_65 : decode cX4_become 65 = .ok (.invokevirtual 35, 3) := by decide +kernel
theorem dX4_become_68 : decode cX4_become 68 = .ok (.iinc 4 1, 3) := by decide +kernel
theorem dX4_become_71 : decode cX4_become 71 = .ok (.goto (-22), 3) := by decide +kernel
theorem dX4_become_74 : decode cX4_become 74 = .ok (.return_, 1) := by decide +kernel
set_option maxRecDepth 20000 in
theorem ggX4_hasRun_X4_lengthOf : GoodIn wsX4_hasRun wsX4_lengthOf := goodIn_r _ [5, 6, 7, 8, 9] (by decide +kernel) (by decide +kernel)
set_option maxRecDepth 20000 in
theorem gX4_hasRun_X4_lengthOf : GoodIn wsX4_hasRun (wsV RX4 39 RX4 yX4_lengthOf wsX4_lengthOf) := goodIn_app (goodIn_of _ (by decide +kernel)) ggX4_hasRun_X4_lengthOf
theorem dX4_hasRun_0 : decode cX4_hasRun 0 = .ok (.iload_n 3, 1) := by decide +kernel
theorem dX4_hasRun_1 : decode cX4_hasRun 1 = .ok (.ifCond .lt 22, 3) := by decide +kernel
theorem dX4_hasRun_4 : decode cX4_hasRun 4 = .ok (.iload_n 2, 1) := by decide +kernel
theorem dX4_hasRun_5 : decode cX4_hasRun 5 = .ok (.ifCond .lt 18, 3) := by decide +kernel
theorem dX4_hasRun_8 : decode cX4_hasRun 8 = .ok (.iload_n 2, 1) := by decide +kernel
theorem dX4_hasRun_9 : decode cX4_hasRun 9 = .ok (.aload_n 0, 1) := by decide +kernel
theorem dX4_hasRun_10 : decode cX4_hasRun 10 = .ok (.iload_n 1, 1) := by decide +kernel
theorem dX4_hasRun_11 : decode cX4_hasRun 11 = .ok (.invokevirtual 39, 3) := by decide +kernel
theorem dX4_hasRun_14 : decode cX4_hasRun 14 = .ok (.iload_n 3, 1) := by decide +kernel
theorem dX4_hasRun_15 : decode cX4_hasRun 15 = .ok (.isub, 1) := by decide +kernel
theorem dX4_hasRun_16 : decode cX4_hasRun 16 = .ok (.if_icmp .gt 7, 3) := by decide +kernel
theorem dX4_hasRun_19 : decode cX4_hasRun 19 = .ok (.iconst 1, 1) := by decide +kernel
theorem dX4_hasRun_20 : decode cX4_hasRun 20 = .ok (.goto 4, 3) := by decide +kernel
theorem dX4_hasRun_23 : decode cX4_hasRun 23 = .ok (.iconst 0, 1) := by decide +kernel
theorem dX4_hasRun_24 : decode cX4_hasRun 24 = .ok (.ireturn, 1) := by decide +kernel
set_option maxRecDepth 20000 in
theorem ggX4_value_X4_hasRun : GoodIn wsX4_value wsX4_hasRun := goodIn_r _ [6, 7, 8, 9, 5, 10, 11, 12, 13, 14] (by decide +kernel) (by decide +kernel)
set_option maxRecDepth 20000 in
theorem gX4_value_X4_hasRun : GoodIn wsX4_value (wsV RX4 43 RX4 yX4_hasRun wsX4_hasRun) := goodIn_app (goodIn_of _ (by decide +kernel)) ggX4_value_X4_hasRun
theorem dX4_value_0 : decode cX4_value 0 = .ok (.bipush 60, 2) := by decide +kernel
theorem dX4_value_2 : decode cX4_value 2 = .ok (.iload_n 1, 1) := by decide +kernel
theorem dX4_value_3 : decode cX4_value 3 = .ok (.imul, 1) := by decide +kernel
theorem dX4_value_4 : decode cX4_value 4 = .ok (.iload_n 2, 1) := by decide +kernel
theorem dX4_value_5 : decode cX4_value 5 = .ok (.iadd, 1) := by decide +kernel
theorem dX4_value_6 : decode cX4_value 6 = .ok (.istore_n 3, 1) := by decide +kernel
theorem dX4_value_7 : decode cX4_value 7 = .ok (.aload_n 0, 1) := by decide +kernel
theorem dX4_value_8 : decode cX4_value 8 = .ok (.iload_n 1, 1) := by decide +kernel
theorem dX4_value_9 : decode cX4_value 9 = .ok (.iload_n 2, 1) := by decide +kernel
theorem dX4_value_10 : decode cX4_value 10 = .ok (.iconst 1, 1) := by decide +kernel
theorem dX4_value_11 : decode cX4_value 11 = .ok (.invokevirtual 43, 3) := by decide +kernel
theorem dX4_value_14 : decode cX4_value 14 = .ok (.ifCond .eq 25, 3) := by decide +kernel
theorem dX4_value_17 : decode cX4_value 17 = .ok (.iload_n 3, 1) := by decide +kernel
theorem dX4_value_18 : decode cX4_value 18 = .ok (.ifCond .lt 21, 3) := by decide +kernel
theorem dX4_value_21 : decode cX4_value 21 = .ok (.iload_n 3, 1) := by decide +kernel
theorem dX4_value_22 : decode cX4_value 22 = .ok (.aload_n 0, 1) := by decide +kernel
theorem dX4_value_23 : decode cX4_value 23 = .ok (.getfield 16, 3) := by decide +kernel
theorem dX4_value_26 : decode cX4_value 26 = .ok (.arraylength, 1) := by decide +kernel
theorem dX4_value_27 : decode cX4_value 27 = .ok (.if_icmp .ge 12, 3) := by decide +kernel
theorem dX4_value_30 : decode cX4_value 30 = .ok (.aload_n 0, 1) := by decide +kernel
theorem dX4_value_31 : decode cX4_value 31 = .ok (.getfield 16, 3) := by decide +kernel
theorem dX4_value_34 : decode cX4_value 34 = .ok (.iload_n 3, 1) := by decide +kernel
theorem dX4_value_35 : decode cX4_value 35 = .ok (.laload, 1) := by decide +kernel
theorem dX4_value_36 : decode cX4_value 36 = .ok (.goto 4, 3) := by decide +kernel
theorem dX4_value_39 : decode cX4_value 39 = .ok (.lconst 0, 1) := by decide +kernel
theorem dX4_value_40 : decode cX4_value 40 = .ok (.lreturn, 1) := by decide +kernel
set_option maxRecDepth 20000 in
theorem ggX4_put_X4_hasRun : GoodIn wsX4_put wsX4_hasRun := goodIn_r _ [6, 7, 8, 9, 5, 10, 11, 20, 21, 22] (by decide +kernel) (by decide +kernel)
set_option maxRecDepth 20000 in
theorem gX4_put_X4_hasRun : GoodIn wsX4_put (wsV RX4 43 RX4 yX4_hasRun wsX4_hasRun) := goodIn_app (goodIn_of _ (by decide +kernel)) ggX4_put_X4_hasRun
set_option maxRecDepth 20000 in
theorem ggX4_put_X4_sortOf : GoodIn wsX4_put wsX4_sortOf := goodIn_r _ [15, 16, 20, 21, 22] (by decide +kernel) (by decide +kernel)
set_option maxRecDepth 20000 in
theorem gX4_put_X4_sortOf : GoodIn wsX4_put (wsV RX4 46 RX4 yX4_sortOf wsX4_sortOf) := goodIn_app (goodIn_of _ (by decide +kernel)) ggX4_put_X4_sortOf
set_option maxRecDepth 20000 in
theorem ggX4_put_X4_cutToSort : GoodIn wsX4_put wsX4_cutToSort := goodIn_r _ [19] (by decide +kernel) (by decide +kernel)
set_option maxRecDepth 20000 in
theorem gX4_put_X4_cutToSort : GoodIn wsX4_put (va_wsS RX4 49 yX4_cutToSort wsX4_cutToSort) := goodIn_app (goodIn_of _ (by decide +kernel)) ggX4_put_X4_cutToSort
theorem dX4_put_0 : decode cX4_put 0 = .ok (.bipush 60, 2) := by decide +kernel
theorem dX4_put_2 : decode cX4_put 2 = .ok (.iload_n 1, 1) := by decide +kernel
theorem dX4_put_3 : decode cX4_put 3 = .ok (.imul, 1) := by decide +kernel
theorem dX4_put_4 : decode cX4_put 4 = .ok (.iload_n 2, 1) := by decide +kernel
theorem dX4_put_5 : decode cX4_put 5 = .ok (.iadd, 1) := by decide +kernel
theorem dX4_put_6 : decode cX4_put 6 = .ok (.istore 5, 2) := by decide +kernel
theorem dX4_put_8 : decode cX4_put 8 = .ok (.aload_n 0, 1) := by decide +kernel
theorem dX4_put_9 : decode cX4_put 9 = .ok (.iload_n 1, 1) := by decide +kernel
theorem dX4_put_10 : decode cX4_put 10 = .ok (.iload_n 2, 1) := by decide +kernel
theorem dX4_put_11 : decode cX4_put 11 = .ok (.iconst 1, 1) := by decide +kernel
theorem dX4_put_12 : decode cX4_put 12 = .ok (.invokevirtual 43, 3) := by decide +kernel
theorem dX4_put_15 : decode cX4_put 15 = .ok (.ifCond .eq 34, 3) := by decide +kernel
theorem dX4_put_18 : decode cX4_put 18 = .ok (.iload 5, 2) := by decide +kernel
theorem dX4_put_20 : decode cX4_put 20 = .ok (.ifCond .lt 29, 3) := by decide +kernel
theorem dX4_put_23 : decode cX4_put 23 = .ok (.iload 5, 2) := by decide +kernel
theorem dX4_put_25 : decode cX4_put 25 = .ok (.aload_n 0, 1) := by decide +kernel
theorem dX4_put_26 : decode cX4_put 26 = .ok (.getfield 16, 3) := by decide +kernel
theorem dX4_put_29 : decode cX4_put 29 = .ok (.arraylength, 1) := by decide +kernel
theorem dX4_put_30 : decode cX4_put 30 = .ok (.if_icmp .ge 19, 3) := by decide +kernel
theorem dX4_put_33 : decode cX4_put 33 = .ok (.aload_n 0, 1) := by decide +kernel
theorem dX4_put_34 : decode cX4_put 34 = .ok (.getfield 16, 3) := by decide +kernel
theorem dX4_put_37 : decode cX4_put 37 = .ok (.iload 5, 2) := by decide +kernel
theorem dX4_put_39 : decode cX4_put 39 = .ok (.aload_n 0, 1) := by decide +kernel
theorem dX4_put_40 : decode cX4_put 40 = .ok (.iload_n 1, 1) := by decide +kernel
theorem dX4_put_41 : decode cX4_put 41 = .ok (.invokevirtual 46, 3) := by decide +kernel
theorem dX4_put_44 : decode cX4_put 44 = .ok (.lload_n 3, 1) := by decide +kernel
theorem dX4_put_45 : decode cX4_put 45 = .ok (.invokestatic 49, 3) := by decide +kernel
theorem dX4_put_48 : decode cX4_put 48 = .ok (.lastore, 1) := by decide +kernel
theorem dX4_put_49 : decode cX4_put 49 = .ok (.return_, 1) := by decide +kernel
theorem dX4_cutToSort_0 : decode cX4_cutToSort 0 = .ok (.iload_n 0, 1) := by decide +kernel
theorem dX4_cutToSort_1 : decode cX4_cutToSort 1 = .ok (.tableswitch 61 0 4 #[35, 40, 45, 61, 49], 35) := by decide +kernel
theorem dX4_cutToSort_36 : decode cX4_cutToSort 36 = .ok (.lload_n 1, 1) := by decide +kernel
theorem dX4_cutToSort_37 : decode cX4_cutToSort 37 = .ok (.l2i, 1) := by decide +kernel
theorem dX4_cutToSort_38 : decode cX4_cutToSort 38 = .ok (.i2b, 1) := by decide +kernel
theorem dX4_cutToSort_39 : decode cX4_cutToSort 39 = .ok (.i2l, 1) := by decide +kernel
theorem dX4_cutToSort_40 : decode cX4_cutToSort 40 = .ok (.lreturn, 1) := by decide +kernel
theorem dX4_cutToSort_41 : decode cX4_cutToSort 41 = .ok (.lload_n 1, 1) := by decide +kernel
theorem dX4_cutToSort_42 : decode cX4_cutToSort 42 = .ok (.l2i, 1) := by decide +kernel
theorem dX4_cutToSort_43 : decode cX4_cutToSort 43 = .ok (.i2s, 1) := by decide +kernel
theorem dX4_cutToSort_44 : decode cX4_cutToSort 44 = .ok (.i2l, 1) := by decide +kernel
theorem dX4_cutToSort_45 : decode cX4_cutToSort 45 = .ok (.lreturn, 1) := by decide +kernel
theorem dX4_cutToSort_46 : decode cX4_cutToSort 46 = .ok (.lload_n 1, 1) := by decide +kernel
theorem dX4_cutToSort_47 : decode cX4_cutToSort 47 = .ok (.l2i, 1) := by decide +kernel
theorem dX4_cutToSort_48 : decode cX4_cutToSort 48 = .ok (.i2l, 1) := by decide +kernel
theorem dX4_cutToSort_49 : decode cX4_cutToSort 49 = .ok (.lreturn, 1) := by decide +kernel
theorem dX4_cutToSort_50 : decode cX4_cutToSort 50 = .ok (.lload_n 1, 1) := by decide +kernel
theorem dX4_cutToSort_51 : decode cX4_cutToSort 51 = .ok (.lconst 0, 1) := by decide +kernel
theorem dX4_cutToSort_52 : decode cX4_cutToSort 52 = .ok (.lcmp, 1) := by decide +kernel
theorem dX4_cutToSort_53 : decode cX4_cutToSort 53 = .ok (.ifCond .eq 7, 3) := by decide +kernel
theorem dX4_cutToSort_56 : decode cX4_cutToSort 56 = .ok (.lconst 1, 1) := by decide +kernel
theorem dX4_cutToSort_57 : decode cX4_cutToSort 57 = .ok (.goto 4, 3) := by decide +kernel
theorem dX4_cutToSort_60 : decode cX4_cutToSort 60 = .ok (.lconst 0, 1) := by decide +kernel
theorem dX4_cutToSort_61 : decode cX4_cutToSort 61 = .ok (.lreturn, 1) := by decide +kernel
theorem dX4_cutToSort_62 : decode cX4_cutToSort 62 = .ok (.lload_n 1, 1) := by decide +kernel
theorem dX4_cutToSort_63 : decode cX4_cutToSort 63 = .ok (.lreturn, 1) := by decide +kernel
set_option maxRecDepth 20000 in
theorem ggX4_move_X4_hasRun : GoodIn wsX4_move wsX4_hasRun := goodIn_r _ [10, 11, 12, 13, 9, 14, 15, 16, 17, 18] (by decide +kernel) (by decide +kernel)
set_option maxRecDepth 20000 in
theorem gX4_move_X4_hasRun : GoodIn wsX4_move (wsV RX4 43 RX4 yX4_hasRun wsX4_hasRun) := goodIn_app (goodIn_of _ (by decide +kernel)) ggX4_move_X4_hasRun
theorem dX4_move_0 : decode cX4_move 0 = .ok (.aload_n 0, 1) := by decide +kernel
theorem dX4_move_1 : decode cX4_move 1 = .ok (.iload_n 1, 1) := by decide +kernel
theorem dX4_move_2 : decode cX4_move 2 = .ok (.iload_n 2, 1) := by decide +kernel
theorem dX4_move_3 : decode cX4_move 3 = .ok (.iload 5, 2) := by decide +kernel
theorem dX4_move_5 : decode cX4_move 5 = .ok (.invokevirtual 43, 3) := by decide +kernel
theorem dX4_move_8 : decode cX4_move 8 = .ok (.ifCond .eq 15, 3) := by decide +kernel
theorem dX4_move_11 : decode cX4_move 11 = .ok (.aload_n 0, 1) := by decide +kernel
theorem dX4_move_12 : decode cX4_move 12 = .ok (.iload_n 3, 1) := by decide +kernel
theorem dX4_move_13 : decode cX4_move 13 = .ok (.iload 4, 2) := by decide +kernel
theorem dX4_move_15 : decode cX4_move 15 = .ok (.iload 5, 2) := by decide +kernel
theorem dX4_move_17 : decode cX4_move 17 = .ok (.invokevirtual 43, 3) := by decide +kernel
theorem dX4_move_20 : decode cX4_move 20 = .ok (.ifCond .ne 4, 3) := by decide +kernel
theorem dX4_move_23 : decode cX4_move 23 = .ok (.return_, 1) := by decide +kernel
theorem dX4_move_24 : decode cX4_move 24 = .ok (.bipush 60, 2) := by decide +kernel
theorem dX4_move_26 : decode cX4_move 26 = .ok (.iload_n 1, 1) := by decide +kernel
theorem dX4_move_27 : decode cX4_move 27 = .ok (.imul, 1) := by decide +kernel
theorem dX4_move_28 : decode cX4_move 28 = .ok (.iload_n 2, 1) := by decide +kernel
theorem dX4_move_29 : decode cX4_move 29 = .ok (.iadd, 1) := by decide +kernel
theorem dX4_move_30 : decode cX4_move 30 = .ok (.istore 6, 2) := by decide +kernel
theorem dX4_move_32 : decode cX4_move 32 = .ok (.bipush 60, 2) := by decide +kernel
theorem dX4_move_34 : decode cX4_move 34 = .ok (.iload_n 3, 1) := by decide +kernel
theorem dX4_move_35 : decode cX4_move 35 = .ok (.imul, 1) := by decide +kernel
theorem dX4_move_36 : decode cX4_move 36 = .ok (.iload 4, 2) := by decide +kernel
theorem dX4_move_38 : decode cX4_move 38 = .ok (.iadd, 1) := by decide +kernel
theorem dX4_move_39 : decode cX4_move 39 = .ok (.istore 7, 2) := by decide +kernel
theorem dX4_move_41 : decode cX4_move 41 = .ok (.iload 6, 2) := by decide +kernel
theorem dX4_move_43 : decode cX4_move 43 = .ok (.ifCond .lt 51, 3) := by decide +kernel
theorem dX4_move_46 : decode cX4_move 46 = .ok (.iload 6, 2) := by decide +kernel
theorem dX4_move_48 : decode cX4_move 48 = .ok (.aload_n 0, 1) := by decide +kernel
theorem dX4_move_49 : decode cX4_move 49 = .ok (.getfield 16, 3) := by decide +kernel
theorem dX4_move_52 : decode cX4_move 52 = .ok (.arraylength, 1) := by decide +kernel
theorem dX4_move_53 : decode cX4_move 53 = .ok (.iload 5, 2) := by decide +kernel
theorem dX4_move_55 : decode cX4_move 55 = .ok (.isub, 1) := by decide +kernel
theorem dX4_move_56 : decode cX4_move 56 = .ok (.if_icmp .gt 38, 3) := by decide +kernel
theorem dX4_move_59 : decode cX4_move 59 = .ok (.iload 7, 2) := by decide +kernel
theorem dX4_move_61 : decode cX4_move 61 = .ok (.ifCond .lt 33, 3) := by decide +kernel
theorem dX4_move_64 : decode cX4_move 64 = .ok (.iload 7, 2) := by decide +kernel
theorem dX4_move_66 : decode cX4_move 66 = .ok (.aload_n 0, 1) := by decide +kernel
theorem dX4_move_67 : decode cX4_move 67 = .ok (.getfield 16, 3) := by decide +kernel
theorem dX4_move_70 : decode cX4_move 70 = .ok (.arraylength, 1) := by decide +kernel
theorem dX4_move_71 : decode cX4_move 71 = .ok (.iload 5, 2) := by decide +kernel
theorem dX4_move_73 : decode cX4_move 73 = .ok (.isub, 1) := by decide +kernel
theorem dX4_move_74 : decode cX4_move 74 = .ok (.if_icmp .gt 20, 3) := by decide +kernel
theorem dX4_move_77 : decode cX4_move 77 = .ok (.aload_n 0, 1) := by decide +kernel
theorem dX4_move_78 : decode cX4_move 78 = .ok (.getfield 16, 3) := by decide +kernel
theorem dX4_move_81 : decode cX4_move 81 = .ok (.iload 6, 2) := by decide +kernel
theorem dX4_move_83 : decode cX4_move 83 = .ok (.aload_n 0, 1) := by decide +kernel
theorem dX4_move_84 : decode cX4_move 84 = .ok (.getfield 16, 3) := by decide +kernel
theorem dX4_move_87 : decode cX4_move 87 = .ok (.iload 7, 2) := by decide +kernel
theorem dX4_move_89 : decode cX4_move 89 = .ok (.iload 5, 2) := by decide +kernel
theorem dX4_move_91 : decode cX4_move 91 = .ok (.invokestatic 53, 3) := by decide +kernel
theorem dX4_move_94 : decode cX4_move 94 = .ok (.return_, 1) := by decide +kernel
set_option maxRecDepth 20000 in
theorem ggX5_init_X5_cell : GoodIn wsX5_init wsX5_cell := goodIn_r _ [11, 5, 12] (by decide +kernel) (by decide +kernel)
set_option maxRecDepth 20000 in
theorem gX5_init_X5_cell : GoodIn wsX5_init (wsV RX5 15 RX5 yX5_cell wsX5_cell) := goodIn_app (goodIn_of _ (by decide +kernel)) ggX5_init_X5_cell
theorem dX5_init_0 : decode cX5_init 0 = .ok (.aload_n 0, 1) := by decide +kernel
theorem dX5_init_1 : decode cX5_init 1 = .ok (.invokespecial 3, 3) := by decide +kernel
theorem dX5_init_4 : decode cX5_init 4 = .ok (.aload_n 0, 1) := by decide +kernel
theorem dX5_init_5 : decode cX5_init 5 = .ok (.sipush 4160, 3) := by decide +kernel
theorem dX5_init_8 : decode cX5_init 8 = .ok (.newarray .int, 2) := by decide +kernel
theorem dX5_init_10 : decode cX5_init 10 = .ok (.putfield 9, 3) := by decide +kernel
theorem dX5_init_13 : decode cX5_init 13 = .ok (.iconst 0, 1) := by decide +kernel
theorem dX5_init_14 : decode cX5_init 14 = .ok (.istore_n 1, 1) := by decide +kernel
theorem dX5_init_15 : decode cX5_init 15 = .ok (.iload_n 1, 1) := by decide +kernel
theorem dX5_init_16 : decode cX5_init 16 = .ok (.bipush 127, 2) := by decide +kernel
theorem dX5_init_18 : decode cX5_init 18 = .ok (.if_icmp .gt 95, 3) := by decide +kernel
theorem dX5_init_21 : decode cX5_init 21 = .ok (.iconst 0, 1) := by decide +kernel
theorem dX5_init_22 : decode cX5_init 22 = .ok (.istore_n 2, 1) := by decide +kernel
theorem dX5_init_23 : decode cX5_init 23 = .ok (.iload_n 2, 1) := by decide +kernel
theorem dX5_init_24 : decode cX5_init 24 = .ok (.iload_n 1, 1) := by decide +kernel
theorem dX5_init_25 : decode cX5_init 25 = .ok (.iconst 2, 1) := by decide +kernel
theorem dX5_init_26 : decode cX5_init 26 = .ok (.idiv, 1) := by decide +kernel
theorem dX5_init_27 : decode cX5_init 27 = .ok (.if_icmp .gt 80, 3) := by decide +kernel
theorem dX5_init_30 : decode cX5_init 30 = .ok (.aload_n 0, 1) := by decide +kernel
theorem dX5_init_31 : decode cX5_init 31 = .ok (.iload_n 1, 1) := by decide +kernel
theorem dX5_init_32 : decode cX5_init 32 = .ok (.iconst 1, 1) := by decide +kernel
theorem dX5_init_33 : decode cX5_init 33 = .ok (.isub, 1) := by decide +kernel
theorem dX5_init_34 : decode cX5_init 34 = .ok (.iload_n 2, 1) := by decide +kernel
theorem dX5_init_35 : decode cX5_init 35 = .ok (.iconst 1, 1) := by decide +kernel
theorem dX5_init_36 : decode cX5_init 36 = .ok (.isub, 1) := by decide +kernel
theorem dX5_init_37 : decode cX5_init 37 = .ok (.invokevirtual 15, 3) := by decide +kernel
theorem dX5_init_40 : decode cX5_init 40 = .ok (.i2l, 1) := by decide +kernel
theorem dX5_init_41 : decode cX5_init 41 = .ok (.aload_n 0, 1) := by decide +kernel
theorem dX5_init_42 : decode cX5_init 42 = .ok (.iload_n 1, 1) := by decide +kernel
theorem dX5_init_43 : decode cX5_init 43 = .ok (.iconst 1, 1) := by decide +kernel
theorem dX5_init_44 : decode cX5_init 44 = .ok (.isub, 1) := by decide +kernel
theorem dX5_init_45 : decode cX5_init 45 = .ok (.iload_n 2, 1) := by decide +kernel
theorem dX5_init_46 : decode cX5_init 46 = .ok (.invokevirtual 15, 3) := by decide +kernel
theorem dX5_init_49 : decode cX5_init 49 = .ok (.i2l, 1) := by decide +kernel
theorem dX5_init_50 : decode cX5_init 50 = .ok (.ladd, 1) := by decide +kernel
theorem dX5_init_51 : decode cX5_init 51 = .ok (.lstore_n 3, 1) := by decide +kernel
theorem dX5_init_52 : decode cX5_init 52 = .ok (.iload_n 1, 1) := by decide +kernel
theorem dX5_init_53 : decode cX5_init 53 = .ok (.iconst 1, 1) := by decide +kernel
theorem dX5_init_54 : decode cX5_init 54 = .ok (.iadd, 1) := by decide +kernel
theorem dX5_init_55 : decode cX5_init 55 = .ok (.iload_n 1, 1) := by decide +kernel
theorem dX5_init_56 : decode cX5_init 56 = .ok (.iconst 1, 1) := by decide +kernel
theorem dX5_init_57 : decode cX5_init 57 = .ok (.iadd, 1) := by decide +kernel
theorem dX5_init_58 : decode cX5_init 58 = .ok (.imul, 1) := by decide +kernel
theorem dX5_init_59 : decode cX5_init 59 = .ok (.iconst 4, 1) := by decide +kernel
theorem dX5_init_60 : decode cX5_init 60 = .ok (.idiv, 1) := by decide +kernel
theorem dX5_init_61 : decode cX5_init 61 = .ok (.iload_n 2, 1) := by decide +kernel
theorem dX5_init_62 : decode cX5_init 62 = .ok (.iadd, 1) := by decide +kernel
theorem dX5_init_63 : decode cX5_init 63 = .ok (.istore 5, 2) := by decide +kernel
theorem dX5_init_65 : decode cX5_init 65 = .ok (.iload 5, 2) := by decide +kernel
theorem dX5_init_67 : decode cX5_init 67 = .ok (.ifCond .lt 34, 3) := by decide +kernel
theorem dX5_init_70 : decode cX5_init 70 = .ok (.iload 5, 2) := by decide +kernel
theorem dX5_init_72 : decode cX5_init 72 = .ok (.aload_n 0, 1) := by decide +kernel
theorem dX5_init_73 : decode cX5_init 73 = .ok (.getfield 9, 3) := by decide +kernel
theorem dX5_init_76 : decode cX5_init 76 = .ok (.arraylength, 1) := by decide +kernel
theorem dX5_init_77 : decode cX5_init 77 = .ok (.if_icmp .ge 24, 3) := by decide +kernel
theorem dX5_init_80 : decode cX5_init 80 = .ok (.aload_n 0, 1) := by decide +kernel
theorem dX5_init_81 : decode cX5_init 81 = .ok (.getfield 9, 3) := by decide +kernel
theorem dX5_init_84 : decode cX5_init 84 = .ok (.iload 5, 2) := by decide +kernel
theorem dX5_init_86 : decode cX5_init 86 = .ok (.iload_n 2, 1) := by decide +kernel
theorem dX5_init_87 : decode cX5_init 87 = .ok (.ifCond .ne 7, 3) := by decide +kernel
theorem dX5_init_90 : decode cX5_init 90 = .ok (.iconst 1, 1) := by decide +kernel
theorem dX5_init_91 : decode cX5_init 91 = .ok (.goto 9, 3) := by decide +kernel
theorem dX5_init_94 : decode cX5_init 94 = .ok (.lload_n 3, 1) := by decide +kernel
theorem dX5_init_95 : decode cX5_init 95 = .ok (.ldc2_w 19, 3) := by decide +kernel
theorem dX5_init_98 : decode cX5_init 98 = .ok (.lrem, 1) := by decide +kernel
theorem dX5_init_99 : decode cX5_init 99 = .ok (.l2i, 1) := by decide +kernel
theorem dX5_init_100 : decode cX5_init 100 = .ok (.iastore, 1) := by decide +kernel
theorem dX5_init_101 : decode cX5_init 101 = .ok (.iinc 2 1, 3) := by decide +kernel
theorem dX5_init_104 : decode cX5_init 104 = .ok (.goto (-81), 3) := by decide +kernel
theorem dX5_init_107 : decode cX5_init 107 = .ok (.iinc 1 1, 3) := by decide +kernel
theorem dX5_init_110 : decode cX5_init 110 = .ok (.goto (-95), 3) := by decide +kernel
theorem dX5_init_113 : decode cX5_init 113 = .ok (.return_, 1) := by decide +kernel
theorem dX5_cell_0 : decode cX5_cell 0 = .ok (.iload_n 1, 1) := by decide +kernel
theorem dX5_cell_1 : decode cX5_cell 1 = .ok (.ifCond .lt 18, 3) := by decide +kernel
theorem dX5_cell_4 : decode cX5_cell 4 = .ok (.iload_n 1, 1) := by decide +kernel
theorem dX5_cell_5 : decode cX5_cell 5 = .ok (.bipush 127, 2) := by decide +kernel
theorem dX5_cell_7 : decode cX5_cell 7 = .ok (.if_icmp .gt 12, 3) := by decide +kernel
theorem dX5_cell_10 : decode cX5_cell 10 = .ok (.iload_n 2, 1) := by decide +kernel
theorem dX5_cell_11 : decode cX5_cell 11 = .ok (.ifCond .lt 8, 3) := by decide +kernel
theorem dX5_cell_14 : decode cX5_cell 14 = .ok (.iload_n 2, 1) := by decide +kernel
theorem dX5_cell_15 : decode cX5_cell 15 = .ok (.iload_n 1, 1) := by decide +kernel
theorem dX5_cell_16 : decode cX5_cell 16 = .ok (.if_icmp .le 5, 3) := by decide +kernel
theorem dX5_cell_19 : decode cX5_cell 19 = .ok (.iconst 0, 1) := by decide +kernel
theorem dX5_cell_20 : decode cX5_cell 20 = .ok (.ireturn, 1) := by decide +kernel
theorem dX5_cell_21 : decode cX5_cell 21 = .ok (.iload_n 2, 1) := by decide +kernel
theorem dX5_cell_22 : decode cX5_cell 22 = .ok (.iload_n 1, 1) := by decide +kernel
theorem dX5_cell_23 : decode cX5_cell 23 = .ok (.iconst 2, 1) := by decide +kernel
theorem dX5_cell_24 : decode cX5_cell 24 = .ok (.idiv, 1) := by decide +kernel
theorem dX5_cell_25 : decode cX5_cell 25 = .ok (.if_icmp .gt 7, 3) := by decide +kernel
theorem dX5_cell_28 : decode cX5_cell 28 = .ok (.iload_n 2, 1) := by decide +kernel
theorem dX5_cell_29 : decode cX5_cell 29 = .ok (.goto 6, 3) := by decide +kernel
theorem dX5_cell_32 : decode cX5_cell 32 = .ok (.iload_n 1, 1) := by decide +kernel
theorem dX5_cell_33 : decode cX5_cell 33 = .ok (.iload_n 2, 1) := by decide +kernel
theorem dX5_cell_34 : decode cX5_cell 34 = .ok (.isub, 1) := by decide +kernel
theorem dX5_cell_35 : decode cX5_cell 35 = .ok (.istore_n 3, 1) := by decide +kernel
theorem dX5_cell_36 : decode cX5_cell 36 = .ok (.iload_n 1, 1) := by decide +kernel
theorem dX5_cell_37 : decode cX5_cell 37 = .ok (.iconst 1, 1) := by decide +kernel
theorem dX5_cell_38 : decode cX5_cell 38 = .ok (.iadd, 1) := by decide +kernel
theorem dX5_cell_39 : decode cX5_cell 39 = .ok (.iload_n 1, 1) := by decide +kernel
theorem dX5_cell_40 : decode cX5_cell 40 = .ok (.iconst 1, 1) := by decide +kernel
theorem dX5_cell_41 : decode cX5_cell 41 = .ok (.iadd, 1) := by decide +kernel
theorem dX5_cell_42 : decode cX5_cell 42 = .ok (.imul, 1) := by decide +kernel
theorem dX5_cell_43 : decode cX5_cell 43 = .ok (.iconst 4, 1) := by decide +kernel
theorem dX5_cell_44 : decode cX5_cell 44 = .ok (.idiv, 1) := by decide +kernel
theorem dX5_cell_45 : decode cX5_cell 45 = .ok (.iload_n 3, 1) := by decide +kernel
theorem dX5_cell_46 : decode cX5_cell 46 = .ok (.iadd, 1) := by decide +kernel
theorem dX5_cell_47 : decode cX5_cell 47 = .ok (.istore 4, 2) := by decide +kernel
theorem dX5_cell_49 : decode cX5_cell 49 = .ok (.iload 4, 2) := by decide +kernel
theorem dX5_cell_51 : decode cX5_cell 51 = .ok (.ifCond .lt 23, 3) := by decide +kernel
theorem dX5_cell_54 : decode cX5_cell 54 = .ok (.iload 4, 2) := by decide +kernel
theorem dX5_cell_56 : decode cX5_cell 56 = .ok (.aload_n 0, 1) := by decide +kernel
theorem dX5_cell_57 : decode cX5_cell 57 = .ok (.getfield 9, 3) := by decide +kernel
theorem dX5_cell_60 : decode cX5_cell 60 = .ok (.arraylength, 1) := by decide +kernel
theorem dX5_cell_61 : decode cX5_cell 61 = .ok (.if_icmp .ge 13, 3) := by decide +kernel
theorem dX5_cell_64 : decode cX5_cell 64 = .ok (.aload_n 0, 1) := by decide +kernel
theorem dX5_cell_65 : decode cX5_cell 65 = .ok (.getfield 9, 3) := by decide +kernel
theorem dX5_cell_68 : decode cX5_cell 68 = .ok (.iload 4, 2) := by decide +kernel
theorem dX5_cell_70 : decode cX5_cell 70 = .ok (.iaload, 1) := by decide +kernel
theorem dX5_cell_71 : decode cX5_cell 71 = .ok (.goto 4, 3) := by decide +kernel
theorem dX5_cell_74 : decode cX5_cell 74 = .ok (.iconst 0, 1) := by decide +kernel
theorem dX5_cell_75 : decode cX5_cell 75 = .ok (.ireturn, 1) := by decide +kernel
set_option maxRecDepth 20000 in
theorem ggX5_remainder_X5_cell : GoodIn wsX5_remainder wsX5_cell := goodIn_r _ [5, 6, 7] (by decide +kernel) (by decide +kernel)
set_option maxRecDepth 20000 in
theorem gX5_remainder_X5_cell : GoodIn wsX5_remainder (wsV RX5 15 RX5 yX5_cell wsX5_cell) := goodIn_app (goodIn_of _ (by decide +kernel)) ggX5_remainder_X5_cell
theorem dX5_remainder_0 : decode cX5_remainder 0 = .ok (.iload_n 3, 1) := by decide +kernel
theorem dX5_remainder_1 : decode cX5_remainder 1 = .ok (.ifCond .le 14, 3) := by decide +kernel
theorem dX5_remainder_4 : decode cX5_remainder 4 = .ok (.aload_n 0, 1) := by decide +kernel
theorem dX5_remainder_5 : decode cX5_remainder 5 = .ok (.iload_n 1, 1) := by decide +kernel
theorem dX5_remainder_6 : decode cX5_remainder 6 = .ok (.iload_n 2, 1) := by decide +kernel
theorem dX5_remainder_7 : decode cX5_remainder 7 = .ok (.invokevirtual 15, 3) := by decide +kernel
theorem dX5_remainder_10 : decode cX5_remainder 10 = .ok (.iload_n 3, 1) := by decide +kernel
theorem dX5_remainder_11 : decode cX5_remainder 11 = .ok (.irem, 1) := by decide +kernel
theorem dX5_remainder_12 : decode cX5_remainder 12 = .ok (.goto 4, 3) := by decide +kernel
theorem dX5_remainder_15 : decode cX5_remainder 15 = .ok (.iconst 0, 1) := by decide +kernel
theorem dX5_remainder_16 : decode cX5_remainder 16 = .ok (.ireturn, 1) := by decide +kernel
set_option maxRecDepth 20000 in
theorem ggX5_lucas_X5_cell : GoodIn wsX5_lucas wsX5_cell := goodIn_r _ [5, 6, 7] (by decide +kernel) (by decide +kernel)
set_option maxRecDepth 20000 in
theorem gX5_lucas_X5_cell : GoodIn wsX5_lucas (wsV RX5 15 RX5 yX5_cell wsX5_cell) := goodIn_app (goodIn_of _ (by decide +kernel)) ggX5_lucas_X5_cell
theorem dX5_lucas_0 : decode cX5_lucas 0 = .ok (.iload_n 1, 1) := by decide +kernel
theorem dX5_lucas_1 : decode cX5_lucas 1 = .ok (.iconst 2, 1) := by decide +kernel
theorem dX5_lucas_2 : decode cX5_lucas 2 = .ok (.if_icmp .ge 5, 3) := by decide +kernel
theorem dX5_lucas_5 : decode cX5_lucas 5 = .ok (.iconst 0, 1) := by decide +kernel
theorem dX5_lucas_6 : decode cX5_lucas 6 = .ok (.ireturn, 1) := by decide +kernel
theorem dX5_lucas_7 : decode cX5_lucas 7 = .ok (.iconst 1, 1) := by decide +kernel
theorem dX5_lucas_8 : decode cX5_lucas 8 = .ok (.istore 4, 2) := by decide +kernel
theorem dX5_lucas_10 : decode cX5_lucas 10 = .ok (.iload_n 2, 1) := by decide +kernel
theorem dX5_lucas_11 : decode cX5_lucas 11 = .ok (.istore 5, 2) := by decide +kernel
theorem dX5_lucas_13 : decode cX5_lucas 13 = .ok (.iload_n 3, 1) := by decide +kernel
theorem dX5_lucas_14 : decode cX5_lucas 14 = .ok (.istore 6, 2) := by decide +kernel
theorem dX5_lucas_16 : decode cX5_lucas 16 = .ok (.iconst 0, 1) := by decide +kernel
theorem dX5_lucas_17 : decode cX5_lucas 17 = .ok (.istore 7, 2) := by decide +kernel
theorem dX5_lucas_19 : decode cX5_lucas 19 = .ok (.iload 7, 2) := by decide +kernel
theorem dX5_lucas_21 : decode cX5_lucas 21 = .ok (.bipush 14, 2) := by decide +kernel
theorem dX5_lucas_23 : decode cX5_lucas 23 = .ok (.if_icmp .ge 45, 3) := by decide +kernel
theorem dX5_lucas_26 : decode cX5_lucas 26 = .ok (.iload 5, 2) := by decide +kernel
theorem dX5_lucas_28 : decode cX5_lucas 28 = .ok (.ifCond .le 40, 3) := by decide +kernel
theorem dX5_lucas_31 : decode cX5_lucas 31 = .ok (.iload 4, 2) := by decide +kernel
theorem dX5_lucas_33 : decode cX5_lucas 33 = .ok (.aload_n 0, 1) := by decide +kernel
theorem dX5_lucas_34 : decode cX5_lucas 34 = .ok (.iload 5, 2) := by decide +kernel
theorem dX5_lucas_36 : decode cX5_lucas 36 = .ok (.iload_n 1, 1) := by decide +kernel
theorem dX5_lucas_37 : decode cX5_lucas 37 = .ok (.irem, 1) := by decide +kernel
theorem dX5_lucas_38 : decode cX5_lucas 38 = .ok (.iload 6, 2) := by decide +kernel
theorem dX5_lucas_40 : decode cX5_lucas 40 = .ok (.iload_n 1, 1) := by decide +kernel
theorem dX5_lucas_41 : decode cX5_lucas 41 = .ok (.irem, 1) := by decide +kernel
theorem dX5_lucas_42 : decode cX5_lucas 42 = .ok (.invokevirtual 15, 3) := by decide +kernel
theorem dX5_lucas_45 : decode cX5_lucas 45 = .ok (.imul, 1) := by decide +kernel
theorem dX5_lucas_46 : decode cX5_lucas 46 = .ok (.iload_n 1, 1) := by decide +kernel
theorem dX5_lucas_47 : decode cX5_lucas 47 = .ok (.irem, 1) := by decide +kernel
theorem dX5_lucas_48 : decode cX5_lucas 48 = .ok (.istore 4, 2) := by decide +kernel
theorem dX5_lucas_50 : decode cX5_lucas 50 = .ok (.iload 5, 2) := by decide +kernel
theorem dX5_lucas_52 : decode cX5_lucas 52 = .ok (.iload_n 1, 1) := by decide +kernel
theorem dX5_lucas_53 : decode cX5_lucas 53 = .ok (.idiv, 1) := by decide +kernel
theorem dX5_lucas_54 : decode cX5_lucas 54 = .ok (.istore 5, 2) := by decide +kernel
theorem dX5_lucas_56 : decode cX5_lucas 56 = .ok (.iload 6, 2) := by decide +kernel
theorem dX5_lucas_58 : decode cX5_lucas 58 = .ok (.iload_n 1, 1) := by decide +kernel
theorem dX5_lucas_59 : decode cX5_lucas 59 = .ok (.idiv, 1) := by decide +kernel
theorem dX5_lucas_60 : decode cX5_lucas 60 = .ok (.istore 6, 2) := by decide +kernel
theorem dX5_lucas_62 : decode cX5_lucas 62 = .ok (.iinc 7 1, 3) := by decide +kernel
theorem dX5_lucas_65 : decode cX5_lucas 65 = .ok (.goto (-46), 3) := by decide +kernel
theorem dX5_lucas_68 : decode cX5_lucas 68 = .ok (.iload 4, 2) := by decide +kernel
theorem dX5_lucas_70 : decode cX5_lucas 70 = .ok (.ireturn, 1) := by decide +kernel
end
section
/-! the environment of every method: what the tables say of classes and arrays, the nest mates' links -/
def xNest : List Cond := [.fieldLinkNest RX6 119 "PascalRows$Setup" "modulus" "I" "PascalRows", .fieldLinkNest RX6 198 "PascalRows$Setup" "seen" "LPascalRows$Lines;" "PascalRows", .fieldLinkNest RX6 221 "PascalRows$Setup" "events" "LPascalRows$Lines;" "PascalRows", .fieldLinkNest RX6 235 "PascalRows$Setup" "book" "LPascalRows$Lines;" "PascalRows", .fieldLinkNest RX6 255 "PascalRows$Reader" "length" "I" "PascalRows", .fieldLinkNest RX6 47 "PascalRows$Setup" "p" "I" "PascalRows", .fieldLinkNest RX6 51 "PascalRows$Setup" "e" "I" "PascalRows", .fieldLinkNest RX6 62 "PascalRows$Setup" "marks" "LPascalRows$Lines;" "PascalRows", .fieldLinkNest RX6 72 "PascalRows$Lines" "size" "I" "PascalRows", .fieldLinkNest RX3 98 "PascalRows$Lines" "size" "I" "PascalRows", .fieldLinkNest RX6 78 "PascalRows$Setup" "windowRow" "I" "PascalRows", .fieldLinkNest RX6 81 "PascalRows$Setup" "windowPlace" "I" "PascalRows", .fieldLinkNest RX6 94 "PascalRows$Reader" "clauses" "LPascalRows$Lines;" "PascalRows", .methodLinkNest RX6 35 yX2_init "PascalRows", .methodLinkNest RX6 42 yX4_init "PascalRows", .methodLinkNest RX1 28 yX6_isWithin "PascalRows", .methodLinkNest RX2 54 yX6_isWithin "PascalRows", .methodLinkNest RX3 94 yX6_isPlace "PascalRows", .methodLinkNest RX4 20 yX6_isWithin "PascalRows"]
def xE (D : va_G) (cI cJ : ClassId) (U : State) : Prop := va_K D vwCl [(cI, .int), (cJ, .long)] U ∧ ∀ w ∈ xNest, va_Nw w U
theorem xE.nest {D : va_G} {cI cJ : ClassId} {U : State} {args : Array Value} {w : Cond} (h : xE D cI cJ U) (k : Nat) (hk : xNest[k]? = some w) (hw : w.onTables = true) : w.before args U = true := va_Nw.use hw (h.2 w (List.mem_of_getElem? hk))
theorem xE.nw {D : va_G} {cI cJ : ClassId} {U : State} {w : Cond} (h : xE D cI cJ U) (k : Nat) (hk : xNest[k]? = some w) : va_Nw w U := h.2 w (List.mem_of_getElem? hk)
theorem xE.warm {D : va_G} {cI cJ : ClassId} {s U : State} (hW : s.WarmedH U.vm) (h : xE D cI cJ s) : xE D cI cJ U := by
  refine ⟨va_K.moved hW.alike h.1, fun w hw => ?_⟩
  have h0 := h.2 w hw
  simp only [xNest, List.mem_cons, List.not_mem_nil, or_false] at hw
  rcases hw with rfl | rfl | rfl | rfl | rfl | rfl | rfl | rfl | rfl | rfl | rfl | rfl | rfl | rfl | rfl | rfl | rfl | rfl | rfl <;> first | exact va_Nw.warmF hW h0 | exact va_Nw.warmM hW h0
theorem xNest_tables : ∀ w ∈ xNest, w.onTables = true := fun w h => List.all_eq_true.mp (by decide +kernel : xNest.all (fun w => w.onTables) = true) w h
theorem xE.vm {D : va_G} {cI cJ : ClassId} {u U : State} (hv : u.vm = U.vm) (h : xE D cI cJ u) : xE D cI cJ U := ⟨va_K.moved (by rw [hv]; exact Vm.Alike.refl U.vm) h.1, fun w hw => va_Nw.same (xNest_tables w hw) hv (h.2 w hw)⟩
/-! what a method that only reads starts from, and how it ends -/
def pE (D : va_G) (cI cJ : ClassId) (wc : va_W) : State → Prop := fun U => va_P D vwCl wc U.heap ∧ xE D cI cJ U
def rq (v : Value) : Array Value → State → Outcome → State → Prop := fun _ st oc t => oc = .returned (some v) ∧ t.heap = st.heap
def nofree : Addr → Prop := fun _ => False
theorem pE.blind {D : va_G} {cI cJ : ClassId} {wc : va_W} {av : List Value} : FrameBlind (va_Pc av (pE D cI cJ wc)) := fun a U g mk q => ⟨q.1, q.2.1, xE.vm (u := U) (U := U.calling g mk a) rfl q.2.2⟩
section XRO
variable {p : Program} {l : Launch} {e : Env} {R : Room} {s : State} {m : MethodId} {args : Array Value} {below : List Frame} {meth : Method} {c : Code} {H : Heap} {locs : List Loc} {cells slots : Nat} {Q : State → Prop}
variable {y : MethodName} {bytes cc : ByteArray} {maxL nL n index : Nat} {ret : Option FieldType} {ws : List Cond} {rm : Room} {Ts : List Cond} {own C host : String} {b : Nat} {As rest st0 : List Value} {D : va_G} {cI cJ : ClassId} {wc w0 : va_W} {v : Value} {pc : Nat} {ls : Array Slot} {ci : Nat} {fs : List Value} {q : vw_C}
theorem ro_back {a : Array Value} (hr : va_Run p l e R s m args below meth c H locs cells slots 0 0 (F0 m pc ls st0) rest (rq v a) nofree)
    (kk : W p l e R s m args below meth c H locs cells slots Q (F0 m (pc + 3) ls (v :: rest))) : W p l e R s m args below meth c H locs cells slots Q (F0 m pc ls st0) := by
  intro T hT X
  obtain ⟨v', st₀, t, T', L, h0, X', hL, e1, e2, ⟨hv, hh⟩, st⟩ := hr T hT X
  cases hv
  have hL0 : L = [] := by
    cases L with
    | nil => rfl
    | cons a as => exact (hL a List.mem_cons_self).elim
  subst hL0
  rw [List.append_nil] at X'
  obtain ⟨t2, a1, b1⟩ := kk T' (by rw [e1, hh, h0]) X'
  exact ⟨t2, st t2 a1, b1⟩
theorem ro_V (S : CallFix p m c cc nL s args Ts own) (hM : Met l y ws rm (va_Pc (.ref b :: As) (pE D cI cJ wc)) (rq v) 0 0 nofree) (cw : CallW R s args own C index y bytes maxL ret ws rm 0 0 n)
    (hE : xE D cI cJ s) (hP0 : va_P D vwCl w0 H) (k0 : Nat) (he : w0[k0]? = some (b, .inr (ci, fs))) (hcl : vwCl[ci]? = some q) (hC : q.1 = C) (hP : va_P D vwCl wc H)
    (hn : As.length = n) (hsize : ls.size = nL) (hstack : st0 = As.reverse ++ .ref b :: rest) (hW : (rest.map fun v => v.category).sum ≤ 8) (hdg : decode cc pc = .ok (.invokevirtual index, 3)) (hf : cells ≤ R.cells ∧ slots ≤ R.slots)
    (kk : W p l e R s m args below meth c H locs cells slots Q (F0 m (pc + 3) ls (v :: rest))) : W p l e R s m args below meth c H locs cells slots Q (F0 m pc ls st0) := by
  subst hC
  exact ro_back (va_runV S hM cw ⟨pE.blind, va_recv hE.1 hP0 hcl he, fun U hU hW => ⟨rfl, by rw [hU]; exact hP, xE.warm hW hE⟩⟩ rfl hn hsize hstack (by show 2 * 0 + _ ≤ 8; omega) hdg hf) kk
theorem ro_VN (S : CallFix p m c cc nL s args Ts own) (hM : Met l y ws rm (va_Pc (.ref b :: As) (pE D cI cJ wc)) (rq v) 0 0 nofree) (cw : va_CN R s args own index y host bytes maxL ret ws rm 0 0 n ∧ (Cond.instanceMethod y).before args s = true ∧ (Cond.selects C y y).before args s = true)
    (hE : xE D cI cJ s) (hP0 : va_P D vwCl w0 H) (k0 : Nat) (he : w0[k0]? = some (b, .inr (ci, fs))) (hcl : vwCl[ci]? = some q) (hC : q.1 = C) (hP : va_P D vwCl wc H)
    (hn : As.length = n) (hsize : ls.size = nL) (hstack : st0 = As.reverse ++ .ref b :: rest) (hW : (rest.map fun v => v.category).sum ≤ 8) (hdg : decode cc pc = .ok (.invokevirtual index, 3)) (hf : cells ≤ R.cells ∧ slots ≤ R.slots)
    (kk : W p l e R s m args below meth c H locs cells slots Q (F0 m (pc + 3) ls (v :: rest))) : W p l e R s m args below meth c H locs cells slots Q (F0 m pc ls st0) := by
  subst hC
  exact ro_back (va_runVN S hM cw ⟨pE.blind, va_recv hE.1 hP0 hcl he, fun U hU hW => ⟨rfl, by rw [hU]; exact hP, xE.warm hW hE⟩⟩ rfl hn hsize hstack (by show 2 * 0 + _ ≤ 8; omega) hdg hf) kk
theorem ro_S (S : CallFix p m c cc nL s args Ts own) (hM : Met l y ws rm (va_Pc As (pE D cI cJ wc)) (rq v) 0 0 nofree) (cw : CallB R s args own index y bytes maxL ret ws rm 0 0 n ∧ (Cond.static y).before args s = true)
    (hE : xE D cI cJ s) (hP : va_P D vwCl wc H)
    (hn : As.length = n) (hsize : ls.size = nL) (hstack : st0 = As.reverse ++ rest) (hW : (rest.map fun v => v.category).sum ≤ 8) (hdg : decode cc pc = .ok (.invokestatic index, 3)) (hf : cells ≤ R.cells ∧ slots ≤ R.slots)
    (kk : W p l e R s m args below meth c H locs cells slots Q (F0 m (pc + 3) ls (v :: rest))) : W p l e R s m args below meth c H locs cells slots Q (F0 m pc ls st0) :=
  ro_back (va_runS S hM cw ⟨pE.blind, fun U hU hW => ⟨rfl, by rw [hU]; exact hP, xE.warm hW hE⟩⟩ rfl hn hsize hstack (by show 2 * 0 + _ ≤ 8; omega) hdg hf) kk
theorem ro_SN (S : CallFix p m c cc nL s args Ts own) (hM : Met l y ws rm (va_Pc As (pE D cI cJ wc)) (rq v) 0 0 nofree) (cw : va_CN R s args own index y host bytes maxL ret ws rm 0 0 n ∧ (Cond.static y).before args s = true ∧ True)
    (hE : xE D cI cJ s) (hP : va_P D vwCl wc H)
    (hn : As.length = n) (hsize : ls.size = nL) (hstack : st0 = As.reverse ++ rest) (hW : (rest.map fun v => v.category).sum ≤ 8) (hdg : decode cc pc = .ok (.invokestatic index, 3)) (hf : cells ≤ R.cells ∧ slots ≤ R.slots)
    (kk : W p l e R s m args below meth c H locs cells slots Q (F0 m (pc + 3) ls (v :: rest))) : W p l e R s m args below meth c H locs cells slots Q (F0 m pc ls st0) :=
  ro_back (va_runSN S hM cw ⟨pE.blind, fun U hU hW => ⟨rfl, by rw [hU]; exact hP, xE.warm hW hE⟩⟩ rfl hn hsize hstack (by show 2 * 0 + _ ≤ 8; omega) hdg hf) kk
end XRO
section XOF
variable {l : Launch} {y : MethodName} {ws ws' : List Cond} {rm : Room} {cc : ByteArray} {maxL : Nat} {D : va_G} {cI cJ : ClassId} {wc : va_W} {av : List Value}
theorem ro_of_i {r : Int32} (hy : plainName y.cls = true) (hw : ws = Cond.code y cc maxL (some .int) :: ws') (hlen : (lg_sl av).length ≤ maxL)
    (body : ∀ (p : Program) (e : Env) (s : State) (m : MethodId) (args : Array Value) (below : List Frame) (meth : Method) (c : Code) (Q : State → Prop) (ls : Array Slot), p.tables.exec = Jvm.exec → c.code = cc → c.maxLocals = maxL → s.vm.findClass y.cls = some m.cls → (∀ w ∈ ws, w.before args s = true) → xE D cI cJ s → va_P D vwCl wc s.heap →
      (∀ (pc : Nat) (ls : Array Slot) (v : Int32), decode cc pc = .ok (.ireturn, 1) → v = r → W p l e rm s m args below meth c s.heap [] 0 0 Q (F0 m pc ls [.int v])) → lv_has ls maxL (lv_args 0 av) → W p l e rm s m args below meth c s.heap [] 0 0 Q (F0 m 0 ls [])) :
    Met l y ws rm (va_Pc av (pE D cI cJ wc)) (rq (.int r)) 0 0 nofree := by
  refine Met.ofW hy hw ?_
  intro p e s m args below meth c s₁ B hml hv
  obtain ⟨rfl, hP, hE⟩ := hv
  have hlocks := B.notSynchronized
  rw [lg_entry_eq]
  exact body p e s m _ below meth c _ _ B.exec B.bytes hml (findClass_of_methodNamed B.named) (atoms_spec (ws := ws) B.pre) hE hP (fun pc ls v hd hvr => by subst hvr; exact W.iret B.exec B.bytes B.returns (fun t ht _ => ⟨rfl, ht⟩) (fun q hq => by cases hq) hd) (lv_entry av hlen)
theorem ro_of_z {r : Int32} (hy : plainName y.cls = true) (hw : ws = Cond.code y cc maxL (some .boolean) :: ws') (hlen : (lg_sl av).length ≤ maxL)
    (body : ∀ (p : Program) (e : Env) (s : State) (m : MethodId) (args : Array Value) (below : List Frame) (meth : Method) (c : Code) (Q : State → Prop) (ls : Array Slot), p.tables.exec = Jvm.exec → c.code = cc → c.maxLocals = maxL → s.vm.findClass y.cls = some m.cls → (∀ w ∈ ws, w.before args s = true) → xE D cI cJ s → va_P D vwCl wc s.heap →
      (∀ (pc : Nat) (ls : Array Slot) (v : Int32), decode cc pc = .ok (.ireturn, 1) → (v = 0 ∨ v = 1) → v = r → W p l e rm s m args below meth c s.heap [] 0 0 Q (F0 m pc ls [.int v])) → lv_has ls maxL (lv_args 0 av) → W p l e rm s m args below meth c s.heap [] 0 0 Q (F0 m 0 ls [])) :
    Met l y ws rm (va_Pc av (pE D cI cJ wc)) (rq (.int r)) 0 0 nofree := by
  refine Met.ofW hy hw ?_
  intro p e s m args below meth c s₁ B hml hv
  obtain ⟨rfl, hP, hE⟩ := hv
  have hlocks := B.notSynchronized
  rw [lg_entry_eq]
  exact body p e s m _ below meth c _ _ B.exec B.bytes hml (findClass_of_methodNamed B.named) (atoms_spec (ws := ws) B.pre) hE hP (fun pc ls v hd hz hvr => by subst hvr; exact W.zret B.exec B.bytes B.returns (by rcases hz with rfl | rfl <;> rfl) (fun t ht _ => ⟨rfl, ht⟩) (fun q hq => by cases hq) hd) (lv_entry av hlen)
theorem ro_of_l {r : Int64} (hy : plainName y.cls = true) (hw : ws = Cond.code y cc maxL (some .long) :: ws') (hlen : (lg_sl av).length ≤ maxL)
    (body : ∀ (p : Program) (e : Env) (s : State) (m : MethodId) (args : Array Value) (below : List Frame) (meth : Method) (c : Code) (Q : State → Prop) (ls : Array Slot), p.tables.exec = Jvm.exec → c.code = cc → c.maxLocals = maxL → s.vm.findClass y.cls = some m.cls → (∀ w ∈ ws, w.before args s = true) → xE D cI cJ s → va_P D vwCl wc s.heap →
      (∀ (pc : Nat) (ls : Array Slot) (v : Int64), decode cc pc = .ok (.lreturn, 1) → v = r → W p l e rm s m args below meth c s.heap [] 0 0 Q (F0 m pc ls [.long v])) → lv_has ls maxL (lv_args 0 av) → W p l e rm s m args below meth c s.heap [] 0 0 Q (F0 m 0 ls [])) :
    Met l y ws rm (va_Pc av (pE D cI cJ wc)) (rq (.long r)) 0 0 nofree := by
  refine Met.ofW hy hw ?_
  intro p e s m args below meth c s₁ B hml hv
  obtain ⟨rfl, hP, hE⟩ := hv
  have hlocks := B.notSynchronized
  rw [lg_entry_eq]
  exact body p e s m _ below meth c _ _ B.exec B.bytes hml (findClass_of_methodNamed B.named) (atoms_spec (ws := ws) B.pre) hE hP (fun pc ls v hd hvr => by subst hvr; exact W.lret B.exec B.bytes B.returns (fun t ht _ => ⟨rfl, ht⟩) (fun q hq => by cases hq) hd) (lv_entry av hlen)
end XOF
/-! a method that reads the static row PRIMES -/
def pES (aS : Nat) (D : va_G) (cI cJ : ClassId) (wc : va_W) : State → Prop := fun U => va_P D vwCl wc U.heap ∧ xE D cI cJ U ∧ va_Z "PascalRows" "PRIMES" "[I" (.ref aS) (fun _ => False) U U.heap
theorem pES.blind {aS : Nat} {D : va_G} {cI cJ : ClassId} {wc : va_W} {av : List Value} : FrameBlind (va_Pc av (pES aS D cI cJ wc)) := fun a U g mk q => ⟨q.1, q.2.1, xE.vm (u := U) (U := U.calling g mk a) rfl q.2.2.1, va_Z.moved (u := U) (U := U.calling g mk a) (Vm.Alike.refl U.vm) q.2.2.2⟩
section XSF
variable {l : Launch} {y : MethodName} {ws ws' : List Cond} {rm : Room} {cc : ByteArray} {maxL : Nat} {D : va_G} {cI cJ : ClassId} {wc : va_W} {av : List Value} {aS : Nat}
theorem ro_of_iS {r : Int32} (hy : plainName y.cls = true) (hw : ws = Cond.code y cc maxL (some .int) :: ws') (hlen : (lg_sl av).length ≤ maxL)
    (body : ∀ (p : Program) (e : Env) (s : State) (m : MethodId) (args : Array Value) (below : List Frame) (meth : Method) (c : Code) (Q : State → Prop) (ls : Array Slot), p.tables.exec = Jvm.exec → c.code = cc → c.maxLocals = maxL → s.vm.findClass y.cls = some m.cls → (∀ w ∈ ws, w.before args s = true) → xE D cI cJ s → va_P D vwCl wc s.heap → va_Z "PascalRows" "PRIMES" "[I" (.ref aS) (fun _ => False) s s.heap →
      (∀ (pc : Nat) (ls : Array Slot) (v : Int32), decode cc pc = .ok (.ireturn, 1) → v = r → W p l e rm s m args below meth c s.heap [] 0 0 Q (F0 m pc ls [.int v])) → lv_has ls maxL (lv_args 0 av) → W p l e rm s m args below meth c s.heap [] 0 0 Q (F0 m 0 ls [])) :
    Met l y ws rm (va_Pc av (pES aS D cI cJ wc)) (rq (.int r)) 0 0 nofree := by
  refine Met.ofW hy hw ?_
  intro p e s m args below meth c s₁ B hml hv
  obtain ⟨rfl, hP, hE, hZ⟩ := hv
  have hlocks := B.notSynchronized
  rw [lg_entry_eq]
  exact body p e s m _ below meth c _ _ B.exec B.bytes hml (findClass_of_methodNamed B.named) (atoms_spec (ws := ws) B.pre) hE hP hZ (fun pc ls v hd hvr => by subst hvr; exact W.iret B.exec B.bytes B.returns (fun t ht _ => ⟨rfl, ht⟩) (fun q hq => by cases hq) hd) (lv_entry av hlen)
end XSF
end
section
/-! a method that writes: what it starts from, how it ends, how a caller goes on -/
theorem va_D.fst {A : Nat → Prop} {ws ws' : va_W} (h : va_D A ws) (e : ws'.map Prod.fst = ws.map Prod.fst) : va_D A ws' := by
  have key : ∀ (k : Nat) (q : Nat × va_E), ws'[k]? = some q → ∃ q', ws[k]? = some q' ∧ q'.1 = q.1 := by
    intro k q hq
    have h1 : (ws'.map Prod.fst)[k]? = some q.1 := by rw [List.getElem?_map, hq]; rfl
    rw [e, List.getElem?_map] at h1
    cases hw : ws[k]? with
    | none => rw [hw] at h1; cases h1
    | some q' => rw [hw] at h1; exact ⟨q', rfl, Option.some.inj h1⟩
  refine ⟨fun i j p q hi hj hpq => ?_, fun k q hk => ?_⟩
  · obtain ⟨p', hp', ep⟩ := key i p hi
    obtain ⟨q', hq', eq⟩ := key j q hj
    exact h.1 i j p' q' hp' hq' (by rw [ep, eq, hpq])
  · obtain ⟨q', hq', eq⟩ := key k q hk
    rw [← eq]
    exact h.2 k q' hq'
def pM (D : va_G) (cI cJ : ClassId) (wc : va_W) (sz : Nat) : State → Prop := fun U => U.heap.size = sz ∧ va_P D vwCl wc U.heap ∧ xE D cI cJ U ∧ va_D (fun _ => True) wc
def qM (o : Option Value) (D : va_G) (w1 : va_W) (A : Nat → Prop) : Array Value → State → Outcome → State → Prop := fun _ st oc t => oc = .returned o ∧ va_P D vwCl w1 t.heap ∧ va_F A st t
theorem pM.blind {D : va_G} {cI cJ : ClassId} {wc : va_W} {sz : Nat} {av : List Value} : FrameBlind (va_Pc av (pM D cI cJ wc sz)) := fun a U g mk q => ⟨q.1, q.2.1, q.2.2.1, xE.vm (u := U) (U := U.calling g mk a) rfl q.2.2.2.1, q.2.2.2.2⟩
section XMU
variable {p : Program} {l : Launch} {e : Env} {R : Room} {s : State} {m : MethodId} {args : Array Value} {below : List Frame} {meth : Method} {c : Code} {H H0 : Heap} {locs : List Loc} {cells slots : Nat} {Q : State → Prop}
variable {y : MethodName} {bytes cc : ByteArray} {maxL nL n index : Nat} {ret : Option FieldType} {ws : List Cond} {rm : Room} {Ts : List Cond} {own C host : String} {b : Nat} {As rest st0 : List Value} {D : va_G} {cI cJ : ClassId} {wc w1 W0 W1 : va_W} {o : Option Value} {pc : Nat} {ls : Array Slot} {ci : Nat} {fs : List Value} {q : vw_C} {A0 : Nat → Prop}
theorem mu_back {a : Array Value} (hr : va_Run p l e R s m args below meth c H locs cells slots 0 0 (F0 m pc ls st0) rest (qM o D w1 (va_A wc H.size) a) (va_A wc H.size))
    (hP : va_P D vwCl W0 H) (hD : va_D A0 W0) (hS : va_S A0 H0 H locs) (hA : ∀ q, H0.size ≤ q → A0 q)
    (isC isR isW : List Nat) (hC : isC.map (fun i => W0[i]?) = wc.map some) (hR : isR.map (fun i => W0[i]?) = (isR.filterMap (fun i => W0[i]?)).map some) (hn : va_nd isR = true) (hdis : isR.all (fun i => !isC.contains i) = true) (hfst : w1.map Prod.fst = wc.map Prod.fst) (hnC : va_nd isC = true)
    (hW : isW.filterMap (fun i => (isR.filterMap (fun i => W0[i]?) ++ w1)[i]?) = W1)
    (kk : ∀ (H1 : Heap) (locs1 : List Loc), va_P D vwCl W1 H1 → va_S A0 H0 H1 locs1 → W p l e R s m args below meth c H1 locs1 cells slots Q (F0 m (pc + 3) ls (o.toList ++ rest))) : W p l e R s m args below meth c H locs cells slots Q (F0 m pc ls st0) := by
  intro T hT X
  obtain ⟨v, st₀, t, T', L, h0, X', hL, e1, e2, ⟨hv, hp, hz, hk⟩, st⟩ := hr T hT X
  cases hv
  rw [h0] at hz hk
  have hF : ∀ q, va_A wc H.size q → A0 q := va_free hD hS hA isC hC
  have hD1 : va_D (va_A wc H.size) w1 := ((hD.sub isC hnC hC).self (sz := H.size)).fst hfst
  have hdis' : ∀ i ∈ isR, i ∉ isC := fun i hi hc => by
    have := List.all_eq_true.mp hdis i hi
    simp [hc] at this
  have hj := va_join (wr := isR.filterMap (fun i => W0[i]?)) (w1 := w1) (H1 := t.heap) hP hD isC isR hC hR hn hdis' (fun q h1 h2 => hk q h1 h2) hF hp hD1
  have hP1 : va_P D vwCl W1 t.heap := hj.1.sub isW hW
  obtain ⟨t2, a1, b1⟩ := kk T'.heap (locs ++ L) (by rw [e1]; exact hP1)
    ⟨Nat.le_trans hS.1 (by rw [e1]; exact hz), fun q h1 h2 => by rw [e1, hk q (Nat.lt_of_lt_of_le h1 hS.1) (fun z => h2 (hF q z))]; exact hS.2.1 q h1 h2, fun q hq => by
      rcases List.mem_append.mp hq with h | h
      · exact hS.2.2 q h
      · exact hF _ (hL q h)⟩ T' rfl X'
  exact ⟨t2, st t2 a1, b1⟩
theorem mu_V (S : CallFix p m c cc nL s args Ts own) (hM : Met l y ws rm (va_Pc (.ref b :: As) (pM D cI cJ wc H.size)) (qM o D w1 (va_A wc H.size)) 0 0 (va_A wc H.size)) (cw : CallW R s args own C index y bytes maxL ret ws rm 0 0 n)
    (hE : xE D cI cJ s) (k0 : Nat) (he : W0[k0]? = some (b, .inr (ci, fs))) (hcl : vwCl[ci]? = some q) (hCq : q.1 = C)
    (hn : As.length = n) (hsize : ls.size = nL) (hstack : st0 = As.reverse ++ .ref b :: rest) (hWr : (rest.map fun v => v.category).sum ≤ 8) (hdg : decode cc pc = .ok (.invokevirtual index, 3)) (hf : cells ≤ R.cells ∧ slots ≤ R.slots)
    (hP : va_P D vwCl W0 H) (hD : va_D A0 W0) (hS : va_S A0 H0 H locs) (hA : ∀ q, H0.size ≤ q → A0 q)
    (isC isR isW : List Nat) (hC : isC.map (fun i => W0[i]?) = wc.map some) (hR : isR.map (fun i => W0[i]?) = (isR.filterMap (fun i => W0[i]?)).map some) (hnd : va_nd isR = true) (hdis : isR.all (fun i => !isC.contains i) = true) (hfst : w1.map Prod.fst = wc.map Prod.fst) (hnC : va_nd isC = true)
    (hW : isW.filterMap (fun i => (isR.filterMap (fun i => W0[i]?) ++ w1)[i]?) = W1)
    (kk : ∀ (H1 : Heap) (locs1 : List Loc), va_P D vwCl W1 H1 → va_S A0 H0 H1 locs1 → W p l e R s m args below meth c H1 locs1 cells slots Q (F0 m (pc + 3) ls (o.toList ++ rest))) : W p l e R s m args below meth c H locs cells slots Q (F0 m pc ls st0) := by
  subst hCq
  have hDc : va_D (fun _ => True) wc := (hD.sub isC hnC hC).weaken (fun _ _ _ _ => trivial)
  have hPc : va_P D vwCl wc H := fun k q hk => by
    have h1 : (isC.map (fun i => W0[i]?))[k]? = some (some q) := by rw [hC, List.getElem?_map, hk]; rfl
    rw [List.getElem?_map] at h1
    cases hi : isC[k]? with
    | none => rw [hi] at h1; cases h1
    | some i => rw [hi] at h1; exact hP i q (Option.some.inj h1)
  exact mu_back (va_runV S hM cw ⟨pM.blind, va_recv hE.1 hP hcl he, fun U hU hW => ⟨rfl, by rw [hU], by rw [hU]; exact hPc, xE.warm hW hE, hDc⟩⟩ rfl hn hsize hstack (by show 2 * 0 + _ ≤ 8; omega) hdg hf) hP hD hS hA isC isR isW hC hR hnd hdis hfst hnC hW kk
theorem mu_S (S : CallFix p m c cc nL s args Ts own) (hM : Met l y ws rm (va_Pc As (pM D cI cJ wc H.size)) (qM o D w1 (va_A wc H.size)) 0 0 (va_A wc H.size)) (cw : CallB R s args own index y bytes maxL ret ws rm 0 0 n ∧ (Cond.static y).before args s = true)
    (hE : xE D cI cJ s)
    (hn : As.length = n) (hsize : ls.size = nL) (hstack : st0 = As.reverse ++ rest) (hWr : (rest.map fun v => v.category).sum ≤ 8) (hdg : decode cc pc = .ok (.invokestatic index, 3)) (hf : cells ≤ R.cells ∧ slots ≤ R.slots)
    (hP : va_P D vwCl W0 H) (hD : va_D A0 W0) (hS : va_S A0 H0 H locs) (hA : ∀ q, H0.size ≤ q → A0 q)
    (isC isR isW : List Nat) (hC : isC.map (fun i => W0[i]?) = wc.map some) (hR : isR.map (fun i => W0[i]?) = (isR.filterMap (fun i => W0[i]?)).map some) (hnd : va_nd isR = true) (hdis : isR.all (fun i => !isC.contains i) = true) (hfst : w1.map Prod.fst = wc.map Prod.fst) (hnC : va_nd isC = true)
    (hW : isW.filterMap (fun i => (isR.filterMap (fun i => W0[i]?) ++ w1)[i]?) = W1)
    (kk : ∀ (H1 : Heap) (locs1 : List Loc), va_P D vwCl W1 H1 → va_S A0 H0 H1 locs1 → W p l e R s m args below meth c H1 locs1 cells slots Q (F0 m (pc + 3) ls (o.toList ++ rest))) : W p l e R s m args below meth c H locs cells slots Q (F0 m pc ls st0) := by
  have hDc : va_D (fun _ => True) wc := (hD.sub isC hnC hC).weaken (fun _ _ _ _ => trivial)
  have hPc : va_P D vwCl wc H := fun k q hk => by
    have h1 : (isC.map (fun i => W0[i]?))[k]? = some (some q) := by rw [hC, List.getElem?_map, hk]; rfl
    rw [List.getElem?_map] at h1
    cases hi : isC[k]? with
    | none => rw [hi] at h1; cases h1
    | some i => rw [hi] at h1; exact hP i q (Option.some.inj h1)
  exact mu_back (va_runS S hM cw ⟨pM.blind, fun U hU hW => ⟨rfl, by rw [hU], by rw [hU]; exact hPc, xE.warm hW hE, hDc⟩⟩ rfl hn hsize hstack (by show 2 * 0 + _ ≤ 8; omega) hdg hf) hP hD hS hA isC isR isW hC hR hnd hdis hfst hnC hW kk
end XMU
section XMF
variable {l : Launch} {y : MethodName} {ws ws' : List Cond} {rm : Room} {cc : ByteArray} {maxL : Nat} {D : va_G} {cI cJ : ClassId} {wc w1 : va_W} {av : List Value} {sz : Nat}
theorem mu_of {ret : Option FieldType} {o : Option Value} (hy : plainName y.cls = true) (hw : ws = Cond.code y cc maxL ret :: ws') (hlen : (lg_sl av).length ≤ maxL)
    (body : ∀ (p : Program) (e : Env) (s : State) (m : MethodId) (args : Array Value) (below : List Frame) (meth : Method) (c : Code) (Q : State → Prop) (ls : Array Slot) (A : Nat → Prop), p.tables.exec = Jvm.exec → c.code = cc → c.maxLocals = maxL → s.vm.findClass y.cls = some m.cls → (∀ w ∈ ws, w.before args s = true) → xE D cI cJ s → va_P D vwCl wc s.heap → va_D A wc → (∀ q, s.heap.size ≤ q → A q) → meth.sig.returnType = ret → meth.locks = false →
      (∀ (H : Heap) (locs : List Loc) (g : JFrame), va_P D vwCl w1 H → va_S A s.heap H locs → (∀ (Qc : Array Value → State → Outcome → State → Prop) (free : Addr → Prop), (∀ t : State, t.heap = H → s.WarmedH t.vm → Qc args s (.returned o) t) → (∀ q ∈ locs, free q.base) → W p l e rm s m args below meth c H locs 0 0 (MQ below Qc args s 0 0 free) g) → W p l e rm s m args below meth c H locs 0 0 Q g) → lv_has ls maxL (lv_args 0 av) → W p l e rm s m args below meth c s.heap [] 0 0 Q (F0 m 0 ls [])) :
    Met l y ws rm (va_Pc av (pM D cI cJ wc sz)) (qM o D w1 (va_A wc sz)) 0 0 (va_A wc sz) := by
  refine Met.ofW hy hw ?_
  intro p e s m args below meth c s₁ B hml hv
  obtain ⟨rfl, hsz, hP, hE, hD0⟩ := hv
  subst hsz
  rw [lg_entry_eq]
  exact body p e s m _ below meth c _ _ _ B.exec B.bytes hml (findClass_of_methodNamed B.named) (atoms_spec (ws := ws) B.pre) hE hP (hD0.self (sz := s.heap.size)) (fun q h => Or.inr h) B.returns B.notSynchronized
    (fun H locs g hP1 hS k => k _ _ (fun t ht _ => ⟨rfl, by rw [ht]; exact hP1, hS.F ht⟩) hS.2.2) (lv_entry av hlen)
end XMF
/-! steps of the pure functions -/
theorem ite_p {α : Type} {P : Prop} {i : Decidable P} {a b o : α} (h : (if P then a else b) = o) (hc : P) : a = o := by rw [if_pos hc] at h; exact h
theorem ite_n {α : Type} {P : Prop} {i : Decidable P} {a b o : α} (h : (if P then a else b) = o) (hc : ¬ P) : b = o := by rw [if_neg hc] at h; exact h
theorem bd_e {α β : Type} {o : Option α} {k : α → Option β} {r : β} (h : Option.bind o k = some r) : ∃ u, o = some u ∧ k u = some r := by
  cases o with
  | none => cases h
  | some u => exact ⟨u, rfl, h⟩
def qn_ {α β : Type} (a : α) (k : α → β) : β := k a
theorem qn_e {α β : Type} {a x : α} {k : α → β} {o : β} (h : qn_ a k = o) (e : x = a) : k x = o := by subst e; exact h
def rd_ {α : Type} (f : Nat → α) (n : Nat) (i : Int32) : Option α := if i < 0 ∨ n ≤ i.toNatClampNeg then none else some (f i.toNatClampNeg)
theorem rd_e {α β : Type} {f : Nat → α} {n : Nat} {i : Int32} {k : α → Option β} {r : β} (h : Option.bind (rd_ f n i) k = some r) : ∃ g, g = f i.toNatClampNeg ∧ vp_in i n ∧ k g = some r := by
  unfold rd_ at h
  split at h
  · cases h
  · exact ⟨_, rfl, by assumption, h⟩
def wr_ (f : Nat → Int32) (n : Nat) (i x : Int32) : Option (Nat → Int32) := if i < 0 ∨ n ≤ i.toNatClampNeg then none else some (upd f i.toNatClampNeg x)
theorem wr_e {β : Type} {f : Nat → Int32} {n : Nat} {i x : Int32} {k : (Nat → Int32) → Option β} {r : β} (h : Option.bind (wr_ f n i x) k = some r) : ∃ g, g = upd f i.toNatClampNeg x ∧ vp_in i n ∧ k g = some r := by
  unfold wr_ at h
  split at h
  · cases h
  · exact ⟨_, rfl, by assumption, h⟩
def wrL_ (f : Nat → Int64) (n : Nat) (i : Int32) (x : Int64) : Option (Nat → Int64) := if i < 0 ∨ n ≤ i.toNatClampNeg then none else some (vp_updL f i.toNatClampNeg x)
theorem wrL_e {β : Type} {f : Nat → Int64} {n : Nat} {i : Int32} {x : Int64} {k : (Nat → Int64) → Option β} {r : β} (h : Option.bind (wrL_ f n i x) k = some r) : ∃ g, g = vp_updL f i.toNatClampNeg x ∧ vp_in i n ∧ k g = some r := by
  unfold wrL_ at h
  split at h
  · cases h
  · exact ⟨_, rfl, by assumption, h⟩
def dv_ (x y : Int32) : Option Int32 := if y = 0 then none else some (x / y)
theorem dv_e {β : Type} {x y : Int32} {k : Int32 → Option β} {r : β} (h : Option.bind (dv_ x y) k = some r) : ∃ g, g = x / y ∧ ¬ y = 0 ∧ k g = some r := by
  unfold dv_ at h
  split at h
  · cases h
  · exact ⟨_, rfl, by assumption, h⟩
def md_ (x y : Int32) : Option Int32 := if y = 0 then none else some (x - x / y * y)
theorem md_e {β : Type} {x y : Int32} {k : Int32 → Option β} {r : β} (h : Option.bind (md_ x y) k = some r) : ∃ g, g = x - x / y * y ∧ ¬ y = 0 ∧ k g = some r := by
  unfold md_ at h
  split at h
  · cases h
  · exact ⟨_, rfl, by assumption, h⟩
def mdL_ (x y : Int64) : Option Int64 := if y = 0 then none else some (x - x / y * y)
theorem mdL_e {β : Type} {x y : Int64} {k : Int64 → Option β} {r : β} (h : Option.bind (mdL_ x y) k = some r) : ∃ g, g = x - x / y * y ∧ ¬ y = 0 ∧ k g = some r := by
  unfold mdL_ at h
  split at h
  · cases h
  · exact ⟨_, rfl, by assumption, h⟩
def bz_ (x : Int32) : Option Int32 := if x = 0 ∨ x = 1 then some x else none
theorem bz_e {β : Type} {x : Int32} {k : Int32 → Option β} {r : β} (h : Option.bind (bz_ x) k = some r) : (x = 0 ∨ x = 1) ∧ k x = some r := by
  unfold bz_ at h
  split at h
  · exact ⟨by assumption, h⟩
  · cases h
def cpI_ (f : Nat → Int32) (n0 : Nat) (sp : Int32) (g : Nat → Int32) (n1 : Nat) (dp n : Int32) : Option (Nat → Int32) := if ¬ sp < 0 ∧ ¬ dp < 0 ∧ ¬ n < 0 ∧ sp.toNatClampNeg + n.toNatClampNeg ≤ n0 ∧ dp.toNatClampNeg + n.toNatClampNeg ≤ n1 then some (va_cpy f g sp.toNatClampNeg dp.toNatClampNeg n.toNatClampNeg) else none
theorem cpI_e {β : Type} {f : Nat → Int32} {n0 : Nat} {sp : Int32} {g : Nat → Int32} {n1 : Nat} {dp n : Int32} {k : (Nat → Int32) → Option β} {r : β} (h : Option.bind (cpI_ f n0 sp g n1 dp n) k = some r) : ∃ w, w = va_cpy f g sp.toNatClampNeg dp.toNatClampNeg n.toNatClampNeg ∧ (¬ sp < 0 ∧ ¬ dp < 0 ∧ ¬ n < 0 ∧ sp.toNatClampNeg + n.toNatClampNeg ≤ n0 ∧ dp.toNatClampNeg + n.toNatClampNeg ≤ n1) ∧ k w = some r := by
  unfold cpI_ at h
  split at h
  · exact ⟨_, rfl, by assumption, h⟩
  · cases h
def cpL_ (f : Nat → Int64) (n0 : Nat) (sp : Int32) (g : Nat → Int64) (n1 : Nat) (dp n : Int32) : Option (Nat → Int64) := if ¬ sp < 0 ∧ ¬ dp < 0 ∧ ¬ n < 0 ∧ sp.toNatClampNeg + n.toNatClampNeg ≤ n0 ∧ dp.toNatClampNeg + n.toNatClampNeg ≤ n1 then some (va_cpy f g sp.toNatClampNeg dp.toNatClampNeg n.toNatClampNeg) else none
theorem cpL_e {β : Type} {f : Nat → Int64} {n0 : Nat} {sp : Int32} {g : Nat → Int64} {n1 : Nat} {dp n : Int32} {k : (Nat → Int64) → Option β} {r : β} (h : Option.bind (cpL_ f n0 sp g n1 dp n) k = some r) : ∃ w, w = va_cpy f g sp.toNatClampNeg dp.toNatClampNeg n.toNatClampNeg ∧ (¬ sp < 0 ∧ ¬ dp < 0 ∧ ¬ n < 0 ∧ sp.toNatClampNeg + n.toNatClampNeg ≤ n0 ∧ dp.toNatClampNeg + n.toNatClampNeg ≤ n1) ∧ k w = some r := by
  unfold cpL_ at h
  split at h
  · exact ⟨_, rfl, by assumption, h⟩
  · cases h
theorem nb_lit (P : Prop) [Decidable P] : ((if P then (1 : Int32) else 0) = 0 ∨ (if P then (1 : Int32) else 0) = 1) := by split <;> simp
theorem nb_litR (P : Prop) [Decidable P] : ((if P then (0 : Int32) else 1) = 0 ∨ (if P then (0 : Int32) else 1) = 1) := by split <;> simp
theorem tbl_out {x : Int32} {lo hi : Int} (h : ∀ k : Int, lo ≤ k → k ≤ hi → x.toInt ≠ k) : x.toInt < lo ∨ hi < x.toInt := by
  rcases Int.lt_or_le x.toInt lo with a | a
  · exact Or.inl a
  · rcases Int.lt_or_le hi x.toInt with b | b
    · exact Or.inr b
    · exact absurd rfl (h x.toInt a b)
theorem lks_out {ps : List (Int × Int)} {d x : Int} (h : ∀ k ∈ ps.map Prod.fst, x ≠ k) : Op.lookupswitch.offset ps d x = d := by
  apply Op.lookupswitch.offset_none
  rw [List.find?_eq_none]
  intro q hq hx
  exact h q.1 (List.mem_map.mpr ⟨q, hq, rfl⟩) (beq_iff_eq.mp hx).symm
theorem i32_ne {x y : Int32} {k : Int} (h : ¬ x = y) (hy : y.toInt = k) : x.toInt ≠ k := fun e => h (Int32.toInt_inj.mp (by rw [e, hy]))
section XTP
variable {p : Program} {l : Launch} {e : Env} {R : Room} {s : State} {m : MethodId} {args : Array Value} {below : List Frame} {meth : Method} {c : Code} {H : Heap} {locs : List Loc} {cells slots : Nat} {Q : State → Prop} {pc : Nat} {ls : Array Slot} {rest : List Value}
theorem tp_ {x y : Int32} (h : y = x) (k : W p l e R s m args below meth c H locs cells slots Q (F0 m pc ls (.int y :: rest))) : W p l e R s m args below meth c H locs cells slots Q (F0 m pc ls (.int x :: rest)) := by subst h; exact k
theorem tpl_ {x y : Int64} (h : y = x) (k : W p l e R s m args below meth c H locs cells slots Q (F0 m pc ls (.long y :: rest))) : W p l e R s m args below meth c H locs cells slots Q (F0 m pc ls (.long x :: rest)) := by subst h; exact k
end XTP
end
section
/-! the pure functions of the methods, by program out of their bytecode -/
def f_X0_powerOf_L4 (k_4 : Int32 → Option (Int32)) (v0_4 : Int32) (v1_4 : Int32) : Nat → Int32 → Int32 → Option (Int32)
  | 0, _, _ => none
  | fuel + 1, v2_4, v3_4 => (if (v1_4 ≤ v3_4) then (k_4 v2_4) else (f_X0_powerOf_L4 k_4 v0_4 v1_4 fuel (v2_4 * v0_4) (v3_4 + (1 : Int32))))
theorem f_X0_powerOf_L4_z (k_4 : Int32 → Option (Int32)) (v0_4 : Int32) (v1_4 : Int32) (v2_4 : Int32) (v3_4 : Int32) : f_X0_powerOf_L4 k_4 v0_4 v1_4 0 v2_4 v3_4 = none := rfl
theorem f_X0_powerOf_L4_s (k_4 : Int32 → Option (Int32)) (v0_4 : Int32) (v1_4 : Int32) (fuel : Nat) (v2_4 : Int32) (v3_4 : Int32) : f_X0_powerOf_L4 k_4 v0_4 v1_4 (fuel + 1) v2_4 v3_4 = (if (v1_4 ≤ v3_4) then (k_4 v2_4) else (f_X0_powerOf_L4 k_4 v0_4 v1_4 fuel (v2_4 * v0_4) (v3_4 + (1 : Int32)))) := rfl
def f_X0_powerOf (p0 : Int32) (p1 : Int32) : Option (Int32) := (f_X0_powerOf_L4 (fun x2_4 => (some x2_4)) p0 p1 5000 (1 : Int32) (0 : Int32))
def f_X0_howMany_L16 (k_16 : Int32 → Option (Int32)) (v0_16 : Int32) : Nat → Int32 → Int32 → Int32 → Option (Int32)
  | 0, _, _, _ => none
  | fuel + 1, v2_16, v3_16, v4_16 => (if ((¬ ((14 : Int32) ≤ v4_16)) ∧ (¬ (v3_16 ≤ 0))) then (Option.bind (dv_ v3_16 v0_16) (fun d_5 => (f_X0_howMany_L16 k_16 v0_16 fuel (v2_16 + (1 : Int32)) d_5 (v4_16 + (1 : Int32))))) else (k_16 v2_16))
theorem f_X0_howMany_L16_z (k_16 : Int32 → Option (Int32)) (v0_16 : Int32) (v2_16 : Int32) (v3_16 : Int32) (v4_16 : Int32) : f_X0_howMany_L16 k_16 v0_16 0 v2_16 v3_16 v4_16 = none := rfl
theorem f_X0_howMany_L16_s (k_16 : Int32 → Option (Int32)) (v0_16 : Int32) (fuel : Nat) (v2_16 : Int32) (v3_16 : Int32) (v4_16 : Int32) : f_X0_howMany_L16 k_16 v0_16 (fuel + 1) v2_16 v3_16 v4_16 = (if ((¬ ((14 : Int32) ≤ v4_16)) ∧ (¬ (v3_16 ≤ 0))) then (Option.bind (dv_ v3_16 v0_16) (fun d_5 => (f_X0_howMany_L16 k_16 v0_16 fuel (v2_16 + (1 : Int32)) d_5 (v4_16 + (1 : Int32))))) else (k_16 v2_16)) := rfl
def f_X0_howMany (p0 : Int32) (p1 : Int32) : Option (Int32) := (if ((2 : Int32) ≤ p0) then (Option.bind (dv_ p1 p0) (fun d_2 => (f_X0_howMany_L16 (fun x2_16 => (some x2_16)) p0 5000 (1 : Int32) d_2 (1 : Int32)))) else (some (0 : Int32)))
def f_X0_one_L12 (k_12 : Int32 → Option (Int32)) (v0_12 : Int32) (v2_12 : Int32) : Nat → Int32 → Int32 → Option (Int32)
  | 0, _, _ => none
  | fuel + 1, v3_12, v4_12 => (if ((¬ (v2_12 ≤ v4_12)) ∧ (¬ ((14 : Int32) ≤ v4_12))) then (Option.bind (dv_ v3_12 v0_12) (fun d_4 => (f_X0_one_L12 k_12 v0_12 v2_12 fuel d_4 (v4_12 + (1 : Int32))))) else (k_12 v3_12))
theorem f_X0_one_L12_z (k_12 : Int32 → Option (Int32)) (v0_12 : Int32) (v2_12 : Int32) (v3_12 : Int32) (v4_12 : Int32) : f_X0_one_L12 k_12 v0_12 v2_12 0 v3_12 v4_12 = none := rfl
theorem f_X0_one_L12_s (k_12 : Int32 → Option (Int32)) (v0_12 : Int32) (v2_12 : Int32) (fuel : Nat) (v3_12 : Int32) (v4_12 : Int32) : f_X0_one_L12 k_12 v0_12 v2_12 (fuel + 1) v3_12 v4_12 = (if ((¬ (v2_12 ≤ v4_12)) ∧ (¬ ((14 : Int32) ≤ v4_12))) then (Option.bind (dv_ v3_12 v0_12) (fun d_4 => (f_X0_one_L12 k_12 v0_12 v2_12 fuel d_4 (v4_12 + (1 : Int32))))) else (k_12 v3_12)) := rfl
def f_X0_one (p0 : Int32) (p1 : Int32) (p2 : Int32) : Option (Int32) := (if ((2 : Int32) ≤ p0) then (f_X0_one_L12 (fun x3_12 => (Option.bind (md_ x3_12 p0) (fun d_8 => (some d_8)))) p0 p2 5000 p1 (0 : Int32)) else (some (0 : Int32)))
def f_X0_withoutPrime_L11 (k_11 : Int32 → Option (Int32)) (v0_11 : Int32) : Nat → Int32 → Int32 → Option (Int32)
  | 0, _, _ => none
  | fuel + 1, v2_11, v3_11 => (if ((14 : Int32) ≤ v3_11) then (k_11 v2_11) else (Option.bind (md_ v2_11 v0_11) (fun d_3 => (if (d_3 = 0) then (Option.bind (dv_ v2_11 v0_11) (fun d_5 => (f_X0_withoutPrime_L11 k_11 v0_11 fuel d_5 (v3_11 + (1 : Int32))))) else (k_11 v2_11)))))
theorem f_X0_withoutPrime_L11_z (k_11 : Int32 → Option (Int32)) (v0_11 : Int32) (v2_11 : Int32) (v3_11 : Int32) : f_X0_withoutPrime_L11 k_11 v0_11 0 v2_11 v3_11 = none := rfl
theorem f_X0_withoutPrime_L11_s (k_11 : Int32 → Option (Int32)) (v0_11 : Int32) (fuel : Nat) (v2_11 : Int32) (v3_11 : Int32) : f_X0_withoutPrime_L11 k_11 v0_11 (fuel + 1) v2_11 v3_11 = (if ((14 : Int32) ≤ v3_11) then (k_11 v2_11) else (Option.bind (md_ v2_11 v0_11) (fun d_3 => (if (d_3 = 0) then (Option.bind (dv_ v2_11 v0_11) (fun d_5 => (f_X0_withoutPrime_L11 k_11 v0_11 fuel d_5 (v3_11 + (1 : Int32))))) else (k_11 v2_11))))) := rfl
def f_X0_withoutPrime (p0 : Int32) (p1 : Int32) : Option (Int32) := (if ((2 : Int32) ≤ p0) then (f_X0_withoutPrime_L11 (fun x2_11 => (some x2_11)) p0 5000 p1 (0 : Int32)) else (some (0 : Int32)))
def f_X0_timesDivided_L14 (k_14 : Int32 → Option (Int32)) (v0_14 : Int32) : Nat → Int32 → Int32 → Int32 → Option (Int32)
  | 0, _, _, _ => none
  | fuel + 1, v2_14, v3_14, v4_14 => (if ((14 : Int32) ≤ v4_14) then (k_14 v2_14) else (Option.bind (md_ v3_14 v0_14) (fun d_3 => (if (d_3 = 0) then (Option.bind (dv_ v3_14 v0_14) (fun d_5 => (f_X0_timesDivided_L14 k_14 v0_14 fuel (v2_14 + (1 : Int32)) d_5 (v4_14 + (1 : Int32))))) else (k_14 v2_14)))))
theorem f_X0_timesDivided_L14_z (k_14 : Int32 → Option (Int32)) (v0_14 : Int32) (v2_14 : Int32) (v3_14 : Int32) (v4_14 : Int32) : f_X0_timesDivided_L14 k_14 v0_14 0 v2_14 v3_14 v4_14 = none := rfl
theorem f_X0_timesDivided_L14_s (k_14 : Int32 → Option (Int32)) (v0_14 : Int32) (fuel : Nat) (v2_14 : Int32) (v3_14 : Int32) (v4_14 : Int32) : f_X0_timesDivided_L14 k_14 v0_14 (fuel + 1) v2_14 v3_14 v4_14 = (if ((14 : Int32) ≤ v4_14) then (k_14 v2_14) else (Option.bind (md_ v3_14 v0_14) (fun d_3 => (if (d_3 = 0) then (Option.bind (dv_ v3_14 v0_14) (fun d_5 => (f_X0_timesDivided_L14 k_14 v0_14 fuel (v2_14 + (1 : Int32)) d_5 (v4_14 + (1 : Int32))))) else (k_14 v2_14))))) := rfl
def f_X0_timesDivided (p0 : Int32) (p1 : Int32) : Option (Int32) := (if ((2 : Int32) ≤ p0) then (f_X0_timesDivided_L14 (fun x2_14 => (some x2_14)) p0 5000 (0 : Int32) p1 (0 : Int32)) else (some (0 : Int32)))
def f_X0_carries_L23 (k_23 : Int32 → Option (Int32)) (v0_23 : Int32) : Nat → Int32 → Int32 → Int32 → Int32 → Int32 → Option (Int32)
  | 0, _, _, _, _, _ => none
  | fuel + 1, v3_23, v4_23, v5_23, v6_23, v7_23 => (if ((¬ ((14 : Int32) ≤ v7_23)) ∧ ((0 < v3_23) ∨ (¬ (v4_23 ≤ 0)))) then (Option.bind (md_ v3_23 v0_23) (fun d_4 => (Option.bind (md_ v4_23 v0_23) (fun d_5 => (qn_ (if (¬ (((d_4 + d_5) + v5_23) < v0_23)) then (1 : Int32) else (0 : Int32)) (fun y_7 => (Option.bind (dv_ v3_23 v0_23) (fun d_8 => (Option.bind (dv_ v4_23 v0_23) (fun d_9 => (f_X0_carries_L23 k_23 v0_23 fuel d_8 d_9 y_7 (v6_23 + y_7) (v7_23 + (1 : Int32))))))))))))) else (k_23 v6_23))
theorem f_X0_carries_L23_z (k_23 : Int32 → Option (Int32)) (v0_23 : Int32) (v3_23 : Int32) (v4_23 : Int32) (v5_23 : Int32) (v6_23 : Int32) (v7_23 : Int32) : f_X0_carries_L23 k_23 v0_23 0 v3_23 v4_23 v5_23 v6_23 v7_23 = none := rfl
theorem f_X0_carries_L23_s (k_23 : Int32 → Option (Int32)) (v0_23 : Int32) (fuel : Nat) (v3_23 : Int32) (v4_23 : Int32) (v5_23 : Int32) (v6_23 : Int32) (v7_23 : Int32) : f_X0_carries_L23 k_23 v0_23 (fuel + 1) v3_23 v4_23 v5_23 v6_23 v7_23 = (if ((¬ ((14 : Int32) ≤ v7_23)) ∧ ((0 < v3_23) ∨ (¬ (v4_23 ≤ 0)))) then (Option.bind (md_ v3_23 v0_23) (fun d_4 => (Option.bind (md_ v4_23 v0_23) (fun d_5 => (qn_ (if (¬ (((d_4 + d_5) + v5_23) < v0_23)) then (1 : Int32) else (0 : Int32)) (fun y_7 => (Option.bind (dv_ v3_23 v0_23) (fun d_8 => (Option.bind (dv_ v4_23 v0_23) (fun d_9 => (f_X0_carries_L23 k_23 v0_23 fuel d_8 d_9 y_7 (v6_23 + y_7) (v7_23 + (1 : Int32))))))))))))) else (k_23 v6_23)) := rfl
def f_X0_carries (p0 : Int32) (p1 : Int32) (p2 : Int32) : Option (Int32) := (if ((2 : Int32) ≤ p0) then (f_X0_carries_L23 (fun x6_23 => (some x6_23)) p0 5000 p2 (p1 - p2) (0 : Int32) (0 : Int32) (0 : Int32)) else (some (0 : Int32)))
def f_X0_legendre_L29 (k_29 : Int32 → Option (Int32)) (v0_29 : Int32) : Nat → Int32 → Int32 → Int32 → Int32 → Int32 → Option (Int32)
  | 0, _, _, _, _, _ => none
  | fuel + 1, v3_29, v4_29, v5_29, v6_29, v7_29 => (if ((¬ ((14 : Int32) ≤ v7_29)) ∧ (¬ (v4_29 ≤ 0))) then (Option.bind (dv_ v4_29 v0_29) (fun d_7 => (Option.bind (dv_ v5_29 v0_29) (fun d_8 => (Option.bind (dv_ v6_29 v0_29) (fun d_9 => (f_X0_legendre_L29 k_29 v0_29 fuel (v3_29 + ((v4_29 - v5_29) - v6_29)) d_7 d_8 d_9 (v7_29 + (1 : Int32))))))))) else (k_29 v3_29))
theorem f_X0_legendre_L29_z (k_29 : Int32 → Option (Int32)) (v0_29 : Int32) (v3_29 : Int32) (v4_29 : Int32) (v5_29 : Int32) (v6_29 : Int32) (v7_29 : Int32) : f_X0_legendre_L29 k_29 v0_29 0 v3_29 v4_29 v5_29 v6_29 v7_29 = none := rfl
theorem f_X0_legendre_L29_s (k_29 : Int32 → Option (Int32)) (v0_29 : Int32) (fuel : Nat) (v3_29 : Int32) (v4_29 : Int32) (v5_29 : Int32) (v6_29 : Int32) (v7_29 : Int32) : f_X0_legendre_L29 k_29 v0_29 (fuel + 1) v3_29 v4_29 v5_29 v6_29 v7_29 = (if ((¬ ((14 : Int32) ≤ v7_29)) ∧ (¬ (v4_29 ≤ 0))) then (Option.bind (dv_ v4_29 v0_29) (fun d_7 => (Option.bind (dv_ v5_29 v0_29) (fun d_8 => (Option.bind (dv_ v6_29 v0_29) (fun d_9 => (f_X0_legendre_L29 k_29 v0_29 fuel (v3_29 + ((v4_29 - v5_29) - v6_29)) d_7 d_8 d_9 (v7_29 + (1 : Int32))))))))) else (k_29 v3_29)) := rfl
def f_X0_legendre (p0 : Int32) (p1 : Int32) (p2 : Int32) : Option (Int32) := (if ((2 : Int32) ≤ p0) then (Option.bind (dv_ p1 p0) (fun d_2 => (Option.bind (dv_ p2 p0) (fun d_3 => (Option.bind (dv_ (p1 - p2) p0) (fun d_4 => (f_X0_legendre_L29 (fun x3_29 => (some x3_29)) p0 5000 (0 : Int32) d_2 d_3 d_4 (0 : Int32)))))))) else (some (0 : Int32)))
def f_X0_isCovered_L15 (k_15 : Option (Int32)) (v0_15 : Int32) : Nat → Int32 → Int32 → Int32 → Option (Int32)
  | 0, _, _, _ => none
  | fuel + 1, v3_15, v4_15, v5_15 => (if ((¬ ((14 : Int32) ≤ v5_15)) ∧ (¬ (v4_15 ≤ 0))) then (Option.bind (md_ v4_15 v0_15) (fun d_4 => (Option.bind (md_ v3_15 v0_15) (fun d_5 => (if (d_4 ≤ d_5) then (Option.bind (dv_ v3_15 v0_15) (fun d_7 => (Option.bind (dv_ v4_15 v0_15) (fun d_8 => (f_X0_isCovered_L15 k_15 v0_15 fuel d_7 d_8 (v5_15 + (1 : Int32))))))) else (some (0 : Int32))))))) else (k_15))
theorem f_X0_isCovered_L15_z (k_15 : Option (Int32)) (v0_15 : Int32) (v3_15 : Int32) (v4_15 : Int32) (v5_15 : Int32) : f_X0_isCovered_L15 k_15 v0_15 0 v3_15 v4_15 v5_15 = none := rfl
theorem f_X0_isCovered_L15_s (k_15 : Option (Int32)) (v0_15 : Int32) (fuel : Nat) (v3_15 : Int32) (v4_15 : Int32) (v5_15 : Int32) : f_X0_isCovered_L15 k_15 v0_15 (fuel + 1) v3_15 v4_15 v5_15 = (if ((¬ ((14 : Int32) ≤ v5_15)) ∧ (¬ (v4_15 ≤ 0))) then (Option.bind (md_ v4_15 v0_15) (fun d_4 => (Option.bind (md_ v3_15 v0_15) (fun d_5 => (if (d_4 ≤ d_5) then (Option.bind (dv_ v3_15 v0_15) (fun d_7 => (Option.bind (dv_ v4_15 v0_15) (fun d_8 => (f_X0_isCovered_L15 k_15 v0_15 fuel d_7 d_8 (v5_15 + (1 : Int32))))))) else (some (0 : Int32))))))) else (k_15)) := rfl
def f_X0_isCovered (p0 : Int32) (p1 : Int32) (p2 : Int32) : Option (Int32) := (if ((2 : Int32) ≤ p0) then (f_X0_isCovered_L15 (some (1 : Int32)) p0 5000 p1 p2 (0 : Int32)) else (some (0 : Int32)))
def f_X0_commonDivisor_L7 (k_7 : Int32 → Option (Int32))  : Nat → Int32 → Int32 → Int32 → Option (Int32)
  | 0, _, _, _ => none
  | fuel + 1, v2_7, v3_7, v4_7 => (if ((¬ ((64 : Int32) ≤ v4_7)) ∧ (¬ (v3_7 ≤ 0))) then (Option.bind (md_ v2_7 v3_7) (fun d_3 => (f_X0_commonDivisor_L7 k_7 fuel v3_7 d_3 (v4_7 + (1 : Int32))))) else (k_7 v2_7))
theorem f_X0_commonDivisor_L7_z (k_7 : Int32 → Option (Int32))  (v2_7 : Int32) (v3_7 : Int32) (v4_7 : Int32) : f_X0_commonDivisor_L7 k_7  0 v2_7 v3_7 v4_7 = none := rfl
theorem f_X0_commonDivisor_L7_s (k_7 : Int32 → Option (Int32))  (fuel : Nat) (v2_7 : Int32) (v3_7 : Int32) (v4_7 : Int32) : f_X0_commonDivisor_L7 k_7  (fuel + 1) v2_7 v3_7 v4_7 = (if ((¬ ((64 : Int32) ≤ v4_7)) ∧ (¬ (v3_7 ≤ 0))) then (Option.bind (md_ v2_7 v3_7) (fun d_3 => (f_X0_commonDivisor_L7 k_7 fuel v3_7 d_3 (v4_7 + (1 : Int32))))) else (k_7 v2_7)) := rfl
def f_X0_commonDivisor (p0 : Int32) (p1 : Int32) : Option (Int32) := (f_X0_commonDivisor_L7 (fun x2_7 => (some x2_7))  5000 p0 p1 (0 : Int32))
def f_X1_add (p0 : Int32) (p1 : Int32) (p2 : Int32) (n_o_numbers : Nat) (o_numbers : Nat → Int32) (o_size : Int32) : Option (Int32 × (Nat → Int32) × Int32) := (if ((((3 : Int32) * o_size) < 0) ∨ (¬ (((3 : Int32) * o_size) ≤ ((Int32.ofNat n_o_numbers) - (3 : Int32))))) then (some ((-4 : Int32), o_numbers, o_size)) else (Option.bind (wr_ o_numbers n_o_numbers ((3 : Int32) * o_size) p0) (fun w_4 => (Option.bind (wr_ w_4 n_o_numbers (((3 : Int32) * o_size) + (1 : Int32)) p1) (fun w_5 => (Option.bind (wr_ w_5 n_o_numbers (((3 : Int32) * o_size) + (2 : Int32)) p2) (fun w_6 => (some ((o_size + (1 : Int32)), w_6, (o_size + (1 : Int32)))))))))))
def f_X6_isWithin (p0 : Int32) (p1 : Int32) (p2 : Int32) : Int32 := (if (¬ ((p0 < p1) ∨ (p2 < p0))) then (1 : Int32) else (0 : Int32))
def f_X1_number (p0 : Int32) (p1 : Int32) (n_o_numbers : Nat) (o_numbers : Nat → Int32) (o_size : Int32) : Option (Int32) := (if (((f_X6_isWithin p0 (0 : Int32) (o_size - (1 : Int32))) = 0) ∨ ((f_X6_isWithin p1 (0 : Int32) (2 : Int32)) = 0)) then (some (0 : Int32)) else (if ((¬ ((((3 : Int32) * p0) + p1) < 0)) ∧ (¬ ((Int32.ofNat n_o_numbers) ≤ (((3 : Int32) * p0) + p1)))) then (Option.bind (rd_ o_numbers n_o_numbers (((3 : Int32) * p0) + p1)) (fun g_6 => (some g_6))) else (some (0 : Int32))))
def f_X1_remove (p0 : Int32) (n_o_numbers : Nat) (o_numbers : Nat → Int32) (o_size : Int32) : Option ((Nat → Int32) × Int32) := (if ((f_X6_isWithin p0 (0 : Int32) (o_size - (1 : Int32))) = 0) then (some (o_numbers, o_size)) else (if ((¬ (((3 : Int32) * p0) < 0)) ∧ ((¬ (((3 : Int32) * ((o_size - (1 : Int32)) - p0)) < 0)) ∧ (¬ ((((Int32.ofNat n_o_numbers) - (3 : Int32)) - ((3 : Int32) * p0)) < ((3 : Int32) * ((o_size - (1 : Int32)) - p0)))))) then (Option.bind (cpI_ o_numbers n_o_numbers (((3 : Int32) * p0) + (3 : Int32)) o_numbers n_o_numbers ((3 : Int32) * p0) ((3 : Int32) * ((o_size - (1 : Int32)) - p0))) (fun w_4 => (some (w_4, (o_size - (1 : Int32)))))) else (some (o_numbers, o_size))))
def f_X1_empty (o_size : Int32) : Option (Int32) := (some (0 : Int32))
def f_X1_copyFrom (n_o_numbers : Nat) (n_b_numbers : Nat) (o_numbers : Nat → Int32) (o_size : Int32) (b_numbers : Nat → Int32) (b_size : Int32) : Option ((Nat → Int32) × Int32) := (if ((Int32.ofNat n_b_numbers) = (Int32.ofNat n_o_numbers)) then (Option.bind (cpI_ b_numbers n_b_numbers (0 : Int32) o_numbers n_o_numbers (0 : Int32) (Int32.ofNat n_o_numbers)) (fun w_2 => (some (w_2, b_size)))) else (some (o_numbers, o_size)))
def f_X2_add (p0 : Int32) (o_text : Nat → Int32) (o_length : Int32) : Option (Int32 × (Nat → Int32) × Int32) := (if ((o_length < 0) ∨ (¬ (o_length < (Int32.ofNat 100)))) then (some ((-4 : Int32), o_text, o_length)) else (Option.bind (wr_ o_text 100 o_length p0) (fun w_4 => (some ((o_length + (1 : Int32)), w_4, (o_length + (1 : Int32)))))))
def f_X2_emptyText (o_length : Int32) : Option (Int32) := (some (0 : Int32))
def f_X2_sign (o_text : Nat → Int32) (o_length : Int32) (o_next : Int32) : Option (Int32) := (if ((¬ (o_next < 0)) ∧ ((¬ (o_length ≤ o_next)) ∧ (¬ ((Int32.ofNat 100) ≤ o_next)))) then (Option.bind (rd_ o_text 100 o_next) (fun g_3 => (some g_3))) else (some (-1 : Int32)))
def f_X2_takeNumber_L4 (k_4 : Int32 → (Int32) → Option (Int32 × Int32)) (v1_4 : Int32) (o_text : Nat → Int32) (o_length : Int32) : Nat → Int32 → Int32 → (Int32) → Option (Int32 × Int32)
  | 0, _, _, _ => none
  | fuel + 1, v2_4, v3_4, o_next_4 => (if (v1_4 ≤ v3_4) then (k_4 v2_4 o_next_4) else (Option.bind (f_X2_sign o_text o_length o_next_4) (fun u_2 => (if ((f_X6_isWithin (u_2 - (48 : Int32)) (0 : Int32) (9 : Int32)) = 0) then (some (v2_4, o_next_4)) else (qn_ (((10 : Int32) * (if v2_4 < (0 : Int32) then (0 : Int32) else v2_4)) + (u_2 - (48 : Int32))) (fun x_4 => (f_X2_takeNumber_L4 k_4 v1_4 o_text o_length fuel x_4 (v3_4 + (1 : Int32)) (o_next_4 + (1 : Int32)))))))))
theorem f_X2_takeNumber_L4_z (k_4 : Int32 → (Int32) → Option (Int32 × Int32)) (v1_4 : Int32) (o_text : Nat → Int32) (o_length : Int32) (v2_4 : Int32) (v3_4 : Int32) (o_next_4 : Int32) : f_X2_takeNumber_L4 k_4 v1_4 o_text o_length 0 v2_4 v3_4 o_next_4 = none := rfl
theorem f_X2_takeNumber_L4_s (k_4 : Int32 → (Int32) → Option (Int32 × Int32)) (v1_4 : Int32) (o_text : Nat → Int32) (o_length : Int32) (fuel : Nat) (v2_4 : Int32) (v3_4 : Int32) (o_next_4 : (Int32)) : f_X2_takeNumber_L4 k_4 v1_4 o_text o_length (fuel + 1) v2_4 v3_4 o_next_4 = (if (v1_4 ≤ v3_4) then (k_4 v2_4 o_next_4) else (Option.bind (f_X2_sign o_text o_length o_next_4) (fun u_2 => (if ((f_X6_isWithin (u_2 - (48 : Int32)) (0 : Int32) (9 : Int32)) = 0) then (some (v2_4, o_next_4)) else (qn_ (((10 : Int32) * (if v2_4 < (0 : Int32) then (0 : Int32) else v2_4)) + (u_2 - (48 : Int32))) (fun x_4 => (f_X2_takeNumber_L4 k_4 v1_4 o_text o_length fuel x_4 (v3_4 + (1 : Int32)) (o_next_4 + (1 : Int32))))))))) := rfl
def f_X2_takeNumber (p0 : Int32) (o_text : Nat → Int32) (o_length : Int32) (o_next : Int32) : Option (Int32 × Int32) := (f_X2_takeNumber_L4 (fun x2_4 xc_o_next_4 => (some (x2_4, xc_o_next_4))) p0 o_text o_length 5000 (-1 : Int32) (0 : Int32) o_next)
def f_X2_take (p0 : Int32) (o_text : Nat → Int32) (o_length : Int32) (o_next : Int32) : Option (Int32 × Int32) := (Option.bind (f_X2_sign o_text o_length o_next) (fun u_1 => (qn_ (if (¬ ((if (u_1 = p0) then (1 : Int32) else (0 : Int32)) = 0)) then (1 : Int32) else (0 : Int32)) (fun y_5 => (some ((if (u_1 = p0) then (1 : Int32) else (0 : Int32)), (o_next + y_5)))))))
def f_X2_takeClause (o_text : Nat → Int32) (o_clauses_numbers : Nat → Int32) (o_clauses_size : Int32) (o_length : Int32) (o_next : Int32) : Option (Int32 × (Nat → Int32) × Int32 × Int32) := (Option.bind (f_X2_sign o_text o_length o_next) (fun u_1 => (if ((¬ (u_1 = (112 : Int32))) ∧ ((¬ (u_1 = (101 : Int32))) ∧ ((¬ (u_1 = (109 : Int32))) ∧ ((¬ (u_1 = (120 : Int32))) ∧ (¬ (u_1 = (119 : Int32))))))) then (some ((0 : Int32), o_clauses_numbers, o_clauses_size, o_next)) else (if (u_1 = (120 : Int32)) then (if ((0 : Int32) = (-1 : Int32)) then (some ((0 : Int32), o_clauses_numbers, o_clauses_size, (o_next + (1 : Int32)))) else (if (u_1 = (119 : Int32)) then (Option.bind (f_X2_take (44 : Int32) o_text o_length (o_next + (1 : Int32))) (fun u_24 => (if (u_24.1 = 0) then (some ((0 : Int32), o_clauses_numbers, o_clauses_size, u_24.2)) else (if ((u_1 = (109 : Int32)) ∨ (u_1 = (119 : Int32))) then (Option.bind (f_X2_takeNumber (3 : Int32) o_text o_length u_24.2) (fun u_28 => (if (u_28.1 = (-1 : Int32)) then (some ((0 : Int32), o_clauses_numbers, o_clauses_size, u_28.2)) else (Option.bind (f_X1_add u_1 (0 : Int32) u_28.1 36 o_clauses_numbers o_clauses_size) (fun u_30 => (some ((if (¬ (u_30.1 ≤ 0)) then (1 : Int32) else (0 : Int32)), u_30.2.1, u_30.2.2, u_28.2))))))) else (if ((0 : Int32) = (-1 : Int32)) then (some ((0 : Int32), o_clauses_numbers, o_clauses_size, u_24.2)) else (Option.bind (f_X1_add u_1 (0 : Int32) (0 : Int32) 36 o_clauses_numbers o_clauses_size) (fun u_36 => (some ((if (¬ (u_36.1 ≤ 0)) then (1 : Int32) else (0 : Int32)), u_36.2.1, u_36.2.2, u_24.2))))))))) else (if ((u_1 = (109 : Int32)) ∨ (u_1 = (119 : Int32))) then (Option.bind (f_X2_takeNumber (3 : Int32) o_text o_length (o_next + (1 : Int32))) (fun u_10 => (if (u_10.1 = (-1 : Int32)) then (some ((0 : Int32), o_clauses_numbers, o_clauses_size, u_10.2)) else (Option.bind (f_X1_add u_1 (0 : Int32) u_10.1 36 o_clauses_numbers o_clauses_size) (fun u_12 => (some ((if (¬ (u_12.1 ≤ 0)) then (1 : Int32) else (0 : Int32)), u_12.2.1, u_12.2.2, u_10.2))))))) else (if ((0 : Int32) = (-1 : Int32)) then (some ((0 : Int32), o_clauses_numbers, o_clauses_size, (o_next + (1 : Int32)))) else (Option.bind (f_X1_add u_1 (0 : Int32) (0 : Int32) 36 o_clauses_numbers o_clauses_size) (fun u_18 => (some ((if (¬ (u_18.1 ≤ 0)) then (1 : Int32) else (0 : Int32)), u_18.2.1, u_18.2.2, (o_next + (1 : Int32)))))))))) else (Option.bind (f_X2_takeNumber (if (¬ (u_1 = (119 : Int32))) then (1 : Int32) else (3 : Int32)) o_text o_length (o_next + (1 : Int32))) (fun u_44 => (if (u_44.1 = (-1 : Int32)) then (some ((0 : Int32), o_clauses_numbers, o_clauses_size, u_44.2)) else (if (u_1 = (119 : Int32)) then (Option.bind (f_X2_take (44 : Int32) o_text o_length u_44.2) (fun u_63 => (if (u_63.1 = 0) then (some ((0 : Int32), o_clauses_numbers, o_clauses_size, u_63.2)) else (if ((u_1 = (109 : Int32)) ∨ (u_1 = (119 : Int32))) then (Option.bind (f_X2_takeNumber (3 : Int32) o_text o_length u_63.2) (fun u_67 => (if (u_67.1 = (-1 : Int32)) then (some ((0 : Int32), o_clauses_numbers, o_clauses_size, u_67.2)) else (Option.bind (f_X1_add u_1 u_44.1 u_67.1 36 o_clauses_numbers o_clauses_size) (fun u_69 => (some ((if (¬ (u_69.1 ≤ 0)) then (1 : Int32) else (0 : Int32)), u_69.2.1, u_69.2.2, u_67.2))))))) else (if ((0 : Int32) = (-1 : Int32)) then (some ((0 : Int32), o_clauses_numbers, o_clauses_size, u_63.2)) else (Option.bind (f_X1_add u_1 u_44.1 (0 : Int32) 36 o_clauses_numbers o_clauses_size) (fun u_75 => (some ((if (¬ (u_75.1 ≤ 0)) then (1 : Int32) else (0 : Int32)), u_75.2.1, u_75.2.2, u_63.2))))))))) else (if ((u_1 = (109 : Int32)) ∨ (u_1 = (119 : Int32))) then (Option.bind (f_X2_takeNumber (3 : Int32) o_text o_length u_44.2) (fun u_49 => (if (u_49.1 = (-1 : Int32)) then (some ((0 : Int32), o_clauses_numbers, o_clauses_size, u_49.2)) else (Option.bind (f_X1_add u_1 u_44.1 u_49.1 36 o_clauses_numbers o_clauses_size) (fun u_51 => (some ((if (¬ (u_51.1 ≤ 0)) then (1 : Int32) else (0 : Int32)), u_51.2.1, u_51.2.2, u_49.2))))))) else (if ((0 : Int32) = (-1 : Int32)) then (some ((0 : Int32), o_clauses_numbers, o_clauses_size, u_44.2)) else (Option.bind (f_X1_add u_1 u_44.1 (0 : Int32) 36 o_clauses_numbers o_clauses_size) (fun u_57 => (some ((if (¬ (u_57.1 ≤ 0)) then (1 : Int32) else (0 : Int32)), u_57.2.1, u_57.2.2, u_44.2))))))))))))))
def f_X2_faultOfText_L14 (k_14 : (Nat → Int32) → (Int32) → (Int32) → Option (Int32 × (Nat → Int32) × Int32 × Int32)) (o_text : Nat → Int32) (o_length : Int32) : Nat → Int32 → (Nat → Int32) → (Int32) → (Int32) → Option (Int32 × (Nat → Int32) × Int32 × Int32)
  | 0, _, _, _, _ => none
  | fuel + 1, v1_14, o_clauses_numbers_14, o_clauses_size_14, o_next_14 => (if ((12 : Int32) ≤ v1_14) then (k_14 o_clauses_numbers_14 o_clauses_size_14 o_next_14) else (Option.bind (f_X2_takeClause o_text o_clauses_numbers_14 o_clauses_size_14 o_length o_next_14) (fun u_3 => (if (u_3.1 = 0) then (some (u_3.2.2.2, u_3.2.1, u_3.2.2.1, u_3.2.2.2)) else (if (u_3.2.2.2 < o_length) then (if (v1_14 = (11 : Int32)) then (some (u_3.2.2.2, u_3.2.1, u_3.2.2.1, u_3.2.2.2)) else (Option.bind (f_X2_take (59 : Int32) o_text o_length u_3.2.2.2) (fun u_7 => (if (u_7.1 = 0) then (some (u_7.2, u_3.2.1, u_3.2.2.1, u_7.2)) else (f_X2_faultOfText_L14 k_14 o_text o_length fuel (v1_14 + (1 : Int32)) u_3.2.1 u_3.2.2.1 u_7.2))))) else (some ((-1 : Int32), u_3.2.1, u_3.2.2.1, u_3.2.2.2)))))))
theorem f_X2_faultOfText_L14_z (k_14 : (Nat → Int32) → (Int32) → (Int32) → Option (Int32 × (Nat → Int32) × Int32 × Int32)) (o_text : Nat → Int32) (o_length : Int32) (v1_14 : Int32) (o_clauses_numbers_14 : (Nat → Int32)) (o_clauses_size_14 : Int32) (o_next_14 : Int32) : f_X2_faultOfText_L14 k_14 o_text o_length 0 v1_14 o_clauses_numbers_14 o_clauses_size_14 o_next_14 = none := rfl
theorem f_X2_faultOfText_L14_s (k_14 : (Nat → Int32) → (Int32) → (Int32) → Option (Int32 × (Nat → Int32) × Int32 × Int32)) (o_text : Nat → Int32) (o_length : Int32) (fuel : Nat) (v1_14 : Int32) (o_clauses_numbers_14 : (Nat → Int32)) (o_clauses_size_14 : (Int32)) (o_next_14 : (Int32)) : f_X2_faultOfText_L14 k_14 o_text o_length (fuel + 1) v1_14 o_clauses_numbers_14 o_clauses_size_14 o_next_14 = (if ((12 : Int32) ≤ v1_14) then (k_14 o_clauses_numbers_14 o_clauses_size_14 o_next_14) else (Option.bind (f_X2_takeClause o_text o_clauses_numbers_14 o_clauses_size_14 o_length o_next_14) (fun u_3 => (if (u_3.1 = 0) then (some (u_3.2.2.2, u_3.2.1, u_3.2.2.1, u_3.2.2.2)) else (if (u_3.2.2.2 < o_length) then (if (v1_14 = (11 : Int32)) then (some (u_3.2.2.2, u_3.2.1, u_3.2.2.1, u_3.2.2.2)) else (Option.bind (f_X2_take (59 : Int32) o_text o_length u_3.2.2.2) (fun u_7 => (if (u_7.1 = 0) then (some (u_7.2, u_3.2.1, u_3.2.2.1, u_7.2)) else (f_X2_faultOfText_L14 k_14 o_text o_length fuel (v1_14 + (1 : Int32)) u_3.2.1 u_3.2.2.1 u_7.2))))) else (some ((-1 : Int32), u_3.2.1, u_3.2.2.1, u_3.2.2.2))))))) := rfl
def f_X2_faultOfText (o_text : Nat → Int32) (o_clauses_numbers : Nat → Int32) (o_clauses_size : Int32) (o_length : Int32) (o_next : Int32) : Option (Int32 × (Nat → Int32) × Int32 × Int32) := (Option.bind (f_X1_empty o_clauses_size) (fun u_1 => (f_X2_faultOfText_L14 (fun xc_o_clauses_numbers_14 xc_o_clauses_size_14 xc_o_next_14 => (some (xc_o_next_14, xc_o_clauses_numbers_14, xc_o_clauses_size_14, xc_o_next_14))) o_text o_length 5000 (0 : Int32) o_clauses_numbers u_1 (0 : Int32))))
def f_X3_become (p0 : Int32) (p1 : Int32) (o_p : Int32) (o_e : Int32) (o_modulus : Int32) : Option (Int32 × Int32 × Int32) := (Option.bind (f_X0_powerOf p0 p1) (fun u_1 => (some (p0, p1, u_1))))
def f_X3_copyFrom (o_marks_numbers : Nat → Int32) (o_marks_size : Int32) (o_seen_numbers : Nat → Int32) (o_seen_size : Int32) (o_events_numbers : Nat → Int32) (o_events_size : Int32) (o_book_numbers : Nat → Int32) (o_book_size : Int32) (o_p : Int32) (o_e : Int32) (o_modulus : Int32) (o_windowRow : Int32) (o_windowPlace : Int32) (b_marks_numbers : Nat → Int32) (b_marks_size : Int32) (b_seen_numbers : Nat → Int32) (b_seen_size : Int32) (b_events_numbers : Nat → Int32) (b_events_size : Int32) (b_book_numbers : Nat → Int32) (b_book_size : Int32) (b_p : Int32) (b_e : Int32) (b_windowRow : Int32) (b_windowPlace : Int32) : Option ((Nat → Int32) × Int32 × (Nat → Int32) × Int32 × (Nat → Int32) × Int32 × (Nat → Int32) × Int32 × Int32 × Int32 × Int32 × Int32 × Int32) := (Option.bind (f_X3_become b_p b_e o_p o_e o_modulus) (fun u_1 => (Option.bind (f_X1_copyFrom 18 18 o_marks_numbers o_marks_size b_marks_numbers b_marks_size) (fun u_2 => (Option.bind (f_X1_copyFrom 12 12 o_seen_numbers o_seen_size b_seen_numbers b_seen_size) (fun u_3 => (Option.bind (f_X1_copyFrom 24 24 o_events_numbers o_events_size b_events_numbers b_events_size) (fun u_4 => (Option.bind (f_X1_copyFrom 24 24 o_book_numbers o_book_size b_book_numbers b_book_size) (fun u_5 => (some (u_2.1, u_2.2, u_3.1, u_3.2, u_4.1, u_4.2, u_5.1, u_5.2, u_1.1, u_1.2.1, u_1.2.2, b_windowRow, b_windowPlace))))))))))))
def f_X3_nextPrime (o_p : Int32) : Option (Int32) := (if o_p = (2 : Int32) then (some (3 : Int32)) else (if o_p = (3 : Int32) then (some (5 : Int32)) else (if o_p = (4 : Int32) then (some (2 : Int32)) else (if o_p = (5 : Int32) then (some (7 : Int32)) else (some (2 : Int32))))))
def f_X3_happen (p0 : Int32) (p1 : Int32) (o_marks_numbers : Nat → Int32) (o_marks_size : Int32) (o_p : Int32) (o_e : Int32) (o_modulus : Int32) (o_windowRow : Int32) : Option ((Nat → Int32) × Int32 × Int32 × Int32 × Int32 × Int32) := (if p0 = (0 : Int32) then (Option.bind (f_X3_nextPrime o_p) (fun u_2 => (Option.bind (f_X3_become u_2 o_e o_p o_e o_modulus) (fun u_3 => (some (o_marks_numbers, o_marks_size, u_3.1, u_3.2.1, u_3.2.2, o_windowRow)))))) else (if p0 = (1 : Int32) then (Option.bind (f_X3_become o_p p1 o_p o_e o_modulus) (fun u_5 => (some (o_marks_numbers, o_marks_size, u_5.1, u_5.2.1, u_5.2.2, o_windowRow)))) else (if p0 = (2 : Int32) then (some (o_marks_numbers, o_marks_size, o_p, o_e, o_modulus, (if (o_windowRow + p1) < (127 : Int32) then (o_windowRow + p1) else (127 : Int32)))) else (Option.bind (f_X1_remove p1 18 o_marks_numbers o_marks_size) (fun u_7 => (some (u_7.1, u_7.2, o_p, o_e, o_modulus, o_windowRow)))))))
def f_X5_cell (p0 : Int32) (p1 : Int32) (o_halves : Nat → Int32) : Option (Int32) := (if ((p0 < 0) ∨ (((127 : Int32) < p0) ∨ ((p1 < 0) ∨ (¬ (p1 ≤ p0))))) then (some (0 : Int32)) else (Option.bind (dv_ p0 (2 : Int32)) (fun d_4 => (Option.bind (dv_ ((p0 + (1 : Int32)) * (p0 + (1 : Int32))) (4 : Int32)) (fun d_7 => (if ((¬ ((d_7 + (if (d_4 < p1) then (p0 - p1) else p1)) < 0)) ∧ (¬ ((Int32.ofNat 4160) ≤ (d_7 + (if (d_4 < p1) then (p0 - p1) else p1))))) then (Option.bind (rd_ o_halves 4160 (d_7 + (if (d_4 < p1) then (p0 - p1) else p1))) (fun g_10 => (some g_10))) else (some (0 : Int32))))))))
def f_X5_remainder (p0 : Int32) (p1 : Int32) (p2 : Int32) (o_halves : Nat → Int32) : Option (Int32) := (if (p2 ≤ 0) then (some (0 : Int32)) else (Option.bind (f_X5_cell p0 p1 o_halves) (fun u_2 => (Option.bind (md_ u_2 p2) (fun d_3 => (some d_3))))))
def f_X3_remainder (p0 : Int32) (p1 : Int32) (o_triangle_halves : Nat → Int32) (o_modulus : Int32) : Option (Int32) := (Option.bind (f_X5_remainder p0 p1 o_modulus o_triangle_halves) (fun u_1 => (some u_1)))
def f_X5_lucas_L19 (k_19 : Int32 → Option (Int32)) (v1_19 : Int32) (o_halves : Nat → Int32) : Nat → Int32 → Int32 → Int32 → Int32 → Option (Int32)
  | 0, _, _, _, _ => none
  | fuel + 1, v4_19, v5_19, v6_19, v7_19 => (if ((¬ ((14 : Int32) ≤ v7_19)) ∧ (¬ (v5_19 ≤ 0))) then (Option.bind (md_ v5_19 v1_19) (fun d_4 => (Option.bind (md_ v6_19 v1_19) (fun d_5 => (Option.bind (f_X5_cell d_4 d_5 o_halves) (fun u_6 => (Option.bind (md_ (v4_19 * u_6) v1_19) (fun d_7 => (Option.bind (dv_ v5_19 v1_19) (fun d_8 => (Option.bind (dv_ v6_19 v1_19) (fun d_9 => (f_X5_lucas_L19 k_19 v1_19 o_halves fuel d_7 d_8 d_9 (v7_19 + (1 : Int32))))))))))))))) else (k_19 v4_19))
theorem f_X5_lucas_L19_z (k_19 : Int32 → Option (Int32)) (v1_19 : Int32) (o_halves : Nat → Int32) (v4_19 : Int32) (v5_19 : Int32) (v6_19 : Int32) (v7_19 : Int32) : f_X5_lucas_L19 k_19 v1_19 o_halves 0 v4_19 v5_19 v6_19 v7_19 = none := rfl
theorem f_X5_lucas_L19_s (k_19 : Int32 → Option (Int32)) (v1_19 : Int32) (o_halves : Nat → Int32) (fuel : Nat) (v4_19 : Int32) (v5_19 : Int32) (v6_19 : Int32) (v7_19 : Int32) : f_X5_lucas_L19 k_19 v1_19 o_halves (fuel + 1) v4_19 v5_19 v6_19 v7_19 = (if ((¬ ((14 : Int32) ≤ v7_19)) ∧ (¬ (v5_19 ≤ 0))) then (Option.bind (md_ v5_19 v1_19) (fun d_4 => (Option.bind (md_ v6_19 v1_19) (fun d_5 => (Option.bind (f_X5_cell d_4 d_5 o_halves) (fun u_6 => (Option.bind (md_ (v4_19 * u_6) v1_19) (fun d_7 => (Option.bind (dv_ v5_19 v1_19) (fun d_8 => (Option.bind (dv_ v6_19 v1_19) (fun d_9 => (f_X5_lucas_L19 k_19 v1_19 o_halves fuel d_7 d_8 d_9 (v7_19 + (1 : Int32))))))))))))))) else (k_19 v4_19)) := rfl
def f_X5_lucas (p0 : Int32) (p1 : Int32) (p2 : Int32) (o_halves : Nat → Int32) : Option (Int32) := (if ((2 : Int32) ≤ p0) then (f_X5_lucas_L19 (fun x4_19 => (some x4_19)) p0 o_halves 5000 (1 : Int32) p1 p2 (0 : Int32)) else (some (0 : Int32)))
def f_X3_tell (p0 : Int32) (p1 : Int32) (p2 : Int32) (o_triangle_halves : Nat → Int32) (o_p : Int32) (o_modulus : Int32) : Option (Int32) := (if p0 = (0 : Int32) then (Option.bind (f_X5_remainder p1 p2 o_modulus o_triangle_halves) (fun u_2 => (some u_2))) else (if p0 = (1 : Int32) then (Option.bind (f_X5_lucas o_p p1 p2 o_triangle_halves) (fun u_4 => (some u_4))) else (if p0 = (2 : Int32) then (Option.bind (f_X0_carries o_p p1 p2) (fun u_6 => (some u_6))) else (if p0 = (3 : Int32) then (Option.bind (f_X0_legendre o_p p1 p2) (fun u_8 => (some u_8))) else (Option.bind (f_X0_isCovered o_p p1 p2) (fun u_9 => (some (if (¬ (u_9 = 0)) then (1 : Int32) else (0 : Int32)))))))))
def f_X6_isRow (p0 : Int32) : Int32 := (f_X6_isWithin p0 (0 : Int32) (127 : Int32))
def f_X6_isPlace (p0 : Int32) (p1 : Int32) : Int32 := (if (¬ (((f_X6_isRow p0) = 0) ∨ ((f_X6_isWithin p1 (0 : Int32) p0) = 0))) then (1 : Int32) else (0 : Int32))
def f_X3_isMarked_L12 (k_12 : Option (Int32)) (v1_12 : Int32) (v2_12 : Int32) (o_triangle_halves : Nat → Int32) (o_marks_numbers : Nat → Int32) (o_marks_size : Int32) (o_p : Int32) (o_modulus : Int32) : Nat → Int32 → Option (Int32)
  | 0, _ => none
  | fuel + 1, v3_12 => (if (o_marks_size ≤ v3_12) then (k_12) else (Option.bind (f_X1_number v3_12 (0 : Int32) 18 o_marks_numbers o_marks_size) (fun u_3 => (Option.bind (f_X3_tell u_3 v1_12 v2_12 o_triangle_halves o_p o_modulus) (fun u_4 => (Option.bind (f_X1_number v3_12 (1 : Int32) 18 o_marks_numbers o_marks_size) (fun u_5 => (if (u_4 = u_5) then (some (1 : Int32)) else (f_X3_isMarked_L12 k_12 v1_12 v2_12 o_triangle_halves o_marks_numbers o_marks_size o_p o_modulus fuel (v3_12 + (1 : Int32)))))))))))
theorem f_X3_isMarked_L12_z (k_12 : Option (Int32)) (v1_12 : Int32) (v2_12 : Int32) (o_triangle_halves : Nat → Int32) (o_marks_numbers : Nat → Int32) (o_marks_size : Int32) (o_p : Int32) (o_modulus : Int32) (v3_12 : Int32) : f_X3_isMarked_L12 k_12 v1_12 v2_12 o_triangle_halves o_marks_numbers o_marks_size o_p o_modulus 0 v3_12 = none := rfl
theorem f_X3_isMarked_L12_s (k_12 : Option (Int32)) (v1_12 : Int32) (v2_12 : Int32) (o_triangle_halves : Nat → Int32) (o_marks_numbers : Nat → Int32) (o_marks_size : Int32) (o_p : Int32) (o_modulus : Int32) (fuel : Nat) (v3_12 : Int32) : f_X3_isMarked_L12 k_12 v1_12 v2_12 o_triangle_halves o_marks_numbers o_marks_size o_p o_modulus (fuel + 1) v3_12 = (if (o_marks_size ≤ v3_12) then (k_12) else (Option.bind (f_X1_number v3_12 (0 : Int32) 18 o_marks_numbers o_marks_size) (fun u_3 => (Option.bind (f_X3_tell u_3 v1_12 v2_12 o_triangle_halves o_p o_modulus) (fun u_4 => (Option.bind (f_X1_number v3_12 (1 : Int32) 18 o_marks_numbers o_marks_size) (fun u_5 => (if (u_4 = u_5) then (some (1 : Int32)) else (f_X3_isMarked_L12 k_12 v1_12 v2_12 o_triangle_halves o_marks_numbers o_marks_size o_p o_modulus fuel (v3_12 + (1 : Int32))))))))))) := rfl
def f_X3_isMarked (p0 : Int32) (p1 : Int32) (o_triangle_halves : Nat → Int32) (o_marks_numbers : Nat → Int32) (o_marks_size : Int32) (o_p : Int32) (o_modulus : Int32) : Option (Int32) := (if ((f_X6_isPlace p0 p1) = 0) then (some (0 : Int32)) else (f_X3_isMarked_L12 (some (0 : Int32)) p0 p1 o_triangle_halves o_marks_numbers o_marks_size o_p o_modulus 5000 (0 : Int32)))
def f_X3_pictureRow_L4 (k_4 : Int32 → Option (Int32)) (v1_4 : Int32) (o_triangle_halves : Nat → Int32) (o_marks_numbers : Nat → Int32) (o_marks_size : Int32) (o_p : Int32) (o_modulus : Int32) (o_windowRow : Int32) (o_windowPlace : Int32) : Nat → Int32 → Int32 → Option (Int32)
  | 0, _, _ => none
  | fuel + 1, v2_4, v3_4 => (if ((8 : Int32) ≤ v3_4) then (k_4 v2_4) else (Option.bind (f_X3_isMarked (o_windowRow + v1_4) (o_windowPlace + v3_4) o_triangle_halves o_marks_numbers o_marks_size o_p o_modulus) (fun u_2 => (qn_ (if (u_2 = 0) then v2_4 else (v2_4 ||| ((1 : Int32) <<< (v3_4 &&& 31)))) (fun y_4 => (f_X3_pictureRow_L4 k_4 v1_4 o_triangle_halves o_marks_numbers o_marks_size o_p o_modulus o_windowRow o_windowPlace fuel y_4 (v3_4 + (1 : Int32))))))))
theorem f_X3_pictureRow_L4_z (k_4 : Int32 → Option (Int32)) (v1_4 : Int32) (o_triangle_halves : Nat → Int32) (o_marks_numbers : Nat → Int32) (o_marks_size : Int32) (o_p : Int32) (o_modulus : Int32) (o_windowRow : Int32) (o_windowPlace : Int32) (v2_4 : Int32) (v3_4 : Int32) : f_X3_pictureRow_L4 k_4 v1_4 o_triangle_halves o_marks_numbers o_marks_size o_p o_modulus o_windowRow o_windowPlace 0 v2_4 v3_4 = none := rfl
theorem f_X3_pictureRow_L4_s (k_4 : Int32 → Option (Int32)) (v1_4 : Int32) (o_triangle_halves : Nat → Int32) (o_marks_numbers : Nat → Int32) (o_marks_size : Int32) (o_p : Int32) (o_modulus : Int32) (o_windowRow : Int32) (o_windowPlace : Int32) (fuel : Nat) (v2_4 : Int32) (v3_4 : Int32) : f_X3_pictureRow_L4 k_4 v1_4 o_triangle_halves o_marks_numbers o_marks_size o_p o_modulus o_windowRow o_windowPlace (fuel + 1) v2_4 v3_4 = (if ((8 : Int32) ≤ v3_4) then (k_4 v2_4) else (Option.bind (f_X3_isMarked (o_windowRow + v1_4) (o_windowPlace + v3_4) o_triangle_halves o_marks_numbers o_marks_size o_p o_modulus) (fun u_2 => (qn_ (if (u_2 = 0) then v2_4 else (v2_4 ||| ((1 : Int32) <<< (v3_4 &&& 31)))) (fun y_4 => (f_X3_pictureRow_L4 k_4 v1_4 o_triangle_halves o_marks_numbers o_marks_size o_p o_modulus o_windowRow o_windowPlace fuel y_4 (v3_4 + (1 : Int32)))))))) := rfl
def f_X3_pictureRow (p0 : Int32) (o_triangle_halves : Nat → Int32) (o_marks_numbers : Nat → Int32) (o_marks_size : Int32) (o_p : Int32) (o_modulus : Int32) (o_windowRow : Int32) (o_windowPlace : Int32) : Option (Int32) := (f_X3_pictureRow_L4 (fun x2_4 => (some x2_4)) p0 o_triangle_halves o_marks_numbers o_marks_size o_p o_modulus o_windowRow o_windowPlace 5000 (0 : Int32) (0 : Int32))
def f_J6_bitCount_0f7a4 (p0 : Int32) : Int32 := (qn_ (p0 - (((Int32.toUInt32 p0 >>> (Int32.toUInt32 (1 : Int32) &&& Int32.toUInt32 31)).toInt32) &&& (1431655765 : Int32))) (fun x_1 => (qn_ ((x_1 &&& (858993459 : Int32)) + (((Int32.toUInt32 x_1 >>> (Int32.toUInt32 (2 : Int32) &&& Int32.toUInt32 31)).toInt32) &&& (858993459 : Int32))) (fun x_2 => (qn_ ((x_2 + ((Int32.toUInt32 x_2 >>> (Int32.toUInt32 (4 : Int32) &&& Int32.toUInt32 31)).toInt32)) &&& (252645135 : Int32)) (fun x_3 => (qn_ (x_3 + ((Int32.toUInt32 x_3 >>> (Int32.toUInt32 (8 : Int32) &&& Int32.toUInt32 31)).toInt32)) (fun x_4 => (qn_ (x_4 + ((Int32.toUInt32 x_4 >>> (Int32.toUInt32 (16 : Int32) &&& Int32.toUInt32 31)).toInt32)) (fun x_5 => (x_5 &&& (63 : Int32))))))))))))
def f_X3_markedInWindow_L4 (k_4 : Int32 → Option (Int32)) (o_triangle_halves : Nat → Int32) (o_marks_numbers : Nat → Int32) (o_marks_size : Int32) (o_p : Int32) (o_modulus : Int32) (o_windowRow : Int32) (o_windowPlace : Int32) : Nat → Int32 → Int32 → Option (Int32)
  | 0, _, _ => none
  | fuel + 1, v1_4, v2_4 => (if ((8 : Int32) ≤ v2_4) then (k_4 v1_4) else (Option.bind (f_X3_pictureRow v2_4 o_triangle_halves o_marks_numbers o_marks_size o_p o_modulus o_windowRow o_windowPlace) (fun u_2 => (f_X3_markedInWindow_L4 k_4 o_triangle_halves o_marks_numbers o_marks_size o_p o_modulus o_windowRow o_windowPlace fuel (v1_4 + (f_J6_bitCount_0f7a4 u_2)) (v2_4 + (1 : Int32))))))
theorem f_X3_markedInWindow_L4_z (k_4 : Int32 → Option (Int32)) (o_triangle_halves : Nat → Int32) (o_marks_numbers : Nat → Int32) (o_marks_size : Int32) (o_p : Int32) (o_modulus : Int32) (o_windowRow : Int32) (o_windowPlace : Int32) (v1_4 : Int32) (v2_4 : Int32) : f_X3_markedInWindow_L4 k_4 o_triangle_halves o_marks_numbers o_marks_size o_p o_modulus o_windowRow o_windowPlace 0 v1_4 v2_4 = none := rfl
theorem f_X3_markedInWindow_L4_s (k_4 : Int32 → Option (Int32)) (o_triangle_halves : Nat → Int32) (o_marks_numbers : Nat → Int32) (o_marks_size : Int32) (o_p : Int32) (o_modulus : Int32) (o_windowRow : Int32) (o_windowPlace : Int32) (fuel : Nat) (v1_4 : Int32) (v2_4 : Int32) : f_X3_markedInWindow_L4 k_4 o_triangle_halves o_marks_numbers o_marks_size o_p o_modulus o_windowRow o_windowPlace (fuel + 1) v1_4 v2_4 = (if ((8 : Int32) ≤ v2_4) then (k_4 v1_4) else (Option.bind (f_X3_pictureRow v2_4 o_triangle_halves o_marks_numbers o_marks_size o_p o_modulus o_windowRow o_windowPlace) (fun u_2 => (f_X3_markedInWindow_L4 k_4 o_triangle_halves o_marks_numbers o_marks_size o_p o_modulus o_windowRow o_windowPlace fuel (v1_4 + (f_J6_bitCount_0f7a4 u_2)) (v2_4 + (1 : Int32)))))) := rfl
def f_X3_markedInWindow (o_triangle_halves : Nat → Int32) (o_marks_numbers : Nat → Int32) (o_marks_size : Int32) (o_p : Int32) (o_modulus : Int32) (o_windowRow : Int32) (o_windowPlace : Int32) : Option (Int32) := (f_X3_markedInWindow_L4 (fun x1_4 => (some x1_4)) o_triangle_halves o_marks_numbers o_marks_size o_p o_modulus o_windowRow o_windowPlace 5000 (0 : Int32) (0 : Int32))
def f_X4_isThere (p0 : Int32) : Int32 := (f_X6_isWithin p0 (0 : Int32) (5 : Int32))
def f_X4_sortOf (p0 : Int32) (o_sorts : Nat → Int32) : Option (Int32) := (if ((¬ (p0 < 0)) ∧ (¬ ((Int32.ofNat 6) ≤ p0))) then (Option.bind (rd_ o_sorts 6 p0) (fun g_3 => (some g_3))) else (some (-1 : Int32)))
def f_X4_lengthOf (p0 : Int32) (o_lengths : Nat → Int32) : Option (Int32) := (if ((¬ (p0 < 0)) ∧ (¬ ((Int32.ofNat 6) ≤ p0))) then (Option.bind (rd_ o_lengths 6 p0) (fun g_3 => (some g_3))) else (some (0 : Int32)))
def f_X4_hasRun (p0 : Int32) (p1 : Int32) (p2 : Int32) (o_lengths : Nat → Int32) : Option (Int32) := (if ((¬ (p2 < 0)) ∧ (¬ (p1 < 0))) then (Option.bind (f_X4_lengthOf p0 o_lengths) (fun u_3 => (some (if (¬ ((u_3 - p2) < p1)) then (1 : Int32) else (0 : Int32))))) else (some (0 : Int32)))
def f_X4_cutToSort (p0 : Int32) (p1 : Int64) : Option (Int64) := (if p0 = (0 : Int32) then (some (Int32.toInt64 (Int8.toInt32 (Int32.toInt8 (Int64.toInt32 p1))))) else (if p0 = (1 : Int32) then (some (Int32.toInt64 (Int16.toInt32 (Int32.toInt16 (Int64.toInt32 p1))))) else (if p0 = (2 : Int32) then (some (Int32.toInt64 (Int64.toInt32 p1))) else (if p0 = (3 : Int32) then (some p1) else (if p0 = (4 : Int32) then (some (if ((lg_cmp p1 (0 : Int64)) = 0) then (0 : Int64) else (1 : Int64))) else (some p1))))))
def f_X4_put (p0 : Int32) (p1 : Int32) (p2 : Int64) (o_sorts : Nat → Int32) (o_lengths : Nat → Int32) (o_items : Nat → Int64) : Option ((Nat → Int64)) := (Option.bind (f_X4_hasRun p0 p1 (1 : Int32) o_lengths) (fun u_1 => (if ((¬ (u_1 = 0)) ∧ ((¬ ((((60 : Int32) * p0) + p1) < 0)) ∧ (¬ ((Int32.ofNat 360) ≤ (((60 : Int32) * p0) + p1))))) then (Option.bind (f_X4_sortOf p0 o_sorts) (fun u_4 => (Option.bind (f_X4_cutToSort u_4 p2) (fun u_5 => (Option.bind (wrL_ o_items 360 (((60 : Int32) * p0) + p1) u_5) (fun w_6 => (some w_6))))))) else (some o_items))))
def f_X4_become_L49 (k_49 : (Nat → Int64) → Option ((Nat → Int32) × (Nat → Int32) × (Nat → Int64))) (v1_49 : Int32) (o_sorts_49 : Nat → Int32) (o_lengths_49 : Nat → Int32) : Nat → Int32 → (Nat → Int64) → Option ((Nat → Int32) × (Nat → Int32) × (Nat → Int64))
  | 0, _, _ => none
  | fuel + 1, v4_49, o_items_49 => (Option.bind (rd_ o_lengths_49 6 v1_49) (fun g_6 => (if (g_6 ≤ v4_49) then (k_49 o_items_49) else (Option.bind (f_X4_put v1_49 v4_49 (0 : Int64) o_sorts_49 o_lengths_49 o_items_49) (fun u_8 => (f_X4_become_L49 k_49 v1_49 o_sorts_49 o_lengths_49 fuel (v4_49 + (1 : Int32)) u_8))))))
theorem f_X4_become_L49_z (k_49 : (Nat → Int64) → Option ((Nat → Int32) × (Nat → Int32) × (Nat → Int64))) (v1_49 : Int32) (o_sorts_49 : Nat → Int32) (o_lengths_49 : Nat → Int32) (v4_49 : Int32) (o_items_49 : (Nat → Int64)) : f_X4_become_L49 k_49 v1_49 o_sorts_49 o_lengths_49 0 v4_49 o_items_49 = none := rfl
theorem f_X4_become_L49_s (k_49 : (Nat → Int64) → Option ((Nat → Int32) × (Nat → Int32) × (Nat → Int64))) (v1_49 : Int32) (o_sorts_49 : Nat → Int32) (o_lengths_49 : Nat → Int32) (fuel : Nat) (v4_49 : Int32) (o_items_49 : (Nat → Int64)) : f_X4_become_L49 k_49 v1_49 o_sorts_49 o_lengths_49 (fuel + 1) v4_49 o_items_49 = (Option.bind (rd_ o_lengths_49 6 v1_49) (fun g_6 => (if (g_6 ≤ v4_49) then (k_49 o_items_49) else (Option.bind (f_X4_put v1_49 v4_49 (0 : Int64) o_sorts_49 o_lengths_49 o_items_49) (fun u_8 => (f_X4_become_L49 k_49 v1_49 o_sorts_49 o_lengths_49 fuel (v4_49 + (1 : Int32)) u_8)))))) := rfl
def f_X4_become (p0 : Int32) (p1 : Int32) (p2 : Int32) (o_sorts : Nat → Int32) (o_lengths : Nat → Int32) (o_items : Nat → Int64) : Option ((Nat → Int32) × (Nat → Int32) × (Nat → Int64)) := (if ((p0 < 0) ∨ (((Int32.ofNat 6) ≤ p0) ∨ (¬ (p0 < (Int32.ofNat 6))))) then (some (o_sorts, o_lengths, o_items)) else (Option.bind (wr_ o_sorts 6 p0 p1) (fun w_4 => (Option.bind (wr_ o_lengths 6 p0 (if (0 : Int32) < (if (60 : Int32) < p2 then (60 : Int32) else p2) then (if (60 : Int32) < p2 then (60 : Int32) else p2) else (0 : Int32))) (fun w_5 => (f_X4_become_L49 (fun xc_o_items_49 => (some (w_4, w_5, xc_o_items_49))) p0 w_4 w_5 5000 (0 : Int32) o_items))))))
def f_X4_value (p0 : Int32) (p1 : Int32) (o_lengths : Nat → Int32) (o_items : Nat → Int64) : Option (Int64) := (Option.bind (f_X4_hasRun p0 p1 (1 : Int32) o_lengths) (fun u_1 => (if ((¬ (u_1 = 0)) ∧ ((¬ ((((60 : Int32) * p0) + p1) < 0)) ∧ (¬ ((Int32.ofNat 360) ≤ (((60 : Int32) * p0) + p1))))) then (Option.bind (rd_ o_items 360 (((60 : Int32) * p0) + p1)) (fun g_4 => (some g_4))) else (some (0 : Int64)))))
def f_X4_move (p0 : Int32) (p1 : Int32) (p2 : Int32) (p3 : Int32) (p4 : Int32) (o_lengths : Nat → Int32) (o_items : Nat → Int64) : Option ((Nat → Int64)) := (Option.bind (f_X4_hasRun p0 p1 p4 o_lengths) (fun u_1 => (if (u_1 = 0) then (some o_items) else (Option.bind (f_X4_hasRun p2 p3 p4 o_lengths) (fun u_3 => (if (u_3 = 0) then (some o_items) else (if ((¬ ((((60 : Int32) * p0) + p1) < 0)) ∧ ((¬ (((Int32.ofNat 360) - p4) < (((60 : Int32) * p0) + p1))) ∧ ((¬ ((((60 : Int32) * p2) + p3) < 0)) ∧ (¬ (((Int32.ofNat 360) - p4) < (((60 : Int32) * p2) + p3)))))) then (Option.bind (cpL_ o_items 360 (((60 : Int32) * p0) + p1) o_items 360 (((60 : Int32) * p2) + p3) p4) (fun w_7 => (some w_7))) else (some o_items))))))))
def f_X6_prime (p0 : Int32) (o_now_p : Int32) (o_now_e : Int32) (o_now_modulus : Int32) : Option (Int32 × Int32 × Int32 × Int32) := (if ((¬ (p0 = (2 : Int32))) ∧ ((¬ (p0 = (3 : Int32))) ∧ ((¬ (p0 = (5 : Int32))) ∧ (¬ (p0 = (7 : Int32)))))) then (some ((-2 : Int32), o_now_p, o_now_e, o_now_modulus)) else (Option.bind (f_X3_become p0 o_now_e o_now_p o_now_e o_now_modulus) (fun u_4 => (some (o_now_p, u_4.1, u_4.2.1, u_4.2.2)))))
def f_X6_power (p0 : Int32) (o_now_p : Int32) (o_now_e : Int32) (o_now_modulus : Int32) : Option (Int32 × Int32 × Int32 × Int32) := (if ((f_X6_isWithin p0 (1 : Int32) (4 : Int32)) = 0) then (some ((-2 : Int32), o_now_p, o_now_e, o_now_modulus)) else (Option.bind (f_X3_become o_now_p p0 o_now_p o_now_e o_now_modulus) (fun u_2 => (some (o_now_e, u_2.1, u_2.2.1, u_2.2.2)))))
def f_X6_mark (p0 : Int32) (p1 : Int32) (o_now_marks_numbers : Nat → Int32) (o_now_marks_size : Int32) : Option (Int32 × (Nat → Int32) × Int32) := (if ((f_X6_isWithin p0 (0 : Int32) (4 : Int32)) = 0) then (some ((-1 : Int32), o_now_marks_numbers, o_now_marks_size)) else (if ((f_X6_isWithin p1 (0 : Int32) (2400 : Int32)) = 0) then (some ((-2 : Int32), o_now_marks_numbers, o_now_marks_size)) else (Option.bind (f_X1_add p0 p1 (0 : Int32) 18 o_now_marks_numbers o_now_marks_size) (fun u_3 => (some (u_3.1, u_3.2.1, u_3.2.2))))))
def f_X6_clear (o_now_marks_size : Int32) : Option (Int32 × Int32) := (Option.bind (f_X1_empty o_now_marks_size) (fun u_1 => (some (o_now_marks_size, u_1))))
def f_X6_window (p0 : Int32) (p1 : Int32) (o_now_windowRow : Int32) (o_now_windowPlace : Int32) : Option (Int32 × Int32 × Int32) := (if (((f_X6_isWithin p0 (0 : Int32) (127 : Int32)) = 0) ∨ ((f_X6_isWithin p1 (0 : Int32) (127 : Int32)) = 0)) then (some ((-2 : Int32), o_now_windowRow, o_now_windowPlace)) else (some ((((1000 : Int32) * o_now_windowRow) + o_now_windowPlace), p0, p1)))
def f_X6_feed (p0 : Int32) (o_reader_text : Nat → Int32) (o_reader_length : Int32) : Option (Int32 × (Nat → Int32) × Int32) := (if ((f_X6_isWithin p0 (0 : Int32) (127 : Int32)) = 0) then (some ((-2 : Int32), o_reader_text, o_reader_length)) else (Option.bind (f_X2_add p0 o_reader_text o_reader_length) (fun u_2 => (some (u_2.1, u_2.2.1, u_2.2.2)))))
def f_X6_doClause (p0 : Int32) (p1 : Int32) (p2 : Int32) (o_now_marks_numbers : Nat → Int32) (o_now_marks_size : Int32) (o_now_p : Int32) (o_now_e : Int32) (o_now_modulus : Int32) (o_now_windowRow : Int32) (o_now_windowPlace : Int32) : Option (Int32 × (Nat → Int32) × Int32 × Int32 × Int32 × Int32 × Int32 × Int32) := (if p0 = (101 : Int32) then (Option.bind (f_X6_power p1 o_now_p o_now_e o_now_modulus) (fun u_2 => (some (u_2.1, o_now_marks_numbers, o_now_marks_size, u_2.2.1, u_2.2.2.1, u_2.2.2.2, o_now_windowRow, o_now_windowPlace)))) else (if p0 = (109 : Int32) then (Option.bind (f_X6_mark p1 p2 o_now_marks_numbers o_now_marks_size) (fun u_4 => (some (u_4.1, u_4.2.1, u_4.2.2, o_now_p, o_now_e, o_now_modulus, o_now_windowRow, o_now_windowPlace)))) else (if p0 = (112 : Int32) then (Option.bind (f_X6_prime p1 o_now_p o_now_e o_now_modulus) (fun u_6 => (some (u_6.1, o_now_marks_numbers, o_now_marks_size, u_6.2.1, u_6.2.2.1, u_6.2.2.2, o_now_windowRow, o_now_windowPlace)))) else (if p0 = (119 : Int32) then (Option.bind (f_X6_window p1 p2 o_now_windowRow o_now_windowPlace) (fun u_8 => (some (u_8.1, o_now_marks_numbers, o_now_marks_size, o_now_p, o_now_e, o_now_modulus, u_8.2.1, u_8.2.2)))) else (Option.bind (f_X6_clear o_now_marks_size) (fun u_9 => (some (u_9.1, o_now_marks_numbers, u_9.2, o_now_p, o_now_e, o_now_modulus, o_now_windowRow, o_now_windowPlace))))))))
def f_X6_read_L29 (k_29 : Int32 → (Nat → Int32) → (Int32) → (Int32) → (Int32) → (Int32) → (Int32) → (Int32) → Option (Int32 × (Nat → Int32) × Int32 × Int32 × Int32 × Int32 × Int32 × Int32 × (Nat → Int32) × Int32 × Int32 × Int32)) (o_reader_clauses_numbers_29 : Nat → Int32) (o_reader_clauses_size_29 : Int32) : Nat → Int32 → Int32 → (Nat → Int32) → (Int32) → (Int32) → (Int32) → (Int32) → (Int32) → (Int32) → Option (Int32 × (Nat → Int32) × Int32 × Int32 × Int32 × Int32 × Int32 × Int32 × (Nat → Int32) × Int32 × Int32 × Int32)
  | 0, _, _, _, _, _, _, _, _, _ => none
  | fuel + 1, v2_29, v3_29, o_now_marks_numbers_29, o_now_marks_size_29, o_now_p_29, o_now_e_29, o_now_modulus_29, o_now_windowRow_29, o_now_windowPlace_29 => (if (o_reader_clauses_size_29 ≤ v3_29) then (k_29 v2_29 o_now_marks_numbers_29 o_now_marks_size_29 o_now_p_29 o_now_e_29 o_now_modulus_29 o_now_windowRow_29 o_now_windowPlace_29) else (Option.bind (f_X1_number v3_29 (0 : Int32) 36 o_reader_clauses_numbers_29 o_reader_clauses_size_29) (fun u_5 => (Option.bind (f_X1_number v3_29 (1 : Int32) 36 o_reader_clauses_numbers_29 o_reader_clauses_size_29) (fun u_6 => (Option.bind (f_X1_number v3_29 (2 : Int32) 36 o_reader_clauses_numbers_29 o_reader_clauses_size_29) (fun u_7 => (Option.bind (f_X6_doClause u_5 u_6 u_7 o_now_marks_numbers_29 o_now_marks_size_29 o_now_p_29 o_now_e_29 o_now_modulus_29 o_now_windowRow_29 o_now_windowPlace_29) (fun u_8 => (f_X6_read_L29 k_29 o_reader_clauses_numbers_29 o_reader_clauses_size_29 fuel (if (u_8.1 < 0) then v2_29 else (v2_29 + (1 : Int32))) (v3_29 + (1 : Int32)) u_8.2.1 u_8.2.2.1 u_8.2.2.2.1 u_8.2.2.2.2.1 u_8.2.2.2.2.2.1 u_8.2.2.2.2.2.2.1 u_8.2.2.2.2.2.2.2))))))))))
theorem f_X6_read_L29_z (k_29 : Int32 → (Nat → Int32) → (Int32) → (Int32) → (Int32) → (Int32) → (Int32) → (Int32) → Option (Int32 × (Nat → Int32) × Int32 × Int32 × Int32 × Int32 × Int32 × Int32 × (Nat → Int32) × Int32 × Int32 × Int32)) (o_reader_clauses_numbers_29 : Nat → Int32) (o_reader_clauses_size_29 : Int32) (v2_29 : Int32) (v3_29 : Int32) (o_now_marks_numbers_29 : (Nat → Int32)) (o_now_marks_size_29 : Int32) (o_now_p_29 : Int32) (o_now_e_29 : Int32) (o_now_modulus_29 : Int32) (o_now_windowRow_29 : Int32) (o_now_windowPlace_29 : Int32) : f_X6_read_L29 k_29 o_reader_clauses_numbers_29 o_reader_clauses_size_29 0 v2_29 v3_29 o_now_marks_numbers_29 o_now_marks_size_29 o_now_p_29 o_now_e_29 o_now_modulus_29 o_now_windowRow_29 o_now_windowPlace_29 = none := rfl
theorem f_X6_read_L29_s (k_29 : Int32 → (Nat → Int32) → (Int32) → (Int32) → (Int32) → (Int32) → (Int32) → (Int32) → Option (Int32 × (Nat → Int32) × Int32 × Int32 × Int32 × Int32 × Int32 × Int32 × (Nat → Int32) × Int32 × Int32 × Int32)) (o_reader_clauses_numbers_29 : Nat → Int32) (o_reader_clauses_size_29 : Int32) (fuel : Nat) (v2_29 : Int32) (v3_29 : Int32) (o_now_marks_numbers_29 : (Nat → Int32)) (o_now_marks_size_29 : (Int32)) (o_now_p_29 : (Int32)) (o_now_e_29 : (Int32)) (o_now_modulus_29 : (Int32)) (o_now_windowRow_29 : (Int32)) (o_now_windowPlace_29 : (Int32)) : f_X6_read_L29 k_29 o_reader_clauses_numbers_29 o_reader_clauses_size_29 (fuel + 1) v2_29 v3_29 o_now_marks_numbers_29 o_now_marks_size_29 o_now_p_29 o_now_e_29 o_now_modulus_29 o_now_windowRow_29 o_now_windowPlace_29 = (if (o_reader_clauses_size_29 ≤ v3_29) then (k_29 v2_29 o_now_marks_numbers_29 o_now_marks_size_29 o_now_p_29 o_now_e_29 o_now_modulus_29 o_now_windowRow_29 o_now_windowPlace_29) else (Option.bind (f_X1_number v3_29 (0 : Int32) 36 o_reader_clauses_numbers_29 o_reader_clauses_size_29) (fun u_5 => (Option.bind (f_X1_number v3_29 (1 : Int32) 36 o_reader_clauses_numbers_29 o_reader_clauses_size_29) (fun u_6 => (Option.bind (f_X1_number v3_29 (2 : Int32) 36 o_reader_clauses_numbers_29 o_reader_clauses_size_29) (fun u_7 => (Option.bind (f_X6_doClause u_5 u_6 u_7 o_now_marks_numbers_29 o_now_marks_size_29 o_now_p_29 o_now_e_29 o_now_modulus_29 o_now_windowRow_29 o_now_windowPlace_29) (fun u_8 => (f_X6_read_L29 k_29 o_reader_clauses_numbers_29 o_reader_clauses_size_29 fuel (if (u_8.1 < 0) then v2_29 else (v2_29 + (1 : Int32))) (v3_29 + (1 : Int32)) u_8.2.1 u_8.2.2.1 u_8.2.2.2.1 u_8.2.2.2.2.1 u_8.2.2.2.2.2.1 u_8.2.2.2.2.2.2.1 u_8.2.2.2.2.2.2.2)))))))))) := rfl
def f_X6_read (o_now_marks_numbers : Nat → Int32) (o_now_marks_size : Int32) (o_now_p : Int32) (o_now_e : Int32) (o_now_modulus : Int32) (o_now_windowRow : Int32) (o_now_windowPlace : Int32) (o_reader_text : Nat → Int32) (o_reader_clauses_numbers : Nat → Int32) (o_reader_clauses_size : Int32) (o_reader_length : Int32) (o_reader_next : Int32) : Option (Int32 × (Nat → Int32) × Int32 × Int32 × Int32 × Int32 × Int32 × Int32 × (Nat → Int32) × Int32 × Int32 × Int32) := (Option.bind (f_X2_faultOfText o_reader_text o_reader_clauses_numbers o_reader_clauses_size o_reader_length o_reader_next) (fun u_1 => (Option.bind (f_X2_emptyText o_reader_length) (fun u_2 => (if (u_1.1 = (-1 : Int32)) then (f_X6_read_L29 (fun x2_29 xc_o_now_marks_numbers_29 xc_o_now_marks_size_29 xc_o_now_p_29 xc_o_now_e_29 xc_o_now_modulus_29 xc_o_now_windowRow_29 xc_o_now_windowPlace_29 => (some (x2_29, xc_o_now_marks_numbers_29, xc_o_now_marks_size_29, xc_o_now_p_29, xc_o_now_e_29, xc_o_now_modulus_29, xc_o_now_windowRow_29, xc_o_now_windowPlace_29, u_1.2.1, u_1.2.2.1, u_2, u_1.2.2.2))) u_1.2.1 u_1.2.2.1 5000 (0 : Int32) (0 : Int32) o_now_marks_numbers o_now_marks_size o_now_p o_now_e o_now_modulus o_now_windowRow o_now_windowPlace) else (some (((-10 : Int32) - u_1.1), o_now_marks_numbers, o_now_marks_size, o_now_p, o_now_e, o_now_modulus, o_now_windowRow, o_now_windowPlace, u_1.2.1, u_1.2.2.1, u_2, u_1.2.2.2)))))))
def f_X6_told (p0 : Int32) (o_triangle_halves : Nat → Int32) (o_now_marks_numbers : Nat → Int32) (o_now_marks_size : Int32) (o_now_p : Int32) (o_now_e : Int32) (o_now_modulus : Int32) (o_now_windowRow : Int32) (o_now_windowPlace : Int32) : Option (Int32) := (if p0 = (0 : Int32) then (some o_now_p) else (if p0 = (1 : Int32) then (some o_now_e) else (if p0 = (2 : Int32) then (some o_now_modulus) else (if p0 = (3 : Int32) then (some o_now_marks_size) else (if p0 = (4 : Int32) then (some o_now_windowRow) else (if p0 = (5 : Int32) then (some o_now_windowPlace) else (if p0 = (6 : Int32) then (Option.bind (f_X3_markedInWindow o_triangle_halves o_now_marks_numbers o_now_marks_size o_now_p o_now_modulus o_now_windowRow o_now_windowPlace) (fun u_8 => (some u_8))) else (some (-1 : Int32)))))))))
def f_X6_markOf (p0 : Int32) (p1 : Int32) (o_now_marks_numbers : Nat → Int32) (o_now_marks_size : Int32) : Option (Int32) := (if (((f_X6_isWithin p0 (0 : Int32) (o_now_marks_size - (1 : Int32))) = 0) ∨ ((f_X6_isWithin p1 (0 : Int32) (1 : Int32)) = 0)) then (some (-1 : Int32)) else (Option.bind (f_X1_number p0 p1 18 o_now_marks_numbers o_now_marks_size) (fun u_4 => (some u_4))))
def f_X6_at (p0 : Int32) (p1 : Int32) (o_triangle_halves : Nat → Int32) (o_now_modulus : Int32) : Option (Int32) := (if ((f_X6_isRow p0) = 0) then (some (-1 : Int32)) else (Option.bind (f_X3_remainder p0 p1 o_triangle_halves o_now_modulus) (fun u_2 => (some u_2))))
def f_X6_rule (p0 : Int32) (p1 : Int32) (p2 : Int32) (o_triangle_halves : Nat → Int32) (o_now_p : Int32) (o_now_modulus : Int32) : Option (Int32) := (if (((f_X6_isWithin p0 (0 : Int32) (4 : Int32)) = 0) ∨ ((f_X6_isPlace p1 p2) = 0)) then (some (-1 : Int32)) else (Option.bind (f_X3_tell p0 p1 p2 o_triangle_halves o_now_p o_now_modulus) (fun u_4 => (some u_4))))
def f_X6_marked (p0 : Int32) (p1 : Int32) (o_triangle_halves : Nat → Int32) (o_now_marks_numbers : Nat → Int32) (o_now_marks_size : Int32) (o_now_p : Int32) (o_now_modulus : Int32) : Option (Int32) := (if ((f_X6_isPlace p0 p1) = 0) then (some (-1 : Int32)) else (Option.bind (f_X3_isMarked p0 p1 o_triangle_halves o_now_marks_numbers o_now_marks_size o_now_p o_now_modulus) (fun u_2 => (some (if (¬ (u_2 = 0)) then (1 : Int32) else (0 : Int32))))))
def f_X6_digit (p0 : Int32) (p1 : Int32) (o_now_p : Int32) : Option (Int32) := (if ((f_X6_isWithin p0 (0 : Int32) (9999 : Int32)) = 0) then (some (-2 : Int32)) else (if ((-1 : Int32) ≤ p1) then (Option.bind (f_X0_howMany o_now_p p0) (fun u_3 => (if (p1 = (-1 : Int32)) then (some u_3) else (if (u_3 ≤ p1) then (some (-5 : Int32)) else (Option.bind (f_X0_one o_now_p p0 p1) (fun u_6 => (some u_6))))))) else (some (-1 : Int32))))
def f_X6_pure (p0 : Int32) (p1 : Int32) (o_now_p : Int32) : Option (Int32) := (if ((f_X6_isWithin p0 (1 : Int32) (9999 : Int32)) = 0) then (some (-2 : Int32)) else (if ((f_X6_isWithin p1 (0 : Int32) (1 : Int32)) = 0) then (some (-1 : Int32)) else (if (p1 = 0) then (Option.bind (f_X0_withoutPrime o_now_p p0) (fun u_5 => (some u_5))) else (Option.bind (f_X0_timesDivided o_now_p p0) (fun u_4 => (some u_4))))))
def f_X6_countOf_L5 (k_5 : Int32 → Option (Int32)) (v1_5 : Int32) (v2_5 : Int32) (o_triangle_halves : Nat → Int32) (o_now_modulus : Int32) : Nat → Int32 → Int32 → Option (Int32)
  | 0, _, _ => none
  | fuel + 1, v3_5, v4_5 => (if (v1_5 < v4_5) then (k_5 v3_5) else (Option.bind (f_X3_remainder v1_5 v4_5 o_triangle_halves o_now_modulus) (fun u_2 => (f_X6_countOf_L5 k_5 v1_5 v2_5 o_triangle_halves o_now_modulus fuel (if (¬ (u_2 = v2_5)) then v3_5 else (v3_5 + (1 : Int32))) (v4_5 + (1 : Int32))))))
theorem f_X6_countOf_L5_z (k_5 : Int32 → Option (Int32)) (v1_5 : Int32) (v2_5 : Int32) (o_triangle_halves : Nat → Int32) (o_now_modulus : Int32) (v3_5 : Int32) (v4_5 : Int32) : f_X6_countOf_L5 k_5 v1_5 v2_5 o_triangle_halves o_now_modulus 0 v3_5 v4_5 = none := rfl
theorem f_X6_countOf_L5_s (k_5 : Int32 → Option (Int32)) (v1_5 : Int32) (v2_5 : Int32) (o_triangle_halves : Nat → Int32) (o_now_modulus : Int32) (fuel : Nat) (v3_5 : Int32) (v4_5 : Int32) : f_X6_countOf_L5 k_5 v1_5 v2_5 o_triangle_halves o_now_modulus (fuel + 1) v3_5 v4_5 = (if (v1_5 < v4_5) then (k_5 v3_5) else (Option.bind (f_X3_remainder v1_5 v4_5 o_triangle_halves o_now_modulus) (fun u_2 => (f_X6_countOf_L5 k_5 v1_5 v2_5 o_triangle_halves o_now_modulus fuel (if (¬ (u_2 = v2_5)) then v3_5 else (v3_5 + (1 : Int32))) (v4_5 + (1 : Int32)))))) := rfl
def f_X6_countOf (p0 : Int32) (p1 : Int32) (o_triangle_halves : Nat → Int32) (o_now_modulus : Int32) : Option (Int32) := (f_X6_countOf_L5 (fun x3_5 => (some x3_5)) p0 p1 o_triangle_halves o_now_modulus 5000 (0 : Int32) (0 : Int32))
def f_X6_counted (p0 : Int32) (p1 : Int32) (o_triangle_halves : Nat → Int32) (o_now_modulus : Int32) : Option (Int32) := (if ((f_X6_isRow p0) = 0) then (some (-1 : Int32)) else (Option.bind (f_X6_countOf p0 p1 o_triangle_halves o_now_modulus) (fun u_2 => (some u_2))))
def f_X6_nextKind_L5 (k_5 : Int32 → Option (Int32)) (v1_5 : Int32) (v2_5 : Int32) (o_triangle_halves : Nat → Int32) (o_now_modulus : Int32) : Nat → Int32 → Int32 → Option (Int32)
  | 0, _, _ => none
  | fuel + 1, v3_5, v4_5 => (Option.bind (dv_ v1_5 (2 : Int32)) (fun d_1 => (if (d_1 < v4_5) then (k_5 v3_5) else (Option.bind (f_X3_remainder v1_5 v4_5 o_triangle_halves o_now_modulus) (fun u_3 => (qn_ (if ((u_3 ≤ v2_5) ∨ ((¬ (v3_5 = (-1 : Int32))) ∧ (v3_5 ≤ u_3))) then v3_5 else u_3) (fun y_5 => (f_X6_nextKind_L5 k_5 v1_5 v2_5 o_triangle_halves o_now_modulus fuel y_5 (v4_5 + (1 : Int32))))))))))
theorem f_X6_nextKind_L5_z (k_5 : Int32 → Option (Int32)) (v1_5 : Int32) (v2_5 : Int32) (o_triangle_halves : Nat → Int32) (o_now_modulus : Int32) (v3_5 : Int32) (v4_5 : Int32) : f_X6_nextKind_L5 k_5 v1_5 v2_5 o_triangle_halves o_now_modulus 0 v3_5 v4_5 = none := rfl
theorem f_X6_nextKind_L5_s (k_5 : Int32 → Option (Int32)) (v1_5 : Int32) (v2_5 : Int32) (o_triangle_halves : Nat → Int32) (o_now_modulus : Int32) (fuel : Nat) (v3_5 : Int32) (v4_5 : Int32) : f_X6_nextKind_L5 k_5 v1_5 v2_5 o_triangle_halves o_now_modulus (fuel + 1) v3_5 v4_5 = (Option.bind (dv_ v1_5 (2 : Int32)) (fun d_1 => (if (d_1 < v4_5) then (k_5 v3_5) else (Option.bind (f_X3_remainder v1_5 v4_5 o_triangle_halves o_now_modulus) (fun u_3 => (qn_ (if ((u_3 ≤ v2_5) ∨ ((¬ (v3_5 = (-1 : Int32))) ∧ (v3_5 ≤ u_3))) then v3_5 else u_3) (fun y_5 => (f_X6_nextKind_L5 k_5 v1_5 v2_5 o_triangle_halves o_now_modulus fuel y_5 (v4_5 + (1 : Int32)))))))))) := rfl
def f_X6_nextKind (p0 : Int32) (p1 : Int32) (o_triangle_halves : Nat → Int32) (o_now_modulus : Int32) : Option (Int32) := (f_X6_nextKind_L5 (fun x3_5 => (some x3_5)) p0 p1 o_triangle_halves o_now_modulus 5000 (-1 : Int32) (0 : Int32))
def f_X6_kindsOf_L4 (k_4 : Option (Int32)) (v1_4 : Int32) (o_triangle_halves : Nat → Int32) (o_now_modulus : Int32) : Nat → Int32 → Int32 → Option (Int32)
  | 0, _, _ => none
  | fuel + 1, v2_4, v3_4 => (if (v1_4 < v3_4) then (k_4) else (Option.bind (f_X6_nextKind v1_4 v2_4 o_triangle_halves o_now_modulus) (fun u_2 => (if (u_2 = (-1 : Int32)) then (some v3_4) else (f_X6_kindsOf_L4 k_4 v1_4 o_triangle_halves o_now_modulus fuel u_2 (v3_4 + (1 : Int32)))))))
theorem f_X6_kindsOf_L4_z (k_4 : Option (Int32)) (v1_4 : Int32) (o_triangle_halves : Nat → Int32) (o_now_modulus : Int32) (v2_4 : Int32) (v3_4 : Int32) : f_X6_kindsOf_L4 k_4 v1_4 o_triangle_halves o_now_modulus 0 v2_4 v3_4 = none := rfl
theorem f_X6_kindsOf_L4_s (k_4 : Option (Int32)) (v1_4 : Int32) (o_triangle_halves : Nat → Int32) (o_now_modulus : Int32) (fuel : Nat) (v2_4 : Int32) (v3_4 : Int32) : f_X6_kindsOf_L4 k_4 v1_4 o_triangle_halves o_now_modulus (fuel + 1) v2_4 v3_4 = (if (v1_4 < v3_4) then (k_4) else (Option.bind (f_X6_nextKind v1_4 v2_4 o_triangle_halves o_now_modulus) (fun u_2 => (if (u_2 = (-1 : Int32)) then (some v3_4) else (f_X6_kindsOf_L4 k_4 v1_4 o_triangle_halves o_now_modulus fuel u_2 (v3_4 + (1 : Int32))))))) := rfl
def f_X6_kindsOf (p0 : Int32) (o_triangle_halves : Nat → Int32) (o_now_modulus : Int32) : Option (Int32) := (f_X6_kindsOf_L4 (some (p0 + (1 : Int32))) p0 o_triangle_halves o_now_modulus 5000 (-1 : Int32) (0 : Int32))
def f_X6_usualOf_L10 (k_10 : Int32 → Option (Int32)) (v1_10 : Int32) (o_triangle_halves : Nat → Int32) (o_now_modulus : Int32) : Nat → Int32 → Int32 → Int32 → Int32 → Option (Int32)
  | 0, _, _, _, _ => none
  | fuel + 1, v2_10, v3_10, v4_10, v5_10 => (if (v1_10 < v5_10) then (k_10 v2_10) else (Option.bind (f_X6_nextKind v1_10 v4_10 o_triangle_halves o_now_modulus) (fun u_2 => (if (u_2 = (-1 : Int32)) then (some v2_10) else (Option.bind (f_X6_countOf v1_10 u_2 o_triangle_halves o_now_modulus) (fun u_4 => (f_X6_usualOf_L10 k_10 v1_10 o_triangle_halves o_now_modulus fuel (if (u_4 ≤ v3_10) then v2_10 else u_2) (if (u_4 ≤ v3_10) then v3_10 else u_4) u_2 (v5_10 + (1 : Int32)))))))))
theorem f_X6_usualOf_L10_z (k_10 : Int32 → Option (Int32)) (v1_10 : Int32) (o_triangle_halves : Nat → Int32) (o_now_modulus : Int32) (v2_10 : Int32) (v3_10 : Int32) (v4_10 : Int32) (v5_10 : Int32) : f_X6_usualOf_L10 k_10 v1_10 o_triangle_halves o_now_modulus 0 v2_10 v3_10 v4_10 v5_10 = none := rfl
theorem f_X6_usualOf_L10_s (k_10 : Int32 → Option (Int32)) (v1_10 : Int32) (o_triangle_halves : Nat → Int32) (o_now_modulus : Int32) (fuel : Nat) (v2_10 : Int32) (v3_10 : Int32) (v4_10 : Int32) (v5_10 : Int32) : f_X6_usualOf_L10 k_10 v1_10 o_triangle_halves o_now_modulus (fuel + 1) v2_10 v3_10 v4_10 v5_10 = (if (v1_10 < v5_10) then (k_10 v2_10) else (Option.bind (f_X6_nextKind v1_10 v4_10 o_triangle_halves o_now_modulus) (fun u_2 => (if (u_2 = (-1 : Int32)) then (some v2_10) else (Option.bind (f_X6_countOf v1_10 u_2 o_triangle_halves o_now_modulus) (fun u_4 => (f_X6_usualOf_L10 k_10 v1_10 o_triangle_halves o_now_modulus fuel (if (u_4 ≤ v3_10) then v2_10 else u_2) (if (u_4 ≤ v3_10) then v3_10 else u_4) u_2 (v5_10 + (1 : Int32))))))))) := rfl
def f_X6_usualOf (p0 : Int32) (o_triangle_halves : Nat → Int32) (o_now_modulus : Int32) : Option (Int32) := (f_X6_usualOf_L10 (fun x2_10 => (some x2_10)) p0 o_triangle_halves o_now_modulus 5000 (-1 : Int32) (0 : Int32) (-1 : Int32) (0 : Int32))
def f_X6_sumOf_L4 (k_4 : Int32 → Option (Int32)) (v1_4 : Int32) (o_triangle_halves : Nat → Int32) (o_now_modulus : Int32) : Nat → Int32 → Int32 → Option (Int32)
  | 0, _, _ => none
  | fuel + 1, v2_4, v3_4 => (if (v1_4 < v3_4) then (k_4 v2_4) else (Option.bind (f_X3_remainder v1_4 v3_4 o_triangle_halves o_now_modulus) (fun u_2 => (f_X6_sumOf_L4 k_4 v1_4 o_triangle_halves o_now_modulus fuel (v2_4 + u_2) (v3_4 + (1 : Int32))))))
theorem f_X6_sumOf_L4_z (k_4 : Int32 → Option (Int32)) (v1_4 : Int32) (o_triangle_halves : Nat → Int32) (o_now_modulus : Int32) (v2_4 : Int32) (v3_4 : Int32) : f_X6_sumOf_L4 k_4 v1_4 o_triangle_halves o_now_modulus 0 v2_4 v3_4 = none := rfl
theorem f_X6_sumOf_L4_s (k_4 : Int32 → Option (Int32)) (v1_4 : Int32) (o_triangle_halves : Nat → Int32) (o_now_modulus : Int32) (fuel : Nat) (v2_4 : Int32) (v3_4 : Int32) : f_X6_sumOf_L4 k_4 v1_4 o_triangle_halves o_now_modulus (fuel + 1) v2_4 v3_4 = (if (v1_4 < v3_4) then (k_4 v2_4) else (Option.bind (f_X3_remainder v1_4 v3_4 o_triangle_halves o_now_modulus) (fun u_2 => (f_X6_sumOf_L4 k_4 v1_4 o_triangle_halves o_now_modulus fuel (v2_4 + u_2) (v3_4 + (1 : Int32)))))) := rfl
def f_X6_sumOf (p0 : Int32) (o_triangle_halves : Nat → Int32) (o_now_modulus : Int32) : Option (Int32) := (f_X6_sumOf_L4 (fun x2_4 => (some x2_4)) p0 o_triangle_halves o_now_modulus 5000 (0 : Int32) (0 : Int32))
def f_X6_depthOf_L4 (k_4 : Int32 → Option (Int32)) (v1_4 : Int32) (o_now_p : Int32) : Nat → Int32 → Int32 → Option (Int32)
  | 0, _, _ => none
  | fuel + 1, v2_4, v3_4 => (if (v1_4 < v3_4) then (k_4 v2_4) else (Option.bind (f_X0_carries o_now_p v1_4 v3_4) (fun u_2 => (f_X6_depthOf_L4 k_4 v1_4 o_now_p fuel (if v2_4 < u_2 then u_2 else v2_4) (v3_4 + (1 : Int32))))))
theorem f_X6_depthOf_L4_z (k_4 : Int32 → Option (Int32)) (v1_4 : Int32) (o_now_p : Int32) (v2_4 : Int32) (v3_4 : Int32) : f_X6_depthOf_L4 k_4 v1_4 o_now_p 0 v2_4 v3_4 = none := rfl
theorem f_X6_depthOf_L4_s (k_4 : Int32 → Option (Int32)) (v1_4 : Int32) (o_now_p : Int32) (fuel : Nat) (v2_4 : Int32) (v3_4 : Int32) : f_X6_depthOf_L4 k_4 v1_4 o_now_p (fuel + 1) v2_4 v3_4 = (if (v1_4 < v3_4) then (k_4 v2_4) else (Option.bind (f_X0_carries o_now_p v1_4 v3_4) (fun u_2 => (f_X6_depthOf_L4 k_4 v1_4 o_now_p fuel (if v2_4 < u_2 then u_2 else v2_4) (v3_4 + (1 : Int32)))))) := rfl
def f_X6_depthOf (p0 : Int32) (o_now_p : Int32) : Option (Int32) := (f_X6_depthOf_L4 (fun x2_4 => (some x2_4)) p0 o_now_p 5000 (0 : Int32) (0 : Int32))
def f_X6_row (p0 : Int32) (p1 : Int32) (o_triangle_halves : Nat → Int32) (o_now_p : Int32) (o_now_modulus : Int32) : Option (Int32) := (if ((f_X6_isRow p0) = 0) then (some (-1 : Int32)) else (if p1 = (0 : Int32) then (Option.bind (f_X6_kindsOf p0 o_triangle_halves o_now_modulus) (fun u_3 => (some u_3))) else (if p1 = (1 : Int32) then (Option.bind (f_X6_usualOf p0 o_triangle_halves o_now_modulus) (fun u_5 => (some u_5))) else (if p1 = (2 : Int32) then (Option.bind (f_X6_sumOf p0 o_triangle_halves o_now_modulus) (fun u_7 => (some u_7))) else (if p1 = (3 : Int32) then (Option.bind (f_X6_depthOf p0 o_now_p) (fun u_9 => (some u_9))) else (some (-1 : Int32)))))))
def f_X6_kind_L18 (k_18 : Int32 → Option (Int32)) (v1_18 : Int32) (v2_18 : Int32) (o_triangle_halves : Nat → Int32) (o_now_modulus : Int32) : Nat → Int32 → Int32 → Option (Int32)
  | 0, _, _ => none
  | fuel + 1, v3_18, v4_18 => (if ((¬ (v2_18 < v4_18)) ∧ (¬ ((v1_18 + (1 : Int32)) < v4_18))) then (Option.bind (f_X6_nextKind v1_18 v3_18 o_triangle_halves o_now_modulus) (fun u_6 => (if (u_6 = (-1 : Int32)) then (some (-5 : Int32)) else (f_X6_kind_L18 k_18 v1_18 v2_18 o_triangle_halves o_now_modulus fuel u_6 (v4_18 + (1 : Int32)))))) else (k_18 v3_18))
theorem f_X6_kind_L18_z (k_18 : Int32 → Option (Int32)) (v1_18 : Int32) (v2_18 : Int32) (o_triangle_halves : Nat → Int32) (o_now_modulus : Int32) (v3_18 : Int32) (v4_18 : Int32) : f_X6_kind_L18 k_18 v1_18 v2_18 o_triangle_halves o_now_modulus 0 v3_18 v4_18 = none := rfl
theorem f_X6_kind_L18_s (k_18 : Int32 → Option (Int32)) (v1_18 : Int32) (v2_18 : Int32) (o_triangle_halves : Nat → Int32) (o_now_modulus : Int32) (fuel : Nat) (v3_18 : Int32) (v4_18 : Int32) : f_X6_kind_L18 k_18 v1_18 v2_18 o_triangle_halves o_now_modulus (fuel + 1) v3_18 v4_18 = (if ((¬ (v2_18 < v4_18)) ∧ (¬ ((v1_18 + (1 : Int32)) < v4_18))) then (Option.bind (f_X6_nextKind v1_18 v3_18 o_triangle_halves o_now_modulus) (fun u_6 => (if (u_6 = (-1 : Int32)) then (some (-5 : Int32)) else (f_X6_kind_L18 k_18 v1_18 v2_18 o_triangle_halves o_now_modulus fuel u_6 (v4_18 + (1 : Int32)))))) else (k_18 v3_18)) := rfl
def f_X6_kind (p0 : Int32) (p1 : Int32) (o_triangle_halves : Nat → Int32) (o_now_modulus : Int32) : Option (Int32) := (if (((f_X6_isRow p0) = 0) ∨ (¬ (0 ≤ p1))) then (some (-1 : Int32)) else (f_X6_kind_L18 (fun x3_18 => (some x3_18)) p0 p1 o_triangle_halves o_now_modulus 5000 (-1 : Int32) (0 : Int32)))
def f_X6_fullRows_L4 (k_4 : Int32 → Option (Int32)) (v1_4 : Int32) (o_triangle_halves : Nat → Int32) (o_now_modulus : Int32) : Nat → Int32 → Int32 → Option (Int32)
  | 0, _, _ => none
  | fuel + 1, v2_4, v3_4 => (if (v1_4 < v3_4) then (k_4 v2_4) else (Option.bind (f_X6_countOf v3_4 (0 : Int32) o_triangle_halves o_now_modulus) (fun u_2 => (f_X6_fullRows_L4 k_4 v1_4 o_triangle_halves o_now_modulus fuel (if (¬ (u_2 = 0)) then v2_4 else (v2_4 + (1 : Int32))) (v3_4 + (1 : Int32))))))
theorem f_X6_fullRows_L4_z (k_4 : Int32 → Option (Int32)) (v1_4 : Int32) (o_triangle_halves : Nat → Int32) (o_now_modulus : Int32) (v2_4 : Int32) (v3_4 : Int32) : f_X6_fullRows_L4 k_4 v1_4 o_triangle_halves o_now_modulus 0 v2_4 v3_4 = none := rfl
theorem f_X6_fullRows_L4_s (k_4 : Int32 → Option (Int32)) (v1_4 : Int32) (o_triangle_halves : Nat → Int32) (o_now_modulus : Int32) (fuel : Nat) (v2_4 : Int32) (v3_4 : Int32) : f_X6_fullRows_L4 k_4 v1_4 o_triangle_halves o_now_modulus (fuel + 1) v2_4 v3_4 = (if (v1_4 < v3_4) then (k_4 v2_4) else (Option.bind (f_X6_countOf v3_4 (0 : Int32) o_triangle_halves o_now_modulus) (fun u_2 => (f_X6_fullRows_L4 k_4 v1_4 o_triangle_halves o_now_modulus fuel (if (¬ (u_2 = 0)) then v2_4 else (v2_4 + (1 : Int32))) (v3_4 + (1 : Int32)))))) := rfl
def f_X6_fullRows (p0 : Int32) (o_triangle_halves : Nat → Int32) (o_now_modulus : Int32) : Option (Int32) := (f_X6_fullRows_L4 (fun x2_4 => (some x2_4)) p0 o_triangle_halves o_now_modulus 5000 (0 : Int32) (0 : Int32))
def f_X6_lastFullRow_L2 (k_2 : Option (Int32)) (o_triangle_halves : Nat → Int32) (o_now_modulus : Int32) : Nat → Int32 → Option (Int32)
  | 0, _ => none
  | fuel + 1, v2_2 => (if (v2_2 ≤ 0) then (k_2) else (Option.bind (f_X6_countOf v2_2 (0 : Int32) o_triangle_halves o_now_modulus) (fun u_2 => (if (u_2 = 0) then (some v2_2) else (f_X6_lastFullRow_L2 k_2 o_triangle_halves o_now_modulus fuel (v2_2 + (-1 : Int32)))))))
theorem f_X6_lastFullRow_L2_z (k_2 : Option (Int32)) (o_triangle_halves : Nat → Int32) (o_now_modulus : Int32) (v2_2 : Int32) : f_X6_lastFullRow_L2 k_2 o_triangle_halves o_now_modulus 0 v2_2 = none := rfl
theorem f_X6_lastFullRow_L2_s (k_2 : Option (Int32)) (o_triangle_halves : Nat → Int32) (o_now_modulus : Int32) (fuel : Nat) (v2_2 : Int32) : f_X6_lastFullRow_L2 k_2 o_triangle_halves o_now_modulus (fuel + 1) v2_2 = (if (v2_2 ≤ 0) then (k_2) else (Option.bind (f_X6_countOf v2_2 (0 : Int32) o_triangle_halves o_now_modulus) (fun u_2 => (if (u_2 = 0) then (some v2_2) else (f_X6_lastFullRow_L2 k_2 o_triangle_halves o_now_modulus fuel (v2_2 + (-1 : Int32))))))) := rfl
def f_X6_lastFullRow (p0 : Int32) (o_triangle_halves : Nat → Int32) (o_now_modulus : Int32) : Option (Int32) := (f_X6_lastFullRow_L2 (some (0 : Int32)) o_triangle_halves o_now_modulus 5000 p0)
def f_X6_heaviestRow_L7 (k_7 : Int32 → Option (Int32)) (v1_7 : Int32) (o_triangle_halves : Nat → Int32) (o_now_modulus : Int32) : Nat → Int32 → Int32 → Int32 → Option (Int32)
  | 0, _, _, _ => none
  | fuel + 1, v2_7, v3_7, v4_7 => (if (v1_7 < v4_7) then (k_7 v2_7) else (Option.bind (f_X6_countOf v4_7 (0 : Int32) o_triangle_halves o_now_modulus) (fun u_2 => (f_X6_heaviestRow_L7 k_7 v1_7 o_triangle_halves o_now_modulus fuel (if (u_2 ≤ v3_7) then v2_7 else v4_7) (if (u_2 ≤ v3_7) then v3_7 else u_2) (v4_7 + (1 : Int32))))))
theorem f_X6_heaviestRow_L7_z (k_7 : Int32 → Option (Int32)) (v1_7 : Int32) (o_triangle_halves : Nat → Int32) (o_now_modulus : Int32) (v2_7 : Int32) (v3_7 : Int32) (v4_7 : Int32) : f_X6_heaviestRow_L7 k_7 v1_7 o_triangle_halves o_now_modulus 0 v2_7 v3_7 v4_7 = none := rfl
theorem f_X6_heaviestRow_L7_s (k_7 : Int32 → Option (Int32)) (v1_7 : Int32) (o_triangle_halves : Nat → Int32) (o_now_modulus : Int32) (fuel : Nat) (v2_7 : Int32) (v3_7 : Int32) (v4_7 : Int32) : f_X6_heaviestRow_L7 k_7 v1_7 o_triangle_halves o_now_modulus (fuel + 1) v2_7 v3_7 v4_7 = (if (v1_7 < v4_7) then (k_7 v2_7) else (Option.bind (f_X6_countOf v4_7 (0 : Int32) o_triangle_halves o_now_modulus) (fun u_2 => (f_X6_heaviestRow_L7 k_7 v1_7 o_triangle_halves o_now_modulus fuel (if (u_2 ≤ v3_7) then v2_7 else v4_7) (if (u_2 ≤ v3_7) then v3_7 else u_2) (v4_7 + (1 : Int32)))))) := rfl
def f_X6_heaviestRow (p0 : Int32) (o_triangle_halves : Nat → Int32) (o_now_modulus : Int32) : Option (Int32) := (f_X6_heaviestRow_L7 (fun x2_7 => (some x2_7)) p0 o_triangle_halves o_now_modulus 5000 (0 : Int32) (0 : Int32) (0 : Int32))
def f_X6_upTo (p0 : Int32) (p1 : Int32) (o_triangle_halves : Nat → Int32) (o_now_modulus : Int32) : Option (Int32) := (if ((f_X6_isRow p0) = 0) then (some (-1 : Int32)) else (if p1 = (0 : Int32) then (Option.bind (f_X6_fullRows p0 o_triangle_halves o_now_modulus) (fun u_3 => (some u_3))) else (if p1 = (1 : Int32) then (Option.bind (f_X6_lastFullRow p0 o_triangle_halves o_now_modulus) (fun u_5 => (some u_5))) else (if p1 = (2 : Int32) then (Option.bind (f_X6_heaviestRow p0 o_triangle_halves o_now_modulus) (fun u_7 => (some u_7))) else (some (-1 : Int32))))))
def f_X6_picture (p0 : Int32) (o_triangle_halves : Nat → Int32) (o_now_marks_numbers : Nat → Int32) (o_now_marks_size : Int32) (o_now_p : Int32) (o_now_modulus : Int32) (o_now_windowRow : Int32) (o_now_windowPlace : Int32) : Option (Int32) := (if ((f_X6_isWithin p0 (0 : Int32) (7 : Int32)) = 0) then (some (-1 : Int32)) else (Option.bind (f_X3_pictureRow p0 o_triangle_halves o_now_marks_numbers o_now_marks_size o_now_p o_now_modulus o_now_windowRow o_now_windowPlace) (fun u_2 => (some u_2))))
def f_X6_areLike_L13 (k_13 : Option (Int32)) (v1_13 : Int32) (v2_13 : Int32) (v3_13 : Int32) (v4_13 : Int32) (v5_13 : Int32) (v6_13 : Int32) (o_triangle_halves : Nat → Int32) (o_now_modulus : Int32) : Nat → Int32 → Option (Int32)
  | 0, _ => none
  | fuel + 1, v7_13 => (if (v5_13 ≤ v7_13) then (k_13) else (Option.bind (f_X3_remainder (v1_13 + v6_13) (v2_13 + v7_13) o_triangle_halves o_now_modulus) (fun u_3 => (Option.bind (f_X3_remainder (v3_13 + v6_13) (v4_13 + v7_13) o_triangle_halves o_now_modulus) (fun u_4 => (if (u_3 = u_4) then (f_X6_areLike_L13 k_13 v1_13 v2_13 v3_13 v4_13 v5_13 v6_13 o_triangle_halves o_now_modulus fuel (v7_13 + (1 : Int32))) else (some (0 : Int32))))))))
theorem f_X6_areLike_L13_z (k_13 : Option (Int32)) (v1_13 : Int32) (v2_13 : Int32) (v3_13 : Int32) (v4_13 : Int32) (v5_13 : Int32) (v6_13 : Int32) (o_triangle_halves : Nat → Int32) (o_now_modulus : Int32) (v7_13 : Int32) : f_X6_areLike_L13 k_13 v1_13 v2_13 v3_13 v4_13 v5_13 v6_13 o_triangle_halves o_now_modulus 0 v7_13 = none := rfl
theorem f_X6_areLike_L13_s (k_13 : Option (Int32)) (v1_13 : Int32) (v2_13 : Int32) (v3_13 : Int32) (v4_13 : Int32) (v5_13 : Int32) (v6_13 : Int32) (o_triangle_halves : Nat → Int32) (o_now_modulus : Int32) (fuel : Nat) (v7_13 : Int32) : f_X6_areLike_L13 k_13 v1_13 v2_13 v3_13 v4_13 v5_13 v6_13 o_triangle_halves o_now_modulus (fuel + 1) v7_13 = (if (v5_13 ≤ v7_13) then (k_13) else (Option.bind (f_X3_remainder (v1_13 + v6_13) (v2_13 + v7_13) o_triangle_halves o_now_modulus) (fun u_3 => (Option.bind (f_X3_remainder (v3_13 + v6_13) (v4_13 + v7_13) o_triangle_halves o_now_modulus) (fun u_4 => (if (u_3 = u_4) then (f_X6_areLike_L13 k_13 v1_13 v2_13 v3_13 v4_13 v5_13 v6_13 o_triangle_halves o_now_modulus fuel (v7_13 + (1 : Int32))) else (some (0 : Int32)))))))) := rfl
def f_X6_areLike_L3 (k_3 : Option (Int32)) (v1_3 : Int32) (v2_3 : Int32) (v3_3 : Int32) (v4_3 : Int32) (v5_3 : Int32) (o_triangle_halves : Nat → Int32) (o_now_modulus : Int32) : Nat → Int32 → Option (Int32)
  | 0, _ => none
  | fuel + 1, v6_3 => (if (v5_3 ≤ v6_3) then (k_3) else (f_X6_areLike_L13 (f_X6_areLike_L3 k_3 v1_3 v2_3 v3_3 v4_3 v5_3 o_triangle_halves o_now_modulus fuel (v6_3 + (1 : Int32))) v1_3 v2_3 v3_3 v4_3 v5_3 v6_3 o_triangle_halves o_now_modulus 5000 (0 : Int32)))
theorem f_X6_areLike_L3_z (k_3 : Option (Int32)) (v1_3 : Int32) (v2_3 : Int32) (v3_3 : Int32) (v4_3 : Int32) (v5_3 : Int32) (o_triangle_halves : Nat → Int32) (o_now_modulus : Int32) (v6_3 : Int32) : f_X6_areLike_L3 k_3 v1_3 v2_3 v3_3 v4_3 v5_3 o_triangle_halves o_now_modulus 0 v6_3 = none := rfl
theorem f_X6_areLike_L3_s (k_3 : Option (Int32)) (v1_3 : Int32) (v2_3 : Int32) (v3_3 : Int32) (v4_3 : Int32) (v5_3 : Int32) (o_triangle_halves : Nat → Int32) (o_now_modulus : Int32) (fuel : Nat) (v6_3 : Int32) : f_X6_areLike_L3 k_3 v1_3 v2_3 v3_3 v4_3 v5_3 o_triangle_halves o_now_modulus (fuel + 1) v6_3 = (if (v5_3 ≤ v6_3) then (k_3) else (f_X6_areLike_L13 (f_X6_areLike_L3 k_3 v1_3 v2_3 v3_3 v4_3 v5_3 o_triangle_halves o_now_modulus fuel (v6_3 + (1 : Int32))) v1_3 v2_3 v3_3 v4_3 v5_3 v6_3 o_triangle_halves o_now_modulus 5000 (0 : Int32))) := rfl
def f_X6_areLike (p0 : Int32) (p1 : Int32) (p2 : Int32) (p3 : Int32) (p4 : Int32) (o_triangle_halves : Nat → Int32) (o_now_modulus : Int32) : Option (Int32) := (f_X6_areLike_L3 (some (1 : Int32)) p0 p1 p2 p3 p4 o_triangle_halves o_now_modulus 5000 (0 : Int32))
def f_X6_like (p0 : Int32) (p1 : Int32) (p2 : Int32) (p3 : Int32) (p4 : Int32) (o_triangle_halves : Nat → Int32) (o_now_modulus : Int32) : Option (Int32) := (if (((f_X6_isRow p0) = 0) ∨ (((f_X6_isRow p1) = 0) ∨ (((f_X6_isRow p2) = 0) ∨ ((f_X6_isRow p3) = 0)))) then (some (-1 : Int32)) else (if ((f_X6_isWithin p4 (1 : Int32) (32 : Int32)) = 0) then (some (-2 : Int32)) else (Option.bind (f_X6_areLike p0 p1 p2 p3 p4 o_triangle_halves o_now_modulus) (fun u_5 => (some (if (¬ (u_5 = 0)) then (1 : Int32) else (0 : Int32)))))))
def f_X6_scaled (p0 : Int32) (p1 : Int32) (o_triangle_halves : Nat → Int32) (o_now_modulus : Int32) : Option (Int32) := (if (((f_X6_isWithin p0 (1 : Int32) (32 : Int32)) = 0) ∨ ((f_X6_isWithin p1 (1 : Int32) (9 : Int32)) = 0)) then (some (-2 : Int32)) else (Option.bind (f_X6_areLike (0 : Int32) (0 : Int32) (p1 * p0) (0 : Int32) p0 o_triangle_halves o_now_modulus) (fun u_4 => (some (if (¬ (u_4 = 0)) then (1 : Int32) else (0 : Int32))))))
def f_X6_see (p0 : Int32) (p1 : Int32) (p2 : Int32) (o_now_seen_numbers : Nat → Int32) (o_now_seen_size : Int32) : Option (Int32 × (Nat → Int32) × Int32) := (if (p0 = (-1 : Int32)) then (Option.bind (f_X1_empty o_now_seen_size) (fun u_5 => (some ((0 : Int32), o_now_seen_numbers, u_5)))) else (if ((f_X6_isPlace p0 p1) = 0) then (some ((-1 : Int32), o_now_seen_numbers, o_now_seen_size)) else (if ((f_X6_isWithin p2 (0 : Int32) (2400 : Int32)) = 0) then (some ((-2 : Int32), o_now_seen_numbers, o_now_seen_size)) else (Option.bind (f_X1_add p0 p1 p2 12 o_now_seen_numbers o_now_seen_size) (fun u_4 => (some (u_4.1, u_4.2.1, u_4.2.2)))))))
def f_X6_isSeenBy_L14 (k_14 : Option (Int32)) (v2_14 : Int32) (o_triangle_halves : Nat → Int32) (o_now_seen_numbers : Nat → Int32) (o_now_seen_size : Int32) : Nat → Int32 → Option (Int32)
  | 0, _ => none
  | fuel + 1, v3_14 => (if (o_now_seen_size ≤ v3_14) then (k_14) else (Option.bind (f_X1_number v3_14 (0 : Int32) 12 o_now_seen_numbers o_now_seen_size) (fun u_3 => (Option.bind (f_X1_number v3_14 (1 : Int32) 12 o_now_seen_numbers o_now_seen_size) (fun u_4 => (Option.bind (f_X5_remainder u_3 u_4 v2_14 o_triangle_halves) (fun u_5 => (Option.bind (f_X1_number v3_14 (2 : Int32) 12 o_now_seen_numbers o_now_seen_size) (fun u_6 => (if (u_5 = u_6) then (f_X6_isSeenBy_L14 k_14 v2_14 o_triangle_halves o_now_seen_numbers o_now_seen_size fuel (v3_14 + (1 : Int32))) else (some (0 : Int32))))))))))))
theorem f_X6_isSeenBy_L14_z (k_14 : Option (Int32)) (v2_14 : Int32) (o_triangle_halves : Nat → Int32) (o_now_seen_numbers : Nat → Int32) (o_now_seen_size : Int32) (v3_14 : Int32) : f_X6_isSeenBy_L14 k_14 v2_14 o_triangle_halves o_now_seen_numbers o_now_seen_size 0 v3_14 = none := rfl
theorem f_X6_isSeenBy_L14_s (k_14 : Option (Int32)) (v2_14 : Int32) (o_triangle_halves : Nat → Int32) (o_now_seen_numbers : Nat → Int32) (o_now_seen_size : Int32) (fuel : Nat) (v3_14 : Int32) : f_X6_isSeenBy_L14 k_14 v2_14 o_triangle_halves o_now_seen_numbers o_now_seen_size (fuel + 1) v3_14 = (if (o_now_seen_size ≤ v3_14) then (k_14) else (Option.bind (f_X1_number v3_14 (0 : Int32) 12 o_now_seen_numbers o_now_seen_size) (fun u_3 => (Option.bind (f_X1_number v3_14 (1 : Int32) 12 o_now_seen_numbers o_now_seen_size) (fun u_4 => (Option.bind (f_X5_remainder u_3 u_4 v2_14 o_triangle_halves) (fun u_5 => (Option.bind (f_X1_number v3_14 (2 : Int32) 12 o_now_seen_numbers o_now_seen_size) (fun u_6 => (if (u_5 = u_6) then (f_X6_isSeenBy_L14 k_14 v2_14 o_triangle_halves o_now_seen_numbers o_now_seen_size fuel (v3_14 + (1 : Int32))) else (some (0 : Int32)))))))))))) := rfl
def f_X6_isSeenBy (p0 : Int32) (o_triangle_halves : Nat → Int32) (o_now_seen_numbers : Nat → Int32) (o_now_seen_size : Int32) (o_now_e : Int32) : Option (Int32) := (Option.bind (f_X0_powerOf p0 o_now_e) (fun u_1 => (f_X6_isSeenBy_L14 (some (1 : Int32)) u_1 o_triangle_halves o_now_seen_numbers o_now_seen_size 5000 (0 : Int32))))
def f_X6_fits_L4 (k_4 : Int32 → Option (Int32)) (o_triangle_halves : Nat → Int32) (o_now_seen_numbers : Nat → Int32) (o_now_seen_size : Int32) (o_now_e : Int32) (S : Nat → Int32) : Nat → Int32 → Int32 → Option (Int32)
  | 0, _, _ => none
  | fuel + 1, v1_4, v2_4 => (if ((Int32.ofNat 4) ≤ v2_4) then (k_4 v1_4) else (Option.bind (rd_ S 4 v2_4) (fun g_2 => (Option.bind (f_X6_isSeenBy g_2 o_triangle_halves o_now_seen_numbers o_now_seen_size o_now_e) (fun u_3 => (qn_ (if (u_3 = 0) then v1_4 else (v1_4 ||| ((1 : Int32) <<< (v2_4 &&& 31)))) (fun y_5 => (f_X6_fits_L4 k_4 o_triangle_halves o_now_seen_numbers o_now_seen_size o_now_e S fuel y_5 (v2_4 + (1 : Int32))))))))))
theorem f_X6_fits_L4_z (k_4 : Int32 → Option (Int32)) (o_triangle_halves : Nat → Int32) (o_now_seen_numbers : Nat → Int32) (o_now_seen_size : Int32) (o_now_e : Int32) (S : Nat → Int32) (v1_4 : Int32) (v2_4 : Int32) : f_X6_fits_L4 k_4 o_triangle_halves o_now_seen_numbers o_now_seen_size o_now_e S 0 v1_4 v2_4 = none := rfl
theorem f_X6_fits_L4_s (k_4 : Int32 → Option (Int32)) (o_triangle_halves : Nat → Int32) (o_now_seen_numbers : Nat → Int32) (o_now_seen_size : Int32) (o_now_e : Int32) (S : Nat → Int32) (fuel : Nat) (v1_4 : Int32) (v2_4 : Int32) : f_X6_fits_L4 k_4 o_triangle_halves o_now_seen_numbers o_now_seen_size o_now_e S (fuel + 1) v1_4 v2_4 = (if ((Int32.ofNat 4) ≤ v2_4) then (k_4 v1_4) else (Option.bind (rd_ S 4 v2_4) (fun g_2 => (Option.bind (f_X6_isSeenBy g_2 o_triangle_halves o_now_seen_numbers o_now_seen_size o_now_e) (fun u_3 => (qn_ (if (u_3 = 0) then v1_4 else (v1_4 ||| ((1 : Int32) <<< (v2_4 &&& 31)))) (fun y_5 => (f_X6_fits_L4 k_4 o_triangle_halves o_now_seen_numbers o_now_seen_size o_now_e S fuel y_5 (v2_4 + (1 : Int32)))))))))) := rfl
def f_X6_fits (o_triangle_halves : Nat → Int32) (o_now_seen_numbers : Nat → Int32) (o_now_seen_size : Int32) (o_now_e : Int32) (S : Nat → Int32) : Option (Int32) := (f_X6_fits_L4 (fun x1_4 => (some x1_4)) o_triangle_halves o_now_seen_numbers o_now_seen_size o_now_e S 5000 (0 : Int32) (0 : Int32))
def f_X6_partOfFraction (p0 : Int32) (p1 : Int32) (p2 : Int32) : Option (Int32) := (Option.bind (f_X0_commonDivisor p0 p1) (fun u_1 => (if (u_1 ≤ 0) then (some (if (¬ (p2 = 0)) then p1 else p0)) else (Option.bind (dv_ (if (¬ (p2 = 0)) then p1 else p0) u_1) (fun d_5 => (some d_5))))))
def f_X6_odds_L36 (k_36 : Int32 → Option (Int64)) (v1_36 : Int32) (v2_36 : Int32) (v3_36 : Int32) (o_triangle_halves : Nat → Int32) (o_now_p : Int32) (o_now_modulus : Int32) : Nat → Int32 → Int32 → Option (Int64)
  | 0, _, _ => none
  | fuel + 1, v5_36, v6_36 => (if (v1_36 < v6_36) then (k_36 v5_36) else (Option.bind (f_X3_tell v2_36 v1_36 v6_36 o_triangle_halves o_now_p o_now_modulus) (fun u_5 => (f_X6_odds_L36 k_36 v1_36 v2_36 v3_36 o_triangle_halves o_now_p o_now_modulus fuel (if (¬ (u_5 = v3_36)) then v5_36 else (v5_36 + (1 : Int32))) (v6_36 + (1 : Int32))))))
theorem f_X6_odds_L36_z (k_36 : Int32 → Option (Int64)) (v1_36 : Int32) (v2_36 : Int32) (v3_36 : Int32) (o_triangle_halves : Nat → Int32) (o_now_p : Int32) (o_now_modulus : Int32) (v5_36 : Int32) (v6_36 : Int32) : f_X6_odds_L36 k_36 v1_36 v2_36 v3_36 o_triangle_halves o_now_p o_now_modulus 0 v5_36 v6_36 = none := rfl
theorem f_X6_odds_L36_s (k_36 : Int32 → Option (Int64)) (v1_36 : Int32) (v2_36 : Int32) (v3_36 : Int32) (o_triangle_halves : Nat → Int32) (o_now_p : Int32) (o_now_modulus : Int32) (fuel : Nat) (v5_36 : Int32) (v6_36 : Int32) : f_X6_odds_L36 k_36 v1_36 v2_36 v3_36 o_triangle_halves o_now_p o_now_modulus (fuel + 1) v5_36 v6_36 = (if (v1_36 < v6_36) then (k_36 v5_36) else (Option.bind (f_X3_tell v2_36 v1_36 v6_36 o_triangle_halves o_now_p o_now_modulus) (fun u_5 => (f_X6_odds_L36 k_36 v1_36 v2_36 v3_36 o_triangle_halves o_now_p o_now_modulus fuel (if (¬ (u_5 = v3_36)) then v5_36 else (v5_36 + (1 : Int32))) (v6_36 + (1 : Int32)))))) := rfl
def f_X6_odds (p0 : Int32) (p1 : Int32) (p2 : Int32) (p3 : Int32) (o_triangle_halves : Nat → Int32) (o_now_p : Int32) (o_now_modulus : Int32) : Option (Int64) := (if (((f_X6_isRow p0) = 0) ∨ (((f_X6_isWithin p1 (0 : Int32) (4 : Int32)) = 0) ∨ ((f_X6_isWithin p3 (0 : Int32) (1 : Int32)) = 0))) then (some (-9223372036854775808 : Int64)) else (f_X6_odds_L36 (fun x5_36 => (Option.bind (f_X6_partOfFraction x5_36 (p0 + (1 : Int32)) p3) (fun u_9 => (some (Int32.toInt64 u_9))))) p0 p1 p2 o_triangle_halves o_now_p o_now_modulus 5000 (0 : Int32) (0 : Int32)))
def f_X6_mean (p0 : Int32) (p1 : Int32) (o_triangle_halves : Nat → Int32) (o_now_modulus : Int32) : Option (Int64) := (if (((f_X6_isRow p0) = 0) ∨ ((f_X6_isWithin p1 (0 : Int32) (1 : Int32)) = 0)) then (some (-9223372036854775808 : Int64)) else (Option.bind (f_X6_sumOf p0 o_triangle_halves o_now_modulus) (fun u_4 => (Option.bind (f_X6_partOfFraction u_4 (p0 + (1 : Int32)) p1) (fun u_5 => (some (Int32.toInt64 u_5)))))))
def f_X6_addEvent (p0 : Int32) (p1 : Int32) (p2 : Int32) (p3 : Int32) (o_now_events_numbers : Nat → Int32) (o_now_events_size : Int32) : Option (Int32 × (Nat → Int32) × Int32) := (if ((f_X6_isWithin p1 p2 p3) = 0) then (some ((-2 : Int32), o_now_events_numbers, o_now_events_size)) else (Option.bind (f_X1_add p0 p1 (0 : Int32) 24 o_now_events_numbers o_now_events_size) (fun u_2 => (some (u_2.1, u_2.2.1, u_2.2.2)))))
def f_X6_event (p0 : Int32) (p1 : Int32) (o_now_events_numbers : Nat → Int32) (o_now_events_size : Int32) : Option (Int32 × (Nat → Int32) × Int32) := (if (p0 = (-1 : Int32)) then (Option.bind (f_X1_empty o_now_events_size) (fun u_10 => (some ((0 : Int32), o_now_events_numbers, u_10)))) else (if p0 = (0 : Int32) then (Option.bind (f_X6_addEvent p0 p1 (0 : Int32) (0 : Int32) o_now_events_numbers o_now_events_size) (fun u_3 => (some (u_3.1, u_3.2.1, u_3.2.2)))) else (if p0 = (1 : Int32) then (Option.bind (f_X6_addEvent p0 p1 (1 : Int32) (4 : Int32) o_now_events_numbers o_now_events_size) (fun u_5 => (some (u_5.1, u_5.2.1, u_5.2.2)))) else (if p0 = (2 : Int32) then (Option.bind (f_X6_addEvent p0 p1 (0 : Int32) (99 : Int32) o_now_events_numbers o_now_events_size) (fun u_7 => (some (u_7.1, u_7.2.1, u_7.2.2)))) else (if p0 = (3 : Int32) then (Option.bind (f_X6_addEvent p0 p1 (0 : Int32) (5 : Int32) o_now_events_numbers o_now_events_size) (fun u_9 => (some (u_9.1, u_9.2.1, u_9.2.2)))) else (some ((-1 : Int32), o_now_events_numbers, o_now_events_size)))))))
def f_X6_after_L24 (k_24 : (Nat → Int32) → (Int32) → (Int32) → (Int32) → (Int32) → (Int32) → Option (Int32 × (Nat → Int32) × Int32 × (Nat → Int32) × Int32 × (Nat → Int32) × Int32 × (Nat → Int32) × Int32 × Int32 × Int32 × Int32 × Int32 × Int32)) (o_now_events_numbers : Nat → Int32) (o_now_events_size : Int32) : Nat → Int32 → (Nat → Int32) → (Int32) → (Int32) → (Int32) → (Int32) → (Int32) → Option (Int32 × (Nat → Int32) × Int32 × (Nat → Int32) × Int32 × (Nat → Int32) × Int32 × (Nat → Int32) × Int32 × Int32 × Int32 × Int32 × Int32 × Int32)
  | 0, _, _, _, _, _, _, _ => none
  | fuel + 1, v2_24, o_trial_marks_numbers_24, o_trial_marks_size_24, o_trial_p_24, o_trial_e_24, o_trial_modulus_24, o_trial_windowRow_24 => (if (o_now_events_size ≤ v2_24) then (k_24 o_trial_marks_numbers_24 o_trial_marks_size_24 o_trial_p_24 o_trial_e_24 o_trial_modulus_24 o_trial_windowRow_24) else (Option.bind (f_X1_number v2_24 (0 : Int32) 24 o_now_events_numbers o_now_events_size) (fun u_4 => (Option.bind (f_X1_number v2_24 (1 : Int32) 24 o_now_events_numbers o_now_events_size) (fun u_5 => (Option.bind (f_X3_happen u_4 u_5 o_trial_marks_numbers_24 o_trial_marks_size_24 o_trial_p_24 o_trial_e_24 o_trial_modulus_24 o_trial_windowRow_24) (fun u_6 => (f_X6_after_L24 k_24 o_now_events_numbers o_now_events_size fuel (v2_24 + (1 : Int32)) u_6.1 u_6.2.1 u_6.2.2.1 u_6.2.2.2.1 u_6.2.2.2.2.1 u_6.2.2.2.2.2))))))))
theorem f_X6_after_L24_z (k_24 : (Nat → Int32) → (Int32) → (Int32) → (Int32) → (Int32) → (Int32) → Option (Int32 × (Nat → Int32) × Int32 × (Nat → Int32) × Int32 × (Nat → Int32) × Int32 × (Nat → Int32) × Int32 × Int32 × Int32 × Int32 × Int32 × Int32)) (o_now_events_numbers : Nat → Int32) (o_now_events_size : Int32) (v2_24 : Int32) (o_trial_marks_numbers_24 : (Nat → Int32)) (o_trial_marks_size_24 : Int32) (o_trial_p_24 : Int32) (o_trial_e_24 : Int32) (o_trial_modulus_24 : Int32) (o_trial_windowRow_24 : Int32) : f_X6_after_L24 k_24 o_now_events_numbers o_now_events_size 0 v2_24 o_trial_marks_numbers_24 o_trial_marks_size_24 o_trial_p_24 o_trial_e_24 o_trial_modulus_24 o_trial_windowRow_24 = none := rfl
theorem f_X6_after_L24_s (k_24 : (Nat → Int32) → (Int32) → (Int32) → (Int32) → (Int32) → (Int32) → Option (Int32 × (Nat → Int32) × Int32 × (Nat → Int32) × Int32 × (Nat → Int32) × Int32 × (Nat → Int32) × Int32 × Int32 × Int32 × Int32 × Int32 × Int32)) (o_now_events_numbers : Nat → Int32) (o_now_events_size : Int32) (fuel : Nat) (v2_24 : Int32) (o_trial_marks_numbers_24 : (Nat → Int32)) (o_trial_marks_size_24 : (Int32)) (o_trial_p_24 : (Int32)) (o_trial_e_24 : (Int32)) (o_trial_modulus_24 : (Int32)) (o_trial_windowRow_24 : (Int32)) : f_X6_after_L24 k_24 o_now_events_numbers o_now_events_size (fuel + 1) v2_24 o_trial_marks_numbers_24 o_trial_marks_size_24 o_trial_p_24 o_trial_e_24 o_trial_modulus_24 o_trial_windowRow_24 = (if (o_now_events_size ≤ v2_24) then (k_24 o_trial_marks_numbers_24 o_trial_marks_size_24 o_trial_p_24 o_trial_e_24 o_trial_modulus_24 o_trial_windowRow_24) else (Option.bind (f_X1_number v2_24 (0 : Int32) 24 o_now_events_numbers o_now_events_size) (fun u_4 => (Option.bind (f_X1_number v2_24 (1 : Int32) 24 o_now_events_numbers o_now_events_size) (fun u_5 => (Option.bind (f_X3_happen u_4 u_5 o_trial_marks_numbers_24 o_trial_marks_size_24 o_trial_p_24 o_trial_e_24 o_trial_modulus_24 o_trial_windowRow_24) (fun u_6 => (f_X6_after_L24 k_24 o_now_events_numbers o_now_events_size fuel (v2_24 + (1 : Int32)) u_6.1 u_6.2.1 u_6.2.2.1 u_6.2.2.2.1 u_6.2.2.2.2.1 u_6.2.2.2.2.2)))))))) := rfl
def f_X6_after (p0 : Int32) (o_triangle_halves : Nat → Int32) (o_now_marks_numbers : Nat → Int32) (o_now_marks_size : Int32) (o_now_seen_numbers : Nat → Int32) (o_now_seen_size : Int32) (o_now_events_numbers : Nat → Int32) (o_now_events_size : Int32) (o_now_book_numbers : Nat → Int32) (o_now_book_size : Int32) (o_now_p : Int32) (o_now_e : Int32) (o_now_windowRow : Int32) (o_now_windowPlace : Int32) (o_trial_marks_numbers : Nat → Int32) (o_trial_marks_size : Int32) (o_trial_seen_numbers : Nat → Int32) (o_trial_seen_size : Int32) (o_trial_events_numbers : Nat → Int32) (o_trial_events_size : Int32) (o_trial_book_numbers : Nat → Int32) (o_trial_book_size : Int32) (o_trial_p : Int32) (o_trial_e : Int32) (o_trial_modulus : Int32) (o_trial_windowRow : Int32) (o_trial_windowPlace : Int32) : Option (Int32 × (Nat → Int32) × Int32 × (Nat → Int32) × Int32 × (Nat → Int32) × Int32 × (Nat → Int32) × Int32 × Int32 × Int32 × Int32 × Int32 × Int32) := (if ((f_X6_isWithin p0 (0 : Int32) (2 : Int32)) = 0) then (some ((-1 : Int32), o_trial_marks_numbers, o_trial_marks_size, o_trial_seen_numbers, o_trial_seen_size, o_trial_events_numbers, o_trial_events_size, o_trial_book_numbers, o_trial_book_size, o_trial_p, o_trial_e, o_trial_modulus, o_trial_windowRow, o_trial_windowPlace)) else (Option.bind (f_X3_copyFrom o_trial_marks_numbers o_trial_marks_size o_trial_seen_numbers o_trial_seen_size o_trial_events_numbers o_trial_events_size o_trial_book_numbers o_trial_book_size o_trial_p o_trial_e o_trial_modulus o_trial_windowRow o_trial_windowPlace o_now_marks_numbers o_now_marks_size o_now_seen_numbers o_now_seen_size o_now_events_numbers o_now_events_size o_now_book_numbers o_now_book_size o_now_p o_now_e o_now_windowRow o_now_windowPlace) (fun u_2 => (f_X6_after_L24 (fun xc_o_trial_marks_numbers_24 xc_o_trial_marks_size_24 xc_o_trial_p_24 xc_o_trial_e_24 xc_o_trial_modulus_24 xc_o_trial_windowRow_24 => (if (p0 = 0) then (Option.bind (f_X3_markedInWindow o_triangle_halves xc_o_trial_marks_numbers_24 xc_o_trial_marks_size_24 xc_o_trial_p_24 xc_o_trial_modulus_24 xc_o_trial_windowRow_24 u_2.2.2.2.2.2.2.2.2.2.2.2.2) (fun u_11 => (some (u_11, xc_o_trial_marks_numbers_24, xc_o_trial_marks_size_24, u_2.2.2.1, u_2.2.2.2.1, u_2.2.2.2.2.1, u_2.2.2.2.2.2.1, u_2.2.2.2.2.2.2.1, u_2.2.2.2.2.2.2.2.1, xc_o_trial_p_24, xc_o_trial_e_24, xc_o_trial_modulus_24, xc_o_trial_windowRow_24, u_2.2.2.2.2.2.2.2.2.2.2.2.2)))) else (qn_ (if (¬ (p0 = (1 : Int32))) then xc_o_trial_marks_size_24 else xc_o_trial_modulus_24) (fun y_9 => (some (y_9, xc_o_trial_marks_numbers_24, xc_o_trial_marks_size_24, u_2.2.2.1, u_2.2.2.2.1, u_2.2.2.2.2.1, u_2.2.2.2.2.2.1, u_2.2.2.2.2.2.2.1, u_2.2.2.2.2.2.2.2.1, xc_o_trial_p_24, xc_o_trial_e_24, xc_o_trial_modulus_24, xc_o_trial_windowRow_24, u_2.2.2.2.2.2.2.2.2.2.2.2.2)))))) o_now_events_numbers o_now_events_size 5000 (0 : Int32) u_2.1 u_2.2.1 u_2.2.2.2.2.2.2.2.2.1 u_2.2.2.2.2.2.2.2.2.2.1 u_2.2.2.2.2.2.2.2.2.2.2.1 u_2.2.2.2.2.2.2.2.2.2.2.2.1))))
def f_X6_book (p0 : Int32) (p1 : Int32) (o_now_book_numbers : Nat → Int32) (o_now_book_size : Int32) : Option (Int32 × (Nat → Int32) × Int32) := (if (p0 = (-1 : Int32)) then (Option.bind (f_X1_empty o_now_book_size) (fun u_5 => (some ((0 : Int32), o_now_book_numbers, u_5)))) else (if ((f_X6_isRow p0) = 0) then (some ((-1 : Int32), o_now_book_numbers, o_now_book_size)) else (if ((f_X6_isWithin p1 (0 : Int32) (2400 : Int32)) = 0) then (some ((-2 : Int32), o_now_book_numbers, o_now_book_size)) else (Option.bind (f_X1_add p0 p1 (0 : Int32) 24 o_now_book_numbers o_now_book_size) (fun u_4 => (some (u_4.1, u_4.2.1, u_4.2.2)))))))
def f_X6_looked_L2 (k_2 : Option (Int32)) (o_triangle_halves : Nat → Int32) (o_now_book_numbers : Nat → Int32) (o_now_book_size : Int32) (o_now_modulus : Int32) : Nat → Int32 → Option (Int32)
  | 0, _ => none
  | fuel + 1, v1_2 => (if (o_now_book_size ≤ v1_2) then (k_2) else (Option.bind (f_X1_number v1_2 (0 : Int32) 24 o_now_book_numbers o_now_book_size) (fun u_2 => (Option.bind (f_X3_remainder u_2 (10 : Int32) o_triangle_halves o_now_modulus) (fun u_3 => (Option.bind (f_X1_number v1_2 (1 : Int32) 24 o_now_book_numbers o_now_book_size) (fun u_4 => (if (u_3 = u_4) then (f_X6_looked_L2 k_2 o_triangle_halves o_now_book_numbers o_now_book_size o_now_modulus fuel (v1_2 + (1 : Int32))) else (some v1_2)))))))))
theorem f_X6_looked_L2_z (k_2 : Option (Int32)) (o_triangle_halves : Nat → Int32) (o_now_book_numbers : Nat → Int32) (o_now_book_size : Int32) (o_now_modulus : Int32) (v1_2 : Int32) : f_X6_looked_L2 k_2 o_triangle_halves o_now_book_numbers o_now_book_size o_now_modulus 0 v1_2 = none := rfl
theorem f_X6_looked_L2_s (k_2 : Option (Int32)) (o_triangle_halves : Nat → Int32) (o_now_book_numbers : Nat → Int32) (o_now_book_size : Int32) (o_now_modulus : Int32) (fuel : Nat) (v1_2 : Int32) : f_X6_looked_L2 k_2 o_triangle_halves o_now_book_numbers o_now_book_size o_now_modulus (fuel + 1) v1_2 = (if (o_now_book_size ≤ v1_2) then (k_2) else (Option.bind (f_X1_number v1_2 (0 : Int32) 24 o_now_book_numbers o_now_book_size) (fun u_2 => (Option.bind (f_X3_remainder u_2 (10 : Int32) o_triangle_halves o_now_modulus) (fun u_3 => (Option.bind (f_X1_number v1_2 (1 : Int32) 24 o_now_book_numbers o_now_book_size) (fun u_4 => (if (u_3 = u_4) then (f_X6_looked_L2 k_2 o_triangle_halves o_now_book_numbers o_now_book_size o_now_modulus fuel (v1_2 + (1 : Int32))) else (some v1_2))))))))) := rfl
def f_X6_looked (o_triangle_halves : Nat → Int32) (o_now_book_numbers : Nat → Int32) (o_now_book_size : Int32) (o_now_modulus : Int32) : Option (Int32) := (f_X6_looked_L2 (some (-5 : Int32)) o_triangle_halves o_now_book_numbers o_now_book_size o_now_modulus 5000 (0 : Int32))
def f_X6_judge_L68 (k_68 : Option (Int32)) (v1_68 : Int32) (v2_68 : Int32) (v3_68 : Int32) (v5_68 : Int32) (o_triangle_halves : Nat → Int32) (o_now_modulus : Int32) (o_tapes_lengths : Nat → Int32) (o_tapes_items : Nat → Int64) : Nat → Int32 → Option (Int32)
  | 0, _ => none
  | fuel + 1, v6_68 => (if (v1_68 < v6_68) then (k_68) else (if (v6_68 < v5_68) then (Option.bind (f_X4_value v2_68 (v3_68 + v6_68) o_tapes_lengths o_tapes_items) (fun u_11 => (Option.bind (f_X3_remainder v1_68 v6_68 o_triangle_halves o_now_modulus) (fun u_12 => (if ((lg_cmp u_11 (Int32.toInt64 u_12)) = 0) then (f_X6_judge_L68 k_68 v1_68 v2_68 v3_68 v5_68 o_triangle_halves o_now_modulus o_tapes_lengths o_tapes_items fuel (v6_68 + (1 : Int32))) else (some v6_68)))))) else (some ((200 : Int32) + v6_68))))
theorem f_X6_judge_L68_z (k_68 : Option (Int32)) (v1_68 : Int32) (v2_68 : Int32) (v3_68 : Int32) (v5_68 : Int32) (o_triangle_halves : Nat → Int32) (o_now_modulus : Int32) (o_tapes_lengths : Nat → Int32) (o_tapes_items : Nat → Int64) (v6_68 : Int32) : f_X6_judge_L68 k_68 v1_68 v2_68 v3_68 v5_68 o_triangle_halves o_now_modulus o_tapes_lengths o_tapes_items 0 v6_68 = none := rfl
theorem f_X6_judge_L68_s (k_68 : Option (Int32)) (v1_68 : Int32) (v2_68 : Int32) (v3_68 : Int32) (v5_68 : Int32) (o_triangle_halves : Nat → Int32) (o_now_modulus : Int32) (o_tapes_lengths : Nat → Int32) (o_tapes_items : Nat → Int64) (fuel : Nat) (v6_68 : Int32) : f_X6_judge_L68 k_68 v1_68 v2_68 v3_68 v5_68 o_triangle_halves o_now_modulus o_tapes_lengths o_tapes_items (fuel + 1) v6_68 = (if (v1_68 < v6_68) then (k_68) else (if (v6_68 < v5_68) then (Option.bind (f_X4_value v2_68 (v3_68 + v6_68) o_tapes_lengths o_tapes_items) (fun u_11 => (Option.bind (f_X3_remainder v1_68 v6_68 o_triangle_halves o_now_modulus) (fun u_12 => (if ((lg_cmp u_11 (Int32.toInt64 u_12)) = 0) then (f_X6_judge_L68 k_68 v1_68 v2_68 v3_68 v5_68 o_triangle_halves o_now_modulus o_tapes_lengths o_tapes_items fuel (v6_68 + (1 : Int32))) else (some v6_68)))))) else (some ((200 : Int32) + v6_68)))) := rfl
def f_X6_judge (p0 : Int32) (p1 : Int32) (p2 : Int32) (o_triangle_halves : Nat → Int32) (o_now_modulus : Int32) (o_tapes_sorts : Nat → Int32) (o_tapes_lengths : Nat → Int32) (o_tapes_items : Nat → Int64) : Option (Int32) := (if (((f_X6_isRow p0) = 0) ∨ ((f_X4_isThere p1) = 0)) then (some (-1 : Int32)) else (Option.bind (f_X4_sortOf p1 o_tapes_sorts) (fun u_4 => (if (u_4 = (-1 : Int32)) then (some (200 : Int32)) else (if (u_4 = (1 : Int32)) then (if (0 ≤ p2) then (Option.bind (f_X4_lengthOf p1 o_tapes_lengths) (fun u_8 => (f_X6_judge_L68 (some (-5 : Int32)) p0 p1 p2 (u_8 - p2) o_triangle_halves o_now_modulus o_tapes_lengths o_tapes_items 5000 (0 : Int32)))) else (some (200 : Int32))) else (some (-12 : Int32)))))))
def f_X6_image (o_now_marks_numbers : Nat → Int32) (o_now_marks_size : Int32) (o_now_seen_numbers : Nat → Int32) (o_now_seen_size : Int32) (o_now_events_numbers : Nat → Int32) (o_now_events_size : Int32) (o_now_book_numbers : Nat → Int32) (o_now_book_size : Int32) (o_now_p : Int32) (o_now_e : Int32) (o_now_modulus : Int32) (o_now_windowRow : Int32) (o_now_windowPlace : Int32) (o_kept_marks_numbers : Nat → Int32) (o_kept_marks_size : Int32) (o_kept_seen_numbers : Nat → Int32) (o_kept_seen_size : Int32) (o_kept_events_numbers : Nat → Int32) (o_kept_events_size : Int32) (o_kept_book_numbers : Nat → Int32) (o_kept_book_size : Int32) (o_kept_p : Int32) (o_kept_e : Int32) (o_kept_modulus : Int32) (o_kept_windowRow : Int32) (o_kept_windowPlace : Int32) (o_hasImage : Int32) : Option (Int32 × (Nat → Int32) × Int32 × (Nat → Int32) × Int32 × (Nat → Int32) × Int32 × (Nat → Int32) × Int32 × Int32 × Int32 × Int32 × Int32 × Int32 × Int32) := (Option.bind (f_X3_copyFrom o_kept_marks_numbers o_kept_marks_size o_kept_seen_numbers o_kept_seen_size o_kept_events_numbers o_kept_events_size o_kept_book_numbers o_kept_book_size o_kept_p o_kept_e o_kept_modulus o_kept_windowRow o_kept_windowPlace o_now_marks_numbers o_now_marks_size o_now_seen_numbers o_now_seen_size o_now_events_numbers o_now_events_size o_now_book_numbers o_now_book_size o_now_p o_now_e o_now_windowRow o_now_windowPlace) (fun u_1 => (some (o_now_modulus, u_1.1, u_1.2.1, u_1.2.2.1, u_1.2.2.2.1, u_1.2.2.2.2.1, u_1.2.2.2.2.2.1, u_1.2.2.2.2.2.2.1, u_1.2.2.2.2.2.2.2.1, u_1.2.2.2.2.2.2.2.2.1, u_1.2.2.2.2.2.2.2.2.2.1, u_1.2.2.2.2.2.2.2.2.2.2.1, u_1.2.2.2.2.2.2.2.2.2.2.2.1, u_1.2.2.2.2.2.2.2.2.2.2.2.2, (1 : Int32)))))
def f_X6_undo (o_now_marks_numbers : Nat → Int32) (o_now_marks_size : Int32) (o_now_seen_numbers : Nat → Int32) (o_now_seen_size : Int32) (o_now_events_numbers : Nat → Int32) (o_now_events_size : Int32) (o_now_book_numbers : Nat → Int32) (o_now_book_size : Int32) (o_now_p : Int32) (o_now_e : Int32) (o_now_modulus : Int32) (o_now_windowRow : Int32) (o_now_windowPlace : Int32) (o_kept_marks_numbers : Nat → Int32) (o_kept_marks_size : Int32) (o_kept_seen_numbers : Nat → Int32) (o_kept_seen_size : Int32) (o_kept_events_numbers : Nat → Int32) (o_kept_events_size : Int32) (o_kept_book_numbers : Nat → Int32) (o_kept_book_size : Int32) (o_kept_p : Int32) (o_kept_e : Int32) (o_kept_windowRow : Int32) (o_kept_windowPlace : Int32) (o_hasImage : Int32) : Option (Int32 × (Nat → Int32) × Int32 × (Nat → Int32) × Int32 × (Nat → Int32) × Int32 × (Nat → Int32) × Int32 × Int32 × Int32 × Int32 × Int32 × Int32) := (if (o_hasImage = 0) then (some ((-3 : Int32), o_now_marks_numbers, o_now_marks_size, o_now_seen_numbers, o_now_seen_size, o_now_events_numbers, o_now_events_size, o_now_book_numbers, o_now_book_size, o_now_p, o_now_e, o_now_modulus, o_now_windowRow, o_now_windowPlace)) else (Option.bind (f_X3_copyFrom o_now_marks_numbers o_now_marks_size o_now_seen_numbers o_now_seen_size o_now_events_numbers o_now_events_size o_now_book_numbers o_now_book_size o_now_p o_now_e o_now_modulus o_now_windowRow o_now_windowPlace o_kept_marks_numbers o_kept_marks_size o_kept_seen_numbers o_kept_seen_size o_kept_events_numbers o_kept_events_size o_kept_book_numbers o_kept_book_size o_kept_p o_kept_e o_kept_windowRow o_kept_windowPlace) (fun u_2 => (some (u_2.2.2.2.2.2.2.2.2.2.2.1, u_2.1, u_2.2.1, u_2.2.2.1, u_2.2.2.2.1, u_2.2.2.2.2.1, u_2.2.2.2.2.2.1, u_2.2.2.2.2.2.2.1, u_2.2.2.2.2.2.2.2.1, u_2.2.2.2.2.2.2.2.2.1, u_2.2.2.2.2.2.2.2.2.2.1, u_2.2.2.2.2.2.2.2.2.2.2.1, u_2.2.2.2.2.2.2.2.2.2.2.2.1, u_2.2.2.2.2.2.2.2.2.2.2.2.2)))))
def f_X6_count (p0 : Int32) (o_now_seen_size : Int32) (o_now_events_size : Int32) (o_now_book_size : Int32) (o_reader_length : Int32) : Option (Int32) := (if p0 = (0 : Int32) then (some o_now_seen_size) else (if p0 = (1 : Int32) then (some o_now_events_size) else (if p0 = (2 : Int32) then (some o_now_book_size) else (if p0 = (3 : Int32) then (some o_reader_length) else (some (-2 : Int32))))))
def f_X6_tape (p0 : Int32) (p1 : Int32) (p2 : Int32) (o_tapes_sorts : Nat → Int32) (o_tapes_lengths : Nat → Int32) (o_tapes_items : Nat → Int64) : Option (Int32 × (Nat → Int32) × (Nat → Int32) × (Nat → Int64)) := (if ((f_X4_isThere p0) = 0) then (some ((-1 : Int32), o_tapes_sorts, o_tapes_lengths, o_tapes_items)) else (if (p1 = (-1 : Int32)) then (Option.bind (f_X4_become p0 p1 (0 : Int32) o_tapes_sorts o_tapes_lengths o_tapes_items) (fun u_10 => (some ((1 : Int32), u_10.1, u_10.2.1, u_10.2.2)))) else (if (((f_X6_isWithin p1 (0 : Int32) (4 : Int32)) = 0) ∨ (¬ (p2 ≤ (60 : Int32)))) then (some ((-2 : Int32), o_tapes_sorts, o_tapes_lengths, o_tapes_items)) else (if (0 ≤ p2) then (Option.bind (f_X4_become p0 p1 p2 o_tapes_sorts o_tapes_lengths o_tapes_items) (fun u_7 => (some ((1 : Int32), u_7.1, u_7.2.1, u_7.2.2)))) else (some ((-14 : Int32), o_tapes_sorts, o_tapes_lengths, o_tapes_items))))))
def f_X6_item (p0 : Int32) (p1 : Int32) (p2 : Int64) (o_tapes_sorts : Nat → Int32) (o_tapes_lengths : Nat → Int32) (o_tapes_items : Nat → Int64) : Option (Int32 × (Nat → Int64)) := (if ((f_X4_isThere p0) = 0) then (some ((-1 : Int32), o_tapes_items)) else (Option.bind (f_X4_sortOf p0 o_tapes_sorts) (fun u_2 => (if (u_2 = (-1 : Int32)) then (some ((-11 : Int32), o_tapes_items)) else (Option.bind (f_X4_lengthOf p0 o_tapes_lengths) (fun u_4 => (if ((f_X6_isWithin p1 (0 : Int32) (u_4 - (1 : Int32))) = 0) then (some ((-13 : Int32), o_tapes_items)) else (Option.bind (f_X4_put p0 p1 p2 o_tapes_sorts o_tapes_lengths o_tapes_items) (fun u_6 => (some ((1 : Int32), u_6)))))))))))
def f_X6_peek (p0 : Int32) (p1 : Int32) (o_tapes_lengths : Nat → Int32) (o_tapes_items : Nat → Int64) : Option (Int64) := (if ((f_X4_isThere p0) = 0) then (some (-9223372036854775808 : Int64)) else (Option.bind (f_X4_lengthOf p0 o_tapes_lengths) (fun u_2 => (if ((f_X6_isWithin p1 (0 : Int32) (u_2 - (1 : Int32))) = 0) then (some (-9223372036854775808 : Int64)) else (Option.bind (f_X4_value p0 p1 o_tapes_lengths o_tapes_items) (fun u_4 => (some u_4)))))))
def f_X6_shift (p0 : Int32) (p1 : Int32) (p2 : Int32) (p3 : Int32) (p4 : Int32) (o_tapes_sorts : Nat → Int32) (o_tapes_lengths : Nat → Int32) (o_tapes_items : Nat → Int64) : Option (Int32 × (Nat → Int64)) := (if (((f_X4_isThere p0) = 0) ∨ ((f_X4_isThere p2) = 0)) then (some ((-1 : Int32), o_tapes_items)) else (Option.bind (f_X4_sortOf p0 o_tapes_sorts) (fun u_4 => (if (u_4 = (-1 : Int32)) then (some ((-11 : Int32), o_tapes_items)) else (Option.bind (f_X4_sortOf p2 o_tapes_sorts) (fun u_6 => (if (u_6 = (-1 : Int32)) then (some ((-11 : Int32), o_tapes_items)) else (Option.bind (f_X4_sortOf p0 o_tapes_sorts) (fun u_8 => (Option.bind (f_X4_sortOf p2 o_tapes_sorts) (fun u_9 => (if (u_8 = u_9) then (Option.bind (f_X4_hasRun p0 p1 p4 o_tapes_lengths) (fun u_11 => (if (u_11 = 0) then (some ((-13 : Int32), o_tapes_items)) else (Option.bind (f_X4_hasRun p2 p3 p4 o_tapes_lengths) (fun u_13 => (if (u_13 = 0) then (some ((-13 : Int32), o_tapes_items)) else (Option.bind (f_X4_move p0 p1 p2 p3 p4 o_tapes_lengths o_tapes_items) (fun u_15 => (some (p4, u_15)))))))))) else (some ((-12 : Int32), o_tapes_items))))))))))))))
def f_X7_isIn (p0 : Int64) (p1 : Int64) (p2 : Int64) : Int32 := (if (¬ (((lg_cmp p0 p1) < 0) ∨ (0 < (lg_cmp p0 p2)))) then (1 : Int32) else (0 : Int32))
def f_X7_copies_L2 (k_2 : (Nat → Int32) → Option ((Nat → Int32))) (n_u : Nat) (n_v : Nat) (u : Nat → Int32) : Nat → Int32 → (Nat → Int32) → Option ((Nat → Int32))
  | 0, _, _ => none
  | fuel + 1, v2_2, v_2 => (if ((64 : Int32) ≤ v2_2) then (k_2 v_2) else (Option.bind (rd_ u n_u v2_2) (fun g_2 => (Option.bind (wr_ v_2 n_v v2_2 g_2) (fun w_3 => (f_X7_copies_L2 k_2 n_u n_v u fuel (v2_2 + (1 : Int32)) w_3))))))
theorem f_X7_copies_L2_z (k_2 : (Nat → Int32) → Option ((Nat → Int32))) (n_u : Nat) (n_v : Nat) (u : Nat → Int32) (v2_2 : Int32) (v_2 : (Nat → Int32)) : f_X7_copies_L2 k_2 n_u n_v u 0 v2_2 v_2 = none := rfl
theorem f_X7_copies_L2_s (k_2 : (Nat → Int32) → Option ((Nat → Int32))) (n_u : Nat) (n_v : Nat) (u : Nat → Int32) (fuel : Nat) (v2_2 : Int32) (v_2 : (Nat → Int32)) : f_X7_copies_L2 k_2 n_u n_v u (fuel + 1) v2_2 v_2 = (if ((64 : Int32) ≤ v2_2) then (k_2 v_2) else (Option.bind (rd_ u n_u v2_2) (fun g_2 => (Option.bind (wr_ v_2 n_v v2_2 g_2) (fun w_3 => (f_X7_copies_L2 k_2 n_u n_v u fuel (v2_2 + (1 : Int32)) w_3)))))) := rfl
def f_X7_copies (n_u : Nat) (n_v : Nat) (u : Nat → Int32) (v : Nat → Int32) : Option ((Nat → Int32)) := (f_X7_copies_L2 (fun xc_v_2 => (some xc_v_2)) n_u n_v u 5000 (0 : Int32) v)
def f_X7_isPrime (p0 : Int32) : Int32 := (if ((p0 = (2 : Int32)) ∨ ((p0 = (3 : Int32)) ∨ ((p0 = (5 : Int32)) ∨ (p0 = (7 : Int32))))) then (1 : Int32) else (0 : Int32))
def f_X7_power_L4 (k_4 : Int32 → Option (Int32)) (v0_4 : Int32) (v1_4 : Int32) : Nat → Int32 → Int32 → Option (Int32)
  | 0, _, _ => none
  | fuel + 1, v2_4, v3_4 => (if (v1_4 ≤ v3_4) then (k_4 v2_4) else (f_X7_power_L4 k_4 v0_4 v1_4 fuel (v2_4 * v0_4) (v3_4 + (1 : Int32))))
theorem f_X7_power_L4_z (k_4 : Int32 → Option (Int32)) (v0_4 : Int32) (v1_4 : Int32) (v2_4 : Int32) (v3_4 : Int32) : f_X7_power_L4 k_4 v0_4 v1_4 0 v2_4 v3_4 = none := rfl
theorem f_X7_power_L4_s (k_4 : Int32 → Option (Int32)) (v0_4 : Int32) (v1_4 : Int32) (fuel : Nat) (v2_4 : Int32) (v3_4 : Int32) : f_X7_power_L4 k_4 v0_4 v1_4 (fuel + 1) v2_4 v3_4 = (if (v1_4 ≤ v3_4) then (k_4 v2_4) else (f_X7_power_L4 k_4 v0_4 v1_4 fuel (v2_4 * v0_4) (v3_4 + (1 : Int32)))) := rfl
def f_X7_power (p0 : Int32) (p1 : Int32) : Option (Int32) := (f_X7_power_L4 (fun x2_4 => (some x2_4)) p0 p1 5000 (1 : Int32) (0 : Int32))
def f_X7_modulus (o_g : Nat → Int32) : Option (Int32) := (Option.bind (rd_ o_g 64 (0 : Int32)) (fun g_1 => (Option.bind (rd_ o_g 64 (1 : Int32)) (fun g_2 => (Option.bind (f_X7_power g_1 g_2) (fun u_3 => (some u_3)))))))
def f_X7_takes_L25 (k_25 : (Nat → Int32) → Option ((Nat → Int32) × Int32)) (v1_25 : Int32) (v2_25 : Int32) : Nat → Int32 → (Nat → Int32) → Option ((Nat → Int32) × Int32)
  | 0, _, _ => none
  | fuel + 1, v3_25, o_triangle_25 => (if (v2_25 < v3_25) then (k_25 o_triangle_25) else (if ((v3_25 = 0) ∨ (v3_25 = v2_25)) then (Option.bind (md_ (1 : Int32) v1_25) (fun d_6 => (Option.bind (wr_ o_triangle_25 16384 (((128 : Int32) * v2_25) + v3_25) d_6) (fun w_7 => (f_X7_takes_L25 k_25 v1_25 v2_25 fuel (v3_25 + (1 : Int32)) w_7))))) else (Option.bind (rd_ o_triangle_25 16384 ((((128 : Int32) * (v2_25 - (1 : Int32))) + v3_25) - (1 : Int32))) (fun g_9 => (Option.bind (rd_ o_triangle_25 16384 (((128 : Int32) * (v2_25 - (1 : Int32))) + v3_25)) (fun g_10 => (Option.bind (md_ (g_9 + g_10) v1_25) (fun d_11 => (Option.bind (wr_ o_triangle_25 16384 (((128 : Int32) * v2_25) + v3_25) d_11) (fun w_12 => (f_X7_takes_L25 k_25 v1_25 v2_25 fuel (v3_25 + (1 : Int32)) w_12)))))))))))
theorem f_X7_takes_L25_z (k_25 : (Nat → Int32) → Option ((Nat → Int32) × Int32)) (v1_25 : Int32) (v2_25 : Int32) (v3_25 : Int32) (o_triangle_25 : (Nat → Int32)) : f_X7_takes_L25 k_25 v1_25 v2_25 0 v3_25 o_triangle_25 = none := rfl
theorem f_X7_takes_L25_s (k_25 : (Nat → Int32) → Option ((Nat → Int32) × Int32)) (v1_25 : Int32) (v2_25 : Int32) (fuel : Nat) (v3_25 : Int32) (o_triangle_25 : (Nat → Int32)) : f_X7_takes_L25 k_25 v1_25 v2_25 (fuel + 1) v3_25 o_triangle_25 = (if (v2_25 < v3_25) then (k_25 o_triangle_25) else (if ((v3_25 = 0) ∨ (v3_25 = v2_25)) then (Option.bind (md_ (1 : Int32) v1_25) (fun d_6 => (Option.bind (wr_ o_triangle_25 16384 (((128 : Int32) * v2_25) + v3_25) d_6) (fun w_7 => (f_X7_takes_L25 k_25 v1_25 v2_25 fuel (v3_25 + (1 : Int32)) w_7))))) else (Option.bind (rd_ o_triangle_25 16384 ((((128 : Int32) * (v2_25 - (1 : Int32))) + v3_25) - (1 : Int32))) (fun g_9 => (Option.bind (rd_ o_triangle_25 16384 (((128 : Int32) * (v2_25 - (1 : Int32))) + v3_25)) (fun g_10 => (Option.bind (md_ (g_9 + g_10) v1_25) (fun d_11 => (Option.bind (wr_ o_triangle_25 16384 (((128 : Int32) * v2_25) + v3_25) d_11) (fun w_12 => (f_X7_takes_L25 k_25 v1_25 v2_25 fuel (v3_25 + (1 : Int32)) w_12))))))))))) := rfl
def f_X7_takes_L16 (k_16 : (Nat → Int32) → Option ((Nat → Int32) × Int32)) (v1_16 : Int32) : Nat → Int32 → (Nat → Int32) → Option ((Nat → Int32) × Int32)
  | 0, _, _ => none
  | fuel + 1, v2_16, o_triangle_16 => (if ((128 : Int32) ≤ v2_16) then (k_16 o_triangle_16) else (f_X7_takes_L25 (fun xc_o_triangle_25 => (f_X7_takes_L16 k_16 v1_16 fuel (v2_16 + (1 : Int32)) xc_o_triangle_25)) v1_16 v2_16 5000 (0 : Int32) o_triangle_16))
theorem f_X7_takes_L16_z (k_16 : (Nat → Int32) → Option ((Nat → Int32) × Int32)) (v1_16 : Int32) (v2_16 : Int32) (o_triangle_16 : (Nat → Int32)) : f_X7_takes_L16 k_16 v1_16 0 v2_16 o_triangle_16 = none := rfl
theorem f_X7_takes_L16_s (k_16 : (Nat → Int32) → Option ((Nat → Int32) × Int32)) (v1_16 : Int32) (fuel : Nat) (v2_16 : Int32) (o_triangle_16 : (Nat → Int32)) : f_X7_takes_L16 k_16 v1_16 (fuel + 1) v2_16 o_triangle_16 = (if ((128 : Int32) ≤ v2_16) then (k_16 o_triangle_16) else (f_X7_takes_L25 (fun xc_o_triangle_25 => (f_X7_takes_L16 k_16 v1_16 fuel (v2_16 + (1 : Int32)) xc_o_triangle_25)) v1_16 v2_16 5000 (0 : Int32) o_triangle_16)) := rfl
def f_X7_takes (p0 : Int32) (o_triangle : Nat → Int32) (o_takenBy : Int32) : Option ((Nat → Int32) × Int32) := (if (o_takenBy = p0) then (some (o_triangle, o_takenBy)) else (f_X7_takes_L16 (fun xc_o_triangle_16 => (some (xc_o_triangle_16, p0))) p0 5000 (0 : Int32) o_triangle))
def f_X7_remainder (p0 : Int32) (p1 : Int32) (o_g : Nat → Int32) (o_triangle : Nat → Int32) (o_takenBy : Int32) : Option (Int32 × (Nat → Int32) × Int32) := (Option.bind (f_X7_modulus o_g) (fun u_1 => (Option.bind (f_X7_takes u_1 o_triangle o_takenBy) (fun u_2 => (if ((¬ ((f_X7_isIn (Int32.toInt64 p0) (0 : Int64) (127 : Int64)) = 0)) ∧ (¬ ((f_X7_isIn (Int32.toInt64 p1) (0 : Int64) (Int32.toInt64 p0)) = 0))) then (Option.bind (rd_ u_2.1 16384 (((128 : Int32) * p0) + p1)) (fun g_5 => (some (g_5, u_2.1, u_2.2)))) else (some ((0 : Int32), u_2.1, u_2.2)))))))
def f_X7_carries_L21 (k_21 : Int32 → Option (Int32)) (v3_21 : Int32) : Nat → Int32 → Int32 → Int32 → Int32 → Option (Int32)
  | 0, _, _, _, _ => none
  | fuel + 1, v4_21, v5_21, v6_21, v7_21 => (if ((0 < v4_21) ∨ (¬ (v5_21 ≤ 0))) then (Option.bind (md_ v4_21 v3_21) (fun d_4 => (Option.bind (md_ v5_21 v3_21) (fun d_5 => (qn_ (if (¬ (((d_4 + d_5) + v6_21) < v3_21)) then (1 : Int32) else (0 : Int32)) (fun y_7 => (Option.bind (dv_ v4_21 v3_21) (fun d_8 => (Option.bind (dv_ v5_21 v3_21) (fun d_9 => (f_X7_carries_L21 k_21 v3_21 fuel d_8 d_9 y_7 (v7_21 + y_7)))))))))))) else (k_21 v7_21))
theorem f_X7_carries_L21_z (k_21 : Int32 → Option (Int32)) (v3_21 : Int32) (v4_21 : Int32) (v5_21 : Int32) (v6_21 : Int32) (v7_21 : Int32) : f_X7_carries_L21 k_21 v3_21 0 v4_21 v5_21 v6_21 v7_21 = none := rfl
theorem f_X7_carries_L21_s (k_21 : Int32 → Option (Int32)) (v3_21 : Int32) (fuel : Nat) (v4_21 : Int32) (v5_21 : Int32) (v6_21 : Int32) (v7_21 : Int32) : f_X7_carries_L21 k_21 v3_21 (fuel + 1) v4_21 v5_21 v6_21 v7_21 = (if ((0 < v4_21) ∨ (¬ (v5_21 ≤ 0))) then (Option.bind (md_ v4_21 v3_21) (fun d_4 => (Option.bind (md_ v5_21 v3_21) (fun d_5 => (qn_ (if (¬ (((d_4 + d_5) + v6_21) < v3_21)) then (1 : Int32) else (0 : Int32)) (fun y_7 => (Option.bind (dv_ v4_21 v3_21) (fun d_8 => (Option.bind (dv_ v5_21 v3_21) (fun d_9 => (f_X7_carries_L21 k_21 v3_21 fuel d_8 d_9 y_7 (v7_21 + y_7)))))))))))) else (k_21 v7_21)) := rfl
def f_X7_carries (p0 : Int32) (p1 : Int32) (o_g : Nat → Int32) : Option (Int32) := (Option.bind (rd_ o_g 64 (0 : Int32)) (fun g_1 => (f_X7_carries_L21 (fun x7_21 => (some x7_21)) g_1 5000 p1 (p0 - p1) (0 : Int32) (0 : Int32))))
def f_X7_small_L4 (k_4 : Int32 → Option (Int32)) (v0_4 : Int32) (v1_4 : Int32) : Nat → Int32 → Int32 → Option (Int32)
  | 0, _, _ => none
  | fuel + 1, v2_4, v3_4 => (if (v1_4 < v3_4) then (k_4 v2_4) else (Option.bind (dv_ (v2_4 * ((v0_4 - v1_4) + v3_4)) v3_4) (fun d_2 => (f_X7_small_L4 k_4 v0_4 v1_4 fuel d_2 (v3_4 + (1 : Int32))))))
theorem f_X7_small_L4_z (k_4 : Int32 → Option (Int32)) (v0_4 : Int32) (v1_4 : Int32) (v2_4 : Int32) (v3_4 : Int32) : f_X7_small_L4 k_4 v0_4 v1_4 0 v2_4 v3_4 = none := rfl
theorem f_X7_small_L4_s (k_4 : Int32 → Option (Int32)) (v0_4 : Int32) (v1_4 : Int32) (fuel : Nat) (v2_4 : Int32) (v3_4 : Int32) : f_X7_small_L4 k_4 v0_4 v1_4 (fuel + 1) v2_4 v3_4 = (if (v1_4 < v3_4) then (k_4 v2_4) else (Option.bind (dv_ (v2_4 * ((v0_4 - v1_4) + v3_4)) v3_4) (fun d_2 => (f_X7_small_L4 k_4 v0_4 v1_4 fuel d_2 (v3_4 + (1 : Int32)))))) := rfl
def f_X7_small (p0 : Int32) (p1 : Int32) : Option (Int32) := (f_X7_small_L4 (fun x2_4 => (some (if (p1 ≤ p0) then x2_4 else (0 : Int32)))) p0 p1 5000 (1 : Int32) (1 : Int32))
def f_X7_lucas_L8 (k_8 : Int32 → Option (Int32)) (o_g : Nat → Int32) : Nat → Int32 → Int32 → Int32 → Option (Int32)
  | 0, _, _, _ => none
  | fuel + 1, v3_8, v4_8, v5_8 => (if ((0 < v4_8) ∨ (¬ (v5_8 ≤ 0))) then (Option.bind (rd_ o_g 64 (0 : Int32)) (fun g_3 => (Option.bind (md_ v4_8 g_3) (fun d_4 => (Option.bind (rd_ o_g 64 (0 : Int32)) (fun g_5 => (Option.bind (md_ v5_8 g_5) (fun d_6 => (Option.bind (f_X7_small d_4 d_6) (fun u_7 => (Option.bind (rd_ o_g 64 (0 : Int32)) (fun g_8 => (Option.bind (md_ (v3_8 * u_7) g_8) (fun d_9 => (Option.bind (rd_ o_g 64 (0 : Int32)) (fun g_10 => (Option.bind (dv_ v4_8 g_10) (fun d_11 => (Option.bind (rd_ o_g 64 (0 : Int32)) (fun g_12 => (Option.bind (dv_ v5_8 g_12) (fun d_13 => (f_X7_lucas_L8 k_8 o_g fuel d_9 d_11 d_13))))))))))))))))))))))) else (k_8 v3_8))
theorem f_X7_lucas_L8_z (k_8 : Int32 → Option (Int32)) (o_g : Nat → Int32) (v3_8 : Int32) (v4_8 : Int32) (v5_8 : Int32) : f_X7_lucas_L8 k_8 o_g 0 v3_8 v4_8 v5_8 = none := rfl
theorem f_X7_lucas_L8_s (k_8 : Int32 → Option (Int32)) (o_g : Nat → Int32) (fuel : Nat) (v3_8 : Int32) (v4_8 : Int32) (v5_8 : Int32) : f_X7_lucas_L8 k_8 o_g (fuel + 1) v3_8 v4_8 v5_8 = (if ((0 < v4_8) ∨ (¬ (v5_8 ≤ 0))) then (Option.bind (rd_ o_g 64 (0 : Int32)) (fun g_3 => (Option.bind (md_ v4_8 g_3) (fun d_4 => (Option.bind (rd_ o_g 64 (0 : Int32)) (fun g_5 => (Option.bind (md_ v5_8 g_5) (fun d_6 => (Option.bind (f_X7_small d_4 d_6) (fun u_7 => (Option.bind (rd_ o_g 64 (0 : Int32)) (fun g_8 => (Option.bind (md_ (v3_8 * u_7) g_8) (fun d_9 => (Option.bind (rd_ o_g 64 (0 : Int32)) (fun g_10 => (Option.bind (dv_ v4_8 g_10) (fun d_11 => (Option.bind (rd_ o_g 64 (0 : Int32)) (fun g_12 => (Option.bind (dv_ v5_8 g_12) (fun d_13 => (f_X7_lucas_L8 k_8 o_g fuel d_9 d_11 d_13))))))))))))))))))))))) else (k_8 v3_8)) := rfl
def f_X7_lucas (p0 : Int32) (p1 : Int32) (o_g : Nat → Int32) : Option (Int32) := (f_X7_lucas_L8 (fun x3_8 => (Option.bind (rd_ o_g 64 (0 : Int32)) (fun g_17 => (Option.bind (md_ x3_8 g_17) (fun d_18 => (some d_18)))))) o_g 5000 (1 : Int32) p0 p1)
def f_X7_legendre_L10 (k_10 : Int32 → Option (Int32)) (v1_10 : Int32) (v2_10 : Int32) (o_g : Nat → Int32) : Nat → Int32 → Int32 → Option (Int32)
  | 0, _, _ => none
  | fuel + 1, v3_10, v4_10 => (if (v1_10 < v4_10) then (k_10 v3_10) else (Option.bind (dv_ v1_10 v4_10) (fun d_3 => (Option.bind (dv_ v2_10 v4_10) (fun d_4 => (Option.bind (dv_ (v1_10 - v2_10) v4_10) (fun d_5 => (Option.bind (rd_ o_g 64 (0 : Int32)) (fun g_6 => (f_X7_legendre_L10 k_10 v1_10 v2_10 o_g fuel (v3_10 + ((d_3 - d_4) - d_5)) (v4_10 * g_6)))))))))))
theorem f_X7_legendre_L10_z (k_10 : Int32 → Option (Int32)) (v1_10 : Int32) (v2_10 : Int32) (o_g : Nat → Int32) (v3_10 : Int32) (v4_10 : Int32) : f_X7_legendre_L10 k_10 v1_10 v2_10 o_g 0 v3_10 v4_10 = none := rfl
theorem f_X7_legendre_L10_s (k_10 : Int32 → Option (Int32)) (v1_10 : Int32) (v2_10 : Int32) (o_g : Nat → Int32) (fuel : Nat) (v3_10 : Int32) (v4_10 : Int32) : f_X7_legendre_L10 k_10 v1_10 v2_10 o_g (fuel + 1) v3_10 v4_10 = (if (v1_10 < v4_10) then (k_10 v3_10) else (Option.bind (dv_ v1_10 v4_10) (fun d_3 => (Option.bind (dv_ v2_10 v4_10) (fun d_4 => (Option.bind (dv_ (v1_10 - v2_10) v4_10) (fun d_5 => (Option.bind (rd_ o_g 64 (0 : Int32)) (fun g_6 => (f_X7_legendre_L10 k_10 v1_10 v2_10 o_g fuel (v3_10 + ((d_3 - d_4) - d_5)) (v4_10 * g_6))))))))))) := rfl
def f_X7_legendre (p0 : Int32) (p1 : Int32) (o_g : Nat → Int32) : Option (Int32) := (Option.bind (rd_ o_g 64 (0 : Int32)) (fun g_1 => (f_X7_legendre_L10 (fun x3_10 => (some x3_10)) p0 p1 o_g 5000 (0 : Int32) g_1)))
def f_X7_within_L5 (k_5 : Option (Int32)) (o_g : Nat → Int32) : Nat → Int32 → Int32 → Option (Int32)
  | 0, _, _ => none
  | fuel + 1, v3_5, v4_5 => (if (v4_5 ≤ 0) then (k_5) else (Option.bind (rd_ o_g 64 (0 : Int32)) (fun g_2 => (Option.bind (md_ v4_5 g_2) (fun d_3 => (Option.bind (rd_ o_g 64 (0 : Int32)) (fun g_4 => (Option.bind (md_ v3_5 g_4) (fun d_5 => (if (d_3 ≤ d_5) then (Option.bind (rd_ o_g 64 (0 : Int32)) (fun g_7 => (Option.bind (dv_ v3_5 g_7) (fun d_8 => (Option.bind (rd_ o_g 64 (0 : Int32)) (fun g_9 => (Option.bind (dv_ v4_5 g_9) (fun d_10 => (f_X7_within_L5 k_5 o_g fuel d_8 d_10))))))))) else (some (0 : Int32))))))))))))
theorem f_X7_within_L5_z (k_5 : Option (Int32)) (o_g : Nat → Int32) (v3_5 : Int32) (v4_5 : Int32) : f_X7_within_L5 k_5 o_g 0 v3_5 v4_5 = none := rfl
theorem f_X7_within_L5_s (k_5 : Option (Int32)) (o_g : Nat → Int32) (fuel : Nat) (v3_5 : Int32) (v4_5 : Int32) : f_X7_within_L5 k_5 o_g (fuel + 1) v3_5 v4_5 = (if (v4_5 ≤ 0) then (k_5) else (Option.bind (rd_ o_g 64 (0 : Int32)) (fun g_2 => (Option.bind (md_ v4_5 g_2) (fun d_3 => (Option.bind (rd_ o_g 64 (0 : Int32)) (fun g_4 => (Option.bind (md_ v3_5 g_4) (fun d_5 => (if (d_3 ≤ d_5) then (Option.bind (rd_ o_g 64 (0 : Int32)) (fun g_7 => (Option.bind (dv_ v3_5 g_7) (fun d_8 => (Option.bind (rd_ o_g 64 (0 : Int32)) (fun g_9 => (Option.bind (dv_ v4_5 g_9) (fun d_10 => (f_X7_within_L5 k_5 o_g fuel d_8 d_10))))))))) else (some (0 : Int32)))))))))))) := rfl
def f_X7_within (p0 : Int32) (p1 : Int32) (o_g : Nat → Int32) : Option (Int32) := (f_X7_within_L5 (some (1 : Int32)) o_g 5000 p0 p1)
def f_X7_tells (p0 : Int32) (p1 : Int32) (p2 : Int32) (o_g : Nat → Int32) (o_triangle : Nat → Int32) (o_takenBy : Int32) : Option (Int32 × (Nat → Int32) × Int32) := (if p0 = (0 : Int32) then (Option.bind (f_X7_remainder p1 p2 o_g o_triangle o_takenBy) (fun u_2 => (some (u_2.1, u_2.2.1, u_2.2.2)))) else (if p0 = (1 : Int32) then (Option.bind (f_X7_lucas p1 p2 o_g) (fun u_4 => (some (u_4, o_triangle, o_takenBy)))) else (if p0 = (2 : Int32) then (Option.bind (f_X7_carries p1 p2 o_g) (fun u_6 => (some (u_6, o_triangle, o_takenBy)))) else (if p0 = (3 : Int32) then (Option.bind (f_X7_legendre p1 p2 o_g) (fun u_8 => (some (u_8, o_triangle, o_takenBy)))) else (Option.bind (f_X7_within p1 p2 o_g) (fun u_9 => (some (u_9, o_triangle, o_takenBy))))))))
def f_X7_isRow (p0 : Int32) : Int32 := (f_X7_isIn (Int32.toInt64 p0) (0 : Int64) (127 : Int64))
def f_X7_isPlace (p0 : Int32) (p1 : Int32) : Int32 := (if (¬ (((f_X7_isRow p0) = 0) ∨ ((f_X7_isIn (Int32.toInt64 p1) (0 : Int64) (Int32.toInt64 p0)) = 0))) then (1 : Int32) else (0 : Int32))
def f_X7_isKind (p0 : Int32) : Int32 := (f_X7_isIn (Int32.toInt64 p0) (0 : Int64) (4 : Int64))
def f_X7_isMarked_L5 (k_5 : Int32 → (Nat → Int32) → (Int32) → Option (Int32 × (Nat → Int32) × Int32)) (v1_5 : Int32) (v2_5 : Int32) (o_g : Nat → Int32) : Nat → Int32 → Int32 → (Nat → Int32) → (Int32) → Option (Int32 × (Nat → Int32) × Int32)
  | 0, _, _, _, _ => none
  | fuel + 1, v3_5, v4_5, o_triangle_5, o_takenBy_5 => (Option.bind (rd_ o_g 64 (4 : Int32)) (fun g_1 => (if ((¬ (g_1 ≤ v4_5)) ∧ (¬ ((f_X7_isPlace v1_5 v2_5) = 0))) then (Option.bind (rd_ o_g 64 ((5 : Int32) + ((2 : Int32) * v4_5))) (fun g_4 => (Option.bind (f_X7_tells g_4 v1_5 v2_5 o_g o_triangle_5 o_takenBy_5) (fun u_5 => (Option.bind (rd_ o_g 64 ((6 : Int32) + ((2 : Int32) * v4_5))) (fun g_6 => (f_X7_isMarked_L5 k_5 v1_5 v2_5 o_g fuel (v3_5 ||| (if (u_5.1 = g_6) then (1 : Int32) else (0 : Int32))) (v4_5 + (1 : Int32)) u_5.2.1 u_5.2.2))))))) else (k_5 v3_5 o_triangle_5 o_takenBy_5))))
theorem f_X7_isMarked_L5_z (k_5 : Int32 → (Nat → Int32) → (Int32) → Option (Int32 × (Nat → Int32) × Int32)) (v1_5 : Int32) (v2_5 : Int32) (o_g : Nat → Int32) (v3_5 : Int32) (v4_5 : Int32) (o_triangle_5 : (Nat → Int32)) (o_takenBy_5 : Int32) : f_X7_isMarked_L5 k_5 v1_5 v2_5 o_g 0 v3_5 v4_5 o_triangle_5 o_takenBy_5 = none := rfl
theorem f_X7_isMarked_L5_s (k_5 : Int32 → (Nat → Int32) → (Int32) → Option (Int32 × (Nat → Int32) × Int32)) (v1_5 : Int32) (v2_5 : Int32) (o_g : Nat → Int32) (fuel : Nat) (v3_5 : Int32) (v4_5 : Int32) (o_triangle_5 : (Nat → Int32)) (o_takenBy_5 : (Int32)) : f_X7_isMarked_L5 k_5 v1_5 v2_5 o_g (fuel + 1) v3_5 v4_5 o_triangle_5 o_takenBy_5 = (Option.bind (rd_ o_g 64 (4 : Int32)) (fun g_1 => (if ((¬ (g_1 ≤ v4_5)) ∧ (¬ ((f_X7_isPlace v1_5 v2_5) = 0))) then (Option.bind (rd_ o_g 64 ((5 : Int32) + ((2 : Int32) * v4_5))) (fun g_4 => (Option.bind (f_X7_tells g_4 v1_5 v2_5 o_g o_triangle_5 o_takenBy_5) (fun u_5 => (Option.bind (rd_ o_g 64 ((6 : Int32) + ((2 : Int32) * v4_5))) (fun g_6 => (f_X7_isMarked_L5 k_5 v1_5 v2_5 o_g fuel (v3_5 ||| (if (u_5.1 = g_6) then (1 : Int32) else (0 : Int32))) (v4_5 + (1 : Int32)) u_5.2.1 u_5.2.2))))))) else (k_5 v3_5 o_triangle_5 o_takenBy_5)))) := rfl
def f_X7_isMarked (p0 : Int32) (p1 : Int32) (o_g : Nat → Int32) (o_triangle : Nat → Int32) (o_takenBy : Int32) : Option (Int32 × (Nat → Int32) × Int32) := (f_X7_isMarked_L5 (fun x3_5 xc_o_triangle_5 xc_o_takenBy_5 => (Option.bind (bz_ x3_5) (fun _z_13 => (some (x3_5, xc_o_triangle_5, xc_o_takenBy_5))))) p0 p1 o_g 5000 (0 : Int32) (0 : Int32) o_triangle o_takenBy)
def f_X7_prime (p0 : Int32) (o_g : Nat → Int32) : Option (Int32 × (Nat → Int32)) := (if ((f_X7_isPrime p0) = 0) then (some ((-2 : Int32), o_g)) else (Option.bind (rd_ o_g 64 (0 : Int32)) (fun g_2 => (Option.bind (wr_ o_g 64 (0 : Int32) p0) (fun w_3 => (some (g_2, w_3)))))))
def f_X7_power_ (p0 : Int32) (o_g : Nat → Int32) : Option (Int32 × (Nat → Int32)) := (if ((f_X7_isIn (Int32.toInt64 p0) (1 : Int64) (4 : Int64)) = 0) then (some ((-2 : Int32), o_g)) else (Option.bind (rd_ o_g 64 (1 : Int32)) (fun g_2 => (Option.bind (wr_ o_g 64 (1 : Int32) p0) (fun w_3 => (some (g_2, w_3)))))))
def f_X7_mark (p0 : Int32) (p1 : Int32) (o_g : Nat → Int32) : Option (Int32 × (Nat → Int32)) := (if ((f_X7_isKind p0) = 0) then (some ((-1 : Int32), o_g)) else (if ((f_X7_isIn (Int32.toInt64 p1) (0 : Int64) (2400 : Int64)) = 0) then (some ((-2 : Int32), o_g)) else (Option.bind (rd_ o_g 64 (4 : Int32)) (fun g_3 => (if (g_3 = (6 : Int32)) then (some ((-4 : Int32), o_g)) else (Option.bind (rd_ o_g 64 (4 : Int32)) (fun g_5 => (Option.bind (wr_ o_g 64 ((5 : Int32) + ((2 : Int32) * g_5)) p0) (fun w_6 => (Option.bind (rd_ w_6 64 (4 : Int32)) (fun g_7 => (Option.bind (wr_ w_6 64 ((6 : Int32) + ((2 : Int32) * g_7)) p1) (fun w_8 => (Option.bind (rd_ w_8 64 (4 : Int32)) (fun g_9 => (Option.bind (wr_ w_8 64 (4 : Int32) (g_9 + (1 : Int32))) (fun w_10 => (Option.bind (rd_ w_10 64 (4 : Int32)) (fun g_11 => (some (g_11, w_10)))))))))))))))))))))
def f_X7_clear (o_g : Nat → Int32) : Option (Int32 × (Nat → Int32)) := (Option.bind (rd_ o_g 64 (4 : Int32)) (fun g_1 => (Option.bind (wr_ o_g 64 (4 : Int32) (0 : Int32)) (fun w_2 => (some (g_1, w_2))))))
def f_X7_window (p0 : Int32) (p1 : Int32) (o_g : Nat → Int32) : Option (Int32 × (Nat → Int32)) := (if (((f_X7_isRow p0) = 0) ∨ ((f_X7_isRow p1) = 0)) then (some ((-2 : Int32), o_g)) else (Option.bind (rd_ o_g 64 (2 : Int32)) (fun g_4 => (Option.bind (rd_ o_g 64 (3 : Int32)) (fun g_5 => (Option.bind (wr_ o_g 64 (2 : Int32) p0) (fun w_6 => (Option.bind (wr_ w_6 64 (3 : Int32) p1) (fun w_7 => (some ((((1000 : Int32) * g_4) + g_5), w_7)))))))))))
def f_X7_feed (p0 : Int32) (o_text : Nat → Int32) (o_fed : Int32) : Option (Int32 × (Nat → Int32) × Int32) := (if ((f_X7_isIn (Int32.toInt64 p0) (0 : Int64) (127 : Int64)) = 0) then (some ((-2 : Int32), o_text, o_fed)) else (if (o_fed = (100 : Int32)) then (some ((-4 : Int32), o_text, o_fed)) else (Option.bind (wr_ o_text 100 o_fed p0) (fun w_3 => (some ((o_fed + (1 : Int32)), w_3, (o_fed + (1 : Int32))))))))
def f_X7_here (o_text : Nat → Int32) (o_fed : Int32) (o_place : Int32) : Option (Int32) := (if (o_fed ≤ o_place) then (some (-1 : Int32)) else (Option.bind (rd_ o_text 100 o_place) (fun g_2 => (some g_2))))
def f_X7_readsNumber_L4 (k_4 : Int32 → (Int32) → Option (Int32 × Int32)) (v1_4 : Int32) (o_text : Nat → Int32) (o_fed : Int32) : Nat → Int32 → Int32 → (Int32) → Option (Int32 × Int32)
  | 0, _, _, _ => none
  | fuel + 1, v2_4, v3_4, o_place_4 => (if (v1_4 ≤ v3_4) then (k_4 v2_4 o_place_4) else (Option.bind (f_X7_here o_text o_fed o_place_4) (fun u_2 => (if ((f_X7_isIn (Int32.toInt64 u_2) (48 : Int64) (57 : Int64)) = 0) then (k_4 v2_4 o_place_4) else (Option.bind (f_X7_here o_text o_fed o_place_4) (fun u_6 => (qn_ (((if (¬ (v3_4 = 0)) then ((10 : Int32) * v2_4) else (0 : Int32)) + u_6) - (48 : Int32)) (fun x_7 => (f_X7_readsNumber_L4 k_4 v1_4 o_text o_fed fuel x_7 (v3_4 + (1 : Int32)) (o_place_4 + (1 : Int32)))))))))))
theorem f_X7_readsNumber_L4_z (k_4 : Int32 → (Int32) → Option (Int32 × Int32)) (v1_4 : Int32) (o_text : Nat → Int32) (o_fed : Int32) (v2_4 : Int32) (v3_4 : Int32) (o_place_4 : Int32) : f_X7_readsNumber_L4 k_4 v1_4 o_text o_fed 0 v2_4 v3_4 o_place_4 = none := rfl
theorem f_X7_readsNumber_L4_s (k_4 : Int32 → (Int32) → Option (Int32 × Int32)) (v1_4 : Int32) (o_text : Nat → Int32) (o_fed : Int32) (fuel : Nat) (v2_4 : Int32) (v3_4 : Int32) (o_place_4 : (Int32)) : f_X7_readsNumber_L4 k_4 v1_4 o_text o_fed (fuel + 1) v2_4 v3_4 o_place_4 = (if (v1_4 ≤ v3_4) then (k_4 v2_4 o_place_4) else (Option.bind (f_X7_here o_text o_fed o_place_4) (fun u_2 => (if ((f_X7_isIn (Int32.toInt64 u_2) (48 : Int64) (57 : Int64)) = 0) then (k_4 v2_4 o_place_4) else (Option.bind (f_X7_here o_text o_fed o_place_4) (fun u_6 => (qn_ (((if (¬ (v3_4 = 0)) then ((10 : Int32) * v2_4) else (0 : Int32)) + u_6) - (48 : Int32)) (fun x_7 => (f_X7_readsNumber_L4 k_4 v1_4 o_text o_fed fuel x_7 (v3_4 + (1 : Int32)) (o_place_4 + (1 : Int32))))))))))) := rfl
def f_X7_readsNumber (p0 : Int32) (o_text : Nat → Int32) (o_fed : Int32) (o_place : Int32) : Option (Int32 × Int32) := (f_X7_readsNumber_L4 (fun x2_4 xc_o_place_4 => (some (x2_4, xc_o_place_4))) p0 o_text o_fed 5000 (-1 : Int32) (0 : Int32) o_place)
def f_X7_readsClause (o_text : Nat → Int32) (o_fed : Int32) (o_place : Int32) (o_letter : Int32) (o_first : Int32) (o_second : Int32) : Option (Int32 × Int32 × Int32 × Int32 × Int32) := (Option.bind (f_X7_here o_text o_fed o_place) (fun u_1 => (if ((¬ (u_1 = (112 : Int32))) ∧ ((¬ (u_1 = (101 : Int32))) ∧ ((¬ (u_1 = (109 : Int32))) ∧ ((¬ (u_1 = (120 : Int32))) ∧ (¬ (u_1 = (119 : Int32))))))) then (some ((0 : Int32), o_place, u_1, o_first, o_second)) else (if (u_1 = (120 : Int32)) then (some ((1 : Int32), (o_place + (1 : Int32)), u_1, o_first, o_second)) else (Option.bind (f_X7_readsNumber (if (¬ (u_1 = (119 : Int32))) then (1 : Int32) else (3 : Int32)) o_text o_fed (o_place + (1 : Int32))) (fun u_8 => (if ((u_8.1 < 0) ∨ ((u_1 = (112 : Int32)) ∨ (u_1 = (101 : Int32)))) then (some ((if (¬ (u_8.1 < 0)) then (1 : Int32) else (0 : Int32)), u_8.2, u_1, u_8.1, o_second)) else (if (u_1 = (119 : Int32)) then (Option.bind (f_X7_here o_text o_fed u_8.2) (fun u_20 => (if (u_20 = (44 : Int32)) then (Option.bind (f_X7_readsNumber (3 : Int32) o_text o_fed (u_8.2 + (1 : Int32))) (fun u_22 => (some ((if (¬ (u_22.1 < 0)) then (1 : Int32) else (0 : Int32)), u_22.2, u_1, u_8.1, u_22.1)))) else (some ((0 : Int32), u_8.2, u_1, u_8.1, o_second))))) else (Option.bind (f_X7_readsNumber (3 : Int32) o_text o_fed u_8.2) (fun u_16 => (some ((if (¬ (u_16.1 < 0)) then (1 : Int32) else (0 : Int32)), u_16.2, u_1, u_8.1, u_16.1))))))))))))
def f_X7_fault_L9 (k_9 : (Int32) → (Int32) → (Int32) → (Int32) → Option (Int32 × Int32 × Int32 × Int32 × Int32)) (o_text : Nat → Int32) (o_fed : Int32) : Nat → Int32 → Int32 → (Int32) → (Int32) → (Int32) → (Int32) → Option (Int32 × Int32 × Int32 × Int32 × Int32)
  | 0, _, _, _, _, _, _ => none
  | fuel + 1, v1_9, v2_9, o_place_9, o_letter_9, o_first_9, o_second_9 => (if (v2_9 = 0) then (k_9 o_place_9 o_letter_9 o_first_9 o_second_9) else (Option.bind (f_X7_readsClause o_text o_fed o_place_9 o_letter_9 o_first_9 o_second_9) (fun u_2 => (if (u_2.1 = 0) then (some (u_2.2.1, u_2.2.1, u_2.2.2.1, u_2.2.2.2.1, u_2.2.2.2.2)) else (if ((12 : Int32) ≤ (v1_9 + (1 : Int32))) then (f_X7_fault_L9 k_9 o_text o_fed fuel (v1_9 + (1 : Int32)) (0 : Int32) (u_2.2.1 + (if (¬ ((0 : Int32) = 0)) then (1 : Int32) else (0 : Int32))) u_2.2.2.1 u_2.2.2.2.1 u_2.2.2.2.2) else (Option.bind (f_X7_here o_text o_fed u_2.2.1) (fun u_8 => (qn_ (if (¬ ((if (u_8 = (59 : Int32)) then (1 : Int32) else (0 : Int32)) = 0)) then (1 : Int32) else (0 : Int32)) (fun y_12 => (f_X7_fault_L9 k_9 o_text o_fed fuel (v1_9 + (1 : Int32)) (if (u_8 = (59 : Int32)) then (1 : Int32) else (0 : Int32)) (u_2.2.1 + y_12) u_2.2.2.1 u_2.2.2.2.1 u_2.2.2.2.2))))))))))
theorem f_X7_fault_L9_z (k_9 : (Int32) → (Int32) → (Int32) → (Int32) → Option (Int32 × Int32 × Int32 × Int32 × Int32)) (o_text : Nat → Int32) (o_fed : Int32) (v1_9 : Int32) (v2_9 : Int32) (o_place_9 : Int32) (o_letter_9 : Int32) (o_first_9 : Int32) (o_second_9 : Int32) : f_X7_fault_L9 k_9 o_text o_fed 0 v1_9 v2_9 o_place_9 o_letter_9 o_first_9 o_second_9 = none := rfl
theorem f_X7_fault_L9_s (k_9 : (Int32) → (Int32) → (Int32) → (Int32) → Option (Int32 × Int32 × Int32 × Int32 × Int32)) (o_text : Nat → Int32) (o_fed : Int32) (fuel : Nat) (v1_9 : Int32) (v2_9 : Int32) (o_place_9 : (Int32)) (o_letter_9 : (Int32)) (o_first_9 : (Int32)) (o_second_9 : (Int32)) : f_X7_fault_L9 k_9 o_text o_fed (fuel + 1) v1_9 v2_9 o_place_9 o_letter_9 o_first_9 o_second_9 = (if (v2_9 = 0) then (k_9 o_place_9 o_letter_9 o_first_9 o_second_9) else (Option.bind (f_X7_readsClause o_text o_fed o_place_9 o_letter_9 o_first_9 o_second_9) (fun u_2 => (if (u_2.1 = 0) then (some (u_2.2.1, u_2.2.1, u_2.2.2.1, u_2.2.2.2.1, u_2.2.2.2.2)) else (if ((12 : Int32) ≤ (v1_9 + (1 : Int32))) then (f_X7_fault_L9 k_9 o_text o_fed fuel (v1_9 + (1 : Int32)) (0 : Int32) (u_2.2.1 + (if (¬ ((0 : Int32) = 0)) then (1 : Int32) else (0 : Int32))) u_2.2.2.1 u_2.2.2.2.1 u_2.2.2.2.2) else (Option.bind (f_X7_here o_text o_fed u_2.2.1) (fun u_8 => (qn_ (if (¬ ((if (u_8 = (59 : Int32)) then (1 : Int32) else (0 : Int32)) = 0)) then (1 : Int32) else (0 : Int32)) (fun y_12 => (f_X7_fault_L9 k_9 o_text o_fed fuel (v1_9 + (1 : Int32)) (if (u_8 = (59 : Int32)) then (1 : Int32) else (0 : Int32)) (u_2.2.1 + y_12) u_2.2.2.1 u_2.2.2.2.1 u_2.2.2.2.2)))))))))) := rfl
def f_X7_fault (o_text : Nat → Int32) (o_fed : Int32) (o_place : Int32) (o_letter : Int32) (o_first : Int32) (o_second : Int32) : Option (Int32 × Int32 × Int32 × Int32 × Int32) := (f_X7_fault_L9 (fun xc_o_place_9 xc_o_letter_9 xc_o_first_9 xc_o_second_9 => (some ((if (o_fed ≤ xc_o_place_9) then (-1 : Int32) else xc_o_place_9), xc_o_place_9, xc_o_letter_9, xc_o_first_9, xc_o_second_9))) o_text o_fed 5000 (0 : Int32) (1 : Int32) (0 : Int32) o_letter o_first o_second)
def f_X7_isDone (o_g : Nat → Int32) (o_letter : Int32) (o_first : Int32) (o_second : Int32) : Option (Int32 × (Nat → Int32)) := (if o_letter = (101 : Int32) then (Option.bind (f_X7_power_ o_first o_g) (fun u_2 => (some ((if (¬ (u_2.1 < 0)) then (1 : Int32) else (0 : Int32)), u_2.2)))) else (if o_letter = (109 : Int32) then (Option.bind (f_X7_mark o_first o_second o_g) (fun u_7 => (some ((if (¬ (u_7.1 < 0)) then (1 : Int32) else (0 : Int32)), u_7.2)))) else (if o_letter = (112 : Int32) then (Option.bind (f_X7_prime o_first o_g) (fun u_12 => (some ((if (¬ (u_12.1 < 0)) then (1 : Int32) else (0 : Int32)), u_12.2)))) else (if o_letter = (120 : Int32) then (Option.bind (f_X7_clear o_g) (fun u_17 => (some ((if (¬ (u_17.1 < 0)) then (1 : Int32) else (0 : Int32)), u_17.2)))) else (Option.bind (f_X7_window o_first o_second o_g) (fun u_21 => (some ((if (¬ (u_21.1 < 0)) then (1 : Int32) else (0 : Int32)), u_21.2))))))))
def f_X7_read_L12 (k_12 : Int32 → (Nat → Int32) → (Int32) → (Int32) → (Int32) → (Int32) → Option (Int32 × (Nat → Int32) × Int32 × Int32 × Int32 × Int32 × Int32)) (v1_12 : Int32) (o_fed_12 : Int32) (o_text : Nat → Int32) : Nat → Int32 → (Nat → Int32) → (Int32) → (Int32) → (Int32) → (Int32) → Option (Int32 × (Nat → Int32) × Int32 × Int32 × Int32 × Int32 × Int32)
  | 0, _, _, _, _, _, _ => none
  | fuel + 1, v2_12, o_g_12, o_place_12, o_letter_12, o_first_12, o_second_12 => (if ((v1_12 = (-1 : Int32)) ∧ (¬ (o_fed_12 ≤ o_place_12))) then (Option.bind (f_X7_readsClause o_text o_fed_12 o_place_12 o_letter_12 o_first_12 o_second_12) (fun u_4 => (if (u_4.1 = 0) then (f_X7_read_L12 k_12 v1_12 o_fed_12 o_text fuel (v2_12 + (0 : Int32)) o_g_12 (u_4.2.1 + (1 : Int32)) u_4.2.2.1 u_4.2.2.2.1 u_4.2.2.2.2) else (Option.bind (f_X7_isDone o_g_12 u_4.2.2.1 u_4.2.2.2.1 u_4.2.2.2.2) (fun u_6 => (f_X7_read_L12 k_12 v1_12 o_fed_12 o_text fuel (v2_12 + (if (¬ (u_6.1 = 0)) then (1 : Int32) else (0 : Int32))) u_6.2 (u_4.2.1 + (1 : Int32)) u_4.2.2.1 u_4.2.2.2.1 u_4.2.2.2.2)))))) else (k_12 v2_12 o_g_12 o_place_12 o_letter_12 o_first_12 o_second_12))
theorem f_X7_read_L12_z (k_12 : Int32 → (Nat → Int32) → (Int32) → (Int32) → (Int32) → (Int32) → Option (Int32 × (Nat → Int32) × Int32 × Int32 × Int32 × Int32 × Int32)) (v1_12 : Int32) (o_fed_12 : Int32) (o_text : Nat → Int32) (v2_12 : Int32) (o_g_12 : (Nat → Int32)) (o_place_12 : Int32) (o_letter_12 : Int32) (o_first_12 : Int32) (o_second_12 : Int32) : f_X7_read_L12 k_12 v1_12 o_fed_12 o_text 0 v2_12 o_g_12 o_place_12 o_letter_12 o_first_12 o_second_12 = none := rfl
theorem f_X7_read_L12_s (k_12 : Int32 → (Nat → Int32) → (Int32) → (Int32) → (Int32) → (Int32) → Option (Int32 × (Nat → Int32) × Int32 × Int32 × Int32 × Int32 × Int32)) (v1_12 : Int32) (o_fed_12 : Int32) (o_text : Nat → Int32) (fuel : Nat) (v2_12 : Int32) (o_g_12 : (Nat → Int32)) (o_place_12 : (Int32)) (o_letter_12 : (Int32)) (o_first_12 : (Int32)) (o_second_12 : (Int32)) : f_X7_read_L12 k_12 v1_12 o_fed_12 o_text (fuel + 1) v2_12 o_g_12 o_place_12 o_letter_12 o_first_12 o_second_12 = (if ((v1_12 = (-1 : Int32)) ∧ (¬ (o_fed_12 ≤ o_place_12))) then (Option.bind (f_X7_readsClause o_text o_fed_12 o_place_12 o_letter_12 o_first_12 o_second_12) (fun u_4 => (if (u_4.1 = 0) then (f_X7_read_L12 k_12 v1_12 o_fed_12 o_text fuel (v2_12 + (0 : Int32)) o_g_12 (u_4.2.1 + (1 : Int32)) u_4.2.2.1 u_4.2.2.2.1 u_4.2.2.2.2) else (Option.bind (f_X7_isDone o_g_12 u_4.2.2.1 u_4.2.2.2.1 u_4.2.2.2.2) (fun u_6 => (f_X7_read_L12 k_12 v1_12 o_fed_12 o_text fuel (v2_12 + (if (¬ (u_6.1 = 0)) then (1 : Int32) else (0 : Int32))) u_6.2 (u_4.2.1 + (1 : Int32)) u_4.2.2.1 u_4.2.2.2.1 u_4.2.2.2.2)))))) else (k_12 v2_12 o_g_12 o_place_12 o_letter_12 o_first_12 o_second_12)) := rfl
def f_X7_read (o_g : Nat → Int32) (o_text : Nat → Int32) (o_fed : Int32) (o_place : Int32) (o_letter : Int32) (o_first : Int32) (o_second : Int32) : Option (Int32 × (Nat → Int32) × Int32 × Int32 × Int32 × Int32 × Int32) := (Option.bind (f_X7_fault o_text o_fed o_place o_letter o_first o_second) (fun u_1 => (f_X7_read_L12 (fun x2_12 xc_o_g_12 xc_o_place_12 xc_o_letter_12 xc_o_first_12 xc_o_second_12 => (qn_ (if (¬ (u_1.1 = (-1 : Int32))) then ((-10 : Int32) - u_1.1) else x2_12) (fun y_14 => (some (y_14, xc_o_g_12, (0 : Int32), xc_o_place_12, xc_o_letter_12, xc_o_first_12, xc_o_second_12))))) u_1.1 o_fed o_text 5000 (0 : Int32) o_g (0 : Int32) u_1.2.2.1 u_1.2.2.2.1 u_1.2.2.2.2)))
def f_X7_markedInWindow_L12 (k_12 : Int32 → (Nat → Int32) → (Int32) → Option (Int32 × (Nat → Int32) × Int32)) (v2_12 : Int32) (o_g : Nat → Int32) : Nat → Int32 → Int32 → (Nat → Int32) → (Int32) → Option (Int32 × (Nat → Int32) × Int32)
  | 0, _, _, _, _ => none
  | fuel + 1, v1_12, v3_12, o_triangle_12, o_takenBy_12 => (if ((8 : Int32) ≤ v3_12) then (k_12 v1_12 o_triangle_12 o_takenBy_12) else (Option.bind (rd_ o_g 64 (2 : Int32)) (fun g_3 => (Option.bind (rd_ o_g 64 (3 : Int32)) (fun g_4 => (Option.bind (f_X7_isMarked (g_3 + v2_12) (g_4 + v3_12) o_g o_triangle_12 o_takenBy_12) (fun u_5 => (f_X7_markedInWindow_L12 k_12 v2_12 o_g fuel (v1_12 + (if (¬ (u_5.1 = 0)) then (1 : Int32) else (0 : Int32))) (v3_12 + (1 : Int32)) u_5.2.1 u_5.2.2))))))))
theorem f_X7_markedInWindow_L12_z (k_12 : Int32 → (Nat → Int32) → (Int32) → Option (Int32 × (Nat → Int32) × Int32)) (v2_12 : Int32) (o_g : Nat → Int32) (v1_12 : Int32) (v3_12 : Int32) (o_triangle_12 : (Nat → Int32)) (o_takenBy_12 : Int32) : f_X7_markedInWindow_L12 k_12 v2_12 o_g 0 v1_12 v3_12 o_triangle_12 o_takenBy_12 = none := rfl
theorem f_X7_markedInWindow_L12_s (k_12 : Int32 → (Nat → Int32) → (Int32) → Option (Int32 × (Nat → Int32) × Int32)) (v2_12 : Int32) (o_g : Nat → Int32) (fuel : Nat) (v1_12 : Int32) (v3_12 : Int32) (o_triangle_12 : (Nat → Int32)) (o_takenBy_12 : (Int32)) : f_X7_markedInWindow_L12 k_12 v2_12 o_g (fuel + 1) v1_12 v3_12 o_triangle_12 o_takenBy_12 = (if ((8 : Int32) ≤ v3_12) then (k_12 v1_12 o_triangle_12 o_takenBy_12) else (Option.bind (rd_ o_g 64 (2 : Int32)) (fun g_3 => (Option.bind (rd_ o_g 64 (3 : Int32)) (fun g_4 => (Option.bind (f_X7_isMarked (g_3 + v2_12) (g_4 + v3_12) o_g o_triangle_12 o_takenBy_12) (fun u_5 => (f_X7_markedInWindow_L12 k_12 v2_12 o_g fuel (v1_12 + (if (¬ (u_5.1 = 0)) then (1 : Int32) else (0 : Int32))) (v3_12 + (1 : Int32)) u_5.2.1 u_5.2.2)))))))) := rfl
def f_X7_markedInWindow_L4 (k_4 : Int32 → (Nat → Int32) → (Int32) → Option (Int32 × (Nat → Int32) × Int32)) (o_g : Nat → Int32) : Nat → Int32 → Int32 → (Nat → Int32) → (Int32) → Option (Int32 × (Nat → Int32) × Int32)
  | 0, _, _, _, _ => none
  | fuel + 1, v1_4, v2_4, o_triangle_4, o_takenBy_4 => (if ((8 : Int32) ≤ v2_4) then (k_4 v1_4 o_triangle_4 o_takenBy_4) else (f_X7_markedInWindow_L12 (fun x1_12 xc_o_triangle_12 xc_o_takenBy_12 => (f_X7_markedInWindow_L4 k_4 o_g fuel x1_12 (v2_4 + (1 : Int32)) xc_o_triangle_12 xc_o_takenBy_12)) v2_4 o_g 5000 v1_4 (0 : Int32) o_triangle_4 o_takenBy_4))
theorem f_X7_markedInWindow_L4_z (k_4 : Int32 → (Nat → Int32) → (Int32) → Option (Int32 × (Nat → Int32) × Int32)) (o_g : Nat → Int32) (v1_4 : Int32) (v2_4 : Int32) (o_triangle_4 : (Nat → Int32)) (o_takenBy_4 : Int32) : f_X7_markedInWindow_L4 k_4 o_g 0 v1_4 v2_4 o_triangle_4 o_takenBy_4 = none := rfl
theorem f_X7_markedInWindow_L4_s (k_4 : Int32 → (Nat → Int32) → (Int32) → Option (Int32 × (Nat → Int32) × Int32)) (o_g : Nat → Int32) (fuel : Nat) (v1_4 : Int32) (v2_4 : Int32) (o_triangle_4 : (Nat → Int32)) (o_takenBy_4 : (Int32)) : f_X7_markedInWindow_L4 k_4 o_g (fuel + 1) v1_4 v2_4 o_triangle_4 o_takenBy_4 = (if ((8 : Int32) ≤ v2_4) then (k_4 v1_4 o_triangle_4 o_takenBy_4) else (f_X7_markedInWindow_L12 (fun x1_12 xc_o_triangle_12 xc_o_takenBy_12 => (f_X7_markedInWindow_L4 k_4 o_g fuel x1_12 (v2_4 + (1 : Int32)) xc_o_triangle_12 xc_o_takenBy_12)) v2_4 o_g 5000 v1_4 (0 : Int32) o_triangle_4 o_takenBy_4)) := rfl
def f_X7_markedInWindow (o_g : Nat → Int32) (o_triangle : Nat → Int32) (o_takenBy : Int32) : Option (Int32 × (Nat → Int32) × Int32) := (f_X7_markedInWindow_L4 (fun x1_4 xc_o_triangle_4 xc_o_takenBy_4 => (some (x1_4, xc_o_triangle_4, xc_o_takenBy_4))) o_g 5000 (0 : Int32) (0 : Int32) o_triangle o_takenBy)
def f_X7_told (p0 : Int32) (o_g : Nat → Int32) (o_triangle : Nat → Int32) (o_takenBy : Int32) : Option (Int32 × (Nat → Int32) × Int32) := (if p0 = (0 : Int32) then (Option.bind (rd_ o_g 64 (0 : Int32)) (fun g_2 => (some (g_2, o_triangle, o_takenBy)))) else (if p0 = (1 : Int32) then (Option.bind (rd_ o_g 64 (1 : Int32)) (fun g_4 => (some (g_4, o_triangle, o_takenBy)))) else (if p0 = (2 : Int32) then (Option.bind (f_X7_modulus o_g) (fun u_6 => (some (u_6, o_triangle, o_takenBy)))) else (if p0 = (3 : Int32) then (Option.bind (rd_ o_g 64 (4 : Int32)) (fun g_8 => (some (g_8, o_triangle, o_takenBy)))) else (if p0 = (4 : Int32) then (Option.bind (rd_ o_g 64 (2 : Int32)) (fun g_10 => (some (g_10, o_triangle, o_takenBy)))) else (if p0 = (5 : Int32) then (Option.bind (rd_ o_g 64 (3 : Int32)) (fun g_12 => (some (g_12, o_triangle, o_takenBy)))) else (if p0 = (6 : Int32) then (Option.bind (f_X7_markedInWindow o_g o_triangle o_takenBy) (fun u_14 => (some (u_14.1, u_14.2.1, u_14.2.2)))) else (some ((-1 : Int32), o_triangle, o_takenBy)))))))))
def f_X7_markOf (p0 : Int32) (p1 : Int32) (o_g : Nat → Int32) : Option (Int32) := (Option.bind (rd_ o_g 64 (4 : Int32)) (fun g_1 => (if ((¬ ((f_X7_isIn (Int32.toInt64 p0) (0 : Int64) (Int32.toInt64 (g_1 - (1 : Int32)))) = 0)) ∧ (¬ ((f_X7_isIn (Int32.toInt64 p1) (0 : Int64) (1 : Int64)) = 0))) then (Option.bind (rd_ o_g 64 (((5 : Int32) + ((2 : Int32) * p0)) + p1)) (fun g_4 => (some g_4))) else (some (-1 : Int32)))))
def f_X7_at (p0 : Int32) (p1 : Int32) (o_g : Nat → Int32) (o_triangle : Nat → Int32) (o_takenBy : Int32) : Option (Int32 × (Nat → Int32) × Int32) := (if ((f_X7_isRow p0) = 0) then (some ((-1 : Int32), o_triangle, o_takenBy)) else (Option.bind (f_X7_remainder p0 p1 o_g o_triangle o_takenBy) (fun u_2 => (some (u_2.1, u_2.2.1, u_2.2.2)))))
def f_X7_rule (p0 : Int32) (p1 : Int32) (p2 : Int32) (o_g : Nat → Int32) (o_triangle : Nat → Int32) (o_takenBy : Int32) : Option (Int32 × (Nat → Int32) × Int32) := (if ((¬ ((f_X7_isKind p0) = 0)) ∧ (¬ ((f_X7_isPlace p1 p2) = 0))) then (Option.bind (f_X7_tells p0 p1 p2 o_g o_triangle o_takenBy) (fun u_3 => (some (u_3.1, u_3.2.1, u_3.2.2)))) else (some ((-1 : Int32), o_triangle, o_takenBy)))
def f_X7_marked (p0 : Int32) (p1 : Int32) (o_g : Nat → Int32) (o_triangle : Nat → Int32) (o_takenBy : Int32) : Option (Int32 × (Nat → Int32) × Int32) := (if ((f_X7_isPlace p0 p1) = 0) then (some ((-1 : Int32), o_triangle, o_takenBy)) else (Option.bind (f_X7_isMarked p0 p1 o_g o_triangle o_takenBy) (fun u_2 => (some ((if (¬ (u_2.1 = 0)) then (1 : Int32) else (0 : Int32)), u_2.2.1, u_2.2.2)))))
def f_X7_digit_L34 (k_34 : Int32 → Option (Int32)) (o_g : Nat → Int32) : Nat → Int32 → Int32 → Option (Int32)
  | 0, _, _ => none
  | fuel + 1, v3_34, v4_34 => (if (v4_34 ≤ 0) then (k_34 v3_34) else (Option.bind (rd_ o_g 64 (0 : Int32)) (fun g_6 => (Option.bind (dv_ v4_34 g_6) (fun d_7 => (f_X7_digit_L34 k_34 o_g fuel (v3_34 + (1 : Int32)) d_7))))))
theorem f_X7_digit_L34_z (k_34 : Int32 → Option (Int32)) (o_g : Nat → Int32) (v3_34 : Int32) (v4_34 : Int32) : f_X7_digit_L34 k_34 o_g 0 v3_34 v4_34 = none := rfl
theorem f_X7_digit_L34_s (k_34 : Int32 → Option (Int32)) (o_g : Nat → Int32) (fuel : Nat) (v3_34 : Int32) (v4_34 : Int32) : f_X7_digit_L34 k_34 o_g (fuel + 1) v3_34 v4_34 = (if (v4_34 ≤ 0) then (k_34 v3_34) else (Option.bind (rd_ o_g 64 (0 : Int32)) (fun g_6 => (Option.bind (dv_ v4_34 g_6) (fun d_7 => (f_X7_digit_L34 k_34 o_g fuel (v3_34 + (1 : Int32)) d_7)))))) := rfl
def f_X7_digit_L68 (k_68 : Int32 → Option (Int32)) (v2_68 : Int32) (v3_68 : Int32) (o_g : Nat → Int32) : Nat → Int32 → Int32 → Option (Int32)
  | 0, _, _ => none
  | fuel + 1, v4_68, v5_68 => (if ((¬ (v2_68 ≤ v5_68)) ∧ (¬ (v3_68 ≤ v5_68))) then (Option.bind (rd_ o_g 64 (0 : Int32)) (fun g_11 => (Option.bind (dv_ v4_68 g_11) (fun d_12 => (f_X7_digit_L68 k_68 v2_68 v3_68 o_g fuel d_12 (v5_68 + (1 : Int32))))))) else (k_68 v4_68))
theorem f_X7_digit_L68_z (k_68 : Int32 → Option (Int32)) (v2_68 : Int32) (v3_68 : Int32) (o_g : Nat → Int32) (v4_68 : Int32) (v5_68 : Int32) : f_X7_digit_L68 k_68 v2_68 v3_68 o_g 0 v4_68 v5_68 = none := rfl
theorem f_X7_digit_L68_s (k_68 : Int32 → Option (Int32)) (v2_68 : Int32) (v3_68 : Int32) (o_g : Nat → Int32) (fuel : Nat) (v4_68 : Int32) (v5_68 : Int32) : f_X7_digit_L68 k_68 v2_68 v3_68 o_g (fuel + 1) v4_68 v5_68 = (if ((¬ (v2_68 ≤ v5_68)) ∧ (¬ (v3_68 ≤ v5_68))) then (Option.bind (rd_ o_g 64 (0 : Int32)) (fun g_11 => (Option.bind (dv_ v4_68 g_11) (fun d_12 => (f_X7_digit_L68 k_68 v2_68 v3_68 o_g fuel d_12 (v5_68 + (1 : Int32))))))) else (k_68 v4_68)) := rfl
def f_X7_digit (p0 : Int32) (p1 : Int32) (o_g : Nat → Int32) : Option (Int32) := (if ((f_X7_isIn (Int32.toInt64 p0) (0 : Int64) (9999 : Int64)) = 0) then (some (-2 : Int32)) else (if ((-1 : Int32) ≤ p1) then (Option.bind (rd_ o_g 64 (0 : Int32)) (fun g_3 => (Option.bind (dv_ p0 g_3) (fun d_4 => (f_X7_digit_L34 (fun x3_34 => (if (0 ≤ p1) then (f_X7_digit_L68 (fun x4_68 => (if (x3_34 ≤ p1) then (some (-5 : Int32)) else (Option.bind (rd_ o_g 64 (0 : Int32)) (fun g_17 => (Option.bind (md_ x4_68 g_17) (fun d_18 => (some d_18))))))) p1 x3_34 o_g 5000 p0 (0 : Int32)) else (some x3_34))) o_g 5000 (1 : Int32) d_4))))) else (some (-1 : Int32))))
def f_X7_pure_L32 (k_32 : Int32 → Int32 → Option (Int32)) (o_g : Nat → Int32) : Nat → Int32 → Int32 → Option (Int32)
  | 0, _, _ => none
  | fuel + 1, v3_32, v4_32 => (Option.bind (rd_ o_g 64 (0 : Int32)) (fun g_3 => (Option.bind (md_ v3_32 g_3) (fun d_4 => (if (d_4 = 0) then (Option.bind (rd_ o_g 64 (0 : Int32)) (fun g_6 => (Option.bind (dv_ v3_32 g_6) (fun d_7 => (f_X7_pure_L32 k_32 o_g fuel d_7 (v4_32 + (1 : Int32))))))) else (k_32 v3_32 v4_32))))))
theorem f_X7_pure_L32_z (k_32 : Int32 → Int32 → Option (Int32)) (o_g : Nat → Int32) (v3_32 : Int32) (v4_32 : Int32) : f_X7_pure_L32 k_32 o_g 0 v3_32 v4_32 = none := rfl
theorem f_X7_pure_L32_s (k_32 : Int32 → Int32 → Option (Int32)) (o_g : Nat → Int32) (fuel : Nat) (v3_32 : Int32) (v4_32 : Int32) : f_X7_pure_L32 k_32 o_g (fuel + 1) v3_32 v4_32 = (Option.bind (rd_ o_g 64 (0 : Int32)) (fun g_3 => (Option.bind (md_ v3_32 g_3) (fun d_4 => (if (d_4 = 0) then (Option.bind (rd_ o_g 64 (0 : Int32)) (fun g_6 => (Option.bind (dv_ v3_32 g_6) (fun d_7 => (f_X7_pure_L32 k_32 o_g fuel d_7 (v4_32 + (1 : Int32))))))) else (k_32 v3_32 v4_32)))))) := rfl
def f_X7_pure (p0 : Int32) (p1 : Int32) (o_g : Nat → Int32) : Option (Int32) := (if ((f_X7_isIn (Int32.toInt64 p0) (1 : Int64) (9999 : Int64)) = 0) then (some (-2 : Int32)) else (if ((f_X7_isIn (Int32.toInt64 p1) (0 : Int64) (1 : Int64)) = 0) then (some (-1 : Int32)) else (f_X7_pure_L32 (fun x3_32 x4_32 => (some (if (¬ (p1 = 0)) then x4_32 else x3_32))) o_g 5000 p0 (0 : Int32))))
def f_X7_countOf_L5 (k_5 : Int32 → (Nat → Int32) → (Int32) → Option (Int32 × (Nat → Int32) × Int32)) (v1_5 : Int32) (v2_5 : Int32) (o_g : Nat → Int32) : Nat → Int32 → Int32 → (Nat → Int32) → (Int32) → Option (Int32 × (Nat → Int32) × Int32)
  | 0, _, _, _, _ => none
  | fuel + 1, v3_5, v4_5, o_triangle_5, o_takenBy_5 => (if (v1_5 < v4_5) then (k_5 v3_5 o_triangle_5 o_takenBy_5) else (Option.bind (f_X7_remainder v1_5 v4_5 o_g o_triangle_5 o_takenBy_5) (fun u_2 => (f_X7_countOf_L5 k_5 v1_5 v2_5 o_g fuel (v3_5 + (if (u_2.1 = v2_5) then (1 : Int32) else (0 : Int32))) (v4_5 + (1 : Int32)) u_2.2.1 u_2.2.2))))
theorem f_X7_countOf_L5_z (k_5 : Int32 → (Nat → Int32) → (Int32) → Option (Int32 × (Nat → Int32) × Int32)) (v1_5 : Int32) (v2_5 : Int32) (o_g : Nat → Int32) (v3_5 : Int32) (v4_5 : Int32) (o_triangle_5 : (Nat → Int32)) (o_takenBy_5 : Int32) : f_X7_countOf_L5 k_5 v1_5 v2_5 o_g 0 v3_5 v4_5 o_triangle_5 o_takenBy_5 = none := rfl
theorem f_X7_countOf_L5_s (k_5 : Int32 → (Nat → Int32) → (Int32) → Option (Int32 × (Nat → Int32) × Int32)) (v1_5 : Int32) (v2_5 : Int32) (o_g : Nat → Int32) (fuel : Nat) (v3_5 : Int32) (v4_5 : Int32) (o_triangle_5 : (Nat → Int32)) (o_takenBy_5 : (Int32)) : f_X7_countOf_L5 k_5 v1_5 v2_5 o_g (fuel + 1) v3_5 v4_5 o_triangle_5 o_takenBy_5 = (if (v1_5 < v4_5) then (k_5 v3_5 o_triangle_5 o_takenBy_5) else (Option.bind (f_X7_remainder v1_5 v4_5 o_g o_triangle_5 o_takenBy_5) (fun u_2 => (f_X7_countOf_L5 k_5 v1_5 v2_5 o_g fuel (v3_5 + (if (u_2.1 = v2_5) then (1 : Int32) else (0 : Int32))) (v4_5 + (1 : Int32)) u_2.2.1 u_2.2.2)))) := rfl
def f_X7_countOf (p0 : Int32) (p1 : Int32) (o_g : Nat → Int32) (o_triangle : Nat → Int32) (o_takenBy : Int32) : Option (Int32 × (Nat → Int32) × Int32) := (f_X7_countOf_L5 (fun x3_5 xc_o_triangle_5 xc_o_takenBy_5 => (some (x3_5, xc_o_triangle_5, xc_o_takenBy_5))) p0 p1 o_g 5000 (0 : Int32) (0 : Int32) o_triangle o_takenBy)
def f_X7_counted (p0 : Int32) (p1 : Int32) (o_g : Nat → Int32) (o_triangle : Nat → Int32) (o_takenBy : Int32) : Option (Int32 × (Nat → Int32) × Int32) := (if ((f_X7_isRow p0) = 0) then (some ((-1 : Int32), o_triangle, o_takenBy)) else (Option.bind (f_X7_countOf p0 p1 o_g o_triangle o_takenBy) (fun u_2 => (some (u_2.1, u_2.2.1, u_2.2.2)))))
def f_X7_sumOf_L4 (k_4 : Int32 → (Nat → Int32) → (Int32) → Option (Int32 × (Nat → Int32) × Int32)) (v1_4 : Int32) (o_g : Nat → Int32) : Nat → Int32 → Int32 → (Nat → Int32) → (Int32) → Option (Int32 × (Nat → Int32) × Int32)
  | 0, _, _, _, _ => none
  | fuel + 1, v2_4, v3_4, o_triangle_4, o_takenBy_4 => (if (v1_4 < v3_4) then (k_4 v2_4 o_triangle_4 o_takenBy_4) else (Option.bind (f_X7_remainder v1_4 v3_4 o_g o_triangle_4 o_takenBy_4) (fun u_2 => (f_X7_sumOf_L4 k_4 v1_4 o_g fuel (v2_4 + u_2.1) (v3_4 + (1 : Int32)) u_2.2.1 u_2.2.2))))
theorem f_X7_sumOf_L4_z (k_4 : Int32 → (Nat → Int32) → (Int32) → Option (Int32 × (Nat → Int32) × Int32)) (v1_4 : Int32) (o_g : Nat → Int32) (v2_4 : Int32) (v3_4 : Int32) (o_triangle_4 : (Nat → Int32)) (o_takenBy_4 : Int32) : f_X7_sumOf_L4 k_4 v1_4 o_g 0 v2_4 v3_4 o_triangle_4 o_takenBy_4 = none := rfl
theorem f_X7_sumOf_L4_s (k_4 : Int32 → (Nat → Int32) → (Int32) → Option (Int32 × (Nat → Int32) × Int32)) (v1_4 : Int32) (o_g : Nat → Int32) (fuel : Nat) (v2_4 : Int32) (v3_4 : Int32) (o_triangle_4 : (Nat → Int32)) (o_takenBy_4 : (Int32)) : f_X7_sumOf_L4 k_4 v1_4 o_g (fuel + 1) v2_4 v3_4 o_triangle_4 o_takenBy_4 = (if (v1_4 < v3_4) then (k_4 v2_4 o_triangle_4 o_takenBy_4) else (Option.bind (f_X7_remainder v1_4 v3_4 o_g o_triangle_4 o_takenBy_4) (fun u_2 => (f_X7_sumOf_L4 k_4 v1_4 o_g fuel (v2_4 + u_2.1) (v3_4 + (1 : Int32)) u_2.2.1 u_2.2.2)))) := rfl
def f_X7_sumOf (p0 : Int32) (o_g : Nat → Int32) (o_triangle : Nat → Int32) (o_takenBy : Int32) : Option (Int32 × (Nat → Int32) × Int32) := (f_X7_sumOf_L4 (fun x2_4 xc_o_triangle_4 xc_o_takenBy_4 => (some (x2_4, xc_o_triangle_4, xc_o_takenBy_4))) p0 o_g 5000 (0 : Int32) (0 : Int32) o_triangle o_takenBy)
def f_X7_row_L46 (k_46 : Int32 → Int32 → (Nat → Int32) → (Int32) → Option (Int32 × (Nat → Int32) × Int32)) (v1_46 : Int32) (v2_46 : Int32) (o_g : Nat → Int32) : Nat → Int32 → Int32 → Int32 → Int32 → (Nat → Int32) → (Int32) → Option (Int32 × (Nat → Int32) × Int32)
  | 0, _, _, _, _, _, _ => none
  | fuel + 1, v3_46, v4_46, v5_46, v7_46, o_triangle_46, o_takenBy_46 => (Option.bind (f_X7_modulus o_g) (fun u_5 => (if ((¬ (u_5 ≤ v7_46)) ∧ (¬ ((2 : Int32) ≤ v2_46))) then (Option.bind (f_X7_countOf v1_46 v7_46 o_g o_triangle_46 o_takenBy_46) (fun u_8 => (f_X7_row_L46 k_46 v1_46 v2_46 o_g fuel (v3_46 + (if (¬ (u_8.1 ≤ 0)) then (1 : Int32) else (0 : Int32))) (if (u_8.1 ≤ v5_46) then v4_46 else v7_46) (if v5_46 < u_8.1 then u_8.1 else v5_46) (v7_46 + (1 : Int32)) u_8.2.1 u_8.2.2))) else (k_46 v3_46 v4_46 o_triangle_46 o_takenBy_46))))
theorem f_X7_row_L46_z (k_46 : Int32 → Int32 → (Nat → Int32) → (Int32) → Option (Int32 × (Nat → Int32) × Int32)) (v1_46 : Int32) (v2_46 : Int32) (o_g : Nat → Int32) (v3_46 : Int32) (v4_46 : Int32) (v5_46 : Int32) (v7_46 : Int32) (o_triangle_46 : (Nat → Int32)) (o_takenBy_46 : Int32) : f_X7_row_L46 k_46 v1_46 v2_46 o_g 0 v3_46 v4_46 v5_46 v7_46 o_triangle_46 o_takenBy_46 = none := rfl
theorem f_X7_row_L46_s (k_46 : Int32 → Int32 → (Nat → Int32) → (Int32) → Option (Int32 × (Nat → Int32) × Int32)) (v1_46 : Int32) (v2_46 : Int32) (o_g : Nat → Int32) (fuel : Nat) (v3_46 : Int32) (v4_46 : Int32) (v5_46 : Int32) (v7_46 : Int32) (o_triangle_46 : (Nat → Int32)) (o_takenBy_46 : (Int32)) : f_X7_row_L46 k_46 v1_46 v2_46 o_g (fuel + 1) v3_46 v4_46 v5_46 v7_46 o_triangle_46 o_takenBy_46 = (Option.bind (f_X7_modulus o_g) (fun u_5 => (if ((¬ (u_5 ≤ v7_46)) ∧ (¬ ((2 : Int32) ≤ v2_46))) then (Option.bind (f_X7_countOf v1_46 v7_46 o_g o_triangle_46 o_takenBy_46) (fun u_8 => (f_X7_row_L46 k_46 v1_46 v2_46 o_g fuel (v3_46 + (if (¬ (u_8.1 ≤ 0)) then (1 : Int32) else (0 : Int32))) (if (u_8.1 ≤ v5_46) then v4_46 else v7_46) (if v5_46 < u_8.1 then u_8.1 else v5_46) (v7_46 + (1 : Int32)) u_8.2.1 u_8.2.2))) else (k_46 v3_46 v4_46 o_triangle_46 o_takenBy_46)))) := rfl
def f_X7_row_L116 (k_116 : Int32 → Option (Int32 × (Nat → Int32) × Int32)) (v1_116 : Int32) (o_g : Nat → Int32) : Nat → Int32 → Int32 → Option (Int32 × (Nat → Int32) × Int32)
  | 0, _, _ => none
  | fuel + 1, v6_116, v7_116 => (if (v1_116 < v7_116) then (k_116 v6_116) else (Option.bind (f_X7_carries v1_116 v7_116 o_g) (fun u_19 => (f_X7_row_L116 k_116 v1_116 o_g fuel (if v6_116 < u_19 then u_19 else v6_116) (v7_116 + (1 : Int32))))))
theorem f_X7_row_L116_z (k_116 : Int32 → Option (Int32 × (Nat → Int32) × Int32)) (v1_116 : Int32) (o_g : Nat → Int32) (v6_116 : Int32) (v7_116 : Int32) : f_X7_row_L116 k_116 v1_116 o_g 0 v6_116 v7_116 = none := rfl
theorem f_X7_row_L116_s (k_116 : Int32 → Option (Int32 × (Nat → Int32) × Int32)) (v1_116 : Int32) (o_g : Nat → Int32) (fuel : Nat) (v6_116 : Int32) (v7_116 : Int32) : f_X7_row_L116 k_116 v1_116 o_g (fuel + 1) v6_116 v7_116 = (if (v1_116 < v7_116) then (k_116 v6_116) else (Option.bind (f_X7_carries v1_116 v7_116 o_g) (fun u_19 => (f_X7_row_L116 k_116 v1_116 o_g fuel (if v6_116 < u_19 then u_19 else v6_116) (v7_116 + (1 : Int32)))))) := rfl
def f_X7_row (p0 : Int32) (p1 : Int32) (o_g : Nat → Int32) (o_triangle : Nat → Int32) (o_takenBy : Int32) : Option (Int32 × (Nat → Int32) × Int32) := (if (((f_X7_isRow p0) = 0) ∨ ((f_X7_isIn (Int32.toInt64 p1) (0 : Int64) (3 : Int64)) = 0)) then (some ((-1 : Int32), o_triangle, o_takenBy)) else (if (p1 = (2 : Int32)) then (Option.bind (f_X7_sumOf p0 o_g o_triangle o_takenBy) (fun u_24 => (some (u_24.1, u_24.2.1, u_24.2.2)))) else (f_X7_row_L46 (fun x3_46 x4_46 xc_o_triangle_46 xc_o_takenBy_46 => (f_X7_row_L116 (fun x6_116 => (qn_ (if (p1 = 0) then x3_46 else (if (p1 = (1 : Int32)) then x4_46 else x6_116)) (fun y_21 => (some (y_21, xc_o_triangle_46, xc_o_takenBy_46))))) p0 o_g 5000 (0 : Int32) (0 : Int32))) p0 p1 o_g 5000 (0 : Int32) (0 : Int32) (0 : Int32) (0 : Int32) o_triangle o_takenBy)))
def f_X7_kind_L18 (k_18 : (Nat → Int32) → (Int32) → Option (Int32 × (Nat → Int32) × Int32)) (v1_18 : Int32) (o_g : Nat → Int32) : Nat → Int32 → Int32 → (Nat → Int32) → (Int32) → Option (Int32 × (Nat → Int32) × Int32)
  | 0, _, _, _, _ => none
  | fuel + 1, v3_18, v4_18, o_triangle_18, o_takenBy_18 => (Option.bind (f_X7_modulus o_g) (fun u_4 => (if (u_4 ≤ v4_18) then (k_18 o_triangle_18 o_takenBy_18) else (Option.bind (f_X7_countOf v1_18 v4_18 o_g o_triangle_18 o_takenBy_18) (fun u_6 => (if (u_6.1 ≤ 0) then (f_X7_kind_L18 k_18 v1_18 o_g fuel v3_18 (v4_18 + (1 : Int32)) u_6.2.1 u_6.2.2) else (if (v3_18 = 0) then (some (v4_18, u_6.2.1, u_6.2.2)) else (f_X7_kind_L18 k_18 v1_18 o_g fuel (v3_18 + (-1 : Int32)) (v4_18 + (1 : Int32)) u_6.2.1 u_6.2.2))))))))
theorem f_X7_kind_L18_z (k_18 : (Nat → Int32) → (Int32) → Option (Int32 × (Nat → Int32) × Int32)) (v1_18 : Int32) (o_g : Nat → Int32) (v3_18 : Int32) (v4_18 : Int32) (o_triangle_18 : (Nat → Int32)) (o_takenBy_18 : Int32) : f_X7_kind_L18 k_18 v1_18 o_g 0 v3_18 v4_18 o_triangle_18 o_takenBy_18 = none := rfl
theorem f_X7_kind_L18_s (k_18 : (Nat → Int32) → (Int32) → Option (Int32 × (Nat → Int32) × Int32)) (v1_18 : Int32) (o_g : Nat → Int32) (fuel : Nat) (v3_18 : Int32) (v4_18 : Int32) (o_triangle_18 : (Nat → Int32)) (o_takenBy_18 : (Int32)) : f_X7_kind_L18 k_18 v1_18 o_g (fuel + 1) v3_18 v4_18 o_triangle_18 o_takenBy_18 = (Option.bind (f_X7_modulus o_g) (fun u_4 => (if (u_4 ≤ v4_18) then (k_18 o_triangle_18 o_takenBy_18) else (Option.bind (f_X7_countOf v1_18 v4_18 o_g o_triangle_18 o_takenBy_18) (fun u_6 => (if (u_6.1 ≤ 0) then (f_X7_kind_L18 k_18 v1_18 o_g fuel v3_18 (v4_18 + (1 : Int32)) u_6.2.1 u_6.2.2) else (if (v3_18 = 0) then (some (v4_18, u_6.2.1, u_6.2.2)) else (f_X7_kind_L18 k_18 v1_18 o_g fuel (v3_18 + (-1 : Int32)) (v4_18 + (1 : Int32)) u_6.2.1 u_6.2.2)))))))) := rfl
def f_X7_kind (p0 : Int32) (p1 : Int32) (o_g : Nat → Int32) (o_triangle : Nat → Int32) (o_takenBy : Int32) : Option (Int32 × (Nat → Int32) × Int32) := (if (((f_X7_isRow p0) = 0) ∨ (¬ (0 ≤ p1))) then (some ((-1 : Int32), o_triangle, o_takenBy)) else (f_X7_kind_L18 (fun xc_o_triangle_18 xc_o_takenBy_18 => (some ((-5 : Int32), xc_o_triangle_18, xc_o_takenBy_18))) p0 o_g 5000 p1 (0 : Int32) o_triangle o_takenBy))
def f_X7_upTo_L32 (k_32 : Int32 → Int32 → Int32 → (Nat → Int32) → (Int32) → Option (Int32 × (Nat → Int32) × Int32)) (v1_32 : Int32) (o_g : Nat → Int32) : Nat → Int32 → Int32 → Int32 → Int32 → (Nat → Int32) → (Int32) → Option (Int32 × (Nat → Int32) × Int32)
  | 0, _, _, _, _, _, _ => none
  | fuel + 1, v3_32, v4_32, v5_32, v6_32, o_triangle_32, o_takenBy_32 => (if (v1_32 < v6_32) then (k_32 v3_32 v4_32 v5_32 o_triangle_32 o_takenBy_32) else (Option.bind (f_X7_countOf v6_32 (0 : Int32) o_g o_triangle_32 o_takenBy_32) (fun u_5 => (Option.bind (f_X7_countOf v5_32 (0 : Int32) o_g u_5.2.1 u_5.2.2) (fun u_10 => (f_X7_upTo_L32 k_32 v1_32 o_g fuel (v3_32 + (if (u_5.1 = 0) then (1 : Int32) else (0 : Int32))) (if (¬ (u_5.1 = 0)) then v4_32 else v6_32) (if (u_5.1 ≤ u_10.1) then v5_32 else v6_32) (v6_32 + (1 : Int32)) u_10.2.1 u_10.2.2))))))
theorem f_X7_upTo_L32_z (k_32 : Int32 → Int32 → Int32 → (Nat → Int32) → (Int32) → Option (Int32 × (Nat → Int32) × Int32)) (v1_32 : Int32) (o_g : Nat → Int32) (v3_32 : Int32) (v4_32 : Int32) (v5_32 : Int32) (v6_32 : Int32) (o_triangle_32 : (Nat → Int32)) (o_takenBy_32 : Int32) : f_X7_upTo_L32 k_32 v1_32 o_g 0 v3_32 v4_32 v5_32 v6_32 o_triangle_32 o_takenBy_32 = none := rfl
theorem f_X7_upTo_L32_s (k_32 : Int32 → Int32 → Int32 → (Nat → Int32) → (Int32) → Option (Int32 × (Nat → Int32) × Int32)) (v1_32 : Int32) (o_g : Nat → Int32) (fuel : Nat) (v3_32 : Int32) (v4_32 : Int32) (v5_32 : Int32) (v6_32 : Int32) (o_triangle_32 : (Nat → Int32)) (o_takenBy_32 : (Int32)) : f_X7_upTo_L32 k_32 v1_32 o_g (fuel + 1) v3_32 v4_32 v5_32 v6_32 o_triangle_32 o_takenBy_32 = (if (v1_32 < v6_32) then (k_32 v3_32 v4_32 v5_32 o_triangle_32 o_takenBy_32) else (Option.bind (f_X7_countOf v6_32 (0 : Int32) o_g o_triangle_32 o_takenBy_32) (fun u_5 => (Option.bind (f_X7_countOf v5_32 (0 : Int32) o_g u_5.2.1 u_5.2.2) (fun u_10 => (f_X7_upTo_L32 k_32 v1_32 o_g fuel (v3_32 + (if (u_5.1 = 0) then (1 : Int32) else (0 : Int32))) (if (¬ (u_5.1 = 0)) then v4_32 else v6_32) (if (u_5.1 ≤ u_10.1) then v5_32 else v6_32) (v6_32 + (1 : Int32)) u_10.2.1 u_10.2.2)))))) := rfl
def f_X7_upTo (p0 : Int32) (p1 : Int32) (o_g : Nat → Int32) (o_triangle : Nat → Int32) (o_takenBy : Int32) : Option (Int32 × (Nat → Int32) × Int32) := (if (((f_X7_isRow p0) = 0) ∨ ((f_X7_isIn (Int32.toInt64 p1) (0 : Int64) (2 : Int64)) = 0)) then (some ((-1 : Int32), o_triangle, o_takenBy)) else (f_X7_upTo_L32 (fun x3_32 x4_32 x5_32 xc_o_triangle_32 xc_o_takenBy_32 => (qn_ (if (p1 = 0) then x3_32 else (if (p1 = (1 : Int32)) then x4_32 else x5_32)) (fun y_17 => (some (y_17, xc_o_triangle_32, xc_o_takenBy_32))))) p0 o_g 5000 (0 : Int32) (0 : Int32) (0 : Int32) (0 : Int32) o_triangle o_takenBy))
def f_X7_picture_L18 (k_18 : Int32 → (Nat → Int32) → (Int32) → Option (Int32 × (Nat → Int32) × Int32)) (v1_18 : Int32) (o_g : Nat → Int32) : Nat → Int32 → Int32 → (Nat → Int32) → (Int32) → Option (Int32 × (Nat → Int32) × Int32)
  | 0, _, _, _, _ => none
  | fuel + 1, v2_18, v3_18, o_triangle_18, o_takenBy_18 => (if ((8 : Int32) ≤ v3_18) then (k_18 v2_18 o_triangle_18 o_takenBy_18) else (Option.bind (rd_ o_g 64 (2 : Int32)) (fun g_3 => (Option.bind (rd_ o_g 64 (3 : Int32)) (fun g_4 => (Option.bind (f_X7_isMarked (g_3 + v1_18) (g_4 + v3_18) o_g o_triangle_18 o_takenBy_18) (fun u_5 => (qn_ (if (u_5.1 = 0) then (0 : Int32) else ((1 : Int32) <<< (v3_18 &&& 31))) (fun y_7 => (f_X7_picture_L18 k_18 v1_18 o_g fuel (v2_18 ||| y_7) (v3_18 + (1 : Int32)) u_5.2.1 u_5.2.2))))))))))
theorem f_X7_picture_L18_z (k_18 : Int32 → (Nat → Int32) → (Int32) → Option (Int32 × (Nat → Int32) × Int32)) (v1_18 : Int32) (o_g : Nat → Int32) (v2_18 : Int32) (v3_18 : Int32) (o_triangle_18 : (Nat → Int32)) (o_takenBy_18 : Int32) : f_X7_picture_L18 k_18 v1_18 o_g 0 v2_18 v3_18 o_triangle_18 o_takenBy_18 = none := rfl
theorem f_X7_picture_L18_s (k_18 : Int32 → (Nat → Int32) → (Int32) → Option (Int32 × (Nat → Int32) × Int32)) (v1_18 : Int32) (o_g : Nat → Int32) (fuel : Nat) (v2_18 : Int32) (v3_18 : Int32) (o_triangle_18 : (Nat → Int32)) (o_takenBy_18 : (Int32)) : f_X7_picture_L18 k_18 v1_18 o_g (fuel + 1) v2_18 v3_18 o_triangle_18 o_takenBy_18 = (if ((8 : Int32) ≤ v3_18) then (k_18 v2_18 o_triangle_18 o_takenBy_18) else (Option.bind (rd_ o_g 64 (2 : Int32)) (fun g_3 => (Option.bind (rd_ o_g 64 (3 : Int32)) (fun g_4 => (Option.bind (f_X7_isMarked (g_3 + v1_18) (g_4 + v3_18) o_g o_triangle_18 o_takenBy_18) (fun u_5 => (qn_ (if (u_5.1 = 0) then (0 : Int32) else ((1 : Int32) <<< (v3_18 &&& 31))) (fun y_7 => (f_X7_picture_L18 k_18 v1_18 o_g fuel (v2_18 ||| y_7) (v3_18 + (1 : Int32)) u_5.2.1 u_5.2.2)))))))))) := rfl
def f_X7_picture (p0 : Int32) (o_g : Nat → Int32) (o_triangle : Nat → Int32) (o_takenBy : Int32) : Option (Int32 × (Nat → Int32) × Int32) := (if ((f_X7_isIn (Int32.toInt64 p0) (0 : Int64) (7 : Int64)) = 0) then (some ((-1 : Int32), o_triangle, o_takenBy)) else (f_X7_picture_L18 (fun x2_18 xc_o_triangle_18 xc_o_takenBy_18 => (some (x2_18, xc_o_triangle_18, xc_o_takenBy_18))) p0 o_g 5000 (0 : Int32) (0 : Int32) o_triangle o_takenBy))
def f_X7_areLike_L16 (k_16 : Int32 → (Nat → Int32) → (Int32) → Option (Int32 × (Nat → Int32) × Int32)) (v1_16 : Int32) (v2_16 : Int32) (v3_16 : Int32) (v4_16 : Int32) (v5_16 : Int32) (v7_16 : Int32) (o_g : Nat → Int32) : Nat → Int32 → Int32 → (Nat → Int32) → (Int32) → Option (Int32 × (Nat → Int32) × Int32)
  | 0, _, _, _, _ => none
  | fuel + 1, v6_16, v8_16, o_triangle_16, o_takenBy_16 => (if (v5_16 ≤ v8_16) then (k_16 v6_16 o_triangle_16 o_takenBy_16) else (Option.bind (f_X7_remainder (v1_16 + v7_16) (v2_16 + v8_16) o_g o_triangle_16 o_takenBy_16) (fun u_3 => (Option.bind (f_X7_remainder (v3_16 + v7_16) (v4_16 + v8_16) o_g u_3.2.1 u_3.2.2) (fun u_4 => (f_X7_areLike_L16 k_16 v1_16 v2_16 v3_16 v4_16 v5_16 v7_16 o_g fuel (v6_16 &&& (if (u_3.1 = u_4.1) then (1 : Int32) else (0 : Int32))) (v8_16 + (1 : Int32)) u_4.2.1 u_4.2.2))))))
theorem f_X7_areLike_L16_z (k_16 : Int32 → (Nat → Int32) → (Int32) → Option (Int32 × (Nat → Int32) × Int32)) (v1_16 : Int32) (v2_16 : Int32) (v3_16 : Int32) (v4_16 : Int32) (v5_16 : Int32) (v7_16 : Int32) (o_g : Nat → Int32) (v6_16 : Int32) (v8_16 : Int32) (o_triangle_16 : (Nat → Int32)) (o_takenBy_16 : Int32) : f_X7_areLike_L16 k_16 v1_16 v2_16 v3_16 v4_16 v5_16 v7_16 o_g 0 v6_16 v8_16 o_triangle_16 o_takenBy_16 = none := rfl
theorem f_X7_areLike_L16_s (k_16 : Int32 → (Nat → Int32) → (Int32) → Option (Int32 × (Nat → Int32) × Int32)) (v1_16 : Int32) (v2_16 : Int32) (v3_16 : Int32) (v4_16 : Int32) (v5_16 : Int32) (v7_16 : Int32) (o_g : Nat → Int32) (fuel : Nat) (v6_16 : Int32) (v8_16 : Int32) (o_triangle_16 : (Nat → Int32)) (o_takenBy_16 : (Int32)) : f_X7_areLike_L16 k_16 v1_16 v2_16 v3_16 v4_16 v5_16 v7_16 o_g (fuel + 1) v6_16 v8_16 o_triangle_16 o_takenBy_16 = (if (v5_16 ≤ v8_16) then (k_16 v6_16 o_triangle_16 o_takenBy_16) else (Option.bind (f_X7_remainder (v1_16 + v7_16) (v2_16 + v8_16) o_g o_triangle_16 o_takenBy_16) (fun u_3 => (Option.bind (f_X7_remainder (v3_16 + v7_16) (v4_16 + v8_16) o_g u_3.2.1 u_3.2.2) (fun u_4 => (f_X7_areLike_L16 k_16 v1_16 v2_16 v3_16 v4_16 v5_16 v7_16 o_g fuel (v6_16 &&& (if (u_3.1 = u_4.1) then (1 : Int32) else (0 : Int32))) (v8_16 + (1 : Int32)) u_4.2.1 u_4.2.2)))))) := rfl
def f_X7_areLike_L6 (k_6 : Int32 → (Nat → Int32) → (Int32) → Option (Int32 × (Nat → Int32) × Int32)) (v1_6 : Int32) (v2_6 : Int32) (v3_6 : Int32) (v4_6 : Int32) (v5_6 : Int32) (o_g : Nat → Int32) : Nat → Int32 → Int32 → (Nat → Int32) → (Int32) → Option (Int32 × (Nat → Int32) × Int32)
  | 0, _, _, _, _ => none
  | fuel + 1, v6_6, v7_6, o_triangle_6, o_takenBy_6 => (if (v5_6 ≤ v7_6) then (k_6 v6_6 o_triangle_6 o_takenBy_6) else (f_X7_areLike_L16 (fun x6_16 xc_o_triangle_16 xc_o_takenBy_16 => (f_X7_areLike_L6 k_6 v1_6 v2_6 v3_6 v4_6 v5_6 o_g fuel x6_16 (v7_6 + (1 : Int32)) xc_o_triangle_16 xc_o_takenBy_16)) v1_6 v2_6 v3_6 v4_6 v5_6 v7_6 o_g 5000 v6_6 (0 : Int32) o_triangle_6 o_takenBy_6))
theorem f_X7_areLike_L6_z (k_6 : Int32 → (Nat → Int32) → (Int32) → Option (Int32 × (Nat → Int32) × Int32)) (v1_6 : Int32) (v2_6 : Int32) (v3_6 : Int32) (v4_6 : Int32) (v5_6 : Int32) (o_g : Nat → Int32) (v6_6 : Int32) (v7_6 : Int32) (o_triangle_6 : (Nat → Int32)) (o_takenBy_6 : Int32) : f_X7_areLike_L6 k_6 v1_6 v2_6 v3_6 v4_6 v5_6 o_g 0 v6_6 v7_6 o_triangle_6 o_takenBy_6 = none := rfl
theorem f_X7_areLike_L6_s (k_6 : Int32 → (Nat → Int32) → (Int32) → Option (Int32 × (Nat → Int32) × Int32)) (v1_6 : Int32) (v2_6 : Int32) (v3_6 : Int32) (v4_6 : Int32) (v5_6 : Int32) (o_g : Nat → Int32) (fuel : Nat) (v6_6 : Int32) (v7_6 : Int32) (o_triangle_6 : (Nat → Int32)) (o_takenBy_6 : (Int32)) : f_X7_areLike_L6 k_6 v1_6 v2_6 v3_6 v4_6 v5_6 o_g (fuel + 1) v6_6 v7_6 o_triangle_6 o_takenBy_6 = (if (v5_6 ≤ v7_6) then (k_6 v6_6 o_triangle_6 o_takenBy_6) else (f_X7_areLike_L16 (fun x6_16 xc_o_triangle_16 xc_o_takenBy_16 => (f_X7_areLike_L6 k_6 v1_6 v2_6 v3_6 v4_6 v5_6 o_g fuel x6_16 (v7_6 + (1 : Int32)) xc_o_triangle_16 xc_o_takenBy_16)) v1_6 v2_6 v3_6 v4_6 v5_6 v7_6 o_g 5000 v6_6 (0 : Int32) o_triangle_6 o_takenBy_6)) := rfl
def f_X7_areLike (p0 : Int32) (p1 : Int32) (p2 : Int32) (p3 : Int32) (p4 : Int32) (o_g : Nat → Int32) (o_triangle : Nat → Int32) (o_takenBy : Int32) : Option (Int32 × (Nat → Int32) × Int32) := (f_X7_areLike_L6 (fun x6_6 xc_o_triangle_6 xc_o_takenBy_6 => (Option.bind (bz_ x6_6) (fun _z_8 => (some (x6_6, xc_o_triangle_6, xc_o_takenBy_6))))) p0 p1 p2 p3 p4 o_g 5000 (1 : Int32) (0 : Int32) o_triangle o_takenBy)
def f_X7_like (p0 : Int32) (p1 : Int32) (p2 : Int32) (p3 : Int32) (p4 : Int32) (o_g : Nat → Int32) (o_triangle : Nat → Int32) (o_takenBy : Int32) : Option (Int32 × (Nat → Int32) × Int32) := (if (((f_X7_isRow p0) = 0) ∨ (((f_X7_isRow p1) = 0) ∨ (((f_X7_isRow p2) = 0) ∨ ((f_X7_isRow p3) = 0)))) then (some ((-1 : Int32), o_triangle, o_takenBy)) else (if ((f_X7_isIn (Int32.toInt64 p4) (1 : Int64) (32 : Int64)) = 0) then (some ((-2 : Int32), o_triangle, o_takenBy)) else (Option.bind (f_X7_areLike p0 p1 p2 p3 p4 o_g o_triangle o_takenBy) (fun u_5 => (some ((if (¬ (u_5.1 = 0)) then (1 : Int32) else (0 : Int32)), u_5.2.1, u_5.2.2))))))
def f_X7_scaled (p0 : Int32) (p1 : Int32) (o_g : Nat → Int32) (o_triangle : Nat → Int32) (o_takenBy : Int32) : Option (Int32 × (Nat → Int32) × Int32) := (if (((f_X7_isIn (Int32.toInt64 p0) (1 : Int64) (32 : Int64)) = 0) ∨ ((f_X7_isIn (Int32.toInt64 p1) (1 : Int64) (9 : Int64)) = 0)) then (some ((-2 : Int32), o_triangle, o_takenBy)) else (Option.bind (f_X7_areLike (0 : Int32) (0 : Int32) (p1 * p0) (0 : Int32) p0 o_g o_triangle o_takenBy) (fun u_4 => (some ((if (¬ (u_4.1 = 0)) then (1 : Int32) else (0 : Int32)), u_4.2.1, u_4.2.2)))))
def f_X7_see (p0 : Int32) (p1 : Int32) (p2 : Int32) (o_g : Nat → Int32) : Option (Int32 × (Nat → Int32)) := (if (p0 = (-1 : Int32)) then (Option.bind (wr_ o_g 64 (17 : Int32) (0 : Int32)) (fun w_13 => (some ((0 : Int32), w_13)))) else (if ((f_X7_isPlace p0 p1) = 0) then (some ((-1 : Int32), o_g)) else (if ((f_X7_isIn (Int32.toInt64 p2) (0 : Int64) (2400 : Int64)) = 0) then (some ((-2 : Int32), o_g)) else (Option.bind (rd_ o_g 64 (17 : Int32)) (fun g_4 => (if (g_4 = (4 : Int32)) then (some ((-4 : Int32), o_g)) else (Option.bind (rd_ o_g 64 (17 : Int32)) (fun g_6 => (Option.bind (wr_ o_g 64 ((18 : Int32) + ((3 : Int32) * g_6)) p0) (fun w_7 => (Option.bind (wr_ w_7 64 (((18 : Int32) + ((3 : Int32) * g_6)) + (1 : Int32)) p1) (fun w_8 => (Option.bind (wr_ w_8 64 (((18 : Int32) + ((3 : Int32) * g_6)) + (2 : Int32)) p2) (fun w_9 => (Option.bind (rd_ w_9 64 (17 : Int32)) (fun g_10 => (Option.bind (wr_ w_9 64 (17 : Int32) (g_10 + (1 : Int32))) (fun w_11 => (Option.bind (rd_ w_11 64 (17 : Int32)) (fun g_12 => (some (g_12, w_11))))))))))))))))))))))
def f_X7_fits_L40 (k_40 : Int32 → Option (Int32 × (Nat → Int32) × Int32)) (o_triangle_40 : Nat → Int32) (o_g : Nat → Int32) : Nat → Int32 → Int32 → Option (Int32 × (Nat → Int32) × Int32)
  | 0, _, _ => none
  | fuel + 1, v3_40, v4_40 => (Option.bind (rd_ o_g 64 (17 : Int32)) (fun g_7 => (if (g_7 ≤ v4_40) then (k_40 v3_40) else (Option.bind (rd_ o_g 64 ((18 : Int32) + ((3 : Int32) * v4_40))) (fun g_9 => (Option.bind (rd_ o_g 64 (((18 : Int32) + ((3 : Int32) * v4_40)) + (1 : Int32))) (fun g_10 => (Option.bind (rd_ o_triangle_40 16384 (((128 : Int32) * g_9) + g_10)) (fun g_11 => (Option.bind (rd_ o_g 64 (((18 : Int32) + ((3 : Int32) * v4_40)) + (2 : Int32))) (fun g_12 => (f_X7_fits_L40 k_40 o_triangle_40 o_g fuel (v3_40 &&& (if (g_11 = g_12) then (1 : Int32) else (0 : Int32))) (v4_40 + (1 : Int32))))))))))))))
theorem f_X7_fits_L40_z (k_40 : Int32 → Option (Int32 × (Nat → Int32) × Int32)) (o_triangle_40 : Nat → Int32) (o_g : Nat → Int32) (v3_40 : Int32) (v4_40 : Int32) : f_X7_fits_L40 k_40 o_triangle_40 o_g 0 v3_40 v4_40 = none := rfl
theorem f_X7_fits_L40_s (k_40 : Int32 → Option (Int32 × (Nat → Int32) × Int32)) (o_triangle_40 : Nat → Int32) (o_g : Nat → Int32) (fuel : Nat) (v3_40 : Int32) (v4_40 : Int32) : f_X7_fits_L40 k_40 o_triangle_40 o_g (fuel + 1) v3_40 v4_40 = (Option.bind (rd_ o_g 64 (17 : Int32)) (fun g_7 => (if (g_7 ≤ v4_40) then (k_40 v3_40) else (Option.bind (rd_ o_g 64 ((18 : Int32) + ((3 : Int32) * v4_40))) (fun g_9 => (Option.bind (rd_ o_g 64 (((18 : Int32) + ((3 : Int32) * v4_40)) + (1 : Int32))) (fun g_10 => (Option.bind (rd_ o_triangle_40 16384 (((128 : Int32) * g_9) + g_10)) (fun g_11 => (Option.bind (rd_ o_g 64 (((18 : Int32) + ((3 : Int32) * v4_40)) + (2 : Int32))) (fun g_12 => (f_X7_fits_L40 k_40 o_triangle_40 o_g fuel (v3_40 &&& (if (g_11 = g_12) then (1 : Int32) else (0 : Int32))) (v4_40 + (1 : Int32)))))))))))))) := rfl
def f_X7_fits_L4 (k_4 : Int32 → (Nat → Int32) → (Int32) → Option (Int32 × (Nat → Int32) × Int32)) (o_g : Nat → Int32) : Nat → Int32 → Int32 → (Nat → Int32) → (Int32) → Option (Int32 × (Nat → Int32) × Int32)
  | 0, _, _, _, _ => none
  | fuel + 1, v1_4, v2_4, o_triangle_4, o_takenBy_4 => (if ((4 : Int32) ≤ v2_4) then (k_4 v1_4 o_triangle_4 o_takenBy_4) else (qn_ (if (¬ (v2_4 = 0)) then (((2 : Int32) * v2_4) + (1 : Int32)) else (2 : Int32)) (fun y_3 => (Option.bind (rd_ o_g 64 (1 : Int32)) (fun g_4 => (Option.bind (f_X7_power y_3 g_4) (fun u_5 => (Option.bind (f_X7_takes u_5 o_triangle_4 o_takenBy_4) (fun u_6 => (f_X7_fits_L40 (fun x3_40 => (qn_ (v1_4 ||| (if (x3_40 = 0) then (0 : Int32) else ((1 : Int32) <<< (v2_4 &&& 31)))) (fun x_18 => (f_X7_fits_L4 k_4 o_g fuel x_18 (v2_4 + (1 : Int32)) u_6.1 u_6.2)))) u_6.1 o_g 5000 (1 : Int32) (0 : Int32)))))))))))
theorem f_X7_fits_L4_z (k_4 : Int32 → (Nat → Int32) → (Int32) → Option (Int32 × (Nat → Int32) × Int32)) (o_g : Nat → Int32) (v1_4 : Int32) (v2_4 : Int32) (o_triangle_4 : (Nat → Int32)) (o_takenBy_4 : Int32) : f_X7_fits_L4 k_4 o_g 0 v1_4 v2_4 o_triangle_4 o_takenBy_4 = none := rfl
theorem f_X7_fits_L4_s (k_4 : Int32 → (Nat → Int32) → (Int32) → Option (Int32 × (Nat → Int32) × Int32)) (o_g : Nat → Int32) (fuel : Nat) (v1_4 : Int32) (v2_4 : Int32) (o_triangle_4 : (Nat → Int32)) (o_takenBy_4 : (Int32)) : f_X7_fits_L4 k_4 o_g (fuel + 1) v1_4 v2_4 o_triangle_4 o_takenBy_4 = (if ((4 : Int32) ≤ v2_4) then (k_4 v1_4 o_triangle_4 o_takenBy_4) else (qn_ (if (¬ (v2_4 = 0)) then (((2 : Int32) * v2_4) + (1 : Int32)) else (2 : Int32)) (fun y_3 => (Option.bind (rd_ o_g 64 (1 : Int32)) (fun g_4 => (Option.bind (f_X7_power y_3 g_4) (fun u_5 => (Option.bind (f_X7_takes u_5 o_triangle_4 o_takenBy_4) (fun u_6 => (f_X7_fits_L40 (fun x3_40 => (qn_ (v1_4 ||| (if (x3_40 = 0) then (0 : Int32) else ((1 : Int32) <<< (v2_4 &&& 31)))) (fun x_18 => (f_X7_fits_L4 k_4 o_g fuel x_18 (v2_4 + (1 : Int32)) u_6.1 u_6.2)))) u_6.1 o_g 5000 (1 : Int32) (0 : Int32))))))))))) := rfl
def f_X7_fits (o_g : Nat → Int32) (o_triangle : Nat → Int32) (o_takenBy : Int32) : Option (Int32 × (Nat → Int32) × Int32) := (f_X7_fits_L4 (fun x1_4 xc_o_triangle_4 xc_o_takenBy_4 => (some (x1_4, xc_o_triangle_4, xc_o_takenBy_4))) o_g 5000 (0 : Int32) (0 : Int32) o_triangle o_takenBy)
def f_X7_common : Nat → Int32 → Int32 → Option (Int32)
  | 0, _, _ => none
  | fuel + 1, p0, p1 => (if (p1 = 0) then (some p0) else (Option.bind (md_ p0 p1) (fun d_2 => (Option.bind (f_X7_common fuel p1 d_2) (fun u_3 => (some u_3))))))
theorem f_X7_common_z (p0 : Int32) (p1 : Int32) : f_X7_common 0 p0 p1 = none := rfl
theorem f_X7_common_s (fuel : Nat) (p0 : Int32) (p1 : Int32) : f_X7_common (fuel + 1) p0 p1 = (if (p1 = 0) then (some p0) else (Option.bind (md_ p0 p1) (fun d_2 => (Option.bind (f_X7_common fuel p1 d_2) (fun u_3 => (some u_3)))))) := rfl
def f_X7_fraction (p0 : Int32) (p1 : Int32) (p2 : Int32) : Option (Int64) := (Option.bind (f_X7_common 200 p1 p0) (fun u_3 => (Option.bind (dv_ (if (¬ (p2 = 0)) then p1 else p0) u_3) (fun d_4 => (some (Int32.toInt64 d_4))))))
def f_X7_odds_L35 (k_35 : Int32 → (Nat → Int32) → (Int32) → Option (Int64 × (Nat → Int32) × Int32)) (v1_35 : Int32) (v2_35 : Int32) (v3_35 : Int32) (o_g : Nat → Int32) : Nat → Int32 → Int32 → (Nat → Int32) → (Int32) → Option (Int64 × (Nat → Int32) × Int32)
  | 0, _, _, _, _ => none
  | fuel + 1, v5_35, v6_35, o_triangle_35, o_takenBy_35 => (if (v1_35 < v6_35) then (k_35 v5_35 o_triangle_35 o_takenBy_35) else (Option.bind (f_X7_tells v2_35 v1_35 v6_35 o_g o_triangle_35 o_takenBy_35) (fun u_5 => (f_X7_odds_L35 k_35 v1_35 v2_35 v3_35 o_g fuel (v5_35 + (if (u_5.1 = v3_35) then (1 : Int32) else (0 : Int32))) (v6_35 + (1 : Int32)) u_5.2.1 u_5.2.2))))
theorem f_X7_odds_L35_z (k_35 : Int32 → (Nat → Int32) → (Int32) → Option (Int64 × (Nat → Int32) × Int32)) (v1_35 : Int32) (v2_35 : Int32) (v3_35 : Int32) (o_g : Nat → Int32) (v5_35 : Int32) (v6_35 : Int32) (o_triangle_35 : (Nat → Int32)) (o_takenBy_35 : Int32) : f_X7_odds_L35 k_35 v1_35 v2_35 v3_35 o_g 0 v5_35 v6_35 o_triangle_35 o_takenBy_35 = none := rfl
theorem f_X7_odds_L35_s (k_35 : Int32 → (Nat → Int32) → (Int32) → Option (Int64 × (Nat → Int32) × Int32)) (v1_35 : Int32) (v2_35 : Int32) (v3_35 : Int32) (o_g : Nat → Int32) (fuel : Nat) (v5_35 : Int32) (v6_35 : Int32) (o_triangle_35 : (Nat → Int32)) (o_takenBy_35 : (Int32)) : f_X7_odds_L35 k_35 v1_35 v2_35 v3_35 o_g (fuel + 1) v5_35 v6_35 o_triangle_35 o_takenBy_35 = (if (v1_35 < v6_35) then (k_35 v5_35 o_triangle_35 o_takenBy_35) else (Option.bind (f_X7_tells v2_35 v1_35 v6_35 o_g o_triangle_35 o_takenBy_35) (fun u_5 => (f_X7_odds_L35 k_35 v1_35 v2_35 v3_35 o_g fuel (v5_35 + (if (u_5.1 = v3_35) then (1 : Int32) else (0 : Int32))) (v6_35 + (1 : Int32)) u_5.2.1 u_5.2.2)))) := rfl
def f_X7_odds (p0 : Int32) (p1 : Int32) (p2 : Int32) (p3 : Int32) (o_g : Nat → Int32) (o_triangle : Nat → Int32) (o_takenBy : Int32) : Option (Int64 × (Nat → Int32) × Int32) := (if (((f_X7_isRow p0) = 0) ∨ (((f_X7_isKind p1) = 0) ∨ ((f_X7_isIn (Int32.toInt64 p3) (0 : Int64) (1 : Int64)) = 0))) then (some ((-9223372036854775808 : Int64), o_triangle, o_takenBy)) else (f_X7_odds_L35 (fun x5_35 xc_o_triangle_35 xc_o_takenBy_35 => (Option.bind (f_X7_fraction x5_35 (p0 + (1 : Int32)) p3) (fun u_9 => (some (u_9, xc_o_triangle_35, xc_o_takenBy_35))))) p0 p1 p2 o_g 5000 (0 : Int32) (0 : Int32) o_triangle o_takenBy))
def f_X7_mean (p0 : Int32) (p1 : Int32) (o_g : Nat → Int32) (o_triangle : Nat → Int32) (o_takenBy : Int32) : Option (Int64 × (Nat → Int32) × Int32) := (if ((¬ ((f_X7_isRow p0) = 0)) ∧ (¬ ((f_X7_isIn (Int32.toInt64 p1) (0 : Int64) (1 : Int64)) = 0))) then (Option.bind (f_X7_sumOf p0 o_g o_triangle o_takenBy) (fun u_3 => (Option.bind (f_X7_fraction u_3.1 (p0 + (1 : Int32)) p1) (fun u_4 => (some (u_4, u_3.2.1, u_3.2.2)))))) else (some ((-9223372036854775808 : Int64), o_triangle, o_takenBy)))
def f_X7_event (p0 : Int32) (p1 : Int32) (o_g : Nat → Int32) : Option (Int32 × (Nat → Int32)) := (if (p0 = (-1 : Int32)) then (Option.bind (wr_ o_g 64 (30 : Int32) (0 : Int32)) (fun w_21 => (some ((0 : Int32), w_21)))) else (if ((f_X7_isIn (Int32.toInt64 p0) (0 : Int64) (3 : Int64)) = 0) then (some ((-1 : Int32), o_g)) else (if ((f_X7_isIn (Int32.toInt64 p1) (if (¬ (p0 = (1 : Int32))) then (0 : Int64) else (1 : Int64)) (if (p0 = 0) then (0 : Int64) else (if (p0 = (1 : Int32)) then (4 : Int64) else (if (p0 = (2 : Int32)) then (99 : Int64) else (5 : Int64))))) = 0) then (some ((-2 : Int32), o_g)) else (Option.bind (rd_ o_g 64 (30 : Int32)) (fun g_8 => (if (g_8 = (8 : Int32)) then (some ((-4 : Int32), o_g)) else (Option.bind (rd_ o_g 64 (30 : Int32)) (fun g_10 => (Option.bind (wr_ o_g 64 ((31 : Int32) + ((2 : Int32) * g_10)) p0) (fun w_11 => (Option.bind (rd_ w_11 64 (30 : Int32)) (fun g_12 => (Option.bind (wr_ w_11 64 ((32 : Int32) + ((2 : Int32) * g_12)) p1) (fun w_13 => (Option.bind (rd_ w_13 64 (30 : Int32)) (fun g_14 => (Option.bind (wr_ w_13 64 (30 : Int32) (g_14 + (1 : Int32))) (fun w_15 => (Option.bind (rd_ w_15 64 (30 : Int32)) (fun g_16 => (some (g_16, w_15))))))))))))))))))))))
def f_X7_happens_L112 (k_112 : (Nat → Int32) → Option ((Nat → Int32)))  : Nat → Int32 → (Nat → Int32) → Option ((Nat → Int32))
  | 0, _, _ => none
  | fuel + 1, v3_112, o_g_112 => (Option.bind (rd_ o_g_112 64 (4 : Int32)) (fun g_9 => (if (((2 : Int32) * g_9) ≤ v3_112) then (k_112 o_g_112) else (Option.bind (rd_ o_g_112 64 ((7 : Int32) + v3_112)) (fun g_11 => (Option.bind (wr_ o_g_112 64 ((5 : Int32) + v3_112) g_11) (fun w_12 => (f_X7_happens_L112 k_112 fuel (v3_112 + (1 : Int32)) w_12))))))))
theorem f_X7_happens_L112_z (k_112 : (Nat → Int32) → Option ((Nat → Int32)))  (v3_112 : Int32) (o_g_112 : (Nat → Int32)) : f_X7_happens_L112 k_112  0 v3_112 o_g_112 = none := rfl
theorem f_X7_happens_L112_s (k_112 : (Nat → Int32) → Option ((Nat → Int32)))  (fuel : Nat) (v3_112 : Int32) (o_g_112 : (Nat → Int32)) : f_X7_happens_L112 k_112  (fuel + 1) v3_112 o_g_112 = (Option.bind (rd_ o_g_112 64 (4 : Int32)) (fun g_9 => (if (((2 : Int32) * g_9) ≤ v3_112) then (k_112 o_g_112) else (Option.bind (rd_ o_g_112 64 ((7 : Int32) + v3_112)) (fun g_11 => (Option.bind (wr_ o_g_112 64 ((5 : Int32) + v3_112) g_11) (fun w_12 => (f_X7_happens_L112 k_112 fuel (v3_112 + (1 : Int32)) w_12)))))))) := rfl
def f_X7_happens (p0 : Int32) (p1 : Int32) (o_g : Nat → Int32) : Option ((Nat → Int32)) := (if (p0 = 0) then (Option.bind (rd_ o_g 64 (0 : Int32)) (fun g_46 => (if (g_46 = (2 : Int32)) then (Option.bind (wr_ o_g 64 (0 : Int32) (3 : Int32)) (fun w_141 => (if (p0 = (1 : Int32)) then (Option.bind (wr_ w_141 64 (1 : Int32) p1) (fun w_164 => (if (p0 = (2 : Int32)) then (Option.bind (rd_ w_164 64 (2 : Int32)) (fun g_175 => (Option.bind (wr_ w_164 64 (2 : Int32) (if (g_175 + p1) < (127 : Int32) then (g_175 + p1) else (127 : Int32))) (fun w_176 => (if (p0 = (3 : Int32)) then (Option.bind (rd_ w_176 64 (4 : Int32)) (fun g_178 => (if (g_178 ≤ p1) then (some w_176) else (Option.bind (rd_ w_176 64 (4 : Int32)) (fun g_180 => (Option.bind (wr_ w_176 64 (4 : Int32) (g_180 - (1 : Int32))) (fun w_181 => (f_X7_happens_L112 (fun xc_o_g_112 => (some xc_o_g_112))  5000 ((2 : Int32) * p1) w_181)))))))) else (some w_176)))))) else (if (p0 = (3 : Int32)) then (Option.bind (rd_ w_164 64 (4 : Int32)) (fun g_167 => (if (g_167 ≤ p1) then (some w_164) else (Option.bind (rd_ w_164 64 (4 : Int32)) (fun g_169 => (Option.bind (wr_ w_164 64 (4 : Int32) (g_169 - (1 : Int32))) (fun w_170 => (f_X7_happens_L112 (fun xc_o_g_112 => (some xc_o_g_112))  5000 ((2 : Int32) * p1) w_170)))))))) else (some w_164))))) else (if (p0 = (2 : Int32)) then (Option.bind (rd_ w_141 64 (2 : Int32)) (fun g_153 => (Option.bind (wr_ w_141 64 (2 : Int32) (if (g_153 + p1) < (127 : Int32) then (g_153 + p1) else (127 : Int32))) (fun w_154 => (if (p0 = (3 : Int32)) then (Option.bind (rd_ w_154 64 (4 : Int32)) (fun g_156 => (if (g_156 ≤ p1) then (some w_154) else (Option.bind (rd_ w_154 64 (4 : Int32)) (fun g_158 => (Option.bind (wr_ w_154 64 (4 : Int32) (g_158 - (1 : Int32))) (fun w_159 => (f_X7_happens_L112 (fun xc_o_g_112 => (some xc_o_g_112))  5000 ((2 : Int32) * p1) w_159)))))))) else (some w_154)))))) else (if (p0 = (3 : Int32)) then (Option.bind (rd_ w_141 64 (4 : Int32)) (fun g_145 => (if (g_145 ≤ p1) then (some w_141) else (Option.bind (rd_ w_141 64 (4 : Int32)) (fun g_147 => (Option.bind (wr_ w_141 64 (4 : Int32) (g_147 - (1 : Int32))) (fun w_148 => (f_X7_happens_L112 (fun xc_o_g_112 => (some xc_o_g_112))  5000 ((2 : Int32) * p1) w_148)))))))) else (some w_141)))))) else (Option.bind (rd_ o_g 64 (0 : Int32)) (fun g_48 => (if (g_48 = (7 : Int32)) then (Option.bind (wr_ o_g 64 (0 : Int32) (2 : Int32)) (fun w_96 => (if (p0 = (1 : Int32)) then (Option.bind (wr_ w_96 64 (1 : Int32) p1) (fun w_119 => (if (p0 = (2 : Int32)) then (Option.bind (rd_ w_119 64 (2 : Int32)) (fun g_130 => (Option.bind (wr_ w_119 64 (2 : Int32) (if (g_130 + p1) < (127 : Int32) then (g_130 + p1) else (127 : Int32))) (fun w_131 => (if (p0 = (3 : Int32)) then (Option.bind (rd_ w_131 64 (4 : Int32)) (fun g_133 => (if (g_133 ≤ p1) then (some w_131) else (Option.bind (rd_ w_131 64 (4 : Int32)) (fun g_135 => (Option.bind (wr_ w_131 64 (4 : Int32) (g_135 - (1 : Int32))) (fun w_136 => (f_X7_happens_L112 (fun xc_o_g_112 => (some xc_o_g_112))  5000 ((2 : Int32) * p1) w_136)))))))) else (some w_131)))))) else (if (p0 = (3 : Int32)) then (Option.bind (rd_ w_119 64 (4 : Int32)) (fun g_122 => (if (g_122 ≤ p1) then (some w_119) else (Option.bind (rd_ w_119 64 (4 : Int32)) (fun g_124 => (Option.bind (wr_ w_119 64 (4 : Int32) (g_124 - (1 : Int32))) (fun w_125 => (f_X7_happens_L112 (fun xc_o_g_112 => (some xc_o_g_112))  5000 ((2 : Int32) * p1) w_125)))))))) else (some w_119))))) else (if (p0 = (2 : Int32)) then (Option.bind (rd_ w_96 64 (2 : Int32)) (fun g_108 => (Option.bind (wr_ w_96 64 (2 : Int32) (if (g_108 + p1) < (127 : Int32) then (g_108 + p1) else (127 : Int32))) (fun w_109 => (if (p0 = (3 : Int32)) then (Option.bind (rd_ w_109 64 (4 : Int32)) (fun g_111 => (if (g_111 ≤ p1) then (some w_109) else (Option.bind (rd_ w_109 64 (4 : Int32)) (fun g_113 => (Option.bind (wr_ w_109 64 (4 : Int32) (g_113 - (1 : Int32))) (fun w_114 => (f_X7_happens_L112 (fun xc_o_g_112 => (some xc_o_g_112))  5000 ((2 : Int32) * p1) w_114)))))))) else (some w_109)))))) else (if (p0 = (3 : Int32)) then (Option.bind (rd_ w_96 64 (4 : Int32)) (fun g_100 => (if (g_100 ≤ p1) then (some w_96) else (Option.bind (rd_ w_96 64 (4 : Int32)) (fun g_102 => (Option.bind (wr_ w_96 64 (4 : Int32) (g_102 - (1 : Int32))) (fun w_103 => (f_X7_happens_L112 (fun xc_o_g_112 => (some xc_o_g_112))  5000 ((2 : Int32) * p1) w_103)))))))) else (some w_96)))))) else (Option.bind (rd_ o_g 64 (0 : Int32)) (fun g_50 => (Option.bind (wr_ o_g 64 (0 : Int32) (g_50 + (2 : Int32))) (fun w_51 => (if (p0 = (1 : Int32)) then (Option.bind (wr_ w_51 64 (1 : Int32) p1) (fun w_74 => (if (p0 = (2 : Int32)) then (Option.bind (rd_ w_74 64 (2 : Int32)) (fun g_85 => (Option.bind (wr_ w_74 64 (2 : Int32) (if (g_85 + p1) < (127 : Int32) then (g_85 + p1) else (127 : Int32))) (fun w_86 => (if (p0 = (3 : Int32)) then (Option.bind (rd_ w_86 64 (4 : Int32)) (fun g_88 => (if (g_88 ≤ p1) then (some w_86) else (Option.bind (rd_ w_86 64 (4 : Int32)) (fun g_90 => (Option.bind (wr_ w_86 64 (4 : Int32) (g_90 - (1 : Int32))) (fun w_91 => (f_X7_happens_L112 (fun xc_o_g_112 => (some xc_o_g_112))  5000 ((2 : Int32) * p1) w_91)))))))) else (some w_86)))))) else (if (p0 = (3 : Int32)) then (Option.bind (rd_ w_74 64 (4 : Int32)) (fun g_77 => (if (g_77 ≤ p1) then (some w_74) else (Option.bind (rd_ w_74 64 (4 : Int32)) (fun g_79 => (Option.bind (wr_ w_74 64 (4 : Int32) (g_79 - (1 : Int32))) (fun w_80 => (f_X7_happens_L112 (fun xc_o_g_112 => (some xc_o_g_112))  5000 ((2 : Int32) * p1) w_80)))))))) else (some w_74))))) else (if (p0 = (2 : Int32)) then (Option.bind (rd_ w_51 64 (2 : Int32)) (fun g_63 => (Option.bind (wr_ w_51 64 (2 : Int32) (if (g_63 + p1) < (127 : Int32) then (g_63 + p1) else (127 : Int32))) (fun w_64 => (if (p0 = (3 : Int32)) then (Option.bind (rd_ w_64 64 (4 : Int32)) (fun g_66 => (if (g_66 ≤ p1) then (some w_64) else (Option.bind (rd_ w_64 64 (4 : Int32)) (fun g_68 => (Option.bind (wr_ w_64 64 (4 : Int32) (g_68 - (1 : Int32))) (fun w_69 => (f_X7_happens_L112 (fun xc_o_g_112 => (some xc_o_g_112))  5000 ((2 : Int32) * p1) w_69)))))))) else (some w_64)))))) else (if (p0 = (3 : Int32)) then (Option.bind (rd_ w_51 64 (4 : Int32)) (fun g_55 => (if (g_55 ≤ p1) then (some w_51) else (Option.bind (rd_ w_51 64 (4 : Int32)) (fun g_57 => (Option.bind (wr_ w_51 64 (4 : Int32) (g_57 - (1 : Int32))) (fun w_58 => (f_X7_happens_L112 (fun xc_o_g_112 => (some xc_o_g_112))  5000 ((2 : Int32) * p1) w_58)))))))) else (some w_51)))))))))))))) else (if (p0 = (1 : Int32)) then (Option.bind (wr_ o_g 64 (1 : Int32) p1) (fun w_24 => (if (p0 = (2 : Int32)) then (Option.bind (rd_ w_24 64 (2 : Int32)) (fun g_35 => (Option.bind (wr_ w_24 64 (2 : Int32) (if (g_35 + p1) < (127 : Int32) then (g_35 + p1) else (127 : Int32))) (fun w_36 => (if (p0 = (3 : Int32)) then (Option.bind (rd_ w_36 64 (4 : Int32)) (fun g_38 => (if (g_38 ≤ p1) then (some w_36) else (Option.bind (rd_ w_36 64 (4 : Int32)) (fun g_40 => (Option.bind (wr_ w_36 64 (4 : Int32) (g_40 - (1 : Int32))) (fun w_41 => (f_X7_happens_L112 (fun xc_o_g_112 => (some xc_o_g_112))  5000 ((2 : Int32) * p1) w_41)))))))) else (some w_36)))))) else (if (p0 = (3 : Int32)) then (Option.bind (rd_ w_24 64 (4 : Int32)) (fun g_27 => (if (g_27 ≤ p1) then (some w_24) else (Option.bind (rd_ w_24 64 (4 : Int32)) (fun g_29 => (Option.bind (wr_ w_24 64 (4 : Int32) (g_29 - (1 : Int32))) (fun w_30 => (f_X7_happens_L112 (fun xc_o_g_112 => (some xc_o_g_112))  5000 ((2 : Int32) * p1) w_30)))))))) else (some w_24))))) else (if (p0 = (2 : Int32)) then (Option.bind (rd_ o_g 64 (2 : Int32)) (fun g_13 => (Option.bind (wr_ o_g 64 (2 : Int32) (if (g_13 + p1) < (127 : Int32) then (g_13 + p1) else (127 : Int32))) (fun w_14 => (if (p0 = (3 : Int32)) then (Option.bind (rd_ w_14 64 (4 : Int32)) (fun g_16 => (if (g_16 ≤ p1) then (some w_14) else (Option.bind (rd_ w_14 64 (4 : Int32)) (fun g_18 => (Option.bind (wr_ w_14 64 (4 : Int32) (g_18 - (1 : Int32))) (fun w_19 => (f_X7_happens_L112 (fun xc_o_g_112 => (some xc_o_g_112))  5000 ((2 : Int32) * p1) w_19)))))))) else (some w_14)))))) else (if (p0 = (3 : Int32)) then (Option.bind (rd_ o_g 64 (4 : Int32)) (fun g_5 => (if (g_5 ≤ p1) then (some o_g) else (Option.bind (rd_ o_g 64 (4 : Int32)) (fun g_7 => (Option.bind (wr_ o_g 64 (4 : Int32) (g_7 - (1 : Int32))) (fun w_8 => (f_X7_happens_L112 (fun xc_o_g_112 => (some xc_o_g_112))  5000 ((2 : Int32) * p1) w_8)))))))) else (some o_g)))))
def f_X7_after_L27 (k_27 : (Nat → Int32) → Option (Int32 × (Nat → Int32) × (Nat → Int32) × (Nat → Int32) × Int32)) (o_was_27 : Nat → Int32) : Nat → Int32 → (Nat → Int32) → Option (Int32 × (Nat → Int32) × (Nat → Int32) × (Nat → Int32) × Int32)
  | 0, _, _ => none
  | fuel + 1, v2_27, o_g_27 => (Option.bind (rd_ o_was_27 64 (30 : Int32)) (fun g_3 => (if (g_3 ≤ v2_27) then (k_27 o_g_27) else (Option.bind (rd_ o_was_27 64 ((31 : Int32) + ((2 : Int32) * v2_27))) (fun g_5 => (Option.bind (rd_ o_was_27 64 ((32 : Int32) + ((2 : Int32) * v2_27))) (fun g_6 => (Option.bind (f_X7_happens g_5 g_6 o_g_27) (fun u_7 => (f_X7_after_L27 k_27 o_was_27 fuel (v2_27 + (1 : Int32)) u_7))))))))))
theorem f_X7_after_L27_z (k_27 : (Nat → Int32) → Option (Int32 × (Nat → Int32) × (Nat → Int32) × (Nat → Int32) × Int32)) (o_was_27 : Nat → Int32) (v2_27 : Int32) (o_g_27 : (Nat → Int32)) : f_X7_after_L27 k_27 o_was_27 0 v2_27 o_g_27 = none := rfl
theorem f_X7_after_L27_s (k_27 : (Nat → Int32) → Option (Int32 × (Nat → Int32) × (Nat → Int32) × (Nat → Int32) × Int32)) (o_was_27 : Nat → Int32) (fuel : Nat) (v2_27 : Int32) (o_g_27 : (Nat → Int32)) : f_X7_after_L27 k_27 o_was_27 (fuel + 1) v2_27 o_g_27 = (Option.bind (rd_ o_was_27 64 (30 : Int32)) (fun g_3 => (if (g_3 ≤ v2_27) then (k_27 o_g_27) else (Option.bind (rd_ o_was_27 64 ((31 : Int32) + ((2 : Int32) * v2_27))) (fun g_5 => (Option.bind (rd_ o_was_27 64 ((32 : Int32) + ((2 : Int32) * v2_27))) (fun g_6 => (Option.bind (f_X7_happens g_5 g_6 o_g_27) (fun u_7 => (f_X7_after_L27 k_27 o_was_27 fuel (v2_27 + (1 : Int32)) u_7)))))))))) := rfl
def f_X7_after (p0 : Int32) (o_g : Nat → Int32) (o_was : Nat → Int32) (o_triangle : Nat → Int32) (o_takenBy : Int32) : Option (Int32 × (Nat → Int32) × (Nat → Int32) × (Nat → Int32) × Int32) := (if ((f_X7_isIn (Int32.toInt64 p0) (0 : Int64) (2 : Int64)) = 0) then (some ((-1 : Int32), o_g, o_was, o_triangle, o_takenBy)) else (Option.bind (f_X7_copies 64 64 o_g o_was) (fun u_2 => (f_X7_after_L27 (fun xc_o_g_27 => (if (p0 = 0) then (Option.bind (f_X7_markedInWindow xc_o_g_27 o_triangle o_takenBy) (fun u_14 => (Option.bind (f_X7_copies 64 64 u_2 xc_o_g_27) (fun u_15 => (some (u_14.1, u_15, u_2, u_14.2.1, u_14.2.2)))))) else (if (p0 = (1 : Int32)) then (Option.bind (f_X7_modulus xc_o_g_27) (fun u_12 => (Option.bind (f_X7_copies 64 64 u_2 xc_o_g_27) (fun u_13 => (some (u_12, u_13, u_2, o_triangle, o_takenBy)))))) else (Option.bind (rd_ xc_o_g_27 64 (4 : Int32)) (fun g_10 => (Option.bind (f_X7_copies 64 64 u_2 xc_o_g_27) (fun u_11 => (some (g_10, u_11, u_2, o_triangle, o_takenBy))))))))) u_2 5000 (0 : Int32) o_g))))
def f_X7_book (p0 : Int32) (p1 : Int32) (o_g : Nat → Int32) : Option (Int32 × (Nat → Int32)) := (if (p0 = (-1 : Int32)) then (Option.bind (wr_ o_g 64 (47 : Int32) (0 : Int32)) (fun w_13 => (some ((0 : Int32), w_13)))) else (if ((f_X7_isRow p0) = 0) then (some ((-1 : Int32), o_g)) else (if ((f_X7_isIn (Int32.toInt64 p1) (0 : Int64) (2400 : Int64)) = 0) then (some ((-2 : Int32), o_g)) else (Option.bind (rd_ o_g 64 (47 : Int32)) (fun g_4 => (if (g_4 = (8 : Int32)) then (some ((-4 : Int32), o_g)) else (Option.bind (rd_ o_g 64 (47 : Int32)) (fun g_6 => (Option.bind (wr_ o_g 64 ((48 : Int32) + ((2 : Int32) * g_6)) p0) (fun w_7 => (Option.bind (rd_ w_7 64 (47 : Int32)) (fun g_8 => (Option.bind (wr_ w_7 64 ((49 : Int32) + ((2 : Int32) * g_8)) p1) (fun w_9 => (Option.bind (rd_ w_9 64 (47 : Int32)) (fun g_10 => (Option.bind (wr_ w_9 64 (47 : Int32) (g_10 + (1 : Int32))) (fun w_11 => (Option.bind (rd_ w_11 64 (47 : Int32)) (fun g_12 => (some (g_12, w_11))))))))))))))))))))))
def f_X7_looked_L2 (k_2 : (Nat → Int32) → (Int32) → Option (Int32 × (Nat → Int32) × Int32)) (o_g : Nat → Int32) : Nat → Int32 → (Nat → Int32) → (Int32) → Option (Int32 × (Nat → Int32) × Int32)
  | 0, _, _, _ => none
  | fuel + 1, v1_2, o_triangle_2, o_takenBy_2 => (Option.bind (rd_ o_g 64 (47 : Int32)) (fun g_1 => (if (g_1 ≤ v1_2) then (k_2 o_triangle_2 o_takenBy_2) else (Option.bind (rd_ o_g 64 ((48 : Int32) + ((2 : Int32) * v1_2))) (fun g_3 => (Option.bind (f_X7_remainder g_3 (10 : Int32) o_g o_triangle_2 o_takenBy_2) (fun u_4 => (Option.bind (rd_ o_g 64 ((49 : Int32) + ((2 : Int32) * v1_2))) (fun g_5 => (if (u_4.1 = g_5) then (f_X7_looked_L2 k_2 o_g fuel (v1_2 + (1 : Int32)) u_4.2.1 u_4.2.2) else (some (v1_2, u_4.2.1, u_4.2.2))))))))))))
theorem f_X7_looked_L2_z (k_2 : (Nat → Int32) → (Int32) → Option (Int32 × (Nat → Int32) × Int32)) (o_g : Nat → Int32) (v1_2 : Int32) (o_triangle_2 : (Nat → Int32)) (o_takenBy_2 : Int32) : f_X7_looked_L2 k_2 o_g 0 v1_2 o_triangle_2 o_takenBy_2 = none := rfl
theorem f_X7_looked_L2_s (k_2 : (Nat → Int32) → (Int32) → Option (Int32 × (Nat → Int32) × Int32)) (o_g : Nat → Int32) (fuel : Nat) (v1_2 : Int32) (o_triangle_2 : (Nat → Int32)) (o_takenBy_2 : (Int32)) : f_X7_looked_L2 k_2 o_g (fuel + 1) v1_2 o_triangle_2 o_takenBy_2 = (Option.bind (rd_ o_g 64 (47 : Int32)) (fun g_1 => (if (g_1 ≤ v1_2) then (k_2 o_triangle_2 o_takenBy_2) else (Option.bind (rd_ o_g 64 ((48 : Int32) + ((2 : Int32) * v1_2))) (fun g_3 => (Option.bind (f_X7_remainder g_3 (10 : Int32) o_g o_triangle_2 o_takenBy_2) (fun u_4 => (Option.bind (rd_ o_g 64 ((49 : Int32) + ((2 : Int32) * v1_2))) (fun g_5 => (if (u_4.1 = g_5) then (f_X7_looked_L2 k_2 o_g fuel (v1_2 + (1 : Int32)) u_4.2.1 u_4.2.2) else (some (v1_2, u_4.2.1, u_4.2.2)))))))))))) := rfl
def f_X7_looked (o_g : Nat → Int32) (o_triangle : Nat → Int32) (o_takenBy : Int32) : Option (Int32 × (Nat → Int32) × Int32) := (f_X7_looked_L2 (fun xc_o_triangle_2 xc_o_takenBy_2 => (some ((-5 : Int32), xc_o_triangle_2, xc_o_takenBy_2))) o_g 5000 (0 : Int32) o_triangle o_takenBy)
def f_X7_isTape (p0 : Int32) : Int32 := (f_X7_isIn (Int32.toInt64 p0) (0 : Int64) (5 : Int64))
def f_X7_isItem (p0 : Int32) (p1 : Int32) (o_size : Nat → Int32) : Option (Int32) := (Option.bind (rd_ o_size 6 p0) (fun g_1 => (some (f_X7_isIn (Int32.toInt64 p1) (0 : Int64) (Int32.toInt64 (g_1 - (1 : Int32)))))))
def f_X7_judge_L42 (k_42 : (Nat → Int32) → (Int32) → Option (Int32 × (Nat → Int32) × Int32)) (v1_42 : Int32) (v2_42 : Int32) (v3_42 : Int32) (o_g : Nat → Int32) (o_size : Nat → Int32) (o_items : Nat → Int64) : Nat → Int32 → (Nat → Int32) → (Int32) → Option (Int32 × (Nat → Int32) × Int32)
  | 0, _, _, _ => none
  | fuel + 1, v4_42, o_triangle_42, o_takenBy_42 => (if (v1_42 < v4_42) then (k_42 o_triangle_42 o_takenBy_42) else (if (v3_42 < 0) then (some (((200 : Int32) + v4_42), o_triangle_42, o_takenBy_42)) else (Option.bind (rd_ o_size 6 v2_42) (fun g_8 => (if (v4_42 < (g_8 - v3_42)) then (Option.bind (rd_ o_items 360 ((((60 : Int32) * v2_42) + v3_42) + v4_42)) (fun g_10 => (Option.bind (f_X7_remainder v1_42 v4_42 o_g o_triangle_42 o_takenBy_42) (fun u_11 => (if ((lg_cmp g_10 (Int32.toInt64 u_11.1)) = 0) then (f_X7_judge_L42 k_42 v1_42 v2_42 v3_42 o_g o_size o_items fuel (v4_42 + (1 : Int32)) u_11.2.1 u_11.2.2) else (some (v4_42, u_11.2.1, u_11.2.2))))))) else (some (((200 : Int32) + v4_42), o_triangle_42, o_takenBy_42)))))))
theorem f_X7_judge_L42_z (k_42 : (Nat → Int32) → (Int32) → Option (Int32 × (Nat → Int32) × Int32)) (v1_42 : Int32) (v2_42 : Int32) (v3_42 : Int32) (o_g : Nat → Int32) (o_size : Nat → Int32) (o_items : Nat → Int64) (v4_42 : Int32) (o_triangle_42 : (Nat → Int32)) (o_takenBy_42 : Int32) : f_X7_judge_L42 k_42 v1_42 v2_42 v3_42 o_g o_size o_items 0 v4_42 o_triangle_42 o_takenBy_42 = none := rfl
theorem f_X7_judge_L42_s (k_42 : (Nat → Int32) → (Int32) → Option (Int32 × (Nat → Int32) × Int32)) (v1_42 : Int32) (v2_42 : Int32) (v3_42 : Int32) (o_g : Nat → Int32) (o_size : Nat → Int32) (o_items : Nat → Int64) (fuel : Nat) (v4_42 : Int32) (o_triangle_42 : (Nat → Int32)) (o_takenBy_42 : (Int32)) : f_X7_judge_L42 k_42 v1_42 v2_42 v3_42 o_g o_size o_items (fuel + 1) v4_42 o_triangle_42 o_takenBy_42 = (if (v1_42 < v4_42) then (k_42 o_triangle_42 o_takenBy_42) else (if (v3_42 < 0) then (some (((200 : Int32) + v4_42), o_triangle_42, o_takenBy_42)) else (Option.bind (rd_ o_size 6 v2_42) (fun g_8 => (if (v4_42 < (g_8 - v3_42)) then (Option.bind (rd_ o_items 360 ((((60 : Int32) * v2_42) + v3_42) + v4_42)) (fun g_10 => (Option.bind (f_X7_remainder v1_42 v4_42 o_g o_triangle_42 o_takenBy_42) (fun u_11 => (if ((lg_cmp g_10 (Int32.toInt64 u_11.1)) = 0) then (f_X7_judge_L42 k_42 v1_42 v2_42 v3_42 o_g o_size o_items fuel (v4_42 + (1 : Int32)) u_11.2.1 u_11.2.2) else (some (v4_42, u_11.2.1, u_11.2.2))))))) else (some (((200 : Int32) + v4_42), o_triangle_42, o_takenBy_42))))))) := rfl
def f_X7_judge (p0 : Int32) (p1 : Int32) (p2 : Int32) (o_g : Nat → Int32) (o_triangle : Nat → Int32) (o_takenBy : Int32) (o_sort : Nat → Int32) (o_size : Nat → Int32) (o_items : Nat → Int64) : Option (Int32 × (Nat → Int32) × Int32) := (if (((f_X7_isRow p0) = 0) ∨ ((f_X7_isTape p1) = 0)) then (some ((-1 : Int32), o_triangle, o_takenBy)) else (Option.bind (rd_ o_sort 6 p1) (fun g_4 => (if (g_4 = (-1 : Int32)) then (f_X7_judge_L42 (fun xc_o_triangle_42 xc_o_takenBy_42 => (some ((-5 : Int32), xc_o_triangle_42, xc_o_takenBy_42))) p0 p1 p2 o_g o_size o_items 5000 (0 : Int32) o_triangle o_takenBy) else (Option.bind (rd_ o_sort 6 p1) (fun g_13 => (if (g_13 = (1 : Int32)) then (f_X7_judge_L42 (fun xc_o_triangle_42 xc_o_takenBy_42 => (some ((-5 : Int32), xc_o_triangle_42, xc_o_takenBy_42))) p0 p1 p2 o_g o_size o_items 5000 (0 : Int32) o_triangle o_takenBy) else (some ((-12 : Int32), o_triangle, o_takenBy)))))))))
def f_X7_image (o_g : Nat → Int32) (o_kept : Nat → Int32) (o_isKept : Int32) : Option (Int32 × (Nat → Int32) × Int32) := (Option.bind (f_X7_copies 64 64 o_g o_kept) (fun u_1 => (Option.bind (f_X7_modulus o_g) (fun u_2 => (some (u_2, u_1, (1 : Int32)))))))
def f_X7_undo (o_g : Nat → Int32) (o_kept : Nat → Int32) (o_isKept : Int32) : Option (Int32 × (Nat → Int32)) := (if (o_isKept = 0) then (some ((-3 : Int32), o_g)) else (Option.bind (f_X7_copies 64 64 o_kept o_g) (fun u_2 => (Option.bind (f_X7_modulus u_2) (fun u_3 => (some (u_3, u_2)))))))
def f_X7_count (p0 : Int32) (o_g : Nat → Int32) (o_fed : Int32) : Option (Int32) := (if p0 = (0 : Int32) then (Option.bind (rd_ o_g 64 (17 : Int32)) (fun g_2 => (some g_2))) else (if p0 = (1 : Int32) then (Option.bind (rd_ o_g 64 (30 : Int32)) (fun g_4 => (some g_4))) else (if p0 = (2 : Int32) then (Option.bind (rd_ o_g 64 (47 : Int32)) (fun g_6 => (some g_6))) else (if p0 = (3 : Int32) then (some o_fed) else (some (-2 : Int32))))))
def f_X7_tape_L75 (k_75 : (Nat → Int64) → Option (Int32 × (Nat → Int32) × (Nat → Int32) × (Nat → Int64))) (v1_75 : Int32) : Nat → Int32 → (Nat → Int64) → Option (Int32 × (Nat → Int32) × (Nat → Int32) × (Nat → Int64))
  | 0, _, _ => none
  | fuel + 1, v4_75, o_items_75 => (if ((60 : Int32) ≤ v4_75) then (k_75 o_items_75) else (Option.bind (wrL_ o_items_75 360 (((60 : Int32) * v1_75) + v4_75) (0 : Int64)) (fun w_13 => (f_X7_tape_L75 k_75 v1_75 fuel (v4_75 + (1 : Int32)) w_13))))
theorem f_X7_tape_L75_z (k_75 : (Nat → Int64) → Option (Int32 × (Nat → Int32) × (Nat → Int32) × (Nat → Int64))) (v1_75 : Int32) (v4_75 : Int32) (o_items_75 : (Nat → Int64)) : f_X7_tape_L75 k_75 v1_75 0 v4_75 o_items_75 = none := rfl
theorem f_X7_tape_L75_s (k_75 : (Nat → Int64) → Option (Int32 × (Nat → Int32) × (Nat → Int32) × (Nat → Int64))) (v1_75 : Int32) (fuel : Nat) (v4_75 : Int32) (o_items_75 : (Nat → Int64)) : f_X7_tape_L75 k_75 v1_75 (fuel + 1) v4_75 o_items_75 = (if ((60 : Int32) ≤ v4_75) then (k_75 o_items_75) else (Option.bind (wrL_ o_items_75 360 (((60 : Int32) * v1_75) + v4_75) (0 : Int64)) (fun w_13 => (f_X7_tape_L75 k_75 v1_75 fuel (v4_75 + (1 : Int32)) w_13)))) := rfl
def f_X7_tape (p0 : Int32) (p1 : Int32) (p2 : Int32) (o_sort : Nat → Int32) (o_size : Nat → Int32) (o_items : Nat → Int64) : Option (Int32 × (Nat → Int32) × (Nat → Int32) × (Nat → Int64)) := (if ((f_X7_isTape p0) = 0) then (some ((-1 : Int32), o_sort, o_size, o_items)) else (if (((f_X7_isIn (Int32.toInt64 p1) (-1 : Int64) (4 : Int64)) = 0) ∨ ((¬ (p1 = (-1 : Int32))) ∧ (¬ (p2 ≤ (60 : Int32))))) then (some ((-2 : Int32), o_sort, o_size, o_items)) else (if ((¬ (p1 = (-1 : Int32))) ∧ (¬ (0 ≤ p2))) then (some ((-14 : Int32), o_sort, o_size, o_items)) else (Option.bind (wr_ o_sort 6 p0 p1) (fun w_8 => (Option.bind (wr_ o_size 6 p0 (if (¬ (p1 = (-1 : Int32))) then p2 else (0 : Int32))) (fun w_11 => (f_X7_tape_L75 (fun xc_o_items_75 => (some ((1 : Int32), w_8, w_11, xc_o_items_75))) p0 5000 (0 : Int32) o_items))))))))
def f_X7_lies (p0 : Int32) (p1 : Int64) : Option (Int64) := (if p0 = (0 : Int32) then (some (Int32.toInt64 (Int8.toInt32 (Int32.toInt8 (Int64.toInt32 p1))))) else (if p0 = (1 : Int32) then (some (Int32.toInt64 (Int16.toInt32 (Int32.toInt16 (Int64.toInt32 p1))))) else (if p0 = (2 : Int32) then (some (Int32.toInt64 (Int64.toInt32 p1))) else (if p0 = (3 : Int32) then (some p1) else (some (if (¬ ((lg_cmp p1 (0 : Int64)) = 0)) then (1 : Int64) else (0 : Int64)))))))
def f_X7_item (p0 : Int32) (p1 : Int32) (p2 : Int64) (o_sort : Nat → Int32) (o_size : Nat → Int32) (o_items : Nat → Int64) : Option (Int32 × (Nat → Int64)) := (if ((f_X7_isTape p0) = 0) then (some ((-1 : Int32), o_items)) else (Option.bind (rd_ o_sort 6 p0) (fun g_2 => (if (g_2 = (-1 : Int32)) then (some ((-11 : Int32), o_items)) else (Option.bind (f_X7_isItem p0 p1 o_size) (fun u_4 => (if (u_4 = 0) then (some ((-13 : Int32), o_items)) else (Option.bind (rd_ o_sort 6 p0) (fun g_6 => (Option.bind (f_X7_lies g_6 p2) (fun u_7 => (Option.bind (wrL_ o_items 360 (((60 : Int32) * p0) + p1) u_7) (fun w_8 => (some ((1 : Int32), w_8)))))))))))))))
def f_X7_peek (p0 : Int32) (p1 : Int32) (o_size : Nat → Int32) (o_items : Nat → Int64) : Option (Int64) := (if ((f_X7_isTape p0) = 0) then (some (-9223372036854775808 : Int64)) else (Option.bind (f_X7_isItem p0 p1 o_size) (fun u_2 => (if (u_2 = 0) then (some (-9223372036854775808 : Int64)) else (Option.bind (rd_ o_items 360 (((60 : Int32) * p0) + p1)) (fun g_4 => (some g_4)))))))
def f_X7_shift_L104 (k_104 : (Nat → Int64) → Option (Int32 × (Nat → Int64))) (v1_104 : Int32) (v2_104 : Int32) (v3_104 : Int32) (v4_104 : Int32) (v5_104 : Int32) : Nat → Int32 → (Nat → Int64) → Option (Int32 × (Nat → Int64))
  | 0, _, _ => none
  | fuel + 1, v6_104, o_items_104 => (if (v5_104 ≤ v6_104) then (k_104 o_items_104) else (qn_ (if (v2_104 ≤ v4_104) then ((v5_104 - (1 : Int32)) - v6_104) else v6_104) (fun y_19 => (Option.bind (rd_ o_items_104 360 ((((60 : Int32) * v1_104) + v2_104) + y_19)) (fun g_20 => (Option.bind (wrL_ o_items_104 360 ((((60 : Int32) * v3_104) + v4_104) + y_19) g_20) (fun w_21 => (f_X7_shift_L104 k_104 v1_104 v2_104 v3_104 v4_104 v5_104 fuel (v6_104 + (1 : Int32)) w_21))))))))
theorem f_X7_shift_L104_z (k_104 : (Nat → Int64) → Option (Int32 × (Nat → Int64))) (v1_104 : Int32) (v2_104 : Int32) (v3_104 : Int32) (v4_104 : Int32) (v5_104 : Int32) (v6_104 : Int32) (o_items_104 : (Nat → Int64)) : f_X7_shift_L104 k_104 v1_104 v2_104 v3_104 v4_104 v5_104 0 v6_104 o_items_104 = none := rfl
theorem f_X7_shift_L104_s (k_104 : (Nat → Int64) → Option (Int32 × (Nat → Int64))) (v1_104 : Int32) (v2_104 : Int32) (v3_104 : Int32) (v4_104 : Int32) (v5_104 : Int32) (fuel : Nat) (v6_104 : Int32) (o_items_104 : (Nat → Int64)) : f_X7_shift_L104 k_104 v1_104 v2_104 v3_104 v4_104 v5_104 (fuel + 1) v6_104 o_items_104 = (if (v5_104 ≤ v6_104) then (k_104 o_items_104) else (qn_ (if (v2_104 ≤ v4_104) then ((v5_104 - (1 : Int32)) - v6_104) else v6_104) (fun y_19 => (Option.bind (rd_ o_items_104 360 ((((60 : Int32) * v1_104) + v2_104) + y_19)) (fun g_20 => (Option.bind (wrL_ o_items_104 360 ((((60 : Int32) * v3_104) + v4_104) + y_19) g_20) (fun w_21 => (f_X7_shift_L104 k_104 v1_104 v2_104 v3_104 v4_104 v5_104 fuel (v6_104 + (1 : Int32)) w_21)))))))) := rfl
def f_X7_shift (p0 : Int32) (p1 : Int32) (p2 : Int32) (p3 : Int32) (p4 : Int32) (o_sort : Nat → Int32) (o_size : Nat → Int32) (o_items : Nat → Int64) : Option (Int32 × (Nat → Int64)) := (if (((f_X7_isTape p0) = 0) ∨ ((f_X7_isTape p2) = 0)) then (some ((-1 : Int32), o_items)) else (Option.bind (rd_ o_sort 6 p0) (fun g_4 => (if (g_4 = (-1 : Int32)) then (some ((-11 : Int32), o_items)) else (Option.bind (rd_ o_sort 6 p2) (fun g_6 => (if (g_6 = (-1 : Int32)) then (some ((-11 : Int32), o_items)) else (Option.bind (rd_ o_sort 6 p0) (fun g_8 => (Option.bind (rd_ o_sort 6 p2) (fun g_9 => (if (g_8 = g_9) then (if ((¬ (p4 < 0)) ∧ ((¬ (p1 < 0)) ∧ (¬ (p3 < 0)))) then (Option.bind (rd_ o_size 6 p0) (fun g_13 => (if ((g_13 - p1) < p4) then (some ((-13 : Int32), o_items)) else (Option.bind (rd_ o_size 6 p2) (fun g_15 => (if (p4 ≤ (g_15 - p3)) then (f_X7_shift_L104 (fun xc_o_items_104 => (some (p4, xc_o_items_104))) p0 p1 p2 p3 p4 5000 (0 : Int32) o_items) else (some ((-13 : Int32), o_items)))))))) else (some ((-13 : Int32), o_items))) else (some ((-12 : Int32), o_items))))))))))))))
end
