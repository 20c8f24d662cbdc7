section
-- ===== PART A: goes FIRST, ahead of the names: the tables' words, and 'selects' of the private methods out of them =====
/-- a private method of a class that the tables say can be made, by its rows of tables_1 -/
def lw_okq (q : MethodName × Nat) : Prop := (q.1.cls ≠ "java/lang/invoke/MethodHandle" ∧ q.1.cls ≠ "java/lang/invoke/VarHandle") ∧ Cond.instantiable q.1.cls q.2 ∈ tables_1 ∧ Cond.privateMethod q.1 ∈ tables_1 ∧ Cond.instanceMethod q.1 ∈ tables_1
theorem lw_p0 : lw_okq (⟨"BackhaulReturns", "productAt", "(I)LBackhaulReturns$Product;"⟩, 6) := ⟨⟨by decide +kernel, by decide +kernel⟩, List.mem_of_getElem? (i := 15) (by decide +kernel), List.mem_of_getElem? (i := 106) (by decide +kernel), List.mem_of_getElem? (i := 107) (by decide +kernel)⟩
theorem lw_p1 : lw_okq (⟨"java/lang/Throwable", "fillInStackTrace", "(I)Ljava/lang/Throwable;"⟩, 6) := ⟨⟨by decide +kernel, by decide +kernel⟩, List.mem_of_getElem? (i := 152) (by decide +kernel), List.mem_of_getElem? (i := 150) (by decide +kernel), List.mem_of_getElem? (i := 151) (by decide +kernel)⟩
theorem lw_p2 : lw_okq (⟨"BackhaulReturns", "customerAt", "(I)LBackhaulReturns$Customer;"⟩, 6) := ⟨⟨by decide +kernel, by decide +kernel⟩, List.mem_of_getElem? (i := 15) (by decide +kernel), List.mem_of_getElem? (i := 214) (by decide +kernel), List.mem_of_getElem? (i := 215) (by decide +kernel)⟩
theorem lw_p3 : lw_okq (⟨"BackhaulReturns", "isRegisterFull", "()Z"⟩, 6) := ⟨⟨by decide +kernel, by decide +kernel⟩, List.mem_of_getElem? (i := 15) (by decide +kernel), List.mem_of_getElem? (i := 219) (by decide +kernel), List.mem_of_getElem? (i := 220) (by decide +kernel)⟩
theorem lw_p4 : lw_okq (⟨"BackhaulReturns", "enter", "(LBackhaulReturns$Sale;)I"⟩, 6) := ⟨⟨by decide +kernel, by decide +kernel⟩, List.mem_of_getElem? (i := 15) (by decide +kernel), List.mem_of_getElem? (i := 267) (by decide +kernel), List.mem_of_getElem? (i := 268) (by decide +kernel)⟩
theorem lw_p5 : lw_okq (⟨"BackhaulReturns", "existingSale", "(I)LBackhaulReturns$Sale;"⟩, 6) := ⟨⟨by decide +kernel, by decide +kernel⟩, List.mem_of_getElem? (i := 15) (by decide +kernel), List.mem_of_getElem? (i := 279) (by decide +kernel), List.mem_of_getElem? (i := 280) (by decide +kernel)⟩
theorem lw_p6 : lw_okq (⟨"BackhaulReturns", "saleAt", "(I)LBackhaulReturns$Sale;"⟩, 6) := ⟨⟨by decide +kernel, by decide +kernel⟩, List.mem_of_getElem? (i := 15) (by decide +kernel), List.mem_of_getElem? (i := 283) (by decide +kernel), List.mem_of_getElem? (i := 284) (by decide +kernel)⟩
theorem lw_p7 : lw_okq (⟨"BackhaulReturns", "existingLine", "(II)LBackhaulReturns$Line;"⟩, 6) := ⟨⟨by decide +kernel, by decide +kernel⟩, List.mem_of_getElem? (i := 15) (by decide +kernel), List.mem_of_getElem? (i := 374) (by decide +kernel), List.mem_of_getElem? (i := 375) (by decide +kernel)⟩
theorem lw_p8 : lw_okq (⟨"BackhaulReturns$Sale", "wholeShare", "(III)I"⟩, 9) := ⟨⟨by decide +kernel, by decide +kernel⟩, List.mem_of_getElem? (i := 223) (by decide +kernel), List.mem_of_getElem? (i := 403) (by decide +kernel), List.mem_of_getElem? (i := 404) (by decide +kernel)⟩
theorem lw_p9 : lw_okq (⟨"BackhaulReturns$Sale", "linesAhead", "(III)I"⟩, 9) := ⟨⟨by decide +kernel, by decide +kernel⟩, List.mem_of_getElem? (i := 223) (by decide +kernel), List.mem_of_getElem? (i := 408) (by decide +kernel), List.mem_of_getElem? (i := 409) (by decide +kernel)⟩
theorem lw_p10 : lw_okq (⟨"BackhaulReturns$Sale", "remainder", "(III)J"⟩, 9) := ⟨⟨by decide +kernel, by decide +kernel⟩, List.mem_of_getElem? (i := 223) (by decide +kernel), List.mem_of_getElem? (i := 412) (by decide +kernel), List.mem_of_getElem? (i := 413) (by decide +kernel)⟩
theorem lw_p11 : lw_okq (⟨"BackhaulReturns", "canComeBack", "(LBackhaulReturns$Sale;LBackhaulReturns$Line;I)Z"⟩, 6) := ⟨⟨by decide +kernel, by decide +kernel⟩, List.mem_of_getElem? (i := 15) (by decide +kernel), List.mem_of_getElem? (i := 428) (by decide +kernel), List.mem_of_getElem? (i := 429) (by decide +kernel)⟩
theorem lw_p12 : lw_okq (⟨"BackhaulReturns", "ageOf", "(LBackhaulReturns$Sale;)I"⟩, 6) := ⟨⟨by decide +kernel, by decide +kernel⟩, List.mem_of_getElem? (i := 15) (by decide +kernel), List.mem_of_getElem? (i := 432) (by decide +kernel), List.mem_of_getElem? (i := 433) (by decide +kernel)⟩
theorem lw_p13 : lw_okq (⟨"BackhaulReturns", "isBlocked", "(LBackhaulReturns$Customer;)Z"⟩, 6) := ⟨⟨by decide +kernel, by decide +kernel⟩, List.mem_of_getElem? (i := 15) (by decide +kernel), List.mem_of_getElem? (i := 436) (by decide +kernel), List.mem_of_getElem? (i := 437) (by decide +kernel)⟩
theorem lw_p14 : lw_okq (⟨"BackhaulReturns", "takeBack", "(LBackhaulReturns$Sale;LBackhaulReturns$Line;IIZ)I"⟩, 6) := ⟨⟨by decide +kernel, by decide +kernel⟩, List.mem_of_getElem? (i := 15) (by decide +kernel), List.mem_of_getElem? (i := 445) (by decide +kernel), List.mem_of_getElem? (i := 446) (by decide +kernel)⟩
theorem lw_p15 : lw_okq (⟨"BackhaulReturns$Product", "repairWorth", "()I"⟩, 4) := ⟨⟨by decide +kernel, by decide +kernel⟩, List.mem_of_getElem? (i := 24) (by decide +kernel), List.mem_of_getElem? (i := 467) (by decide +kernel), List.mem_of_getElem? (i := 468) (by decide +kernel)⟩
def lw_privs_1 : List (MethodName × Nat) := [(⟨"BackhaulReturns", "productAt", "(I)LBackhaulReturns$Product;"⟩, 6), (⟨"java/lang/Throwable", "fillInStackTrace", "(I)Ljava/lang/Throwable;"⟩, 6), (⟨"BackhaulReturns", "customerAt", "(I)LBackhaulReturns$Customer;"⟩, 6), (⟨"BackhaulReturns", "isRegisterFull", "()Z"⟩, 6), (⟨"BackhaulReturns", "enter", "(LBackhaulReturns$Sale;)I"⟩, 6), (⟨"BackhaulReturns", "existingSale", "(I)LBackhaulReturns$Sale;"⟩, 6), (⟨"BackhaulReturns", "saleAt", "(I)LBackhaulReturns$Sale;"⟩, 6), (⟨"BackhaulReturns", "existingLine", "(II)LBackhaulReturns$Line;"⟩, 6), (⟨"BackhaulReturns$Sale", "wholeShare", "(III)I"⟩, 9), (⟨"BackhaulReturns$Sale", "linesAhead", "(III)I"⟩, 9), (⟨"BackhaulReturns$Sale", "remainder", "(III)J"⟩, 9), (⟨"BackhaulReturns", "canComeBack", "(LBackhaulReturns$Sale;LBackhaulReturns$Line;I)Z"⟩, 6), (⟨"BackhaulReturns", "ageOf", "(LBackhaulReturns$Sale;)I"⟩, 6), (⟨"BackhaulReturns", "isBlocked", "(LBackhaulReturns$Customer;)Z"⟩, 6), (⟨"BackhaulReturns", "takeBack", "(LBackhaulReturns$Sale;LBackhaulReturns$Line;IIZ)I"⟩, 6), (⟨"BackhaulReturns$Product", "repairWorth", "()I"⟩, 4)]
theorem lw_r1 : ∀ q ∈ lw_privs_1, lw_okq q := List.forall_mem_cons.mpr ⟨lw_p0, List.forall_mem_cons.mpr ⟨lw_p1, List.forall_mem_cons.mpr ⟨lw_p2, List.forall_mem_cons.mpr ⟨lw_p3, List.forall_mem_cons.mpr ⟨lw_p4, List.forall_mem_cons.mpr ⟨lw_p5, List.forall_mem_cons.mpr ⟨lw_p6, List.forall_mem_cons.mpr ⟨lw_p7, List.forall_mem_cons.mpr ⟨lw_p8, List.forall_mem_cons.mpr ⟨lw_p9, List.forall_mem_cons.mpr ⟨lw_p10, List.forall_mem_cons.mpr ⟨lw_p11, List.forall_mem_cons.mpr ⟨lw_p12, List.forall_mem_cons.mpr ⟨lw_p13, List.forall_mem_cons.mpr ⟨lw_p14, List.forall_mem_cons.mpr ⟨lw_p15, fun _ h => absurd h List.not_mem_nil⟩⟩⟩⟩⟩⟩⟩⟩⟩⟩⟩⟩⟩⟩⟩⟩
theorem lw_p16 : lw_okq (⟨"BackhaulReturns$Product", "salvageWorth", "()I"⟩, 4) := ⟨⟨by decide +kernel, by decide +kernel⟩, List.mem_of_getElem? (i := 24) (by decide +kernel), List.mem_of_getElem? (i := 471) (by decide +kernel), List.mem_of_getElem? (i := 472) (by decide +kernel)⟩
theorem lw_p17 : lw_okq (⟨"BackhaulReturns$Customer", "forgetBefore", "(I)V"⟩, 4) := ⟨⟨by decide +kernel, by decide +kernel⟩, List.mem_of_getElem? (i := 49) (by decide +kernel), List.mem_of_getElem? (i := 487) (by decide +kernel), List.mem_of_getElem? (i := 488) (by decide +kernel)⟩
theorem lw_p18 : lw_okq (⟨"BackhaulReturnsModel", "goes", "(I)Z"⟩, 25) := ⟨⟨by decide +kernel, by decide +kernel⟩, List.mem_of_getElem? (i := 573) (by decide +kernel), List.mem_of_getElem? (i := 671) (by decide +kernel), List.mem_of_getElem? (i := 672) (by decide +kernel)⟩
theorem lw_p19 : lw_okq (⟨"BackhaulReturnsModel", "opens", "(I)I"⟩, 25) := ⟨⟨by decide +kernel, by decide +kernel⟩, List.mem_of_getElem? (i := 573) (by decide +kernel), List.mem_of_getElem? (i := 683) (by decide +kernel), List.mem_of_getElem? (i := 684) (by decide +kernel)⟩
theorem lw_p20 : lw_okq (⟨"BackhaulReturnsModel", "isSale", "(I)Z"⟩, 25) := ⟨⟨by decide +kernel, by decide +kernel⟩, List.mem_of_getElem? (i := 573) (by decide +kernel), List.mem_of_getElem? (i := 691) (by decide +kernel), List.mem_of_getElem? (i := 692) (by decide +kernel)⟩
theorem lw_p21 : lw_okq (⟨"BackhaulReturnsModel", "isOpen", "(I)Z"⟩, 25) := ⟨⟨by decide +kernel, by decide +kernel⟩, List.mem_of_getElem? (i := 573) (by decide +kernel), List.mem_of_getElem? (i := 695) (by decide +kernel), List.mem_of_getElem? (i := 696) (by decide +kernel)⟩
theorem lw_p22 : lw_okq (⟨"BackhaulReturnsModel", "adds", "(III)I"⟩, 25) := ⟨⟨by decide +kernel, by decide +kernel⟩, List.mem_of_getElem? (i := 573) (by decide +kernel), List.mem_of_getElem? (i := 699) (by decide +kernel), List.mem_of_getElem? (i := 700) (by decide +kernel)⟩
theorem lw_p23 : lw_okq (⟨"BackhaulReturnsModel", "pays", "(I)I"⟩, 25) := ⟨⟨by decide +kernel, by decide +kernel⟩, List.mem_of_getElem? (i := 573) (by decide +kernel), List.mem_of_getElem? (i := 707) (by decide +kernel), List.mem_of_getElem? (i := 708) (by decide +kernel)⟩
theorem lw_p24 : lw_okq (⟨"BackhaulReturnsModel", "goods", "(I)I"⟩, 25) := ⟨⟨by decide +kernel, by decide +kernel⟩, List.mem_of_getElem? (i := 573) (by decide +kernel), List.mem_of_getElem? (i := 711) (by decide +kernel), List.mem_of_getElem? (i := 712) (by decide +kernel)⟩
theorem lw_p25 : lw_okq (⟨"BackhaulReturnsModel", "goodsOf", "(II)I"⟩, 25) := ⟨⟨by decide +kernel, by decide +kernel⟩, List.mem_of_getElem? (i := 573) (by decide +kernel), List.mem_of_getElem? (i := 715) (by decide +kernel), List.mem_of_getElem? (i := 716) (by decide +kernel)⟩
theorem lw_p26 : lw_okq (⟨"BackhaulReturnsModel", "isLine", "(II)Z"⟩, 25) := ⟨⟨by decide +kernel, by decide +kernel⟩, List.mem_of_getElem? (i := 573) (by decide +kernel), List.mem_of_getElem? (i := 738) (by decide +kernel), List.mem_of_getElem? (i := 739) (by decide +kernel)⟩
theorem lw_p27 : lw_okq (⟨"BackhaulReturnsModel", "splits", "(I)V"⟩, 25) := ⟨⟨by decide +kernel, by decide +kernel⟩, List.mem_of_getElem? (i := 573) (by decide +kernel), List.mem_of_getElem? (i := 750) (by decide +kernel), List.mem_of_getElem? (i := 751) (by decide +kernel)⟩
theorem lw_p28 : lw_okq (⟨"BackhaulReturnsModel", "next", "(I)I"⟩, 25) := ⟨⟨by decide +kernel, by decide +kernel⟩, List.mem_of_getElem? (i := 573) (by decide +kernel), List.mem_of_getElem? (i := 754) (by decide +kernel), List.mem_of_getElem? (i := 755) (by decide +kernel)⟩
theorem lw_p29 : lw_okq (⟨"BackhaulReturnsModel", "asksOption", "(II)Z"⟩, 25) := ⟨⟨by decide +kernel, by decide +kernel⟩, List.mem_of_getElem? (i := 573) (by decide +kernel), List.mem_of_getElem? (i := 763) (by decide +kernel), List.mem_of_getElem? (i := 764) (by decide +kernel)⟩
theorem lw_p30 : lw_okq (⟨"BackhaulReturnsModel", "best", "(II)I"⟩, 25) := ⟨⟨by decide +kernel, by decide +kernel⟩, List.mem_of_getElem? (i := 573) (by decide +kernel), List.mem_of_getElem? (i := 767) (by decide +kernel), List.mem_of_getElem? (i := 768) (by decide +kernel)⟩
theorem lw_p31 : lw_okq (⟨"BackhaulReturnsModel", "worth", "(III)I"⟩, 25) := ⟨⟨by decide +kernel, by decide +kernel⟩, List.mem_of_getElem? (i := 573) (by decide +kernel), List.mem_of_getElem? (i := 771) (by decide +kernel), List.mem_of_getElem? (i := 772) (by decide +kernel)⟩
def lw_privs_2 : List (MethodName × Nat) := [(⟨"BackhaulReturns$Product", "salvageWorth", "()I"⟩, 4), (⟨"BackhaulReturns$Customer", "forgetBefore", "(I)V"⟩, 4), (⟨"BackhaulReturnsModel", "goes", "(I)Z"⟩, 25), (⟨"BackhaulReturnsModel", "opens", "(I)I"⟩, 25), (⟨"BackhaulReturnsModel", "isSale", "(I)Z"⟩, 25), (⟨"BackhaulReturnsModel", "isOpen", "(I)Z"⟩, 25), (⟨"BackhaulReturnsModel", "adds", "(III)I"⟩, 25), (⟨"BackhaulReturnsModel", "pays", "(I)I"⟩, 25), (⟨"BackhaulReturnsModel", "goods", "(I)I"⟩, 25), (⟨"BackhaulReturnsModel", "goodsOf", "(II)I"⟩, 25), (⟨"BackhaulReturnsModel", "isLine", "(II)Z"⟩, 25), (⟨"BackhaulReturnsModel", "splits", "(I)V"⟩, 25), (⟨"BackhaulReturnsModel", "next", "(I)I"⟩, 25), (⟨"BackhaulReturnsModel", "asksOption", "(II)Z"⟩, 25), (⟨"BackhaulReturnsModel", "best", "(II)I"⟩, 25), (⟨"BackhaulReturnsModel", "worth", "(III)I"⟩, 25)]
theorem lw_r2 : ∀ q ∈ lw_privs_2, lw_okq q := List.forall_mem_cons.mpr ⟨lw_p16, List.forall_mem_cons.mpr ⟨lw_p17, List.forall_mem_cons.mpr ⟨lw_p18, List.forall_mem_cons.mpr ⟨lw_p19, List.forall_mem_cons.mpr ⟨lw_p20, List.forall_mem_cons.mpr ⟨lw_p21, List.forall_mem_cons.mpr ⟨lw_p22, List.forall_mem_cons.mpr ⟨lw_p23, List.forall_mem_cons.mpr ⟨lw_p24, List.forall_mem_cons.mpr ⟨lw_p25, List.forall_mem_cons.mpr ⟨lw_p26, List.forall_mem_cons.mpr ⟨lw_p27, List.forall_mem_cons.mpr ⟨lw_p28, List.forall_mem_cons.mpr ⟨lw_p29, List.forall_mem_cons.mpr ⟨lw_p30, List.forall_mem_cons.mpr ⟨lw_p31, fun _ h => absurd h List.not_mem_nil⟩⟩⟩⟩⟩⟩⟩⟩⟩⟩⟩⟩⟩⟩⟩⟩
theorem lw_p32 : lw_okq (⟨"BackhaulReturnsModel", "scoreOf", "(I)I"⟩, 25) := ⟨⟨by decide +kernel, by decide +kernel⟩, List.mem_of_getElem? (i := 573) (by decide +kernel), List.mem_of_getElem? (i := 795) (by decide +kernel), List.mem_of_getElem? (i := 796) (by decide +kernel)⟩
theorem lw_p33 : lw_okq (⟨"BackhaulReturnsModel", "wrong", "(IIII)I"⟩, 25) := ⟨⟨by decide +kernel, by decide +kernel⟩, List.mem_of_getElem? (i := 573) (by decide +kernel), List.mem_of_getElem? (i := 803) (by decide +kernel), List.mem_of_getElem? (i := 804) (by decide +kernel)⟩
theorem lw_p34 : lw_okq (⟨"BackhaulReturnsModel", "age", "(I)I"⟩, 25) := ⟨⟨by decide +kernel, by decide +kernel⟩, List.mem_of_getElem? (i := 573) (by decide +kernel), List.mem_of_getElem? (i := 807) (by decide +kernel), List.mem_of_getElem? (i := 808) (by decide +kernel)⟩
theorem lw_p35 : lw_okq (⟨"BackhaulReturnsModel", "barred", "(II)I"⟩, 25) := ⟨⟨by decide +kernel, by decide +kernel⟩, List.mem_of_getElem? (i := 573) (by decide +kernel), List.mem_of_getElem? (i := 811) (by decide +kernel), List.mem_of_getElem? (i := 812) (by decide +kernel)⟩
theorem lw_p36 : lw_okq (⟨"BackhaulReturnsModel", "comesBack", "(IIIIZ)I"⟩, 25) := ⟨⟨by decide +kernel, by decide +kernel⟩, List.mem_of_getElem? (i := 573) (by decide +kernel), List.mem_of_getElem? (i := 815) (by decide +kernel), List.mem_of_getElem? (i := 816) (by decide +kernel)⟩
theorem lw_p37 : lw_okq (⟨"BackhaulReturnsModel", "release", "(III)I"⟩, 25) := ⟨⟨by decide +kernel, by decide +kernel⟩, List.mem_of_getElem? (i := 573) (by decide +kernel), List.mem_of_getElem? (i := 819) (by decide +kernel), List.mem_of_getElem? (i := 820) (by decide +kernel)⟩
theorem lw_p38 : lw_okq (⟨"BackhaulReturnsModel", "fee", "(III)I"⟩, 25) := ⟨⟨by decide +kernel, by decide +kernel⟩, List.mem_of_getElem? (i := 573) (by decide +kernel), List.mem_of_getElem? (i := 823) (by decide +kernel), List.mem_of_getElem? (i := 824) (by decide +kernel)⟩
def lw_privs_3 : List (MethodName × Nat) := [(⟨"BackhaulReturnsModel", "scoreOf", "(I)I"⟩, 25), (⟨"BackhaulReturnsModel", "wrong", "(IIII)I"⟩, 25), (⟨"BackhaulReturnsModel", "age", "(I)I"⟩, 25), (⟨"BackhaulReturnsModel", "barred", "(II)I"⟩, 25), (⟨"BackhaulReturnsModel", "comesBack", "(IIIIZ)I"⟩, 25), (⟨"BackhaulReturnsModel", "release", "(III)I"⟩, 25), (⟨"BackhaulReturnsModel", "fee", "(III)I"⟩, 25)]
theorem lw_r3 : ∀ q ∈ lw_privs_3, lw_okq q := List.forall_mem_cons.mpr ⟨lw_p32, List.forall_mem_cons.mpr ⟨lw_p33, List.forall_mem_cons.mpr ⟨lw_p34, List.forall_mem_cons.mpr ⟨lw_p35, List.forall_mem_cons.mpr ⟨lw_p36, List.forall_mem_cons.mpr ⟨lw_p37, List.forall_mem_cons.mpr ⟨lw_p38, fun _ h => absurd h List.not_mem_nil⟩⟩⟩⟩⟩⟩⟩
def lw_privs : List (MethodName × Nat) := lw_privs_1 ++ (lw_privs_2 ++ (lw_privs_3))
def lw_tbl : List Cond := k2_sels lw_privs ++ tables_1
theorem lw_privs_ok : ∀ q ∈ lw_privs, lw_okq q := by
  show ∀ q ∈ lw_privs_1 ++ (lw_privs_2 ++ (lw_privs_3)), lw_okq q
  exact List.forall_mem_append.mpr ⟨lw_r1, List.forall_mem_append.mpr ⟨lw_r2, lw_r3⟩⟩
/-! ===== BEGIN words of one list among another's, by their places ===== -/
theorem goodIn_r {big : List Cond} (ws : List Cond) (ps : List Nat) (hp : ws = ps.filterMap (fun i => big[i]?)) (h : ws.all goodWord = true) : GoodIn big ws := by
  intro w hw
  have h1 := List.all_eq_true.mp h w hw
  rw [hp] at hw
  obtain ⟨i, -, hi⟩ := List.mem_filterMap.mp hw
  have hm : w ∈ big := by first | exact List.mem_of_getElem? hi | exact List.getElem?_mem hi
  exact ⟨hm, good_of_word h1⟩
theorem goodIn_app {big a b : List Cond} (ha : GoodIn big a) (hb : GoodIn big b) : GoodIn big (a ++ b) := fun w h => (List.mem_append.mp h).elim (ha w) (hb w)
theorem goodIn_ca {big a b : List Cond} {c : Cond} (ha : GoodIn big (c :: a)) (hb : GoodIn big b) : GoodIn big (c :: (a ++ b)) := fun w h => (List.mem_cons.mp h).elim (fun e => ha w (List.mem_cons.mpr (Or.inl e))) (fun h => (List.mem_append.mp h).elim (fun h => ha w (List.mem_cons.mpr (Or.inr h))) (hb w))
theorem goodIn_sub {big ws : List Cond} (hm : ∀ w ∈ ws, w ∈ big) (h : ws.all goodWord = true) : GoodIn big ws := fun w hw => ⟨hm w hw, good_of_word (List.all_eq_true.mp h w hw)⟩
/-! ===== END ===== -/

/-! ===== BEGIN exceptions that leave a method, and their catching by the caller (launches without stack traces) ===== -/
section VXA
/-! The laws vx_back, vx_callV, vx_callS, vx_callSW, vx_throw0, vx_throwS follow proofs of the library, with one case more: JvmDerived/Free/Laws.lean (Back.of_free), Shelf42/LK1.lean (callV, callS), Shelf/KitTraced.lean (throwNew0V, throwNewS). -/
/-- where a method has thrown q: the class by its name, the cell, what was written, the world -/
def vx_T (XC : String → State → State → Prop) (st : State) (q : Addr) (t : State) (mc ms : Nat) (free : Addr → Prop) : Prop :=
  ∃ (E : String) (ce : Cell) (L : List Loc), XC E st t ∧ t.heap[q]? = some ce ∧ ce.vm = .none ∧ st.vm.findClass E = some ce.cls ∧ st.WarmedH t.vm ∧ st.sameButNew ({ t with vm := st.vm } : State) L mc ms ∧ ∀ z ∈ L, free z.base
def vx_Q (Qc : Array Value → State → Outcome → State → Prop) (XC : String → State → State → Prop) (mc ms : Nat) (free : Addr → Prop) : Array Value → State → Outcome → State → Prop := fun a st o t =>
  (Qc a st o t ∧ ∃ L, FrameEnd st o t L mc ms ∧ ∀ q ∈ L, free q.base) ∨ ∃ q, o = .threw q ∧ vx_T XC st q t mc ms free
/-- a callee that returns or throws -/
def vx_Met (l : Launch) (y : MethodName) (ws : List Cond) (rm : Room) (Pc : Array Value → State → Prop) (Qc : Array Value → State → Outcome → State → Prop) (XC : String → State → State → Prop) (mc ms : Nat) (free : Addr → Prop) : Prop :=
  MetFree l y (headSpec ws rm) Pc (fun _ _ _ _ _ => True) (vx_Q Qc XC mc ms free)
def vx_Post (XC : String → State → State → Prop) (mc ms : Nat) (free : Addr → Prop) : Pt → Array Value → Addr → Pt → Prop := fun A a q B =>
  ∃ (g : JFrame) (mk : MethodId) (t : State) (L : List Loc) (E : String) (ce : Cell), B.U.heap = t.heap ∧ B.U.vm = t.vm ∧ XC E (A.U.calling g mk a) t ∧ t.heap[q]? = some ce ∧ ce.vm = .none ∧ A.U.vm.findClass E = some ce.cls ∧ B.locs = A.locs ++ L ∧ (∀ z ∈ L, free z.base) ∧ B.cells = A.cells + mc ∧ B.slots = A.slots + ms
def vx_Back (l : Launch) (R : Room) (p : Program) (e : Env) (below : List Frame) (s : State) (sargs : Array Value) (y : MethodName) (len W9 : Nat)
    (Pre : Pt → Array Value → Prop) (Post : Pt → Array Value → Option Value → Pt → Prop) (PostX : Pt → Array Value → Addr → Pt → Prop) : Prop :=
  ∀ (m : MethodId) (meth : Method) (c : Code) (A : Pt) (g : JFrame) (ig : Instr) (mk : MethodId) (a : Array Value),
    Stand p l e R s m sargs below meth c A.U A.locs A.cells A.slots → g.method = m → g.locals.size = c.maxLocals → decode c.code g.pc = .ok (ig, len) →
    2 * g.monitorRoom + (g.stack.map fun v => v.category).sum ≤ W9 → A.U.methodNamed? y = some mk → Pre A a →
    (∃ (v : Option Value) (B : Pt), Stand p l e R s m sargs below meth c B.U B.locs B.cells B.slots ∧ Post A a v B ∧
      Steps p.tables e below (doInvoke e (A.U.setTop g) [] mk a).1 (B.U.setTop { g with pc := g.pc + len, stack := v.toList ++ g.stack })) ∨
    (∃ (q : Addr) (B : Pt), Stand p l e R s m sargs below meth c B.U B.locs B.cells B.slots ∧ PostX A a q B ∧
      Steps p.tables e below (doInvoke e (A.U.setTop g) [] mk a).1 ((B.U.setTop g).pushFrame (.throwing q)))
section Payer
variable {l : Launch} {R : Room} {p : Program} {e : Env} {below : List Frame} {s : State} {sargs : Array Value} {y : MethodName} {len W9 : Nat}
theorem vx_back {ws : List Cond} {rm : Room} {Pc : Array Value → State → Prop} {Qc : Array Value → State → Outcome → State → Prop} {XC : String → State → State → Prop} {mc ms : Nat} {free : Addr → Prop} {bytes : ByteArray} {maxL : Nat} {ret : Option FieldType}
    (hM : vx_Met l y ws rm Pc Qc XC mc ms free) (hblind : FrameBlind Pc) (hrc : rm.cells = mc) (hrs : rm.slots = ms)
    (hframes : rm.frames + 1 ≤ R.frames) (hlocals : W9 + (maxL + 11) + rm.locals ≤ R.locals)
    (hws : ∀ w ∈ ws, ∀ a' U, s.WarmedH U.vm → w.before a' U = true) (hcode : Cond.code y bytes maxL ret ∈ ws) (hinit : ∀ a' U, s.WarmedH U.vm → (Cond.initialized y.cls).before a' U = true) :
    vx_Back l R p e below s sargs y len W9 (PreOf R mc ms Pc) (PostOf Qc mc ms free) (vx_Post XC mc ms free) := by
  intro m meth c A g ig mk a X hg hsize hdg hW hn hp
  have h1 : (headSpec ws rm).pre.before a A.U = true := atoms_intro fun w hw => hws w hw _ _ X.warmed
  have h2 : (Cond.code y bytes maxL ret).before a A.U = true := hws _ hcode _ _ X.warmed
  have h3 : (Cond.initialized y.cls).before a A.U = true := hinit _ _ X.warmed
  have h4 : A.cells + (headSpec ws rm).room.cells ≤ R.cells := by rw [show (headSpec ws rm).room.cells = mc from hrc]; exact hp.1
  have h5 : A.slots + (headSpec ws rm).room.slots ≤ R.slots := by rw [show (headSpec ws rm).room.slots = ms from hrs]; exact hp.2.1
  have hPc : Pc a (A.U.calling g mk a) := hblind _ _ _ _ hp.2.2
  obtain ⟨U, Ls, c0, s0⟩ := A
  dsimp only [Pt.U, Pt.locs, Pt.cells, Pt.slots] at h1 h2 h3 h4 h5 X hn hPc ⊢
  obtain ⟨methY, cY, hmY, hcY, -, hlY, -, -, -, -⟩ := Cond.code_spec hn h2
  obtain ⟨kY, hkY, -⟩ := className_of_methodNamed hn
  have hinitY : kY.init = .initialized := Cond.initialized_spec (findClass_of_methodNamed hn) hkY h3
  have h : At U g.method c below := by rw [hg]; exact X.here
  have hlocals9 : W9 + (maxL + 11) + (headSpec ws rm).room.locals ≤ R.locals := hlocals
  have happ : (headSpec ws rm).appliesLoose y e.platform (U.calling g mk a) = true :=
    Spec.appliesLoose_calling (g := g) h hdg hn hkY hinitY
      (X.room_calling (g := g) (R' := (headSpec ws rm).room) hsize hmY hcY hframes (by rw [hlY]; omega) h4 h5) h1
  obtain ⟨mid, hmid⟩ := h.above
  have hfr : (U.setTop g).frames = (.java g :: mid) ++ below := by rw [State.frames_setTop' g h.top, hmid]; rfl
  obtain ⟨o, s₂, hsteps, -, hend, hq⟩ := Steps.callFree hM p X.admits X.cas X.clock (acts := []) hfr happ hPc trivial
  have hq' : vx_Q Qc XC mc ms free a (U.calling g mk a) o s₂ := hq
  rw [State.frames_setTop' g h.top] at hend
  obtain ⟨g₀, hg0⟩ := Option.isSome_iff_exists.mp h.top
  obtain ⟨r, hr⟩ := State.topJava?_eq_some.mp hg0
  have hr' : (({ U with heap := s₂.heap, slotsUsed := s₂.slotsUsed } : State).setVm s₂.vm).frames = .java g₀ :: r := hr
  rcases hq' with ⟨hqc, L, hfe, hL⟩ | ⟨q, rfl, E, ce, L, hx, hce, hcv, hcl, hW₂, hsm, hL⟩
  · obtain ⟨⟨v, rfl⟩, hW₂, e2, q2, q3, q4, q5, q6⟩ := id hfe
    have e3 : s₂ = ({ (U.calling g mk a).setFrames s₂.frames with heap := s₂.heap, slotsUsed := s₂.slotsUsed } : State).setVm s₂.vm := by
      have : s₂ = ({ s₂ with vm := (U.calling g mk a).vm } : State).setVm s₂.vm := rfl
      rw [e2] at this
      exact this
    obtain ⟨c₂, i₂, len₂, hc₂, hd₂, hf₂⟩ := hend
    have hW' : U.WarmedH s₂.vm := hW₂
    have hcc : c₂ = c := by
      have h1 : s₂.code? g.method = U.code? g.method := by
        rw [State.code?_eq, State.code?_eq, hW'.alike.method?]
      exact Option.some.inj (hc₂.symm.trans (h1.trans h.code))
    subst hcc
    have hlen : len₂ = len := by rw [hdg] at hd₂; cases hd₂; rfl
    subst hlen
    have hs₂ : s₂ = (({ U with heap := s₂.heap, slotsUsed := s₂.slotsUsed } : State).setVm s₂.vm).setTop { g with pc := g.pc + len₂, stack := v.toList ++ g.stack } := by
      refine e3.trans ?_
      rw [hf₂, State.calling_eq h.top, State.setFrames_setFrames, State.setTop_of_frames _ hr', hr]
      rfl
    have hsame : U.sameButNew ({ U with heap := s₂.heap, slotsUsed := s₂.slotsUsed } : State) L mc ms := by
      refine ⟨?_, q2, q3, q4, q5, q6⟩
      obtain ⟨t, ht, -⟩ := State.frames_cons hr
      show ({ U with heap := s₂.heap, slotsUsed := s₂.slotsUsed } : State) = { U.setFrames U.frames with heap := s₂.heap, slotsUsed := s₂.slotsUsed }
      rw [State.setFrames_self ht]
    subst hg
    refine Or.inl ⟨v, ⟨(({ U with heap := s₂.heap, slotsUsed := s₂.slotsUsed } : State).setVm s₂.vm), Ls ++ L, c0 + mc, s0 + ms⟩,
      ⟨X.admits, X.cas, X.clock, X.frames, X.room, X.hears, X.method, X.code, (X.here.setHeapUsed s₂.heap s₂.slotsUsed).setVm hW'.alike, X.tail, State.WarmedH.trans X.warmed hW', X.limits, X.bytes, X.same.trans (hsame.setVm s.vm)⟩,
      ⟨g, mk, s₂, L, rfl, rfl, hqc, rfl, hL, rfl, rfl⟩, ?_⟩
    show Steps p.tables e below _ ((({ U with heap := s₂.heap, slotsUsed := s₂.slotsUsed } : State).setVm s₂.vm).setTop { g with pc := g.pc + len₂, stack := v.toList ++ g.stack })
    rw [← hs₂]
    exact hsteps
  · obtain ⟨e2, q2, q3, q4, q5, q6⟩ := id hsm
    have e3 : s₂ = ({ (U.calling g mk a).setFrames s₂.frames with heap := s₂.heap, slotsUsed := s₂.slotsUsed } : State).setVm s₂.vm := by
      have : s₂ = ({ s₂ with vm := (U.calling g mk a).vm } : State).setVm s₂.vm := rfl
      rw [e2] at this
      exact this
    have hf₂ : s₂.frames = .throwing q :: .java g :: U.frames.tail := hend
    have hW' : U.WarmedH s₂.vm := hW₂
    have hs₂ : s₂ = ((({ U with heap := s₂.heap, slotsUsed := s₂.slotsUsed } : State).setVm s₂.vm).setTop g).pushFrame (.throwing q) := by
      refine e3.trans ?_
      rw [hf₂, State.calling_eq h.top, State.setFrames_setFrames, State.pushFrame, State.frames_setTop _ hr', State.setTop_of_frames _ hr', State.setFrames_setFrames, hr]
      rfl
    have hsame : U.sameButNew ({ U with heap := s₂.heap, slotsUsed := s₂.slotsUsed } : State) L mc ms := by
      refine ⟨?_, q2, q3, q4, q5, q6⟩
      obtain ⟨t, ht, -⟩ := State.frames_cons hr
      show ({ U with heap := s₂.heap, slotsUsed := s₂.slotsUsed } : State) = { U.setFrames U.frames with heap := s₂.heap, slotsUsed := s₂.slotsUsed }
      rw [State.setFrames_self ht]
    subst hg
    refine Or.inr ⟨q, ⟨(({ U with heap := s₂.heap, slotsUsed := s₂.slotsUsed } : State).setVm s₂.vm), Ls ++ L, c0 + mc, s0 + ms⟩,
      ⟨X.admits, X.cas, X.clock, X.frames, X.room, X.hears, X.method, X.code, (X.here.setHeapUsed s₂.heap s₂.slotsUsed).setVm hW'.alike, X.tail, State.WarmedH.trans X.warmed hW', X.limits, X.bytes, X.same.trans (hsame.setVm s.vm)⟩,
      ⟨g, mk, s₂, L, E, ce, rfl, rfl, hx, hce, hcv, hcl, rfl, hL, rfl, rfl⟩, ?_⟩
    show Steps p.tables e below _ (((({ U with heap := s₂.heap, slotsUsed := s₂.slotsUsed } : State).setVm s₂.vm).setTop g).pushFrame (.throwing q))
    rw [← hs₂]
    exact hsteps
end Payer
section Calls
variable {p : Program} {l : Launch} {e : Env} {R : Room} {s : State} {m : MethodId} {args : Array Value} {below : List Frame} {meth : Method} {c : Code} {T : State} {locs : List Loc} {cells slots : Nat}
theorem vx_callV (X : Stand p l e R s m args below meth c T locs cells slots) (hexec : p.tables.exec = Jvm.exec) {own C : String} {index : Nat} {y : MethodName} {bytes : ByteArray} {maxL : Nat} {ret : Option FieldType}
    (hown : s.vm.findClass own = some m.cls) (hlink : (Cond.methodLink own index y).before args s = true) (hinst : (Cond.instanceMethod y).before args s = true) (hsel : (Cond.selects C y y).before args s = true)
    (hcode : (Cond.code y bytes maxL ret).before args s = true) (hy : y.cls ≠ "java/lang/invoke/MethodHandle" ∧ y.cls ≠ "java/lang/invoke/VarHandle")
    {W9 : Nat} {Pre : Pt → Array Value → Prop} {Post : Pt → Array Value → Option Value → Pt → Prop} {PostX : Pt → Array Value → Addr → Pt → Prop} (hK : vx_Back l R p e below s args y 3 W9 Pre Post PostX)
    {b : Addr} {cellB : Cell} (hcell : T.heap[b]? = some cellB) (hobj : cellB.vm.isStatics = false) (hcls : s.vm.findClass C = some cellB.cls)
    {g : JFrame} (hg : g.method = m) (hsize : g.locals.size = c.maxLocals) {argsL rest : List Value} (hlen : ∀ sig, parseMethodDescriptor y.desc = some sig → argsL.length = sig.parameters.length)
    (hstack : g.stack = argsL.reverse ++ .ref b :: rest) (hW : 2 * g.monitorRoom + (rest.map fun v => v.category).sum ≤ W9) (hdg : decode c.code g.pc = .ok (.invokevirtual index, 3))
    (hpre : ∀ vm₁, s.WarmedH vm₁ → Pre ⟨T.setVm vm₁, locs, cells, slots⟩ (Value.ref b :: argsL).toArray) :
    (∃ (v : Option Value) (vm₁ : Vm) (B : Pt), s.WarmedH vm₁ ∧ Stand p l e R s m args below meth c B.U B.locs B.cells B.slots ∧ Post ⟨T.setVm vm₁, locs, cells, slots⟩ (Value.ref b :: argsL).toArray v B ∧
      ∀ target, Steps p.tables e below (B.U.setTop { g with pc := g.pc + 3, stack := v.toList ++ rest }) target → Steps p.tables e below (T.setTop g) target) ∨
    (∃ (q : Addr) (vm₁ : Vm) (B : Pt), s.WarmedH vm₁ ∧ Stand p l e R s m args below meth c B.U B.locs B.cells B.slots ∧ PostX ⟨T.setVm vm₁, locs, cells, slots⟩ (Value.ref b :: argsL).toArray q B ∧
      Steps p.tables e below (T.setTop g) ((B.U.setTop { g with stack := rest }).pushFrame (.throwing q))) := by
  obtain ⟨mk, methM, hnamed, hmethM, hstM, habM⟩ := Cond.instanceMethod_spec hinst
  obtain ⟨methM', cM, hmethM', -, -, -, -, -, -, hsigM⟩ := Cond.code_spec hnamed hcode
  cases hmethM.symm.trans hmethM'
  obtain ⟨c2, r2, m2, q1, q2, q3, q4, kP, hkP, hkPi⟩ := Cond.selects_spec hsel
  cases hcls.symm.trans q1
  cases (State.methodFound?_of_named hnamed hy).symm.trans q2
  cases hnamed.symm.trans q3
  have hselP : selectMethod e.platform s.vm cellB.cls mk = .method mk := by rw [Launch.admits_selectMethod X.admits]; exact q4
  obtain ⟨vm₁, X₁, hstep₁⟩ := X.invokevirtual hexec hown hlink hnamed hmethM hstM hkP hkPi hy (a := b) (cell := cellB) hcell
    (fun z h => by rw [h] at hobj; cases hobj) hselP hmethM habM hkP hkPi (g := g) hg (argsL := argsL) (rest := rest) (hlen _ hsigM) hstack hdg
  rcases hK m meth c ⟨T.setVm vm₁, locs, cells, slots⟩ { g with stack := rest } (.invokevirtual index) mk (Value.ref b :: argsL).toArray X₁ hg hsize hdg hW (X₁.named hnamed) (hpre vm₁ X₁.warmed) with ⟨v, B, X', hpost, hsteps⟩ | ⟨q, B, X', hpost, hsteps⟩
  · exact Or.inl ⟨v, vm₁, B, X₁.warmed, X', hpost, fun target h => hstep₁ _ fun acts => by rw [doInvoke_state]; exact hsteps.trans h⟩
  · exact Or.inr ⟨q, vm₁, B, X₁.warmed, X', hpost, hstep₁ _ fun acts => by rw [doInvoke_state]; exact hsteps⟩
theorem vx_callS (X : Stand p l e R s m args below meth c T locs cells slots) (hexec : p.tables.exec = Jvm.exec) {own : String} {index : Nat} {y : MethodName} {bytes : ByteArray} {maxL : Nat} {ret : Option FieldType}
    (hown : s.vm.findClass own = some m.cls) (hlink : (Cond.methodLink own index y).before args s = true) (hstat : (Cond.static y).before args s = true) (hinit : (Cond.initialized y.cls).before args s = true)
    (hcode : (Cond.code y bytes maxL ret).before args s = true) (hy : y.cls ≠ "java/lang/invoke/MethodHandle" ∧ y.cls ≠ "java/lang/invoke/VarHandle")
    {W9 : Nat} {Pre : Pt → Array Value → Prop} {Post : Pt → Array Value → Option Value → Pt → Prop} {PostX : Pt → Array Value → Addr → Pt → Prop} (hK : vx_Back l R p e below s args y 3 W9 Pre Post PostX)
    {g : JFrame} (hg : g.method = m) (hsize : g.locals.size = c.maxLocals) {argsL rest : List Value} (hlen : ∀ sig, parseMethodDescriptor y.desc = some sig → argsL.length = sig.parameters.length)
    (hstack : g.stack = argsL.reverse ++ rest) (hW : 2 * g.monitorRoom + (rest.map fun v => v.category).sum ≤ W9) (hdg : decode c.code g.pc = .ok (.invokestatic index, 3))
    (hpre : ∀ vm₁, s.WarmedH vm₁ → Pre ⟨T.setVm vm₁, locs, cells, slots⟩ argsL.toArray) :
    (∃ (v : Option Value) (vm₁ : Vm) (B : Pt), s.WarmedH vm₁ ∧ Stand p l e R s m args below meth c B.U B.locs B.cells B.slots ∧ Post ⟨T.setVm vm₁, locs, cells, slots⟩ argsL.toArray v B ∧
      ∀ target, Steps p.tables e below (B.U.setTop { g with pc := g.pc + 3, stack := v.toList ++ rest }) target → Steps p.tables e below (T.setTop g) target) ∨
    (∃ (q : Addr) (vm₁ : Vm) (B : Pt), s.WarmedH vm₁ ∧ Stand p l e R s m args below meth c B.U B.locs B.cells B.slots ∧ PostX ⟨T.setVm vm₁, locs, cells, slots⟩ argsL.toArray q B ∧
      Steps p.tables e below (T.setTop g) ((B.U.setTop { g with stack := rest }).pushFrame (.throwing q))) := by
  obtain ⟨mk, hnamed⟩ := Cond.code_named hcode
  obtain ⟨methM, cM, hmethM, -, -, -, -, -, -, hsigM⟩ := Cond.code_spec hnamed hcode
  have hstatic : methM.isStatic = true := Cond.static_spec hnamed hmethM hstat
  obtain ⟨kP, hkP, -⟩ := className_of_methodNamed hnamed
  have hinitP : kP.init = .initialized := Cond.initialized_spec (findClass_of_methodNamed hnamed) hkP hinit
  obtain ⟨vm₁, X₁, hstep₁⟩ := X.invokestatic hexec hown hlink hnamed hmethM hstatic hkP hinitP hy (g := g) hg (argsL := argsL) (rest := rest) (hlen _ hsigM) hstack hdg
  rcases hK m meth c ⟨T.setVm vm₁, locs, cells, slots⟩ { g with stack := rest } (.invokestatic index) mk argsL.toArray X₁ hg hsize hdg hW (X₁.named hnamed) (hpre vm₁ X₁.warmed) with ⟨v, B, X', hpost, hsteps⟩ | ⟨q, B, X', hpost, hsteps⟩
  · exact Or.inl ⟨v, vm₁, B, X₁.warmed, X', hpost, fun target h => hstep₁ _ fun acts => by rw [doInvoke_state]; exact hsteps.trans h⟩
  · exact Or.inr ⟨q, vm₁, B, X₁.warmed, X', hpost, hstep₁ _ fun acts => by rw [doInvoke_state]; exact hsteps⟩
end Calls
theorem vx_cls {s : State} {T : State} {vm₁ : Vm} {E : String} {k : ClassId} (hW : s.WarmedH vm₁) (h : (T.setVm vm₁).vm.findClass E = some k) : s.vm.findClass E = some k := by
  have h1 : vm₁.findClass E = some k := h
  rw [hW.alike.findClass] at h1
  exact h1
/-- the method's frame g, with q thrown over it -/
def vx_W (p : Program) (l : Launch) (e : Env) (R : Room) (s : State) (m : MethodId) (args : Array Value) (below : List Frame) (meth : Method) (c : Code) (H : Heap) (locs : List Loc) (cells slots : Nat) (Q : State → Prop) (g : JFrame) (q : Addr) : Prop :=
  ∀ T : State, T.heap = H → Stand p l e R s m args below meth c T locs cells slots → ∃ t, Steps p.tables e below ((T.setTop g).pushFrame (.throwing q)) t ∧ Q t
def vx_Run (p : Program) (l : Launch) (e : Env) (R : Room) (s : State) (m : MethodId) (args : Array Value) (below : List Frame) (meth : Method) (c : Code) (H : Heap) (locs : List Loc) (cells slots mc ms : Nat) (g : JFrame) (rest : List Value) (Qa : State → Outcome → State → Prop) (XC : String → State → State → Prop) (free : Addr → Prop) : Prop :=
  ∀ T : State, T.heap = H → Stand p l e R s m args below meth c T locs cells slots →
    (∃ (v : Option Value) (st₀ t T' : State) (L : List Loc), st₀.heap = H ∧ Stand p l e R s m args below meth c T' (locs ++ L) (cells + mc) (slots + ms) ∧ (∀ q ∈ L, free q.base) ∧ T'.heap = t.heap ∧ T'.vm = t.vm ∧ Qa st₀ (.returned v) t ∧
      Goes p e below T g T' { g with pc := g.pc + 3, stack := v.toList ++ rest }) ∨
    (∃ (q : Addr) (st₀ t T' : State) (L : List Loc) (E : String) (ce : Cell), st₀.heap = H ∧ Stand p l e R s m args below meth c T' (locs ++ L) (cells + mc) (slots + ms) ∧ (∀ z ∈ L, free z.base) ∧ T'.heap = t.heap ∧ T'.vm = t.vm ∧ XC E st₀ t ∧ t.heap[q]? = some ce ∧ ce.vm = .none ∧ s.vm.findClass E = some ce.cls ∧
      Steps p.tables e below (T.setTop g) ((T'.setTop { g with stack := rest }).pushFrame (.throwing q)))
def vx_X {S : Type} (px : S → Prop) (B : String → S → State → Prop) (A : Nat → Prop) : String → State → State → Prop := fun E st t => ∃ u : S, px u ∧ B E u t ∧ va_F A st t
section Runs
variable {p : Program} {l : Launch} {e : Env} {R : Room} {s : State} {m : MethodId} {args : Array Value} {below : List Frame} {meth : Method} {c : Code} {H : Heap} {locs : List Loc} {cells slots : Nat}
variable {y : MethodName} {bytes cc : ByteArray} {maxL nL mc ms n index : Nat} {ret : Option FieldType} {ws : List Cond} {rm : Room} {Pc : Array Value → State → Prop} {Qc : Array Value → State → Outcome → State → Prop} {XC : String → State → State → Prop} {free : Addr → Prop} {Ts : List Cond} {own C : String} {b : Addr} {As rest : List Value} {g : JFrame}
theorem vx_callBack (cb : CallB R s args own index y bytes maxL ret ws rm mc ms n) (hM : vx_Met l y ws rm Pc Qc XC mc ms free) (hbl : FrameBlind Pc) : vx_Back l R p e below s args y 3 8 (PreOf R mc ms Pc) (PostOf Qc mc ms free) (vx_Post XC mc ms free) := by
  obtain ⟨hrc, hrs, hfr, hlo, hws, hcw, -, hini, -⟩ := cb
  exact vx_back (bytes := bytes) (maxL := maxL) (ret := ret) hM hbl hrc hrs hfr hlo hws hcw (fun a' U hW => word_at hW (Or.inl (by first | rfl | simp [Cond.onTables, Cond.keeps, Cond.steady])) hini)
theorem vx_runV (S : CallFix p m c cc nL s args Ts own) (hM : vx_Met l y ws rm Pc Qc XC mc ms free) (cw : CallW R s args own C index y bytes maxL ret ws rm mc ms n) (hp : PreV s H C b Pc As)
    (hg : g.method = m) (hn : As.length = n) (hsize : g.locals.size = nL) (hstack : g.stack = As.reverse ++ .ref b :: rest) (hW : 2 * g.monitorRoom + (rest.map fun v => v.category).sum ≤ 8) (hdg : decode cc g.pc = .ok (.invokevirtual index, 3)) (hf : cells + mc ≤ R.cells ∧ slots + ms ≤ R.slots) :
    vx_Run p l e R s m args below meth c H locs cells slots mc ms g rest (Qc (Value.ref b :: As).toArray) XC free := by
  have hK : vx_Back l R p e below s args y 3 8 (PreOf R mc ms Pc) (PostOf Qc mc ms free) (vx_Post XC mc ms free) := vx_callBack cw.1 hM hp.1
  obtain ⟨⟨-, -, -, -, -, -, hcode, -, hy, hlen, hl⟩, hin, hse⟩ := cw
  obtain ⟨hx, hb, hml, ho, -⟩ := S
  obtain ⟨-, ⟨cellB, hcB, hoB, hclB⟩, hPc⟩ := hp
  intro T hT X
  rcases vx_callV X hx (C := C) (bytes := bytes) (maxL := maxL) (ret := ret) ho hl hin hse hcode hy hK (by rw [hT]; exact hcB) hoB hclB hg (hsize.trans hml.symm) (argsL := As) (rest := rest) (fun sig h => hn.trans (hlen sig h)) hstack hW (by rw [hb]; exact hdg)
    (fun vm₁ hW₁ => ⟨hf.1, hf.2, hPc (T.setVm vm₁) hT hW₁⟩) with ⟨v, vm₁, ⟨U', l2, c2, s2⟩, hW₁, X', ⟨g', mk, t, L, e1, e2, hq, h1, hL, h2, h3⟩, st⟩ | ⟨q, vm₁, ⟨U', l2, c2, s2⟩, hW₁, X', ⟨g', mk, t, L, E, ce, e1, e2, hq, hce, hcv, hcl, h1, hL, h2, h3⟩, st⟩
  · dsimp only [Pt.U, Pt.locs, Pt.cells, Pt.slots] at X' e1 e2 h1 h2 h3 st
    subst h1; subst h2; subst h3
    exact Or.inl ⟨v, (T.setVm vm₁).calling g' mk (Value.ref b :: As).toArray, t, U', L, hT, X', hL, e1, e2, hq, st⟩
  · dsimp only [Pt.U, Pt.locs, Pt.cells, Pt.slots] at X' e1 e2 h1 h2 h3 st hcl
    subst h1; subst h2; subst h3
    exact Or.inr ⟨q, (T.setVm vm₁).calling g' mk (Value.ref b :: As).toArray, t, U', L, E, ce, hT, X', hL, e1, e2, hq, hce, hcv, vx_cls hW₁ hcl, st⟩
theorem vx_runS (S : CallFix p m c cc nL s args Ts own) (hM : vx_Met l y ws rm Pc Qc XC mc ms free) (cw : CallB R s args own index y bytes maxL ret ws rm mc ms n ∧ (Cond.static y).before args s = true) (hp : PreS s H Pc As)
    (hg : g.method = m) (hn : As.length = n) (hsize : g.locals.size = nL) (hstack : g.stack = As.reverse ++ rest) (hW : 2 * g.monitorRoom + (rest.map fun v => v.category).sum ≤ 8) (hdg : decode cc g.pc = .ok (.invokestatic index, 3)) (hf : cells + mc ≤ R.cells ∧ slots + ms ≤ R.slots) :
    vx_Run p l e R s m args below meth c H locs cells slots mc ms g rest (Qc As.toArray) XC free := by
  have hK : vx_Back l R p e below s args y 3 8 (PreOf R mc ms Pc) (PostOf Qc mc ms free) (vx_Post XC mc ms free) := vx_callBack cw.1 hM hp.1
  obtain ⟨⟨-, -, -, -, -, -, hcode, hini, hy, hlen, hl⟩, hstt⟩ := cw
  obtain ⟨hx, hb, hml, ho, -⟩ := S
  intro T hT X
  rcases vx_callS X hx (bytes := bytes) (maxL := maxL) (ret := ret) ho hl hstt hini hcode hy hK hg (hsize.trans hml.symm) (argsL := As) (rest := rest) (fun sig h => hn.trans (hlen sig h)) hstack hW (by rw [hb]; exact hdg)
    (fun vm₁ hW₁ => ⟨hf.1, hf.2, hp.2 (T.setVm vm₁) hT hW₁⟩) with ⟨v, vm₁, ⟨U', l2, c2, s2⟩, hW₁, X', ⟨g', mk, t, L, e1, e2, hq, h1, hL, h2, h3⟩, st⟩ | ⟨q, vm₁, ⟨U', l2, c2, s2⟩, hW₁, X', ⟨g', mk, t, L, E, ce, e1, e2, hq, hce, hcv, hcl, h1, hL, h2, h3⟩, st⟩
  · dsimp only [Pt.U, Pt.locs, Pt.cells, Pt.slots] at X' e1 e2 h1 h2 h3 st
    subst h1; subst h2; subst h3
    exact Or.inl ⟨v, (T.setVm vm₁).calling g' mk As.toArray, t, U', L, hT, X', hL, e1, e2, hq, st⟩
  · dsimp only [Pt.U, Pt.locs, Pt.cells, Pt.slots] at X' e1 e2 h1 h2 h3 st hcl
    subst h1; subst h2; subst h3
    exact Or.inr ⟨q, (T.setVm vm₁).calling g' mk As.toArray, t, U', L, E, ce, hT, X', hL, e1, e2, hq, hce, hcv, vx_cls hW₁ hcl, st⟩
end Runs
section Rows
variable {p : Program} {l : Launch} {e : Env} {R : Room} {s : State} {m : MethodId} {args : Array Value} {below : List Frame} {meth : Method} {c : Code} {H : Heap} {locs : List Loc} {cells slots : Nat} {Q : State → Prop}
variable {mc ms : Nat} {free : Addr → Prop} {A0 A1 : Nat → Prop} {H0 : Heap} {a : Array Value} {pc : Nat} {ls : Array Slot} {st0 rest : List Value}
theorem vx_keep {st₀ t T' : State} {L : List Loc} (h0 : st₀.heap = H) (e1 : T'.heap = t.heap) (hS : va_S A0 H0 H locs) (hA : ∀ q, q < H.size → A1 q → A0 q) (hf : ∀ q, free q → A0 q) (hL : ∀ q ∈ L, free q.base) (hF : va_F A1 st₀ t) :
    H.size ≤ T'.heap.size ∧ (∀ q : Nat, q < H.size → ¬ A1 q → T'.heap[q]? = H[q]?) ∧ va_S A0 H0 T'.heap (locs ++ L) := by
  obtain ⟨hz, hk⟩ := hF
  rw [h0] at hz hk
  exact ⟨by rw [e1]; exact hz, fun q h1 h2 => by rw [e1]; exact hk q h1 h2,
    ⟨Nat.le_trans hS.1 (by rw [e1]; exact hz), fun q h1 h2 => by rw [e1, hk q (Nat.lt_of_lt_of_le h1 hS.1) (fun z => h2 (hA q (Nat.lt_of_lt_of_le h1 hS.1) z))]; exact hS.2.1 q h1 h2, fun q hq => by
      rcases List.mem_append.mp hq with h | h
      · exact hS.2.2 q h
      · exact hf _ (hL q h)⟩⟩
theorem vx_calli {S SX : Type} {post : Int32 → S → Prop} {px : SX → Prop} {B : S → State → Prop} {BX : String → SX → State → Prop} {AX : Nat → Prop} (hr : vx_Run p l e R s m args below meth c H locs cells slots mc ms (F0 m pc ls st0) rest (va_Qi post B A1 a) (vx_X px BX AX) free) (hS : va_S A0 H0 H locs) (hA : ∀ q, q < H.size → A1 q → A0 q) (hf : ∀ q, free q → A0 q) (hAX : ∀ q, q < H.size → AX q → A0 q)
    (kx : ∀ (E : String) (ce : Cell) (q9 : Addr) (u : SX) (t : State) (H1 : Heap) (locs1 : List Loc), t.heap = H1 → s.vm.Alike t.vm → px u → BX E u t → H.size ≤ H1.size → (∀ q : Nat, q < H.size → ¬ AX q → H1[q]? = H[q]?) → va_S A0 H0 H1 locs1 → H1[q9]? = some ce → ce.vm = .none → s.vm.findClass E = some ce.cls → vx_W p l e R s m args below meth c H1 locs1 (cells + mc) (slots + ms) Q (F0 m pc ls rest) q9)
    (kk : ∀ (r : Int32) (u : S) (t : State) (H1 : Heap) (locs1 : List Loc), t.heap = H1 → s.vm.Alike t.vm → post r u → B u t → H.size ≤ H1.size → (∀ q : Nat, q < H.size → ¬ A1 q → H1[q]? = H[q]?) → va_S A0 H0 H1 locs1 → W p l e R s m args below meth c H1 locs1 (cells + mc) (slots + ms) Q (F0 m (pc + 3) ls (.int r :: rest))) : W p l e R s m args below meth c H locs cells slots Q (F0 m pc ls st0) := by
  intro T hT X
  rcases hr T hT X with ⟨v, st₀, t, T', L, h0, X', hL, e1, e2, ⟨⟨r, u, hv, hp, hb⟩, hF⟩, st⟩ | ⟨q, st₀, t, T', L, E, ce, h0, X', hL, e1, e2, ⟨u, hp, hb, hF⟩, hce, hcv, hcl, st⟩
  · cases hv
    obtain ⟨k1, k2, k3⟩ := vx_keep h0 e1 hS hA hf hL hF
    obtain ⟨t2, a1, b1⟩ := kk r u t T'.heap (locs ++ L) e1.symm (by rw [← e2]; exact X'.warmed.alike) hp hb k1 k2 k3 T' rfl X'
    exact ⟨t2, st t2 a1, b1⟩
  · obtain ⟨k1, k2, k3⟩ := vx_keep h0 e1 hS hAX hf hL hF
    obtain ⟨t2, a1, b1⟩ := kx E ce q u t T'.heap (locs ++ L) e1.symm (by rw [← e2]; exact X'.warmed.alike) hp hb k1 k2 k3 (by rw [e1]; exact hce) hcv hcl T' rfl X'
    exact ⟨t2, st.trans a1, b1⟩
theorem vx_calll {S SX : Type} {post : Int64 → S → Prop} {px : SX → Prop} {B : S → State → Prop} {BX : String → SX → State → Prop} {AX : Nat → Prop} (hr : vx_Run p l e R s m args below meth c H locs cells slots mc ms (F0 m pc ls st0) rest (va_Ql post B A1 a) (vx_X px BX AX) free) (hS : va_S A0 H0 H locs) (hA : ∀ q, q < H.size → A1 q → A0 q) (hf : ∀ q, free q → A0 q) (hAX : ∀ q, q < H.size → AX q → A0 q)
    (kx : ∀ (E : String) (ce : Cell) (q9 : Addr) (u : SX) (t : State) (H1 : Heap) (locs1 : List Loc), t.heap = H1 → s.vm.Alike t.vm → px u → BX E u t → H.size ≤ H1.size → (∀ q : Nat, q < H.size → ¬ AX q → H1[q]? = H[q]?) → va_S A0 H0 H1 locs1 → H1[q9]? = some ce → ce.vm = .none → s.vm.findClass E = some ce.cls → vx_W p l e R s m args below meth c H1 locs1 (cells + mc) (slots + ms) Q (F0 m pc ls rest) q9)
    (kk : ∀ (r : Int64) (u : S) (t : State) (H1 : Heap) (locs1 : List Loc), t.heap = H1 → s.vm.Alike t.vm → post r u → B u t → H.size ≤ H1.size → (∀ q : Nat, q < H.size → ¬ A1 q → H1[q]? = H[q]?) → va_S A0 H0 H1 locs1 → W p l e R s m args below meth c H1 locs1 (cells + mc) (slots + ms) Q (F0 m (pc + 3) ls (.long r :: rest))) : W p l e R s m args below meth c H locs cells slots Q (F0 m pc ls st0) := by
  intro T hT X
  rcases hr T hT X with ⟨v, st₀, t, T', L, h0, X', hL, e1, e2, ⟨⟨r, u, hv, hp, hb⟩, hF⟩, st⟩ | ⟨q, st₀, t, T', L, E, ce, h0, X', hL, e1, e2, ⟨u, hp, hb, hF⟩, hce, hcv, hcl, st⟩
  · cases hv
    obtain ⟨k1, k2, k3⟩ := vx_keep h0 e1 hS hA hf hL hF
    obtain ⟨t2, a1, b1⟩ := kk r u t T'.heap (locs ++ L) e1.symm (by rw [← e2]; exact X'.warmed.alike) hp hb k1 k2 k3 T' rfl X'
    exact ⟨t2, st t2 a1, b1⟩
  · obtain ⟨k1, k2, k3⟩ := vx_keep h0 e1 hS hAX hf hL hF
    obtain ⟨t2, a1, b1⟩ := kx E ce q u t T'.heap (locs ++ L) e1.symm (by rw [← e2]; exact X'.warmed.alike) hp hb k1 k2 k3 (by rw [e1]; exact hce) hcv hcl T' rfl X'
    exact ⟨t2, st.trans a1, b1⟩
theorem vx_callf {S SX : Type} {post : UInt32 → S → Prop} {px : SX → Prop} {B : S → State → Prop} {BX : String → SX → State → Prop} {AX : Nat → Prop} (hr : vx_Run p l e R s m args below meth c H locs cells slots mc ms (F0 m pc ls st0) rest (va_Qf post B A1 a) (vx_X px BX AX) free) (hS : va_S A0 H0 H locs) (hA : ∀ q, q < H.size → A1 q → A0 q) (hf : ∀ q, free q → A0 q) (hAX : ∀ q, q < H.size → AX q → A0 q)
    (kx : ∀ (E : String) (ce : Cell) (q9 : Addr) (u : SX) (t : State) (H1 : Heap) (locs1 : List Loc), t.heap = H1 → s.vm.Alike t.vm → px u → BX E u t → H.size ≤ H1.size → (∀ q : Nat, q < H.size → ¬ AX q → H1[q]? = H[q]?) → va_S A0 H0 H1 locs1 → H1[q9]? = some ce → ce.vm = .none → s.vm.findClass E = some ce.cls → vx_W p l e R s m args below meth c H1 locs1 (cells + mc) (slots + ms) Q (F0 m pc ls rest) q9)
    (kk : ∀ (r : UInt32) (u : S) (t : State) (H1 : Heap) (locs1 : List Loc), t.heap = H1 → s.vm.Alike t.vm → post r u → B u t → H.size ≤ H1.size → (∀ q : Nat, q < H.size → ¬ A1 q → H1[q]? = H[q]?) → va_S A0 H0 H1 locs1 → W p l e R s m args below meth c H1 locs1 (cells + mc) (slots + ms) Q (F0 m (pc + 3) ls (.float r :: rest))) : W p l e R s m args below meth c H locs cells slots Q (F0 m pc ls st0) := by
  intro T hT X
  rcases hr T hT X with ⟨v, st₀, t, T', L, h0, X', hL, e1, e2, ⟨⟨r, u, hv, hp, hb⟩, hF⟩, st⟩ | ⟨q, st₀, t, T', L, E, ce, h0, X', hL, e1, e2, ⟨u, hp, hb, hF⟩, hce, hcv, hcl, st⟩
  · cases hv
    obtain ⟨k1, k2, k3⟩ := vx_keep h0 e1 hS hA hf hL hF
    obtain ⟨t2, a1, b1⟩ := kk r u t T'.heap (locs ++ L) e1.symm (by rw [← e2]; exact X'.warmed.alike) hp hb k1 k2 k3 T' rfl X'
    exact ⟨t2, st t2 a1, b1⟩
  · obtain ⟨k1, k2, k3⟩ := vx_keep h0 e1 hS hAX hf hL hF
    obtain ⟨t2, a1, b1⟩ := kx E ce q u t T'.heap (locs ++ L) e1.symm (by rw [← e2]; exact X'.warmed.alike) hp hb k1 k2 k3 (by rw [e1]; exact hce) hcv hcl T' rfl X'
    exact ⟨t2, st.trans a1, b1⟩
theorem vx_calld {S SX : Type} {post : UInt64 → S → Prop} {px : SX → Prop} {B : S → State → Prop} {BX : String → SX → State → Prop} {AX : Nat → Prop} (hr : vx_Run p l e R s m args below meth c H locs cells slots mc ms (F0 m pc ls st0) rest (va_Qd post B A1 a) (vx_X px BX AX) free) (hS : va_S A0 H0 H locs) (hA : ∀ q, q < H.size → A1 q → A0 q) (hf : ∀ q, free q → A0 q) (hAX : ∀ q, q < H.size → AX q → A0 q)
    (kx : ∀ (E : String) (ce : Cell) (q9 : Addr) (u : SX) (t : State) (H1 : Heap) (locs1 : List Loc), t.heap = H1 → s.vm.Alike t.vm → px u → BX E u t → H.size ≤ H1.size → (∀ q : Nat, q < H.size → ¬ AX q → H1[q]? = H[q]?) → va_S A0 H0 H1 locs1 → H1[q9]? = some ce → ce.vm = .none → s.vm.findClass E = some ce.cls → vx_W p l e R s m args below meth c H1 locs1 (cells + mc) (slots + ms) Q (F0 m pc ls rest) q9)
    (kk : ∀ (r : UInt64) (u : S) (t : State) (H1 : Heap) (locs1 : List Loc), t.heap = H1 → s.vm.Alike t.vm → post r u → B u t → H.size ≤ H1.size → (∀ q : Nat, q < H.size → ¬ A1 q → H1[q]? = H[q]?) → va_S A0 H0 H1 locs1 → W p l e R s m args below meth c H1 locs1 (cells + mc) (slots + ms) Q (F0 m (pc + 3) ls (.double r :: rest))) : W p l e R s m args below meth c H locs cells slots Q (F0 m pc ls st0) := by
  intro T hT X
  rcases hr T hT X with ⟨v, st₀, t, T', L, h0, X', hL, e1, e2, ⟨⟨r, u, hv, hp, hb⟩, hF⟩, st⟩ | ⟨q, st₀, t, T', L, E, ce, h0, X', hL, e1, e2, ⟨u, hp, hb, hF⟩, hce, hcv, hcl, st⟩
  · cases hv
    obtain ⟨k1, k2, k3⟩ := vx_keep h0 e1 hS hA hf hL hF
    obtain ⟨t2, a1, b1⟩ := kk r u t T'.heap (locs ++ L) e1.symm (by rw [← e2]; exact X'.warmed.alike) hp hb k1 k2 k3 T' rfl X'
    exact ⟨t2, st t2 a1, b1⟩
  · obtain ⟨k1, k2, k3⟩ := vx_keep h0 e1 hS hAX hf hL hF
    obtain ⟨t2, a1, b1⟩ := kx E ce q u t T'.heap (locs ++ L) e1.symm (by rw [← e2]; exact X'.warmed.alike) hp hb k1 k2 k3 (by rw [e1]; exact hce) hcv hcl T' rfl X'
    exact ⟨t2, st.trans a1, b1⟩
theorem vx_callv {S SX : Type} {post : S → Prop} {px : SX → Prop} {B : S → State → Prop} {BX : String → SX → State → Prop} {AX : Nat → Prop} (hr : vx_Run p l e R s m args below meth c H locs cells slots mc ms (F0 m pc ls st0) rest (va_Qv post B A1 a) (vx_X px BX AX) free) (hS : va_S A0 H0 H locs) (hA : ∀ q, q < H.size → A1 q → A0 q) (hf : ∀ q, free q → A0 q) (hAX : ∀ q, q < H.size → AX q → A0 q)
    (kx : ∀ (E : String) (ce : Cell) (q9 : Addr) (u : SX) (t : State) (H1 : Heap) (locs1 : List Loc), t.heap = H1 → s.vm.Alike t.vm → px u → BX E u t → H.size ≤ H1.size → (∀ q : Nat, q < H.size → ¬ AX q → H1[q]? = H[q]?) → va_S A0 H0 H1 locs1 → H1[q9]? = some ce → ce.vm = .none → s.vm.findClass E = some ce.cls → vx_W p l e R s m args below meth c H1 locs1 (cells + mc) (slots + ms) Q (F0 m pc ls rest) q9)
    (kk : ∀ (u : S) (t : State) (H1 : Heap) (locs1 : List Loc), t.heap = H1 → s.vm.Alike t.vm → post u → B u t → H.size ≤ H1.size → (∀ q : Nat, q < H.size → ¬ A1 q → H1[q]? = H[q]?) → va_S A0 H0 H1 locs1 → W p l e R s m args below meth c H1 locs1 (cells + mc) (slots + ms) Q (F0 m (pc + 3) ls (rest))) : W p l e R s m args below meth c H locs cells slots Q (F0 m pc ls st0) := by
  intro T hT X
  rcases hr T hT X with ⟨v, st₀, t, T', L, h0, X', hL, e1, e2, ⟨⟨u, hv, hp, hb⟩, hF⟩, st⟩ | ⟨q, st₀, t, T', L, E, ce, h0, X', hL, e1, e2, ⟨u, hp, hb, hF⟩, hce, hcv, hcl, st⟩
  · cases hv
    obtain ⟨k1, k2, k3⟩ := vx_keep h0 e1 hS hA hf hL hF
    obtain ⟨t2, a1, b1⟩ := kk u t T'.heap (locs ++ L) e1.symm (by rw [← e2]; exact X'.warmed.alike) hp hb k1 k2 k3 T' rfl X'
    exact ⟨t2, st t2 a1, b1⟩
  · obtain ⟨k1, k2, k3⟩ := vx_keep h0 e1 hS hAX hf hL hF
    obtain ⟨t2, a1, b1⟩ := kx E ce q u t T'.heap (locs ++ L) e1.symm (by rw [← e2]; exact X'.warmed.alike) hp hb k1 k2 k3 (by rw [e1]; exact hce) hcv hcl T' rfl X'
    exact ⟨t2, st.trans a1, b1⟩
/-- caught by the row x of this method's table; the rows ahead don't take it -/
theorem vx_catch {own name : String} {E : String} {ce : Cell} {q : Addr} (hown : s.vm.findClass own = some m.cls) (pre : List ExceptionTableEntry) (x : ExceptionTableEntry) (suf : List ExceptionTableEntry) (hsplit : c.exceptionTable.toList = pre ++ x :: suf)
    (hpass : ∀ z ∈ pre, covers z pc = false ∨ (z.catchType ≠ 0 ∧ ∃ nm : String, (Cond.classLink own z.catchType nm).before args s = true ∧ va_Nc E nm s)) (hx : covers x pc = true) (h0 : x.catchType ≠ 0)
    (hlink : (Cond.classLink own x.catchType name).before args s = true) (hcast : (Cond.castable E name).before args s = true) (hcell : H[q]? = some ce) (hv : ce.vm = .none) (hcl : s.vm.findClass E = some ce.cls)
    (kk : W p l e R s m args below meth c H locs cells slots Q (F0 m x.handlerPc ls [.ref q])) : vx_W p l e R s m args below meth c H locs cells slots Q (F0 m pc ls rest) q := by
  intro T hT X
  have hpl : e.platform.magicAccessors = ({} : Platform).magicAccessors := by rw [X.admits.platform]
  obtain ⟨c3, c4, hc3, hc4, hasg⟩ := Cond.castable_spec hcast
  cases Option.some.inj (hc3.symm.trans hcl)
  obtain ⟨c5, hc5, hcl5⟩ := Cond.classLink_spec hown hlink e.platform hpl
  cases Option.some.inj (hc4.symm.trans hc5)
  obtain ⟨vm', X', st⟩ := X.thenCaughtThrough q (g := F0 m pc ls rest) rfl (Steps.refl _) (by rw [hT]; exact hcell) (by rw [hv]; rfl) (by obtain ⟨k9, h9, -⟩ := Vm.findClass_spec hcl; exact ⟨k9, h9⟩) pre x suf hsplit
    (fun z hz => by
      rcases hpass z hz with h | ⟨hz0, nm, hl1, hn1⟩
      · exact Or.inl h
      · obtain ⟨c6, hc6, hcl6⟩ := Cond.classLink_spec hown hl1 e.platform hpl
        obtain ⟨a8, b8, h1, h2, h3⟩ := hn1
        cases Option.some.inj (h1.symm.trans hcl)
        cases Option.some.inj (h2.symm.trans hc6)
        exact Or.inr ⟨hz0, _, hcl6, h3⟩) hx (Or.inr ⟨h0, c4, hcl5, hasg⟩)
  obtain ⟨t, a1, b1⟩ := kk (T.setVm vm') hT X'
  exact ⟨t, st.trans a1, b1⟩
end Rows
section Ends
variable {p : Program} {l : Launch} {e : Env} {R : Room} {s : State} {m : MethodId} {args : Array Value} {below : List Frame} {meth : Method} {c : Code} {H : Heap} {locs : List Loc} {cells slots : Nat} {Q : State → Prop}
variable {mc ms : Nat} {free : Addr → Prop} {A0 A1 : Nat → Prop} {H0 : Heap} {a : Array Value} {ls : Array Slot} {st0 rest : List Value}
variable {Qc : Array Value → State → Outcome → State → Prop} {XC : String → State → State → Prop}
/-- what a body that may throw owes at its end -/
def vx_MQ (below : List Frame) (Qc : Array Value → State → Outcome → State → Prop) (XC : String → State → State → Prop) (a : Array Value) (s : State) (mc ms : Nat) (free : Addr → Prop) : State → Prop := fun t =>
  ∃ o, t.status = .running ∧ Ended t below o ∧ vx_Q Qc XC mc ms free a s o t
theorem vx_ret {g : JFrame} {mc ms : Nat} (k : W p l e R s m args below meth c H locs cells slots (MQ below Qc args s mc ms free) g) : W p l e R s m args below meth c H locs cells slots (vx_MQ below Qc XC args s mc ms free) g := by
  intro T hT X
  obtain ⟨t, a1, o, b1, b2, b3, b4⟩ := k T hT X
  exact ⟨t, a1, o, b1, b2, Or.inl ⟨b3, b4⟩⟩
/-- not caught here: it goes on to the caller -/
theorem vx_widen {g : JFrame} {q : Addr} {k n : Nat} (h1 : cells ≤ k) (h2 : slots ≤ n) (kk : vx_W p l e R s m args below meth c H locs k n Q g q) : vx_W p l e R s m args below meth c H locs cells slots Q g q := fun T hT X => kk T hT (stand_widen X h1 h2)
theorem vx_out {pc : Nat} {E : String} {ce : Cell} {q : Addr} {mc ms : Nat} (hout : ∀ x ∈ c.exceptionTable.toList, covers x pc = false) (hlocks : meth.locks = false) (hcell : H[q]? = some ce) (hv : ce.vm = .none) (hcl : s.vm.findClass E = some ce.cls)
    (hx : ∀ t : State, t.heap = H → s.vm.Alike t.vm → XC E s t) (hf : ∀ z ∈ locs, free z.base) (hc : cells ≤ mc) (hs : slots ≤ ms) :
    vx_W p l e R s m args below meth c H locs cells slots (vx_MQ below Qc XC args s mc ms free) (F0 m pc ls rest) q := by
  intro T hT X
  obtain ⟨st1, hrun, hend, hW, hsm⟩ := X.leaveThrown q (g := F0 m pc ls rest) rfl rfl rfl hout hlocks
  have hcell9 : (T.setFrames (.throwing q :: below)).heap[q]? = some ce := by
    show T.heap[q]? = some ce
    rw [hT]; exact hcell
  exact ⟨_, st1, .threw q, hrun, hend, Or.inr ⟨q, rfl, E, ce, locs, hx _ hT hW.alike, hcell9, hv, hcl, hW, hsm.mono hc hs, hf⟩⟩
theorem vx_frame {U : State} {k n : Nat} (h : s.sameButNew ({ U with vm := s.vm } : State) locs k n) : s.heap.size ≤ U.heap.size ∧ ∀ q : Nat, q < s.heap.size → (∀ z ∈ locs, z.base ≠ q) → U.heap[q]? = s.heap[q]? := by
  obtain ⟨-, h2, -, -, -, h6⟩ := h
  refine ⟨h2, fun q hq hz => ?_⟩
  obtain ⟨c9, e1, e2, e3, e4⟩ := h6 q _ (Array.getElem?_eq_getElem hq)
  have hs : c9.slots = (s.heap[q]).slots := Array.ext_getElem? fun i => e4 i fun hm => hz _ hm rfl
  have h9 : c9 = s.heap[q] := by
    rw [hs] at e2
    exact e2
  have e5 : U.heap[q]? = some c9 := e1
  rw [e5, h9, Array.getElem?_eq_getElem hq]
/-- the words of a throw but the four that speak of the heap -/
def vx_no (w : Cond) : Bool := decide (w ≠ .isRef (.static Bundle.tN "UNASSIGNED_STACK" Bundle.steD)) && decide (w ≠ .isRef (.static Bundle.tN "SUPPRESSED_SENTINEL" Bundle.listD)) && decide (w ≠ .laysStatic Bundle.tN "UNASSIGNED_STACK" Bundle.steD) && decide (w ≠ .laysStatic Bundle.tN "SUPPRESSED_SENTINEL" Bundle.listD)
def vx_at0 (own : String) (ic : Nat) (X : String) (names : List String) : List Cond := (Bundle.ownAtoms0 own ic X names).filter vx_no
def vx_atS (own : String) (ic : Nat) (X : String) (names : List String) : List Cond := (Bundle.ownAtoms own ic X names).filter vx_no
/-- a word that the tables alone decide, or a good one -/
def vx_ot (w : Cond) : Bool := w.onTables || goodWord w
theorem vx_ot_at {args a' : Array Value} {s U : State} {w : Cond} (hW : s.WarmedH U.vm) (hvm : s.vm = U.vm) (hg : vx_ot w = true) (h : w.before args s = true) : w.before a' U = true := by
  simp only [vx_ot, Bool.or_eq_true] at hg
  rcases hg with hg | hg
  · exact va_tabs hg hvm h
  · exact word_at hW (good_of_word hg) h
/-- a list's words: the good ones out of the method's own list, the others by premises of their own -/
theorem vx_hat {args : Array Value} {s : State} {L B : List Cond} (h1 : ∀ w ∈ L.filter goodWord, w.before args s = true) (h2 : ∀ w ∈ L.filter (fun w => !goodWord w), w ∈ B) (h3 : ∀ w ∈ B, w.before args s = true) : ∀ w ∈ L, w.before args s = true := by
  intro w hw
  by_cases g : goodWord w = true
  · exact h1 w (List.mem_filter.mpr ⟨hw, g⟩)
  · refine h3 w (h2 w (List.mem_filter.mpr ⟨hw, ?_⟩))
    show (!goodWord w) = true
    cases hgw : goodWord w
    · rfl
    · exact absurd hgw g
theorem vx_c {args : Array Value} {s : State} {w : Cond} {B : List Cond} (h : w.before args s = true) (t : ∀ w ∈ B, w.before args s = true) : ∀ w' ∈ w :: B, w'.before args s = true := fun w' h' => (List.mem_cons.mp h').elim (fun e => by rw [e]; exact h) (t w')
theorem vx_n {args : Array Value} {s : State} : ∀ w ∈ ([] : List Cond), w.before args s = true := fun _ h => nomatch h
theorem vx_own {args : Array Value} {s : State} {L : List Cond} (h1 : ∀ w ∈ L.filter vx_no, w.before args s = true)
    (hU : (Cond.isRef (.static Bundle.tN "UNASSIGNED_STACK" Bundle.steD)).before args s = true) (hN : (Cond.isRef (.static Bundle.tN "SUPPRESSED_SENTINEL" Bundle.listD)).before args s = true)
    (lU : (Cond.laysStatic Bundle.tN "UNASSIGNED_STACK" Bundle.steD).before args s = true) (lN : (Cond.laysStatic Bundle.tN "SUPPRESSED_SENTINEL" Bundle.listD).before args s = true) : ∀ w ∈ L, w.before args s = true := by
  intro w hw
  by_cases e1 : w = .isRef (.static Bundle.tN "UNASSIGNED_STACK" Bundle.steD)
  · rw [e1]; exact hU
  · by_cases e2 : w = .isRef (.static Bundle.tN "SUPPRESSED_SENTINEL" Bundle.listD)
    · rw [e2]; exact hN
    · by_cases e3 : w = .laysStatic Bundle.tN "UNASSIGNED_STACK" Bundle.steD
      · rw [e3]; exact lU
      · by_cases e4 : w = .laysStatic Bundle.tN "SUPPRESSED_SENTINEL" Bundle.listD
        · rw [e4]; exact lN
        · exact h1 w (List.mem_filter.mpr ⟨hw, by unfold vx_no; rw [decide_eq_true e1, decide_eq_true e2, decide_eq_true e3, decide_eq_true e4]; rfl⟩)
/-- where a static field lies, its class's statics cell in H -/
def vx_L (C n d : String) (A : Nat → Prop) (U : State) (H : Heap) : Prop := ∃ (c : ClassId) (k : Class) (i : Nat) (f : Field) (a : Nat) (cell : Cell), U.vm.findClass C = some c ∧ U.fieldFound? C n d = some (c, k, i, f) ∧ f.isStatic = true ∧ k.statics = some a ∧ H[a]? = some cell ∧ cell.vm.isStatics = true ∧ cell.cls = c ∧ f.slot < cell.slots.size ∧ k.staticTypes[f.slot]? = some f.type ∧ ¬ A a
theorem vx_L.moved {C n d : String} {A : Nat → Prop} {u U : State} {H : Heap} (hvm : u.vm.Alike U.vm) (h : vx_L C n d A u H) : vx_L C n d A U H := by
  obtain ⟨c, k, i, f, a, cell, h1, h2, h3, h4, h5, h6, h7, h8, h9, h10⟩ := h
  obtain ⟨k', hi', he⟩ := State.fieldFound?_setVm hvm h2
  exact ⟨c, k', i, f, a, cell, by rw [hvm.findClass]; exact h1, hi', h3, by rw [he]; exact h4, h5, h6, h7, h8, by rw [he]; exact h9, h10⟩
theorem vx_L.kept {C n d : String} {A : Nat → Prop} {U : State} {H H1 : Heap} (h : vx_L C n d A U H) (hq : ∀ a : Nat, a < H.size → ¬ A a → H1[a]? = H[a]?) : vx_L C n d A U H1 := by
  obtain ⟨c, k, i, f, a, cell, h1, h2, h3, h4, h5, h6, h7, h8, h9, h10⟩ := h
  exact ⟨c, k, i, f, a, cell, h1, h2, h3, h4, by rw [hq a (Array.getElem?_eq_some_iff.mp h5).1 h10]; exact h5, h6, h7, h8, h9, h10⟩
theorem vx_L.narrow {C n d : String} {A B : Nat → Prop} {U : State} {H : Heap} (h : vx_L C n d A U H) (hAB : ∀ q, B q → A q) : vx_L C n d B U H := by
  obtain ⟨c, k, i, f, a, cell, h1, h2, h3, h4, h5, h6, h7, h8, h9, h10⟩ := h
  exact ⟨c, k, i, f, a, cell, h1, h2, h3, h4, h5, h6, h7, h8, h9, fun z => h10 (hAB _ z)⟩
theorem vx_L.word {C n d : String} {A : Nat → Prop} {s : State} {args : Array Value} (h : vx_L C n d A s s.heap) : (Cond.laysStatic C n d).before args s = true := by
  obtain ⟨c, k, i, f, a, cell, h1, h2, h3, h4, h5, h6, h7, h8, h9, -⟩ := h
  show (Cond.laysStatic C n d).holds args s none s [] = true
  exact Cond.laysStatic_of h1 h2 h3 h4 h5 h6 h7 h8 h9
/-- .. and what it holds: null or some reference -/
def vx_Zq (C n d : String) (A : Nat → Prop) (U : State) (H : Heap) : Prop := va_Zq C n d A U H ∧ vx_L C n d A U H
theorem vx_Zq.moved {C n d : String} {A : Nat → Prop} {u U : State} {H : Heap} (hvm : u.vm.Alike U.vm) (h : vx_Zq C n d A u H) : vx_Zq C n d A U H := ⟨va_Zq.moved hvm h.1, vx_L.moved hvm h.2⟩
theorem vx_Zq.kept {C n d : String} {A : Nat → Prop} {U : State} {H H1 : Heap} (h : vx_Zq C n d A U H) (hq : ∀ a : Nat, a < H.size → ¬ A a → H1[a]? = H[a]?) : vx_Zq C n d A U H1 := ⟨va_Zq.kept h.1 hq, vx_L.kept h.2 hq⟩
theorem vx_Zq.narrow {C n d : String} {A B : Nat → Prop} {U : State} {H : Heap} (h : vx_Zq C n d A U H) (hAB : ∀ q, B q → A q) : vx_Zq C n d B U H := ⟨va_Zq.narrow h.1 hAB, vx_L.narrow h.2 hAB⟩
theorem vx_Zqof {args : Array Value} {s : State} {C n d : String} {A : Nat → Prop} (hl : (Cond.laysStatic C n d).before args s = true) (hini : (Cond.initialized C).before args s = true) (h : (Cond.isRef (.static C n d)).before args s = true) (hA : ∀ a : Nat, a < s.heap.size → ¬ A a) : vx_Zq C n d A s s.heap := by
  refine ⟨va_Zqof hl hini h hA, ?_⟩
  obtain ⟨c, k, i, f, a, cell, h1, h2, h3, h4, h5, h6, h7, h8, h9⟩ := Cond.laysStatic_spec hl
  exact ⟨c, k, i, f, a, cell, h1, h2, h3, h4, h5, h6, h7, h8, h9, hA a (Array.getElem?_eq_some_iff.mp h5).1⟩
theorem vx_isRef {C n d : String} {v : Value} {A : Nat → Prop} {s : State} {args : Array Value} (h : va_Z C n d v A s s.heap) (hv : v.isRef = true) : (Cond.isRef (.static C n d)).before args s = true := by
  obtain ⟨cf, kf, fi, f, a, cell, h1, h2, h3, h4, h5, h6, h7, -⟩ := h
  have he : (Term.static C n d).eval args s none [] s = some v := by
    simp [Term.eval, State.fieldNamed?, h1, h2, h4, h5, h6, h7]
  simp only [Cond.before, Cond.holds, Cond.value, he]
  cases v <;> simp_all [Value.isRef]
theorem vx_isRefq {C n d : String} {A : Nat → Prop} {s : State} {args : Array Value} (h : va_Zq C n d A s s.heap) : (Cond.isRef (.static C n d)).before args s = true := by
  rcases h with h | ⟨t, h⟩
  · exact vx_isRef h rfl
  · exact vx_isRef h rfl
/-- the same frame, seen from here: as if the method were called anew in this heap -/
theorem vx_rebase {T : State} (X : Stand p l e R s m args below meth c T locs cells slots) {R' : Room} (hf : R'.frames ≤ R.frames) (hl : R'.locals ≤ R.locals) (hc : cells + R'.cells ≤ R.cells) (hs : slots + R'.slots ≤ R.slots) :
    Stand p l e R' ((T.setVm s.vm).setFrames (.invoking m args :: below)) m args below meth c T [] 0 0 := by
  have htop : (T.setVm s.vm).topJava?.isSome := X.here.top
  have hF : ((T.setVm s.vm).setFrames (.invoking m args :: below)).frames = .invoking m args :: below := State.frames_setFrames _ (State.cur_lt_of_top htop)
  obtain ⟨g₀, hg0⟩ := Option.isSome_iff_exists.mp htop
  obtain ⟨r, hr⟩ := State.topJava?_eq_some.mp hg0
  have hl9 : e.platform.stackLimits (T.setVm s.vm).me = e.platform.stackLimits s.me := X.limits
  have hb9 : (T.setVm s.vm).me.stackBytes = s.me.stackBytes := X.bytes
  refine ⟨X.admits, X.cas, X.clock, hF, ?_, X.hears, X.method, X.code, X.here, X.tail, X.warmed, ?_, ?_, ?_⟩
  · have h := X.room
    have hU : ((T.setVm s.vm).setFrames (.invoking m args :: below)).localsInUse = s.localsInUse := by
      rw [State.localsInUse_invoking hF (meth := meth) (c := c) X.method X.code, State.localsInUse_invoking X.frames X.method X.code]
    simp only [State.hasRoom, Bool.and_eq_true, decide_eq_true_eq] at h ⊢
    obtain ⟨⟨⟨⟨h1, h2, h3, h4, h5, h6⟩, h7⟩, h8⟩, h9⟩ := h
    rw [X.frames, List.length_cons] at h2 h3
    have q1 := X.heapSize
    have q2 := X.used
    simp only [hF, hU, List.length_cons, State.stackLimits_setFrames, State.stackBytes_setFrames, hl9, hb9]
    refine ⟨⟨⟨⟨by omega, by omega, by omega, by omega, by omega, h6⟩, ?_⟩, ?_⟩, X.book⟩
    · show T.heap.size + R'.cells ≤ e.platform.maxCells
      omega
    · show T.slotsUsed + R'.slots ≤ e.platform.maxSlots
      omega
  · rw [State.stackLimits_setFrames]; rfl
  · rw [State.stackBytes_setFrames]; rfl
  · refine ⟨?_, Nat.le_refl _, Nat.le_refl _, ?_, ?_, fun a c9 h9 => ⟨c9, h9, rfl, rfl, fun _ _ => rfl⟩⟩
    · obtain ⟨t, ht, -⟩ := State.frames_cons hr
      show T.setVm s.vm = { ((T.setVm s.vm).setFrames (.invoking m args :: below)).setFrames (T.setVm s.vm).frames with heap := T.heap, slotsUsed := T.slotsUsed }
      rw [State.setFrames_setFrames, State.setFrames_self ht]
      rfl
    · show T.slotsUsed = T.slotsUsed + ((T.heap.toList.drop T.heap.size).map (·.slots.size)).sum
      rw [List.drop_eq_nil_of_le (Nat.le_of_eq Array.length_toList)]
      rfl
    · show ((T.heap.toList.drop T.heap.size).map (·.slots.size)).sum ≤ 0
      rw [List.drop_eq_nil_of_le (Nat.le_of_eq Array.length_toList)]
      exact Nat.le_refl _
/-- 'throw new E()': new; dup; invokespecial; athrow -/
theorem vx_throw0 {cc : ByteArray} {pc : Nat} (hexec : p.tables.exec = Jvm.exec) (hb : c.code = cc) (hl : l.stackTraces = false) {own cls : String} {names : List String} {ik ic mc ms : Nat} {A : Nat → Prop}
    (hown : s.vm.findClass own = some m.cls) (hcls : Bundle.fit cls = true) (hnames : ∀ n ∈ names, Bundle.fit n = true)
    (hk : (Cond.classLink own ik cls).before args s = true) (hini : (Cond.initialized cls).before args s = true) (hat : ∀ w ∈ vx_at0 own ic cls names, w.before args s = true)
    (hgood : ∀ w ∈ Cond.classLink own ik cls :: Cond.initialized cls :: vx_at0 own ic cls names, vx_ot w = true)
    (hU : vx_Zq Bundle.tN "UNASSIGNED_STACK" Bundle.steD A s s.heap) (hN : vx_Zq Bundle.tN "SUPPRESSED_SENTINEL" Bundle.listD A s s.heap) (hS : va_S A s.heap H locs) (hsize : ls.size = c.maxLocals)
    (d0 : decode cc pc = .ok (.new ik, 3)) (d3 : decode cc (pc + 3) = .ok (.dup, 1)) (d4 : decode cc (pc + 4) = .ok (.invokespecial ic, 3)) (d7 : decode cc (pc + 7) = .ok (.athrow, 1))
    (hout : ∀ x ∈ c.exceptionTable.toList, covers x (pc + 7) = false)
    (hRframes : names.length + 3 < R.frames) (hRlocals : (rest.map fun v => v.category).sum + (13 * (names.length + 1) + 42) ≤ R.locals) (hRcells : cells + 1 ≤ R.cells) (hRslots : slots + 6 ≤ R.slots) (hlocks : meth.locks = false)
    (hx : ∀ t : State, s.vm.Alike t.vm → H.size ≤ t.heap.size → (∀ q : Nat, q < H.size → t.heap[q]? = H[q]?) → XC cls s t)
    (hf : ∀ z ∈ locs, free z.base) (hc : cells + 1 ≤ mc) (hs : slots + 6 ≤ ms) :
    W p l e R s m args below meth c H locs cells slots (vx_MQ below Qc XC args s mc ms free) (F0 m pc ls rest) := by
  intro T hT X
  have htr : e.platform.stackTraces = false := (show e.platform.stackTraces = l.stackTraces by rw [X.admits.platform]).trans hl
  have Y := vx_rebase X (R' := { frames := R.frames, locals := R.locals, cells := 1, slots := 6 }) (Nat.le_refl _) (Nat.le_refl _) hRcells hRslots
  obtain ⟨s', hA⟩ : ∃ z, z = (T.setVm s.vm).setFrames (.invoking m args :: below) := ⟨_, rfl⟩
  rw [← hA] at Y
  have hvm : s'.vm = s.vm := by rw [hA]; rfl
  have hhp : s'.heap = H := by rw [hA]; exact hT
  have hW0 : s.WarmedH s'.vm := by rw [hvm]; exact State.WarmedH.refl s
  have hat' : ∀ w ∈ vx_at0 own ic cls names, w.before args s' = true := fun w hw => vx_ot_at hW0 hvm.symm (hgood w (List.mem_cons_of_mem _ (List.mem_cons_of_mem _ hw))) (hat w hw)
  have hk' : (Cond.classLink own ik cls).before args s' = true := vx_ot_at hW0 hvm.symm (hgood _ List.mem_cons_self) hk
  have hini' : (Cond.initialized cls).before args s' = true := vx_ot_at hW0 hvm.symm (hgood _ (List.mem_cons_of_mem _ List.mem_cons_self)) hini
  have hU' : vx_Zq Bundle.tN "UNASSIGNED_STACK" Bundle.steD A s' s'.heap := by rw [hhp]; exact vx_Zq.moved hW0.alike (hU.kept hS.2.1)
  have hN' : vx_Zq Bundle.tN "SUPPRESSED_SENTINEL" Bundle.listD A s' s'.heap := by rw [hhp]; exact vx_Zq.moved hW0.alike (hN.kept hS.2.1)
  have h : ∀ w ∈ Bundle.ownAtoms0 own ic cls names, w.before args s' = true := vx_own hat' (vx_isRefq hU'.1) (vx_isRefq hN'.1) hU'.2.word hN'.2.word
  have hown' : s'.vm.findClass own = some m.cls := by rw [hvm]; exact hown
  have hins : (Cond.instantiable cls 6).before args s' = true := h _ (by simp [Bundle.ownAtoms0])
  obtain ⟨vm₁, cX, kX, hfX, hkX, -, -, X₁, st1⟩ := Y.newCold hexec (own := own) (C := cls) (index := ik) (n := 6) hown' hk' hins hini'
    (g := F0 m pc ls rest) rfl (by rw [hb]; exact d0) (Nat.le_refl _) (Nat.le_refl _)
  generalize hT1 : (T.setVm vm₁).pushCell { cls := cX, slots := kX.instanceTypes.map defaultValue, vm := .none } = T1 at X₁ st1
  have hcat : (Value.ref T.heap.size).category = 1 := rfl
  have hcellA : T1.heap[T.heap.size]? = some (freshCell cX kX) := by rw [← hT1]; exact State.heap_pushCell_size _ _
  have d3' : decode c.code (pc + 3) = .ok (.dup, 1) := by rw [hb]; exact d3
  obtain ⟨U, hsteps, hrun, hend, hW, hsame, ce, hce, hO⟩ := X₁.ctorThrow0 hexec htr (own := own) (cls := cls) (names := names) (ic := ic) hown' hcls hnames h (fun x hx => nomatch hx) hfX hkX hcellA (by rw [hhp, hT]; exact Nat.le_refl _)
    (g := { method := m, pc := pc + 4, locals := ls, stack := .ref T.heap.size :: .ref T.heap.size :: rest, locked := none }) rfl hsize rfl rfl (rest := rest) rfl
    (by rw [hb]; exact d4) (by rw [hb]; exact d7) hout hRframes (by simp only [List.map_cons, List.sum_cons, hcat]; omega) hlocks
  obtain ⟨f1, f2⟩ := vx_frame hsame
  rw [hhp] at f1 f2
  have hWs : s.WarmedH U.vm := State.WarmedH.trans hW0 hW
  have hcl : s.vm.findClass cls = some ce.cls := by
    have h9 := hO.cls
    rw [hvm] at h9
    exact h9
  have hall : s.sameButNew ({ U with vm := s.vm } : State) locs mc ms := by
    subst hA
    obtain ⟨e1, e2⟩ := hsame
    rw [State.setFrames_setFrames] at e1
    have h2 : (T.setVm s.vm).sameButNew ({ U with vm := s.vm } : State) [] (0 + 1) (0 + 6) := ⟨e1, e2⟩
    have h3 := X.same.trans h2
    rw [List.append_nil] at h3
    exact h3.mono hc hs
  refine ⟨U, ?_, .threw T.heap.size, hrun, hend, Or.inr ⟨T.heap.size, rfl, cls, ce, locs, hx U hWs.alike f1 (fun q hq => f2 q hq (fun z hz => nomatch hz)), hce, hO.vm, hcl, hWs, hall, hf⟩⟩
  refine st1 _ ?_
  show Steps p.tables e below (T1.setTop { method := m, pc := pc + 3, locals := ls, stack := .ref T.heap.size :: rest, locked := none }) _
  jvm_step X₁.here [X₁.here.top, hexec, d3', Value.category]
  exact hsteps
/-- 'throw new E("text")': new; dup; ldc; invokespecial; athrow -/
theorem vx_throwS {cc : ByteArray} {pc : Nat} (hexec : p.tables.exec = Jvm.exec) (hb : c.code = cc) (hl : l.stackTraces = false) {own cls text : String} {names : List String} {ik is ic mc ms sa : Nat} {A : Nat → Prop}
    (hown : s.vm.findClass own = some m.cls) (hcls : Bundle.fit cls = true) (hnames : ∀ n ∈ names, Bundle.fit n = true)
    (hk : (Cond.classLink own ik cls).before args s = true) (hini : (Cond.initialized cls).before args s = true) (hstr : vk_R own is text sa s) (hat : ∀ w ∈ vx_atS own ic cls names, w.before args s = true)
    (hgood : ∀ w ∈ Cond.classLink own ik cls :: Cond.initialized cls :: vx_atS own ic cls names, vx_ot w = true)
    (hU : vx_Zq Bundle.tN "UNASSIGNED_STACK" Bundle.steD A s s.heap) (hN : vx_Zq Bundle.tN "SUPPRESSED_SENTINEL" Bundle.listD A s s.heap) (hS : va_S A s.heap H locs) (hsize : ls.size = c.maxLocals)
    (d0 : decode cc pc = .ok (.new ik, 3)) (d3 : decode cc (pc + 3) = .ok (.dup, 1)) (d4 : decode cc (pc + 4) = .ok (.ldc is, 2)) (d6 : decode cc (pc + 6) = .ok (.invokespecial ic, 3)) (d9 : decode cc (pc + 9) = .ok (.athrow, 1))
    (hout : ∀ x ∈ c.exceptionTable.toList, covers x (pc + 9) = false)
    (hRframes : names.length + 3 < R.frames) (hRlocals : (rest.map fun v => v.category).sum + (13 * (names.length + 1) + 43) ≤ R.locals) (hRcells : cells + 1 ≤ R.cells) (hRslots : slots + 6 ≤ R.slots) (hlocks : meth.locks = false)
    (hx : ∀ t : State, s.vm.Alike t.vm → H.size ≤ t.heap.size → (∀ q : Nat, q < H.size → t.heap[q]? = H[q]?) → XC cls s t)
    (hf : ∀ z ∈ locs, free z.base) (hc : cells + 1 ≤ mc) (hs : slots + 6 ≤ ms) :
    W p l e R s m args below meth c H locs cells slots (vx_MQ below Qc XC args s mc ms free) (F0 m pc ls rest) := by
  intro T hT X
  have htr : e.platform.stackTraces = false := (show e.platform.stackTraces = l.stackTraces by rw [X.admits.platform]).trans hl
  have Y := vx_rebase X (R' := { frames := R.frames, locals := R.locals, cells := 1, slots := 6 }) (Nat.le_refl _) (Nat.le_refl _) hRcells hRslots
  obtain ⟨s', hA⟩ : ∃ z, z = (T.setVm s.vm).setFrames (.invoking m args :: below) := ⟨_, rfl⟩
  rw [← hA] at Y
  have hvm : s'.vm = s.vm := by rw [hA]; rfl
  have hhp : s'.heap = H := by rw [hA]; exact hT
  have hW0 : s.WarmedH s'.vm := by rw [hvm]; exact State.WarmedH.refl s
  have hat' : ∀ w ∈ vx_atS own ic cls names, w.before args s' = true := fun w hw => vx_ot_at hW0 hvm.symm (hgood w (List.mem_cons_of_mem _ (List.mem_cons_of_mem _ hw))) (hat w hw)
  have hk' : (Cond.classLink own ik cls).before args s' = true := vx_ot_at hW0 hvm.symm (hgood _ List.mem_cons_self) hk
  have hini' : (Cond.initialized cls).before args s' = true := vx_ot_at hW0 hvm.symm (hgood _ (List.mem_cons_of_mem _ List.mem_cons_self)) hini
  have hU' : vx_Zq Bundle.tN "UNASSIGNED_STACK" Bundle.steD A s' s'.heap := by rw [hhp]; exact vx_Zq.moved hW0.alike (hU.kept hS.2.1)
  have hN' : vx_Zq Bundle.tN "SUPPRESSED_SENTINEL" Bundle.listD A s' s'.heap := by rw [hhp]; exact vx_Zq.moved hW0.alike (hN.kept hS.2.1)
  have h : ∀ w ∈ Bundle.ownAtoms own ic cls names, w.before args s' = true := vx_own hat' (vx_isRefq hU'.1) (vx_isRefq hN'.1) hU'.2.word hN'.2.word
  have hown' : s'.vm.findClass own = some m.cls := by rw [hvm]; exact hown
  have hins : (Cond.instantiable cls 6).before args s' = true := h _ (by simp [Bundle.ownAtoms])
  obtain ⟨vm₁, cX, kX, hfX, hkX, -, -, X₁, st1⟩ := Y.newCold hexec (own := own) (C := cls) (index := ik) (n := 6) hown' hk' hins hini'
    (g := F0 m pc ls rest) rfl (by rw [hb]; exact d0) (Nat.le_refl _) (Nat.le_refl _)
  generalize hT1 : (T.setVm vm₁).pushCell { cls := cX, slots := kX.instanceTypes.map defaultValue, vm := .none } = T1 at X₁ st1
  have hcat : (Value.ref T.heap.size).category = 1 := rfl
  have hcellA : T1.heap[T.heap.size]? = some (freshCell cX kX) := by rw [← hT1]; exact State.heap_pushCell_size _ _
  have d3' : decode c.code (pc + 3) = .ok (.dup, 1) := by rw [hb]; exact d3
  have d4' : decode c.code (pc + 4) = .ok (.ldc is, 2) := by rw [hb]; exact d4
  have hstr' : vk_R own is text sa s' := vk_R.warm hW0 hstr
  obtain ⟨U, hsteps, hrun, hend, hW, hsame, ce, hce, hO⟩ := X₁.ctorThrowS hexec htr (own := own) (cls := cls) (names := names) (ic := ic) hown' hcls hnames h (fun x hx => nomatch hx) hfX hkX hcellA (by rw [hhp, hT]; exact Nat.le_refl _) (msg := .ref sa) rfl
    (g := { method := m, pc := pc + 6, locals := ls, stack := .ref sa :: .ref T.heap.size :: .ref T.heap.size :: rest, locked := none }) rfl hsize rfl rfl (rest := rest) rfl
    (by rw [hb]; exact d6) (by rw [hb]; exact d9) hout hRframes (by simp only [List.map_cons, List.sum_cons, hcat]; omega) hlocks
  obtain ⟨f1, f2⟩ := vx_frame hsame
  rw [hhp] at f1 f2
  have hWs : s.WarmedH U.vm := State.WarmedH.trans hW0 hW
  have hcl : s.vm.findClass cls = some ce.cls := by
    have h9 := hO.cls
    rw [hvm] at h9
    exact h9
  have hall : s.sameButNew ({ U with vm := s.vm } : State) locs mc ms := by
    subst hA
    obtain ⟨e1, e2⟩ := hsame
    rw [State.setFrames_setFrames] at e1
    have h2 : (T.setVm s.vm).sameButNew ({ U with vm := s.vm } : State) [] (0 + 1) (0 + 6) := ⟨e1, e2⟩
    have h3 := X.same.trans h2
    rw [List.append_nil] at h3
    exact h3.mono hc hs
  refine ⟨U, ?_, .threw T.heap.size, hrun, hend, Or.inr ⟨T.heap.size, rfl, cls, ce, locs, hx U hWs.alike f1 (fun q hq => f2 q hq (fun z hz => nomatch hz)), hce, hO.vm, hcl, hWs, hall, hf⟩⟩
  refine st1 _ ?_
  show Steps p.tables e below (T1.setTop { method := m, pc := pc + 3, locals := ls, stack := .ref T.heap.size :: rest, locked := none }) _
  jvm_step X₁.here [X₁.here.top, hexec, d3', Value.category]
  exact X₁.ldcString hexec (own := own) (text := text) (index := is) (a := sa) hown' hstr'.1 hstr'.2
    (g := { method := m, pc := pc + 4, locals := ls, stack := .ref T.heap.size :: .ref T.heap.size :: rest, locked := none }) rfl d4' _ hsteps
/-- 'throw new E("text")', the text by a wide index -/
theorem vx_throwSW {cc : ByteArray} {pc : Nat} (hexec : p.tables.exec = Jvm.exec) (hb : c.code = cc) (hl : l.stackTraces = false) {own cls text : String} {names : List String} {ik is ic mc ms sa : Nat} {A : Nat → Prop}
    (hown : s.vm.findClass own = some m.cls) (hcls : Bundle.fit cls = true) (hnames : ∀ n ∈ names, Bundle.fit n = true)
    (hk : (Cond.classLink own ik cls).before args s = true) (hini : (Cond.initialized cls).before args s = true) (hstr : vk_R own is text sa s) (hat : ∀ w ∈ vx_atS own ic cls names, w.before args s = true)
    (hgood : ∀ w ∈ Cond.classLink own ik cls :: Cond.initialized cls :: vx_atS own ic cls names, vx_ot w = true)
    (hU : vx_Zq Bundle.tN "UNASSIGNED_STACK" Bundle.steD A s s.heap) (hN : vx_Zq Bundle.tN "SUPPRESSED_SENTINEL" Bundle.listD A s s.heap) (hS : va_S A s.heap H locs) (hsize : ls.size = c.maxLocals)
    (d0 : decode cc pc = .ok (.new ik, 3)) (d3 : decode cc (pc + 3) = .ok (.dup, 1)) (d4 : decode cc (pc + 4) = .ok (.ldc_w is, 3)) (d7 : decode cc (pc + 7) = .ok (.invokespecial ic, 3)) (d10 : decode cc (pc + 10) = .ok (.athrow, 1))
    (hout : ∀ x ∈ c.exceptionTable.toList, covers x (pc + 10) = false)
    (hRframes : names.length + 3 < R.frames) (hRlocals : (rest.map fun v => v.category).sum + (13 * (names.length + 1) + 43) ≤ R.locals) (hRcells : cells + 1 ≤ R.cells) (hRslots : slots + 6 ≤ R.slots) (hlocks : meth.locks = false)
    (hx : ∀ t : State, s.vm.Alike t.vm → H.size ≤ t.heap.size → (∀ q : Nat, q < H.size → t.heap[q]? = H[q]?) → XC cls s t)
    (hf : ∀ z ∈ locs, free z.base) (hc : cells + 1 ≤ mc) (hs : slots + 6 ≤ ms) :
    W p l e R s m args below meth c H locs cells slots (vx_MQ below Qc XC args s mc ms free) (F0 m pc ls rest) := by
  intro T hT X
  have htr : e.platform.stackTraces = false := (show e.platform.stackTraces = l.stackTraces by rw [X.admits.platform]).trans hl
  have Y := vx_rebase X (R' := { frames := R.frames, locals := R.locals, cells := 1, slots := 6 }) (Nat.le_refl _) (Nat.le_refl _) hRcells hRslots
  obtain ⟨s', hA⟩ : ∃ z, z = (T.setVm s.vm).setFrames (.invoking m args :: below) := ⟨_, rfl⟩
  rw [← hA] at Y
  have hvm : s'.vm = s.vm := by rw [hA]; rfl
  have hhp : s'.heap = H := by rw [hA]; exact hT
  have hW0 : s.WarmedH s'.vm := by rw [hvm]; exact State.WarmedH.refl s
  have hat' : ∀ w ∈ vx_atS own ic cls names, w.before args s' = true := fun w hw => vx_ot_at hW0 hvm.symm (hgood w (List.mem_cons_of_mem _ (List.mem_cons_of_mem _ hw))) (hat w hw)
  have hk' : (Cond.classLink own ik cls).before args s' = true := vx_ot_at hW0 hvm.symm (hgood _ List.mem_cons_self) hk
  have hini' : (Cond.initialized cls).before args s' = true := vx_ot_at hW0 hvm.symm (hgood _ (List.mem_cons_of_mem _ List.mem_cons_self)) hini
  have hU' : vx_Zq Bundle.tN "UNASSIGNED_STACK" Bundle.steD A s' s'.heap := by rw [hhp]; exact vx_Zq.moved hW0.alike (hU.kept hS.2.1)
  have hN' : vx_Zq Bundle.tN "SUPPRESSED_SENTINEL" Bundle.listD A s' s'.heap := by rw [hhp]; exact vx_Zq.moved hW0.alike (hN.kept hS.2.1)
  have h : ∀ w ∈ Bundle.ownAtoms own ic cls names, w.before args s' = true := vx_own hat' (vx_isRefq hU'.1) (vx_isRefq hN'.1) hU'.2.word hN'.2.word
  have hown' : s'.vm.findClass own = some m.cls := by rw [hvm]; exact hown
  have hins : (Cond.instantiable cls 6).before args s' = true := h _ (by simp [Bundle.ownAtoms])
  obtain ⟨vm₁, cX, kX, hfX, hkX, -, -, X₁, st1⟩ := Y.newCold hexec (own := own) (C := cls) (index := ik) (n := 6) hown' hk' hins hini'
    (g := F0 m pc ls rest) rfl (by rw [hb]; exact d0) (Nat.le_refl _) (Nat.le_refl _)
  generalize hT1 : (T.setVm vm₁).pushCell { cls := cX, slots := kX.instanceTypes.map defaultValue, vm := .none } = T1 at X₁ st1
  have hcat : (Value.ref T.heap.size).category = 1 := rfl
  have hcellA : T1.heap[T.heap.size]? = some (freshCell cX kX) := by rw [← hT1]; exact State.heap_pushCell_size _ _
  have d3' : decode c.code (pc + 3) = .ok (.dup, 1) := by rw [hb]; exact d3
  have d4' : decode c.code (pc + 4) = .ok (.ldc_w is, 3) := by rw [hb]; exact d4
  have hstr' : vk_R own is text sa s' := vk_R.warm hW0 hstr
  obtain ⟨U, hsteps, hrun, hend, hW, hsame, ce, hce, hO⟩ := X₁.ctorThrowS hexec htr (own := own) (cls := cls) (names := names) (ic := ic) hown' hcls hnames h (fun x hx => nomatch hx) hfX hkX hcellA (by rw [hhp, hT]; exact Nat.le_refl _) (msg := .ref sa) rfl
    (g := { method := m, pc := pc + 7, locals := ls, stack := .ref sa :: .ref T.heap.size :: .ref T.heap.size :: rest, locked := none }) rfl hsize rfl rfl (rest := rest) rfl
    (by rw [hb]; exact d7) (by rw [hb]; exact d10) hout hRframes (by simp only [List.map_cons, List.sum_cons, hcat]; omega) hlocks
  obtain ⟨f1, f2⟩ := vx_frame hsame
  rw [hhp] at f1 f2
  have hWs : s.WarmedH U.vm := State.WarmedH.trans hW0 hW
  have hcl : s.vm.findClass cls = some ce.cls := by
    have h9 := hO.cls
    rw [hvm] at h9
    exact h9
  have hall : s.sameButNew ({ U with vm := s.vm } : State) locs mc ms := by
    subst hA
    obtain ⟨e1, e2⟩ := hsame
    rw [State.setFrames_setFrames] at e1
    have h2 : (T.setVm s.vm).sameButNew ({ U with vm := s.vm } : State) [] (0 + 1) (0 + 6) := ⟨e1, e2⟩
    have h3 := X.same.trans h2
    rw [List.append_nil] at h3
    exact h3.mono hc hs
  refine ⟨U, ?_, .threw T.heap.size, hrun, hend, Or.inr ⟨T.heap.size, rfl, cls, ce, locs, hx U hWs.alike f1 (fun q hq => f2 q hq (fun z hz => nomatch hz)), hce, hO.vm, hcl, hWs, hall, hf⟩⟩
  refine st1 _ ?_
  show Steps p.tables e below (T1.setTop { method := m, pc := pc + 3, locals := ls, stack := .ref T.heap.size :: rest, locked := none }) _
  jvm_step X₁.here [X₁.here.top, hexec, d3', Value.category]
  exact X₁.ldcStringW hexec (own := own) (text := text) (index := is) (a := sa) hown' hstr'.1 hstr'.2
    (g := { method := m, pc := pc + 4, locals := ls, stack := .ref T.heap.size :: .ref T.heap.size :: rest, locked := none }) rfl d4' _ hsteps
end Ends
section Bodies
variable {l : Launch}
theorem vx_ofW {y : MethodName} {ws ws' : List Cond} {rm : Room} {Pc : Array Value → State → Prop} {Qc : Array Value → State → Outcome → State → Prop} {XC : String → State → State → Prop} {mc ms : Nat} {free : Addr → Prop} {cc : ByteArray} {maxL : Nat} {ret : Option FieldType}
    (hy : plainName y.cls = true) (hw : ws = Cond.code y cc maxL ret :: ws')
    (body : ∀ p e s m args below meth c s₁, BodyLoose p l y (headSpec ws rm) cc maxL ret e s m args below meth c s₁ → c.maxLocals = maxL → (∀ x ∈ c.exceptionTable.toList, False) → Pc args s →
      W p l e (headSpec ws rm).room s m args below meth c s.heap [] 0 0 (vx_MQ below Qc XC args s mc ms free) (entryFrame m args maxL)) : vx_Met l y ws rm Pc Qc XC mc ms free := by
  refine MetFree.of_bodyS (code := cc) (maxLocals := maxL) (ret := ret) hy ?_ ?_
  · intro args s m h hn
    obtain ⟨meth, c, h1, h2, h3, h4, h5, h6, -, -⟩ := Cond.code_spec hn (atoms_spec (ws := ws) h _ (by rw [hw]; exact List.mem_cons_self))
    exact ⟨meth, c, h1, h2, h3, h4, h5, h6⟩
  · intro p e s m args below meth c s₁ B hml hP _
    have hh0 : s₁.heap = s.heap := by rw [B.state]; rfl
    have ht : ∀ x ∈ c.exceptionTable.toList, False := by
      obtain ⟨meth9, c9, h1, h2, -, -, -, -, h7, -⟩ := Cond.code_spec B.named (atoms_spec (ws := ws) B.pre _ (by rw [hw]; exact List.mem_cons_self))
      cases Option.some.inj (h1.symm.trans B.method)
      cases Option.some.inj (h2.symm.trans (Stand.of_body B).code)
      intro x hx
      rw [Array.isEmpty_iff.mp h7] at hx
      cases hx
    obtain ⟨t, a1, o, b1, b2, b3⟩ := body p e s m args below meth c s₁ B hml ht hP s₁ hh0 (Stand.of_body B)
    exact ⟨t, o, a1, b1, b2, b3⟩
/-- the table of a body with handlers -/
theorem vx_table {p : Program} {x y : MethodName} {S : Spec} {cc bytes : ByteArray} {maxL maxL' : Nat} {ret ret' : Option FieldType} {e : Env} {s s₁ : State} {m : MethodId} {args : Array Value} {below : List Frame} {meth : Method} {c : Code} {hh : List (Nat × Nat × Nat × Nat)}
    (B : BodyLoose p l y S cc maxL ret e s m args below meth c s₁) (h : (Cond.codeWith y bytes maxL' ret' hh).before args s = true) : c.exceptionTable.toList = tableOf hh := by
  obtain ⟨m9, meth9, c9, hn9, h1, h2, -, -, h6, -⟩ := Cond.codeWith_spec h
  cases Option.some.inj (hn9.symm.trans B.named)
  cases Option.some.inj (h1.symm.trans B.method)
  cases Option.some.inj (h2.symm.trans (Stand.of_body B).code)
  rw [← h6, table_eq]
end Bodies
end VXA
/-! ===== END ===== -/
/-! ===== BEGIN a static call of a method with an exception table ===== -/
section VXS
variable {p : Program} {l : Launch} {e : Env} {R : Room} {s : State} {m : MethodId} {args : Array Value} {below : List Frame} {meth : Method} {c : Code} {T : State} {H : Heap} {locs : List Loc} {cells slots : Nat}
abbrev vx_CSW (R : Room) (s : State) (args : Array Value) (own : String) (index : Nat) (y : MethodName) (bytes : ByteArray) (maxL : Nat) (ret : Option FieldType) (hh : List (Nat × Nat × Nat × Nat)) (ws : List Cond) (rm : Room) (mc ms n : Nat) : Prop :=
  (rm.cells = mc ∧ rm.slots = ms ∧ rm.frames + 1 ≤ R.frames ∧ 8 + (maxL + 11) + rm.locals ≤ R.locals ∧ (∀ w ∈ ws, ∀ (a' : Array Value) (U : State), s.WarmedH U.vm → w.before a' U = true) ∧ Cond.codeWith y bytes maxL ret hh ∈ ws) ∧
  (Cond.codeWith y bytes maxL ret hh).before args s = true ∧ (Cond.initialized y.cls).before args s = true ∧ (y.cls ≠ "java/lang/invoke/MethodHandle" ∧ y.cls ≠ "java/lang/invoke/VarHandle") ∧
  (∀ sig, parseMethodDescriptor y.desc = some sig → n = sig.parameters.length) ∧ (Cond.methodLink own index y).before args s = true ∧ (Cond.static y).before args s = true
theorem vx_cwSW {own : String} {index maxL mc ms : Nat} {y : MethodName} {bytes : ByteArray} {ret : Option FieldType} {hh : List (Nat × Nat × Nat × Nat)} {Ts ws ws' : List Cond} {rm : Room} (n : Nat) (ht : ∀ w ∈ Ts, w.before args s = true) (hT : GoodIn Ts (va_wsS own index y ws)) (hw : ws = Cond.codeWith y bytes maxL ret hh :: ws') (hrc : rm.cells = mc) (hrs : rm.slots = ms)
    (hd : y.cls ≠ "java/lang/invoke/MethodHandle" ∧ y.cls ≠ "java/lang/invoke/VarHandle" ∧ (parseMethodDescriptor y.desc).map (fun d => d.parameters.length) = some n) (hR : rm.frames + 1 ≤ R.frames ∧ 8 + (maxL + 11) + rm.locals ≤ R.locals) :
    vx_CSW R s args own index y bytes maxL ret hh ws rm mc ms n := by
  have ok : ∀ w ∈ va_wsS own index y ws, w.before args s = true := fun w h => ht w (hT w h).1
  have hG : GoodIn Ts ws := fun w h => hT w (by unfold va_wsS; exact List.mem_append_right _ h)
  have hc : Cond.codeWith y bytes maxL ret hh ∈ ws := by rw [hw]; exact List.mem_cons_self
  refine ⟨⟨hrc, hrs, hR.1, hR.2, pay_in ht hG, hc⟩, ht _ (hG _ hc).1, ok _ (by simp [va_wsS]), ⟨hd.1, hd.2.1⟩, fun sig h => ?_, ok _ (by simp [va_wsS]), ok _ (by simp [va_wsS])⟩
  have h2 := hd.2.2
  rw [h] at h2
  exact (Option.some.inj h2).symm
theorem vx_callSW (X : Stand p l e R s m args below meth c T locs cells slots) (hexec : p.tables.exec = Jvm.exec) {own : String} {index : Nat} {y : MethodName} {bytes : ByteArray} {maxL : Nat} {ret : Option FieldType} {hh : List (Nat × Nat × Nat × Nat)}
    (hown : s.vm.findClass own = some m.cls) (hlink : (Cond.methodLink own index y).before args s = true) (hstat : (Cond.static y).before args s = true) (hinit : (Cond.initialized y.cls).before args s = true)
    (hcode : (Cond.codeWith y bytes maxL ret hh).before args s = true) (hy : y.cls ≠ "java/lang/invoke/MethodHandle" ∧ y.cls ≠ "java/lang/invoke/VarHandle")
    {W9 : Nat} {Pre : Pt → Array Value → Prop} {Post : Pt → Array Value → Option Value → Pt → Prop} (hK : Back l R p e below s args y 3 W9 Pre Post)
    {g : JFrame} (hg : g.method = m) (hsize : g.locals.size = c.maxLocals) {argsL rest : List Value} (hlen : ∀ sig, parseMethodDescriptor y.desc = some sig → argsL.length = sig.parameters.length)
    (hstack : g.stack = argsL.reverse ++ rest) (hW : 2 * g.monitorRoom + (rest.map fun v => v.category).sum ≤ W9) (hdg : decode c.code g.pc = .ok (.invokestatic index, 3))
    (hpre : ∀ vm₁, s.WarmedH vm₁ → Pre ⟨T.setVm vm₁, locs, cells, slots⟩ argsL.toArray) :
    ∃ (v : Option Value) (vm₁ : Vm) (B : Pt), s.WarmedH vm₁ ∧ Stand p l e R s m args below meth c B.U B.locs B.cells B.slots ∧ Post ⟨T.setVm vm₁, locs, cells, slots⟩ argsL.toArray v B ∧
      ∀ target, Steps p.tables e below (B.U.setTop { g with pc := g.pc + 3, stack := v.toList ++ rest }) target → Steps p.tables e below (T.setTop g) target := by
  obtain ⟨mk, methM, cM, hnamed, hmethM, -, -, -, -, -, -, hsigM⟩ := Cond.codeWith_spec hcode
  have hstatic : methM.isStatic = true := Cond.static_spec hnamed hmethM hstat
  obtain ⟨kP, hkP, -⟩ := className_of_methodNamed hnamed
  have hinitP : kP.init = .initialized := Cond.initialized_spec (findClass_of_methodNamed hnamed) hkP hinit
  obtain ⟨vm₁, X₁, hstep₁⟩ := X.invokestatic hexec hown hlink hnamed hmethM hstatic hkP hinitP hy (g := g) hg (argsL := argsL) (rest := rest) (hlen _ hsigM) hstack hdg
  obtain ⟨v, B, X', hpost, hsteps⟩ := hK m meth c ⟨T.setVm vm₁, locs, cells, slots⟩ { g with stack := rest } (.invokestatic index) mk argsL.toArray X₁ hg hsize hdg hW (X₁.named hnamed) (hpre vm₁ X₁.warmed)
  exact ⟨v, vm₁, B, X₁.warmed, X', hpost, fun target h => hstep₁ _ fun acts => by rw [doInvoke_state]; exact hsteps.trans h⟩
theorem vx_runSW {y : MethodName} {bytes cc : ByteArray} {maxL nL mc ms n index : Nat} {ret : Option FieldType} {hh : List (Nat × Nat × Nat × Nat)} {ws : List Cond} {rm : Room} {Pc : Array Value → State → Prop} {Qc : Array Value → State → Outcome → State → Prop} {free : Addr → Prop} {Ts : List Cond} {own : String} {As rest : List Value} {g : JFrame}
    (S : CallFix p m c cc nL s args Ts own) (hM : Met l y ws rm Pc Qc mc ms free) (cw : vx_CSW R s args own index y bytes maxL ret hh ws rm mc ms n) (hp : PreS s H Pc As)
    (hg : g.method = m) (hn : As.length = n) (hsize : g.locals.size = nL) (hstack : g.stack = As.reverse ++ rest) (hW : 2 * g.monitorRoom + (rest.map fun v => v.category).sum ≤ 8) (hdg : decode cc g.pc = .ok (.invokestatic index, 3)) (hf : cells + mc ≤ R.cells ∧ slots + ms ≤ R.slots) :
    va_Run p l e R s m args below meth c H locs cells slots mc ms g rest (Qc As.toArray) (free) := by
  obtain ⟨⟨hrc, hrs, hfr, hlo, hws, hcw⟩, hcode, hini, hy, hlen, hl, hstt⟩ := cw
  have hK : Back l R p e below s args y 3 8 (PreOf R mc ms Pc) (PostOf Qc mc ms free) := va_backW (hh := hh) (bytes := bytes) (maxL := maxL) (ret := ret) hM hp.1 hrc hrs hfr hlo hws hcw (fun a' U hW => word_at hW (Or.inl (by first | rfl | simp [Cond.onTables, Cond.keeps, Cond.steady])) hini)
  obtain ⟨hx, hb, hml, ho, -⟩ := S
  intro T hT X
  obtain ⟨v, vm₁, ⟨U', l2, c2, s2⟩, hW₁, X', ⟨g', mk, t, L, e1, e2, hq, h1, hL, h2, h3⟩, st⟩ := vx_callSW X hx (hh := hh) (bytes := bytes) (maxL := maxL) (ret := ret) ho hl hstt hini hcode hy hK hg (hsize.trans hml.symm) (argsL := As) (rest := rest) (fun sig h => hn.trans (hlen sig h)) hstack hW (by rw [hb]; exact hdg)
    (fun vm₁ hW₁ => ⟨hf.1, hf.2, hp.2 (T.setVm vm₁) hT hW₁⟩)
  dsimp only [Pt.U, Pt.locs, Pt.cells, Pt.slots] at X' e1 e2 h1 h2 h3 st
  subst h1; subst h2; subst h3
  exact ⟨v, (T.setVm vm₁).calling g' mk As.toArray, t, U', L, hT, X', hL, e1, e2, hq, st⟩
/-- not caught here, past rows that name other classes: it goes on to the caller -/
theorem vx_outP {p : Program} {l : Launch} {e : Env} {R : Room} {s : State} {m : MethodId} {args : Array Value} {below : List Frame} {meth : Method} {c : Code} {H : Heap} {locs : List Loc} {cells slots : Nat} {free : Addr → Prop} {ls : Array Slot} {rest : List Value} {Qc : Array Value → State → Outcome → State → Prop} {XC : String → State → State → Prop}
    {pc : Nat} {own E : String} {ce : Cell} {q : Addr} {mc ms : Nat} (hown : s.vm.findClass own = some m.cls) (hlocks : meth.locks = false)
    (hpass : ∀ z ∈ c.exceptionTable.toList, covers z pc = false ∨ (z.catchType ≠ 0 ∧ ∃ nm : String, (Cond.classLink own z.catchType nm).before args s = true ∧ va_Nc E nm s)) (hcell : H[q]? = some ce) (hv : ce.vm = .none) (hcl : s.vm.findClass E = some ce.cls)
    (hx : ∀ t : State, t.heap = H → s.vm.Alike t.vm → XC E s t) (hf : ∀ z ∈ locs, free z.base) (hc : cells ≤ mc) (hs : slots ≤ ms) :
    vx_W p l e R s m args below meth c H locs cells slots (vx_MQ below Qc XC args s mc ms free) (F0 m pc ls rest) q := by
  intro T hT X
  have hpl : e.platform.magicAccessors = ({} : Platform).magicAccessors := by rw [X.admits.platform]
  obtain ⟨vm', hW', X', st⟩ := X.outThrough hlocks q (g := F0 m pc ls rest) rfl rfl rfl (cell := ce) (by rw [hT]; exact hcell) (by rw [hv]; rfl)
    (by obtain ⟨k9, h9, -⟩ := Vm.findClass_spec hcl; exact ⟨k9, h9⟩) (fun z hz => by
      rcases hpass z hz with h | ⟨hz0, nm, hl1, hn1⟩
      · exact Or.inl h
      · obtain ⟨c6, hc6, hcl6⟩ := Cond.classLink_spec hown hl1 e.platform hpl
        obtain ⟨a8, b8, h1, h2, h3⟩ := hn1
        cases Option.some.inj (h1.symm.trans hcl)
        cases Option.some.inj (h2.symm.trans hc6)
        exact Or.inr ⟨hz0, _, hcl6, h3⟩)
  obtain ⟨g₀, hfr⟩ := X'.frames_eq
  have hcell9 : ((T.setVm vm').setFrames (.throwing q :: below)).heap[q]? = some ce := by
    show T.heap[q]? = some ce
    rw [hT]; exact hcell
  have hend : Ended ((T.setVm vm').setFrames (.throwing q :: below)) below (.threw q) := State.frames_setFrames _ (State.cur_lt_of_frames hfr)
  refine ⟨(T.setVm vm').setFrames (.throwing q :: below), ?_, .threw q, X'.here.running, hend, Or.inr ⟨q, rfl, E, ce, locs, hx _ hT (X'.ends _).1.alike, hcell9, hv, hcl, (X'.ends _).1, (X'.ends _).2.mono hc hs, hf⟩⟩
  rw [X.pushThrowing_eq]
  exact st
/-- a thing of a world lies in the heap -/
theorem vx_lt {D : va_G} {cl : List vw_C} {ws : va_W} {H1 : Heap} (h : va_P D cl ws H1) {k : Nat} {q : Nat × va_E} (hk : ws[k]? = some q) : q.1 < H1.size := (h k q hk).lt
end VXS
/-! ===== END ===== -/
/-! ===== BEGIN methods with a table of their own: called by a name, returning or throwing ===== -/
section VXH
/-! vx_backW, vx_callVX, vx_callSX, vx_callVW, vx_runVW, vx_runVX, vx_runSX, vx_ofWH follow the same proofs as their sisters above (Free/Laws.lean, Shelf42/LK1.lean); vx_outP calls Shelf42/NT130.lean (outThrough). -/
section
variable {l : Launch} {R : Room} {p : Program} {e : Env} {below : List Frame} {s : State} {sargs : Array Value} {y : MethodName} {len W9 : Nat}
theorem vx_backW {ws : List Cond} {rm : Room} {Pc : Array Value → State → Prop} {Qc : Array Value → State → Outcome → State → Prop} {XC : String → State → State → Prop} {mc ms : Nat} {free : Addr → Prop} {bytes : ByteArray} {maxL : Nat} {ret : Option FieldType} {hh : List (Nat × Nat × Nat × Nat)}
    (hM : vx_Met l y ws rm Pc Qc XC mc ms free) (hblind : FrameBlind Pc) (hrc : rm.cells = mc) (hrs : rm.slots = ms)
    (hframes : rm.frames + 1 ≤ R.frames) (hlocals : W9 + (maxL + 11) + rm.locals ≤ R.locals)
    (hws : ∀ w ∈ ws, ∀ a' U, s.WarmedH U.vm → w.before a' U = true) (hcode : Cond.codeWith y bytes maxL ret hh ∈ ws) (hinit : ∀ a' U, s.WarmedH U.vm → (Cond.initialized y.cls).before a' U = true) :
    vx_Back l R p e below s sargs y len W9 (PreOf R mc ms Pc) (PostOf Qc mc ms free) (vx_Post XC mc ms free) := by
  intro m meth c A g ig mk a X hg hsize hdg hW hn hp
  have h1 : (headSpec ws rm).pre.before a A.U = true := atoms_intro fun w hw => hws w hw _ _ X.warmed
  have h2 : (Cond.codeWith y bytes maxL ret hh).before a A.U = true := hws _ hcode _ _ X.warmed
  have h3 : (Cond.initialized y.cls).before a A.U = true := hinit _ _ X.warmed
  have h4 : A.cells + (headSpec ws rm).room.cells ≤ R.cells := by rw [show (headSpec ws rm).room.cells = mc from hrc]; exact hp.1
  have h5 : A.slots + (headSpec ws rm).room.slots ≤ R.slots := by rw [show (headSpec ws rm).room.slots = ms from hrs]; exact hp.2.1
  have hPc : Pc a (A.U.calling g mk a) := hblind _ _ _ _ hp.2.2
  obtain ⟨U, Ls, c0, s0⟩ := A
  dsimp only [Pt.U, Pt.locs, Pt.cells, Pt.slots] at h1 h2 h3 h4 h5 X hn hPc ⊢
  obtain ⟨m9, methY, cY, hn9, hmY, hcY, -, hlY, -⟩ := Cond.codeWith_spec h2
  cases Option.some.inj (hn9.symm.trans hn)
  obtain ⟨kY, hkY, -⟩ := className_of_methodNamed hn
  have hinitY : kY.init = .initialized := Cond.initialized_spec (findClass_of_methodNamed hn) hkY h3
  have h : At U g.method c below := by rw [hg]; exact X.here
  have hlocals9 : W9 + (maxL + 11) + (headSpec ws rm).room.locals ≤ R.locals := hlocals
  have happ : (headSpec ws rm).appliesLoose y e.platform (U.calling g mk a) = true :=
    Spec.appliesLoose_calling (g := g) h hdg hn hkY hinitY
      (X.room_calling (g := g) (R' := (headSpec ws rm).room) hsize hmY hcY hframes (by rw [hlY]; omega) h4 h5) h1
  obtain ⟨mid, hmid⟩ := h.above
  have hfr : (U.setTop g).frames = (.java g :: mid) ++ below := by rw [State.frames_setTop' g h.top, hmid]; rfl
  obtain ⟨o, s₂, hsteps, -, hend, hq⟩ := Steps.callFree hM p X.admits X.cas X.clock (acts := []) hfr happ hPc trivial
  have hq' : vx_Q Qc XC mc ms free a (U.calling g mk a) o s₂ := hq
  rw [State.frames_setTop' g h.top] at hend
  obtain ⟨g₀, hg0⟩ := Option.isSome_iff_exists.mp h.top
  obtain ⟨r, hr⟩ := State.topJava?_eq_some.mp hg0
  have hr' : (({ U with heap := s₂.heap, slotsUsed := s₂.slotsUsed } : State).setVm s₂.vm).frames = .java g₀ :: r := hr
  rcases hq' with ⟨hqc, L, hfe, hL⟩ | ⟨q, rfl, E, ce, L, hx, hce, hcv, hcl, hW₂, hsm, hL⟩
  · obtain ⟨⟨v, rfl⟩, hW₂, e2, q2, q3, q4, q5, q6⟩ := id hfe
    have e3 : s₂ = ({ (U.calling g mk a).setFrames s₂.frames with heap := s₂.heap, slotsUsed := s₂.slotsUsed } : State).setVm s₂.vm := by
      have : s₂ = ({ s₂ with vm := (U.calling g mk a).vm } : State).setVm s₂.vm := rfl
      rw [e2] at this
      exact this
    obtain ⟨c₂, i₂, len₂, hc₂, hd₂, hf₂⟩ := hend
    have hW' : U.WarmedH s₂.vm := hW₂
    have hcc : c₂ = c := by
      have h1 : s₂.code? g.method = U.code? g.method := by
        rw [State.code?_eq, State.code?_eq, hW'.alike.method?]
      exact Option.some.inj (hc₂.symm.trans (h1.trans h.code))
    subst hcc
    have hlen : len₂ = len := by rw [hdg] at hd₂; cases hd₂; rfl
    subst hlen
    have hs₂ : s₂ = (({ U with heap := s₂.heap, slotsUsed := s₂.slotsUsed } : State).setVm s₂.vm).setTop { g with pc := g.pc + len₂, stack := v.toList ++ g.stack } := by
      refine e3.trans ?_
      rw [hf₂, State.calling_eq h.top, State.setFrames_setFrames, State.setTop_of_frames _ hr', hr]
      rfl
    have hsame : U.sameButNew ({ U with heap := s₂.heap, slotsUsed := s₂.slotsUsed } : State) L mc ms := by
      refine ⟨?_, q2, q3, q4, q5, q6⟩
      obtain ⟨t, ht, -⟩ := State.frames_cons hr
      show ({ U with heap := s₂.heap, slotsUsed := s₂.slotsUsed } : State) = { U.setFrames U.frames with heap := s₂.heap, slotsUsed := s₂.slotsUsed }
      rw [State.setFrames_self ht]
    subst hg
    refine Or.inl ⟨v, ⟨(({ U with heap := s₂.heap, slotsUsed := s₂.slotsUsed } : State).setVm s₂.vm), Ls ++ L, c0 + mc, s0 + ms⟩,
      ⟨X.admits, X.cas, X.clock, X.frames, X.room, X.hears, X.method, X.code, (X.here.setHeapUsed s₂.heap s₂.slotsUsed).setVm hW'.alike, X.tail, State.WarmedH.trans X.warmed hW', X.limits, X.bytes, X.same.trans (hsame.setVm s.vm)⟩,
      ⟨g, mk, s₂, L, rfl, rfl, hqc, rfl, hL, rfl, rfl⟩, ?_⟩
    show Steps p.tables e below _ ((({ U with heap := s₂.heap, slotsUsed := s₂.slotsUsed } : State).setVm s₂.vm).setTop { g with pc := g.pc + len₂, stack := v.toList ++ g.stack })
    rw [← hs₂]
    exact hsteps
  · obtain ⟨e2, q2, q3, q4, q5, q6⟩ := id hsm
    have e3 : s₂ = ({ (U.calling g mk a).setFrames s₂.frames with heap := s₂.heap, slotsUsed := s₂.slotsUsed } : State).setVm s₂.vm := by
      have : s₂ = ({ s₂ with vm := (U.calling g mk a).vm } : State).setVm s₂.vm := rfl
      rw [e2] at this
      exact this
    have hf₂ : s₂.frames = .throwing q :: .java g :: U.frames.tail := hend
    have hW' : U.WarmedH s₂.vm := hW₂
    have hs₂ : s₂ = ((({ U with heap := s₂.heap, slotsUsed := s₂.slotsUsed } : State).setVm s₂.vm).setTop g).pushFrame (.throwing q) := by
      refine e3.trans ?_
      rw [hf₂, State.calling_eq h.top, State.setFrames_setFrames, State.pushFrame, State.frames_setTop _ hr', State.setTop_of_frames _ hr', State.setFrames_setFrames, hr]
      rfl
    have hsame : U.sameButNew ({ U with heap := s₂.heap, slotsUsed := s₂.slotsUsed } : State) L mc ms := by
      refine ⟨?_, q2, q3, q4, q5, q6⟩
      obtain ⟨t, ht, -⟩ := State.frames_cons hr
      show ({ U with heap := s₂.heap, slotsUsed := s₂.slotsUsed } : State) = { U.setFrames U.frames with heap := s₂.heap, slotsUsed := s₂.slotsUsed }
      rw [State.setFrames_self ht]
    subst hg
    refine Or.inr ⟨q, ⟨(({ U with heap := s₂.heap, slotsUsed := s₂.slotsUsed } : State).setVm s₂.vm), Ls ++ L, c0 + mc, s0 + ms⟩,
      ⟨X.admits, X.cas, X.clock, X.frames, X.room, X.hears, X.method, X.code, (X.here.setHeapUsed s₂.heap s₂.slotsUsed).setVm hW'.alike, X.tail, State.WarmedH.trans X.warmed hW', X.limits, X.bytes, X.same.trans (hsame.setVm s.vm)⟩,
      ⟨g, mk, s₂, L, E, ce, rfl, rfl, hx, hce, hcv, hcl, rfl, hL, rfl, rfl⟩, ?_⟩
    show Steps p.tables e below _ (((({ U with heap := s₂.heap, slotsUsed := s₂.slotsUsed } : State).setVm s₂.vm).setTop g).pushFrame (.throwing q))
    rw [← hs₂]
    exact hsteps
end
variable {p : Program} {l : Launch} {e : Env} {R : Room} {s : State} {m : MethodId} {args : Array Value} {below : List Frame} {meth : Method} {c : Code} {T : State} {H : Heap} {locs : List Loc} {cells slots : Nat}
theorem vx_callVX (X : Stand p l e R s m args below meth c T locs cells slots) (hexec : p.tables.exec = Jvm.exec) {own C : String} {index : Nat} {y : MethodName} {bytes : ByteArray} {maxL : Nat} {ret : Option FieldType} {hh : List (Nat × Nat × Nat × Nat)}
    (hown : s.vm.findClass own = some m.cls) (hlink : (Cond.methodLink own index y).before args s = true) (hinst : (Cond.instanceMethod y).before args s = true) (hsel : (Cond.selects C y y).before args s = true)
    (hcode : (Cond.codeWith y bytes maxL ret hh).before args s = true) (hy : y.cls ≠ "java/lang/invoke/MethodHandle" ∧ y.cls ≠ "java/lang/invoke/VarHandle")
    {W9 : Nat} {Pre : Pt → Array Value → Prop} {Post : Pt → Array Value → Option Value → Pt → Prop} {PostX : Pt → Array Value → Addr → Pt → Prop} (hK : vx_Back l R p e below s args y 3 W9 Pre Post PostX)
    {b : Addr} {cellB : Cell} (hcell : T.heap[b]? = some cellB) (hobj : cellB.vm.isStatics = false) (hcls : s.vm.findClass C = some cellB.cls)
    {g : JFrame} (hg : g.method = m) (hsize : g.locals.size = c.maxLocals) {argsL rest : List Value} (hlen : ∀ sig, parseMethodDescriptor y.desc = some sig → argsL.length = sig.parameters.length)
    (hstack : g.stack = argsL.reverse ++ .ref b :: rest) (hW : 2 * g.monitorRoom + (rest.map fun v => v.category).sum ≤ W9) (hdg : decode c.code g.pc = .ok (.invokevirtual index, 3))
    (hpre : ∀ vm₁, s.WarmedH vm₁ → Pre ⟨T.setVm vm₁, locs, cells, slots⟩ (Value.ref b :: argsL).toArray) :
    (∃ (v : Option Value) (vm₁ : Vm) (B : Pt), s.WarmedH vm₁ ∧ Stand p l e R s m args below meth c B.U B.locs B.cells B.slots ∧ Post ⟨T.setVm vm₁, locs, cells, slots⟩ (Value.ref b :: argsL).toArray v B ∧
      ∀ target, Steps p.tables e below (B.U.setTop { g with pc := g.pc + 3, stack := v.toList ++ rest }) target → Steps p.tables e below (T.setTop g) target) ∨
    (∃ (q : Addr) (vm₁ : Vm) (B : Pt), s.WarmedH vm₁ ∧ Stand p l e R s m args below meth c B.U B.locs B.cells B.slots ∧ PostX ⟨T.setVm vm₁, locs, cells, slots⟩ (Value.ref b :: argsL).toArray q B ∧
      Steps p.tables e below (T.setTop g) ((B.U.setTop { g with stack := rest }).pushFrame (.throwing q))) := by
  obtain ⟨mk, methM, hnamed, hmethM, hstM, habM⟩ := Cond.instanceMethod_spec hinst
  obtain ⟨m8, methM', cM, hn8, hmethM', -, -, -, -, -, -, hsigM⟩ := Cond.codeWith_spec hcode
  cases Option.some.inj (hn8.symm.trans hnamed)
  cases hmethM.symm.trans hmethM'
  obtain ⟨c2, r2, m2, q1, q2, q3, q4, kP, hkP, hkPi⟩ := Cond.selects_spec hsel
  cases hcls.symm.trans q1
  cases (State.methodFound?_of_named hnamed hy).symm.trans q2
  cases hnamed.symm.trans q3
  have hselP : selectMethod e.platform s.vm cellB.cls mk = .method mk := by rw [Launch.admits_selectMethod X.admits]; exact q4
  obtain ⟨vm₁, X₁, hstep₁⟩ := X.invokevirtual hexec hown hlink hnamed hmethM hstM hkP hkPi hy (a := b) (cell := cellB) hcell
    (fun z h => by rw [h] at hobj; cases hobj) hselP hmethM habM hkP hkPi (g := g) hg (argsL := argsL) (rest := rest) (hlen _ hsigM) hstack hdg
  rcases hK m meth c ⟨T.setVm vm₁, locs, cells, slots⟩ { g with stack := rest } (.invokevirtual index) mk (Value.ref b :: argsL).toArray X₁ hg hsize hdg hW (X₁.named hnamed) (hpre vm₁ X₁.warmed) with ⟨v, B, X', hpost, hsteps⟩ | ⟨q, B, X', hpost, hsteps⟩
  · exact Or.inl ⟨v, vm₁, B, X₁.warmed, X', hpost, fun target h => hstep₁ _ fun acts => by rw [doInvoke_state]; exact hsteps.trans h⟩
  · exact Or.inr ⟨q, vm₁, B, X₁.warmed, X', hpost, hstep₁ _ fun acts => by rw [doInvoke_state]; exact hsteps⟩
theorem vx_callSX (X : Stand p l e R s m args below meth c T locs cells slots) (hexec : p.tables.exec = Jvm.exec) {own : String} {index : Nat} {y : MethodName} {bytes : ByteArray} {maxL : Nat} {ret : Option FieldType} {hh : List (Nat × Nat × Nat × Nat)}
    (hown : s.vm.findClass own = some m.cls) (hlink : (Cond.methodLink own index y).before args s = true) (hstat : (Cond.static y).before args s = true) (hinit : (Cond.initialized y.cls).before args s = true)
    (hcode : (Cond.codeWith y bytes maxL ret hh).before args s = true) (hy : y.cls ≠ "java/lang/invoke/MethodHandle" ∧ y.cls ≠ "java/lang/invoke/VarHandle")
    {W9 : Nat} {Pre : Pt → Array Value → Prop} {Post : Pt → Array Value → Option Value → Pt → Prop} {PostX : Pt → Array Value → Addr → Pt → Prop} (hK : vx_Back l R p e below s args y 3 W9 Pre Post PostX)
    {g : JFrame} (hg : g.method = m) (hsize : g.locals.size = c.maxLocals) {argsL rest : List Value} (hlen : ∀ sig, parseMethodDescriptor y.desc = some sig → argsL.length = sig.parameters.length)
    (hstack : g.stack = argsL.reverse ++ rest) (hW : 2 * g.monitorRoom + (rest.map fun v => v.category).sum ≤ W9) (hdg : decode c.code g.pc = .ok (.invokestatic index, 3))
    (hpre : ∀ vm₁, s.WarmedH vm₁ → Pre ⟨T.setVm vm₁, locs, cells, slots⟩ argsL.toArray) :
    (∃ (v : Option Value) (vm₁ : Vm) (B : Pt), s.WarmedH vm₁ ∧ Stand p l e R s m args below meth c B.U B.locs B.cells B.slots ∧ Post ⟨T.setVm vm₁, locs, cells, slots⟩ argsL.toArray v B ∧
      ∀ target, Steps p.tables e below (B.U.setTop { g with pc := g.pc + 3, stack := v.toList ++ rest }) target → Steps p.tables e below (T.setTop g) target) ∨
    (∃ (q : Addr) (vm₁ : Vm) (B : Pt), s.WarmedH vm₁ ∧ Stand p l e R s m args below meth c B.U B.locs B.cells B.slots ∧ PostX ⟨T.setVm vm₁, locs, cells, slots⟩ argsL.toArray q B ∧
      Steps p.tables e below (T.setTop g) ((B.U.setTop { g with stack := rest }).pushFrame (.throwing q))) := by
  obtain ⟨mk, methM, cM, hnamed, hmethM, -, -, -, -, -, -, hsigM⟩ := Cond.codeWith_spec hcode
  have hstatic : methM.isStatic = true := Cond.static_spec hnamed hmethM hstat
  obtain ⟨kP, hkP, -⟩ := className_of_methodNamed hnamed
  have hinitP : kP.init = .initialized := Cond.initialized_spec (findClass_of_methodNamed hnamed) hkP hinit
  obtain ⟨vm₁, X₁, hstep₁⟩ := X.invokestatic hexec hown hlink hnamed hmethM hstatic hkP hinitP hy (g := g) hg (argsL := argsL) (rest := rest) (hlen _ hsigM) hstack hdg
  rcases hK m meth c ⟨T.setVm vm₁, locs, cells, slots⟩ { g with stack := rest } (.invokestatic index) mk argsL.toArray X₁ hg hsize hdg hW (X₁.named hnamed) (hpre vm₁ X₁.warmed) with ⟨v, B, X', hpost, hsteps⟩ | ⟨q, B, X', hpost, hsteps⟩
  · exact Or.inl ⟨v, vm₁, B, X₁.warmed, X', hpost, fun target h => hstep₁ _ fun acts => by rw [doInvoke_state]; exact hsteps.trans h⟩
  · exact Or.inr ⟨q, vm₁, B, X₁.warmed, X', hpost, hstep₁ _ fun acts => by rw [doInvoke_state]; exact hsteps⟩
theorem vx_callVW (X : Stand p l e R s m args below meth c T locs cells slots) (hexec : p.tables.exec = Jvm.exec) {own C : String} {index : Nat} {y : MethodName} {bytes : ByteArray} {maxL : Nat} {ret : Option FieldType} {hh : List (Nat × Nat × Nat × Nat)}
    (hown : s.vm.findClass own = some m.cls) (hlink : (Cond.methodLink own index y).before args s = true) (hinst : (Cond.instanceMethod y).before args s = true) (hsel : (Cond.selects C y y).before args s = true)
    (hcode : (Cond.codeWith y bytes maxL ret hh).before args s = true) (hy : y.cls ≠ "java/lang/invoke/MethodHandle" ∧ y.cls ≠ "java/lang/invoke/VarHandle")
    {W9 : Nat} {Pre : Pt → Array Value → Prop} {Post : Pt → Array Value → Option Value → Pt → Prop} (hK : Back l R p e below s args y 3 W9 Pre Post)
    {b : Addr} {cellB : Cell} (hcell : T.heap[b]? = some cellB) (hobj : cellB.vm.isStatics = false) (hcls : s.vm.findClass C = some cellB.cls)
    {g : JFrame} (hg : g.method = m) (hsize : g.locals.size = c.maxLocals) {argsL rest : List Value} (hlen : ∀ sig, parseMethodDescriptor y.desc = some sig → argsL.length = sig.parameters.length)
    (hstack : g.stack = argsL.reverse ++ .ref b :: rest) (hW : 2 * g.monitorRoom + (rest.map fun v => v.category).sum ≤ W9) (hdg : decode c.code g.pc = .ok (.invokevirtual index, 3))
    (hpre : ∀ vm₁, s.WarmedH vm₁ → Pre ⟨T.setVm vm₁, locs, cells, slots⟩ (Value.ref b :: argsL).toArray) :
    ∃ (v : Option Value) (vm₁ : Vm) (B : Pt), s.WarmedH vm₁ ∧ Stand p l e R s m args below meth c B.U B.locs B.cells B.slots ∧ Post ⟨T.setVm vm₁, locs, cells, slots⟩ (Value.ref b :: argsL).toArray v B ∧
      ∀ target, Steps p.tables e below (B.U.setTop { g with pc := g.pc + 3, stack := v.toList ++ rest }) target → Steps p.tables e below (T.setTop g) target := by
  obtain ⟨mk, methM, hnamed, hmethM, hstM, habM⟩ := Cond.instanceMethod_spec hinst
  obtain ⟨m8, methM', cM, hn8, hmethM', -, -, -, -, -, -, hsigM⟩ := Cond.codeWith_spec hcode
  cases Option.some.inj (hn8.symm.trans hnamed)
  cases hmethM.symm.trans hmethM'
  obtain ⟨c2, r2, m2, q1, q2, q3, q4, kP, hkP, hkPi⟩ := Cond.selects_spec hsel
  cases hcls.symm.trans q1
  cases (State.methodFound?_of_named hnamed hy).symm.trans q2
  cases hnamed.symm.trans q3
  have hselP : selectMethod e.platform s.vm cellB.cls mk = .method mk := by rw [Launch.admits_selectMethod X.admits]; exact q4
  obtain ⟨vm₁, X₁, hstep₁⟩ := X.invokevirtual hexec hown hlink hnamed hmethM hstM hkP hkPi hy (a := b) (cell := cellB) hcell
    (fun z h => by rw [h] at hobj; cases hobj) hselP hmethM habM hkP hkPi (g := g) hg (argsL := argsL) (rest := rest) (hlen _ hsigM) hstack hdg
  obtain ⟨v, B, X', hpost, hsteps⟩ := hK m meth c ⟨T.setVm vm₁, locs, cells, slots⟩ { g with stack := rest } (.invokevirtual index) mk (Value.ref b :: argsL).toArray X₁ hg hsize hdg hW (X₁.named hnamed) (hpre vm₁ X₁.warmed)
  exact ⟨v, vm₁, B, X₁.warmed, X', hpost, fun target h => hstep₁ _ fun acts => by rw [doInvoke_state]; exact hsteps.trans h⟩
abbrev vx_CVW (R : Room) (s : State) (args : Array Value) (own C : String) (index : Nat) (y : MethodName) (bytes : ByteArray) (maxL : Nat) (ret : Option FieldType) (hh : List (Nat × Nat × Nat × Nat)) (ws : List Cond) (rm : Room) (mc ms n : Nat) : Prop :=
  (rm.cells = mc ∧ rm.slots = ms ∧ rm.frames + 1 ≤ R.frames ∧ 8 + (maxL + 11) + rm.locals ≤ R.locals ∧ (∀ w ∈ ws, ∀ (a' : Array Value) (U : State), s.WarmedH U.vm → w.before a' U = true) ∧ Cond.codeWith y bytes maxL ret hh ∈ ws) ∧
  (Cond.codeWith y bytes maxL ret hh).before args s = true ∧ (Cond.initialized y.cls).before args s = true ∧ (y.cls ≠ "java/lang/invoke/MethodHandle" ∧ y.cls ≠ "java/lang/invoke/VarHandle") ∧
  (∀ sig, parseMethodDescriptor y.desc = some sig → n = sig.parameters.length) ∧ (Cond.methodLink own index y).before args s = true ∧ (Cond.instanceMethod y).before args s = true ∧ (Cond.selects C y y).before args s = true
theorem vx_cwVW {own C : String} {index maxL mc ms : Nat} {y : MethodName} {bytes : ByteArray} {ret : Option FieldType} {hh : List (Nat × Nat × Nat × Nat)} {Ts ws ws' : List Cond} {rm : Room} (n : Nat) (ht : ∀ w ∈ Ts, w.before args s = true) (hT : GoodIn Ts (wsV own index C y ws)) (hw : ws = Cond.codeWith y bytes maxL ret hh :: ws') (hrc : rm.cells = mc) (hrs : rm.slots = ms)
    (hd : y.cls = C ∧ y.cls ≠ "java/lang/invoke/MethodHandle" ∧ y.cls ≠ "java/lang/invoke/VarHandle" ∧ (parseMethodDescriptor y.desc).map (fun d => d.parameters.length) = some n) (hR : rm.frames + 1 ≤ R.frames ∧ 8 + (maxL + 11) + rm.locals ≤ R.locals) :
    vx_CVW R s args own C index y bytes maxL ret hh ws rm mc ms n := by
  obtain ⟨hC, hd⟩ := hd
  subst hC
  have ok : ∀ w ∈ wsV own index y.cls y ws, w.before args s = true := fun w h => ht w (hT w h).1
  have hG : GoodIn Ts ws := fun w h => hT w (by unfold wsV; exact List.mem_append_right _ h)
  have hc : Cond.codeWith y bytes maxL ret hh ∈ ws := by rw [hw]; exact List.mem_cons_self
  refine ⟨⟨hrc, hrs, hR.1, hR.2, pay_in ht hG, hc⟩, ht _ (hG _ hc).1, ok _ (by simp [wsV]), ⟨hd.1, hd.2.1⟩, fun sig h => ?_, ok _ (by simp [wsV]), ok _ (by simp [wsV]), ok _ (by simp [wsV])⟩
  have h2 := hd.2.2
  rw [h] at h2
  exact (Option.some.inj h2).symm
theorem vx_runVW {y : MethodName} {bytes cc : ByteArray} {maxL nL mc ms n index : Nat} {ret : Option FieldType} {hh : List (Nat × Nat × Nat × Nat)} {ws : List Cond} {rm : Room} {Pc : Array Value → State → Prop} {Qc : Array Value → State → Outcome → State → Prop} {free : Addr → Prop} {Ts : List Cond} {own C : String} {b : Addr} {As rest : List Value} {g : JFrame}
    (S : CallFix p m c cc nL s args Ts own) (hM : Met l y ws rm Pc Qc mc ms free) (cw : vx_CVW R s args own C index y bytes maxL ret hh ws rm mc ms n) (hp : PreV s H C b Pc As)
    (hg : g.method = m) (hn : As.length = n) (hsize : g.locals.size = nL) (hstack : g.stack = As.reverse ++ .ref b :: rest) (hW : 2 * g.monitorRoom + (rest.map fun v => v.category).sum ≤ 8) (hdg : decode cc g.pc = .ok (.invokevirtual index, 3)) (hf : cells + mc ≤ R.cells ∧ slots + ms ≤ R.slots) :
    va_Run p l e R s m args below meth c H locs cells slots mc ms g rest (Qc (Value.ref b :: As).toArray) free := by
  obtain ⟨⟨hrc, hrs, hfr, hlo, hws, hcw⟩, hcode, hini, hy, hlen, hl, hin, hse⟩ := cw
  have hK : Back l R p e below s args y 3 8 (PreOf R mc ms Pc) (PostOf Qc mc ms free) := va_backW (hh := hh) (bytes := bytes) (maxL := maxL) (ret := ret) hM hp.1 hrc hrs hfr hlo hws hcw (fun a' U hW => word_at hW (Or.inl (by first | rfl | simp [Cond.onTables, Cond.keeps, Cond.steady])) hini)
  obtain ⟨hx, hb, hml, ho, -⟩ := S
  obtain ⟨-, ⟨cellB, hcB, hoB, hclB⟩, hPc⟩ := hp
  intro T hT X
  obtain ⟨v, vm₁, ⟨U', l2, c2, s2⟩, hW₁, X', ⟨g', mk, t, L, e1, e2, hq, h1, hL, h2, h3⟩, st⟩ := vx_callVW X hx (C := C) (hh := hh) (bytes := bytes) (maxL := maxL) (ret := ret) ho hl hin hse hcode hy hK (by rw [hT]; exact hcB) hoB hclB hg (hsize.trans hml.symm) (argsL := As) (rest := rest) (fun sig h => hn.trans (hlen sig h)) hstack hW (by rw [hb]; exact hdg)
    (fun vm₁ hW₁ => ⟨hf.1, hf.2, hPc (T.setVm vm₁) hT hW₁⟩)
  dsimp only [Pt.U, Pt.locs, Pt.cells, Pt.slots] at X' e1 e2 h1 h2 h3 st
  subst h1; subst h2; subst h3
  exact ⟨v, (T.setVm vm₁).calling g' mk (Value.ref b :: As).toArray, t, U', L, hT, X', hL, e1, e2, hq, st⟩
section
variable {y : MethodName} {bytes cc : ByteArray} {maxL nL mc ms n index : Nat} {ret : Option FieldType} {ws : List Cond} {rm : Room} {Pc : Array Value → State → Prop} {Qc : Array Value → State → Outcome → State → Prop} {XC : String → State → State → Prop} {free : Addr → Prop} {Ts : List Cond} {own C : String} {b : Addr} {As rest : List Value} {g : JFrame}
theorem vx_runVX {hh : List (Nat × Nat × Nat × Nat)} (S : CallFix p m c cc nL s args Ts own) (hM : vx_Met l y ws rm Pc Qc XC mc ms free) (cw : vx_CVW R s args own C index y bytes maxL ret hh ws rm mc ms n) (hp : PreV s H C b Pc As)
    (hg : g.method = m) (hn : As.length = n) (hsize : g.locals.size = nL) (hstack : g.stack = As.reverse ++ .ref b :: rest) (hW : 2 * g.monitorRoom + (rest.map fun v => v.category).sum ≤ 8) (hdg : decode cc g.pc = .ok (.invokevirtual index, 3)) (hf : cells + mc ≤ R.cells ∧ slots + ms ≤ R.slots) :
    vx_Run p l e R s m args below meth c H locs cells slots mc ms g rest (Qc (Value.ref b :: As).toArray) XC free := by
  obtain ⟨⟨hrc, hrs, hfr, hlo, hws, hcw⟩, hcode, hini, hy, hlen, hl, hin, hse⟩ := cw
  have hK : vx_Back l R p e below s args y 3 8 (PreOf R mc ms Pc) (PostOf Qc mc ms free) (vx_Post XC mc ms free) := vx_backW (hh := hh) (bytes := bytes) (maxL := maxL) (ret := ret) hM hp.1 hrc hrs hfr hlo hws hcw (fun a' U hW => word_at hW (Or.inl (by first | rfl | simp [Cond.onTables, Cond.keeps, Cond.steady])) hini)
  obtain ⟨hx, hb, hml, ho, -⟩ := S
  obtain ⟨-, ⟨cellB, hcB, hoB, hclB⟩, hPc⟩ := hp
  intro T hT X
  rcases vx_callVX X hx (C := C) (hh := hh) (bytes := bytes) (maxL := maxL) (ret := ret) ho hl hin hse hcode hy hK (by rw [hT]; exact hcB) hoB hclB hg (hsize.trans hml.symm) (argsL := As) (rest := rest) (fun sig h => hn.trans (hlen sig h)) hstack hW (by rw [hb]; exact hdg)
    (fun vm₁ hW₁ => ⟨hf.1, hf.2, hPc (T.setVm vm₁) hT hW₁⟩) with ⟨v, vm₁, ⟨U', l2, c2, s2⟩, hW₁, X', ⟨g', mk, t, L, e1, e2, hq, h1, hL, h2, h3⟩, st⟩ | ⟨q, vm₁, ⟨U', l2, c2, s2⟩, hW₁, X', ⟨g', mk, t, L, E, ce, e1, e2, hq, hce, hcv, hcl, h1, hL, h2, h3⟩, st⟩
  · dsimp only [Pt.U, Pt.locs, Pt.cells, Pt.slots] at X' e1 e2 h1 h2 h3 st
    subst h1; subst h2; subst h3
    exact Or.inl ⟨v, (T.setVm vm₁).calling g' mk (Value.ref b :: As).toArray, t, U', L, hT, X', hL, e1, e2, hq, st⟩
  · dsimp only [Pt.U, Pt.locs, Pt.cells, Pt.slots] at X' e1 e2 h1 h2 h3 st hcl
    subst h1; subst h2; subst h3
    exact Or.inr ⟨q, (T.setVm vm₁).calling g' mk (Value.ref b :: As).toArray, t, U', L, E, ce, hT, X', hL, e1, e2, hq, hce, hcv, vx_cls hW₁ hcl, st⟩
theorem vx_runSX {hh : List (Nat × Nat × Nat × Nat)} (S : CallFix p m c cc nL s args Ts own) (hM : vx_Met l y ws rm Pc Qc XC mc ms free) (cw : vx_CSW R s args own index y bytes maxL ret hh ws rm mc ms n) (hp : PreS s H Pc As)
    (hg : g.method = m) (hn : As.length = n) (hsize : g.locals.size = nL) (hstack : g.stack = As.reverse ++ rest) (hW : 2 * g.monitorRoom + (rest.map fun v => v.category).sum ≤ 8) (hdg : decode cc g.pc = .ok (.invokestatic index, 3)) (hf : cells + mc ≤ R.cells ∧ slots + ms ≤ R.slots) :
    vx_Run p l e R s m args below meth c H locs cells slots mc ms g rest (Qc As.toArray) XC free := by
  obtain ⟨⟨hrc, hrs, hfr, hlo, hws, hcw⟩, hcode, hini, hy, hlen, hl, hstt⟩ := cw
  have hK : vx_Back l R p e below s args y 3 8 (PreOf R mc ms Pc) (PostOf Qc mc ms free) (vx_Post XC mc ms free) := vx_backW (hh := hh) (bytes := bytes) (maxL := maxL) (ret := ret) hM hp.1 hrc hrs hfr hlo hws hcw (fun a' U hW => word_at hW (Or.inl (by first | rfl | simp [Cond.onTables, Cond.keeps, Cond.steady])) hini)
  obtain ⟨hx, hb, hml, ho, -⟩ := S
  intro T hT X
  rcases vx_callSX X hx (hh := hh) (bytes := bytes) (maxL := maxL) (ret := ret) ho hl hstt hini hcode hy hK hg (hsize.trans hml.symm) (argsL := As) (rest := rest) (fun sig h => hn.trans (hlen sig h)) hstack hW (by rw [hb]; exact hdg)
    (fun vm₁ hW₁ => ⟨hf.1, hf.2, hp.2 (T.setVm vm₁) hT hW₁⟩) with ⟨v, vm₁, ⟨U', l2, c2, s2⟩, hW₁, X', ⟨g', mk, t, L, e1, e2, hq, h1, hL, h2, h3⟩, st⟩ | ⟨q, vm₁, ⟨U', l2, c2, s2⟩, hW₁, X', ⟨g', mk, t, L, E, ce, e1, e2, hq, hce, hcv, hcl, h1, hL, h2, h3⟩, st⟩
  · dsimp only [Pt.U, Pt.locs, Pt.cells, Pt.slots] at X' e1 e2 h1 h2 h3 st
    subst h1; subst h2; subst h3
    exact Or.inl ⟨v, (T.setVm vm₁).calling g' mk As.toArray, t, U', L, hT, X', hL, e1, e2, hq, st⟩
  · dsimp only [Pt.U, Pt.locs, Pt.cells, Pt.slots] at X' e1 e2 h1 h2 h3 st hcl
    subst h1; subst h2; subst h3
    exact Or.inr ⟨q, (T.setVm vm₁).calling g' mk As.toArray, t, U', L, E, ce, hT, X', hL, e1, e2, hq, hce, hcv, vx_cls hW₁ hcl, st⟩
end
end VXH
theorem vx_ofWH {l : Launch} {y : MethodName} {ws ws' : List Cond} {rm : Room} {Pc : Array Value → State → Prop} {Qc : Array Value → State → Outcome → State → Prop} {XC : String → State → State → Prop} {mc ms : Nat} {free : Addr → Prop} {cc : ByteArray} {maxL : Nat} {ret : Option FieldType} {hh : List (Nat × Nat × Nat × Nat)}
    (hy : plainName y.cls = true) (hw : ws = Cond.codeWith y cc maxL ret hh :: ws')
    (body : ∀ p e s m args below meth c s₁, BodyLoose p l y (headSpec ws rm) cc maxL ret e s m args below meth c s₁ → c.maxLocals = maxL → Pc args s →
      W p l e (headSpec ws rm).room s m args below meth c s.heap [] 0 0 (vx_MQ below Qc XC args s mc ms free) (entryFrame m args maxL)) : vx_Met l y ws rm Pc Qc XC mc ms free := by
  refine MetFree.of_bodyS (code := cc) (maxLocals := maxL) (ret := ret) hy ?_ ?_
  · intro args s m h hn
    obtain ⟨m9, meth, c, hn9, h1, h2, h3, h4, -, h5, h6, -⟩ := Cond.codeWith_spec (atoms_spec (ws := ws) h _ (by rw [hw]; exact List.mem_cons_self))
    cases hn.symm.trans hn9
    exact ⟨meth, c, h1, h2, h3, h4, h5, h6⟩
  · intro p e s m args below meth c s₁ B hml hP _
    have hh0 : s₁.heap = s.heap := by rw [B.state]; rfl
    obtain ⟨t, a1, o, b1, b2, b3⟩ := body p e s m args below meth c s₁ B hml hP s₁ hh0 (Stand.of_body B)
    exact ⟨t, o, a1, b1, b2, b3⟩
/-! ===== END ===== -/
end
section
/-! ===== BEGIN printed: names, fields, word lists, decode rows ===== -/
def RX0 : String := "BackhaulReturns$Customer"
def TX0 : u_T := fun k => match k with
  | 0 => ("BackhaulReturns$Customer", "days", "[I", true)
  | 1 => ("BackhaulReturns$Customer", "units", "[I", true)
  | 2 => ("BackhaulReturns$Customer", "areChained", "[Z", true)
  | _ => ("BackhaulReturns$Customer", "count", "I", false)
def tyX0 : Nat → FieldType := fun k => match k with
  | 0 => .array .int
  | 1 => .array .int
  | 2 => .array .boolean
  | _ => .int
abbrev wsX00 : List Cond := u_ws RX0 TX0 4
theorem nmX0 : ∀ a, a < 4 → ∀ b, b < 4 → a ≠ b → (TX0 a).2.1 ≠ (TX0 b).2.1 := by decide +kernel
theorem tyX0_ok : ∀ k, k < 4 → parseFieldDescriptor (TX0 k).2.2.1 = some (tyX0 k) := by decide +kernel
abbrev cX0_init : ByteArray := prog_2_method_1_code
def yX0_init : MethodName := ⟨RX0, "<init>", "()V"⟩
abbrev cX0_scoreOn : ByteArray := prog_2_method_2_code
def yX0_scoreOn : MethodName := ⟨RX0, "scoreOn", "(I)I"⟩
abbrev cX0_remember : ByteArray := prog_2_method_3_code
def yX0_remember : MethodName := ⟨RX0, "remember", "(IIZ)V"⟩
abbrev cX0_forgetBefore : ByteArray := prog_2_method_4_code
def yX0_forgetBefore : MethodName := ⟨RX0, "forgetBefore", "(I)V"⟩
def RX1 : String := "BackhaulReturns$Line"
def TX1 : u_T := fun k => match k with
  | 0 => ("BackhaulReturns$Line", "product", "LBackhaulReturns$Product;", true)
  | 1 => ("BackhaulReturns$Line", "quantity", "I", true)
  | 2 => ("BackhaulReturns$Line", "keptUnits", "I", false)
  | _ => ("BackhaulReturns$Line", "linePrice", "I", true)
def tyX1 : Nat → FieldType := fun k => match k with
  | 0 => .object "BackhaulReturns$Product"
  | 1 => .int
  | 2 => .int
  | _ => .int
abbrev wsX10 : List Cond := u_ws RX1 TX1 4
theorem nmX1 : ∀ a, a < 4 → ∀ b, b < 4 → a ≠ b → (TX1 a).2.1 ≠ (TX1 b).2.1 := by decide +kernel
theorem tyX1_ok : ∀ k, k < 4 → parseFieldDescriptor (TX1 k).2.2.1 = some (tyX1 k) := by decide +kernel
abbrev cX1_init : ByteArray := prog_3_method_1_code
def yX1_init : MethodName := ⟨RX1, "<init>", "(LBackhaulReturns$Product;I)V"⟩
abbrev cX1_goodsOf : ByteArray := prog_3_method_2_code
def yX1_goodsOf : MethodName := ⟨RX1, "goodsOf", "(I)I"⟩
def RX2 : String := "BackhaulReturns$Product"
def TX2 : u_T := fun k => match k with
  | 0 => ("BackhaulReturns$Product", "unitPrice", "I", false)
  | 1 => ("BackhaulReturns$Product", "salvageValue", "I", false)
  | 2 => ("BackhaulReturns$Product", "repairCost", "I", false)
  | _ => ("BackhaulReturns$Product", "unitsByPlace", "[I", true)
def tyX2 : Nat → FieldType := fun k => match k with
  | 0 => .int
  | 1 => .int
  | 2 => .int
  | _ => .array .int
abbrev wsX20 : List Cond := u_ws RX2 TX2 4
theorem nmX2 : ∀ a, a < 4 → ∀ b, b < 4 → a ≠ b → (TX2 a).2.1 ≠ (TX2 b).2.1 := by decide +kernel
theorem tyX2_ok : ∀ k, k < 4 → parseFieldDescriptor (TX2 k).2.2.1 = some (tyX2 k) := by decide +kernel
abbrev cX2_init : ByteArray := prog_4_method_1_code
def yX2_init : MethodName := ⟨RX2, "<init>", "()V"⟩
abbrev cX2_unitsAt : ByteArray := prog_4_method_2_code
def yX2_unitsAt : MethodName := ⟨RX2, "unitsAt", "(I)I"⟩
abbrev cX2_move : ByteArray := prog_4_method_3_code
def yX2_move : MethodName := ⟨RX2, "move", "(II)V"⟩
abbrev cX2_optionFor : ByteArray := prog_4_method_4_code
def yX2_optionFor : MethodName := ⟨RX2, "optionFor", "(I)I"⟩
abbrev cX2_worthOf : ByteArray := prog_4_method_5_code
def yX2_worthOf : MethodName := ⟨RX2, "worthOf", "(II)I"⟩
abbrev cX2_repairWorth : ByteArray := prog_4_method_6_code
def yX2_repairWorth : MethodName := ⟨RX2, "repairWorth", "()I"⟩
abbrev cX2_salvageWorth : ByteArray := prog_4_method_7_code
def yX2_salvageWorth : MethodName := ⟨RX2, "salvageWorth", "()I"⟩
abbrev cX2_isOffered : ByteArray := prog_4_method_8_code
def yX2_isOffered : MethodName := ⟨RX2, "isOffered", "(II)Z"⟩
def RX3 : String := "BackhaulReturns$Sale"
def TX3 : u_T := fun k => match k with
  | 0 => ("BackhaulReturns$Sale", "buyer", "LBackhaulReturns$Customer;", true)
  | 1 => ("BackhaulReturns$Sale", "firstNumber", "I", true)
  | 2 => ("BackhaulReturns$Sale", "depth", "I", true)
  | 3 => ("BackhaulReturns$Sale", "lineCount", "I", false)
  | 4 => ("BackhaulReturns$Sale", "isPaid", "Z", false)
  | 5 => ("BackhaulReturns$Sale", "firstPaidDay", "I", false)
  | 6 => ("BackhaulReturns$Sale", "amountPaid", "I", false)
  | 7 => ("BackhaulReturns$Sale", "amountReleased", "I", false)
  | _ => ("BackhaulReturns$Sale", "lines", "[LBackhaulReturns$Line;", true)
def tyX3 : Nat → FieldType := fun k => match k with
  | 0 => .object "BackhaulReturns$Customer"
  | 1 => .int
  | 2 => .int
  | 3 => .int
  | 4 => .boolean
  | 5 => .int
  | 6 => .int
  | 7 => .int
  | _ => .array (.object "BackhaulReturns$Line")
abbrev wsX30 : List Cond := u_ws RX3 TX3 9
theorem nmX3 : ∀ a, a < 9 → ∀ b, b < 9 → a ≠ b → (TX3 a).2.1 ≠ (TX3 b).2.1 := by decide +kernel
theorem tyX3_ok : ∀ k, k < 9 → parseFieldDescriptor (TX3 k).2.2.1 = some (tyX3 k) := by decide +kernel
abbrev cX3_init : ByteArray := prog_5_method_1_code
def yX3_init : MethodName := ⟨RX3, "<init>", "(LBackhaulReturns$Customer;II)V"⟩
abbrev cX3_lineAt : ByteArray := prog_5_method_2_code
def yX3_lineAt : MethodName := ⟨RX3, "lineAt", "(I)LBackhaulReturns$Line;"⟩
abbrev cX3_append : ByteArray := prog_5_method_3_code
def yX3_append : MethodName := ⟨RX3, "append", "(LBackhaulReturns$Line;)I"⟩
abbrev cX3_settle : ByteArray := prog_5_method_4_code
def yX3_settle : MethodName := ⟨RX3, "settle", "(I)V"⟩
abbrev cX3_keptGoods : ByteArray := prog_5_method_5_code
def yX3_keptGoods : MethodName := ⟨RX3, "keptGoods", "()I"⟩
abbrev cX3_freedBy : ByteArray := prog_5_method_6_code
def yX3_freedBy : MethodName := ⟨RX3, "freedBy", "(LBackhaulReturns$Line;I)I"⟩
abbrev cX3_shareOf : ByteArray := prog_5_method_7_code
def yX3_shareOf : MethodName := ⟨RX3, "shareOf", "(I)I"⟩
abbrev cX3_wholeShare : ByteArray := prog_5_method_8_code
def yX3_wholeShare : MethodName := ⟨RX3, "wholeShare", "(III)I"⟩
abbrev cX3_remainder : ByteArray := prog_5_method_9_code
def yX3_remainder : MethodName := ⟨RX3, "remainder", "(III)J"⟩
abbrev cX3_linesAhead : ByteArray := prog_5_method_10_code
def yX3_linesAhead : MethodName := ⟨RX3, "linesAhead", "(III)I"⟩
def RX4 : String := "BackhaulReturns"
def TX4 : u_T := fun k => match k with
  | 0 => ("BackhaulReturns", "catalog", "[LBackhaulReturns$Product;", true)
  | 1 => ("BackhaulReturns", "people", "[LBackhaulReturns$Customer;", true)
  | 2 => ("BackhaulReturns", "register", "[LBackhaulReturns$Sale;", true)
  | 3 => ("BackhaulReturns", "saleCount", "I", false)
  | 4 => ("BackhaulReturns", "today", "I", false)
  | _ => ("BackhaulReturns", "feeSum", "I", false)
def tyX4 : Nat → FieldType := fun k => match k with
  | 0 => .array (.object "BackhaulReturns$Product")
  | 1 => .array (.object "BackhaulReturns$Customer")
  | 2 => .array (.object "BackhaulReturns$Sale")
  | 3 => .int
  | 4 => .int
  | _ => .int
abbrev wsX40 : List Cond := u_ws RX4 TX4 6
theorem nmX4 : ∀ a, a < 6 → ∀ b, b < 6 → a ≠ b → (TX4 a).2.1 ≠ (TX4 b).2.1 := by decide +kernel
theorem tyX4_ok : ∀ k, k < 6 → parseFieldDescriptor (TX4 k).2.2.1 = some (tyX4 k) := by decide +kernel
abbrev cX4_init : ByteArray := prog_1_method_1_code
def yX4_init : MethodName := ⟨RX4, "<init>", "()V"⟩
abbrev cX4_setProduct : ByteArray := prog_1_method_2_code
def yX4_setProduct : MethodName := ⟨RX4, "setProduct", "(IIII)I"⟩
abbrev cX4_pass : ByteArray := prog_1_method_3_code
def yX4_pass : MethodName := ⟨RX4, "pass", "(I)I"⟩
abbrev cX4_open : ByteArray := prog_1_method_4_code
def yX4_open : MethodName := ⟨RX4, "open", "(I)I"⟩
abbrev cX4_add : ByteArray := prog_1_method_5_code
def yX4_add : MethodName := ⟨RX4, "add", "(III)I"⟩
abbrev cX4_pay : ByteArray := prog_1_method_6_code
def yX4_pay : MethodName := ⟨RX4, "pay", "(I)I"⟩
abbrev cX4_sales : ByteArray := prog_1_method_7_code
def yX4_sales : MethodName := ⟨RX4, "sales", "()I"⟩
abbrev cX4_paid : ByteArray := prog_1_method_8_code
def yX4_paid : MethodName := ⟨RX4, "paid", "(I)I"⟩
abbrev cX4_kept : ByteArray := prog_1_method_9_code
def yX4_kept : MethodName := ⟨RX4, "kept", "(II)I"⟩
abbrev cX4_keptValue : ByteArray := prog_1_method_10_code
def yX4_keptValue : MethodName := ⟨RX4, "keptValue", "(I)I"⟩
abbrev cX4_lineValue : ByteArray := prog_1_method_11_code
def yX4_lineValue : MethodName := ⟨RX4, "lineValue", "(II)I"⟩
abbrev cX4_giveBack : ByteArray := prog_1_method_12_code
def yX4_giveBack : MethodName := ⟨RX4, "giveBack", "(IIII)I"⟩
abbrev cX4_exchange : ByteArray := prog_1_method_13_code
def yX4_exchange : MethodName := ⟨RX4, "exchange", "(IIIII)I"⟩
abbrev cX4_quote : ByteArray := prog_1_method_14_code
def yX4_quote : MethodName := ⟨RX4, "quote", "(IIII)I"⟩
abbrev cX4_released : ByteArray := prog_1_method_15_code
def yX4_released : MethodName := ⟨RX4, "released", "(I)I"⟩
abbrev cX4_fees : ByteArray := prog_1_method_16_code
def yX4_fees : MethodName := ⟨RX4, "fees", "()I"⟩
abbrev cX4_firstSale : ByteArray := prog_1_method_17_code
def yX4_firstSale : MethodName := ⟨RX4, "firstSale", "(I)I"⟩
abbrev cX4_exchanges : ByteArray := prog_1_method_18_code
def yX4_exchanges : MethodName := ⟨RX4, "exchanges", "(I)I"⟩
abbrev cX4_bestOption : ByteArray := prog_1_method_19_code
def yX4_bestOption : MethodName := ⟨RX4, "bestOption", "(II)I"⟩
abbrev cX4_bestWorth : ByteArray := prog_1_method_20_code
def yX4_bestWorth : MethodName := ⟨RX4, "bestWorth", "(II)I"⟩
abbrev cX4_stock : ByteArray := prog_1_method_21_code
def yX4_stock : MethodName := ⟨RX4, "stock", "(II)I"⟩
abbrev cX4_test : ByteArray := prog_1_method_22_code
def yX4_test : MethodName := ⟨RX4, "test", "(IZ)I"⟩
abbrev cX4_score : ByteArray := prog_1_method_23_code
def yX4_score : MethodName := ⟨RX4, "score", "(I)I"⟩
abbrev cX4_productAt : ByteArray := prog_1_method_24_code
def yX4_productAt : MethodName := ⟨RX4, "productAt", "(I)LBackhaulReturns$Product;"⟩
abbrev cX4_customerAt : ByteArray := prog_1_method_25_code
def yX4_customerAt : MethodName := ⟨RX4, "customerAt", "(I)LBackhaulReturns$Customer;"⟩
abbrev cX4_saleAt : ByteArray := prog_1_method_26_code
def yX4_saleAt : MethodName := ⟨RX4, "saleAt", "(I)LBackhaulReturns$Sale;"⟩
abbrev cX4_existingSale : ByteArray := prog_1_method_27_code
def yX4_existingSale : MethodName := ⟨RX4, "existingSale", "(I)LBackhaulReturns$Sale;"⟩
abbrev cX4_existingLine : ByteArray := prog_1_method_28_code
def yX4_existingLine : MethodName := ⟨RX4, "existingLine", "(II)LBackhaulReturns$Line;"⟩
abbrev cX4_isRegisterFull : ByteArray := prog_1_method_29_code
def yX4_isRegisterFull : MethodName := ⟨RX4, "isRegisterFull", "()Z"⟩
abbrev cX4_enter : ByteArray := prog_1_method_30_code
def yX4_enter : MethodName := ⟨RX4, "enter", "(LBackhaulReturns$Sale;)I"⟩
abbrev cX4_ageOf : ByteArray := prog_1_method_31_code
def yX4_ageOf : MethodName := ⟨RX4, "ageOf", "(LBackhaulReturns$Sale;)I"⟩
abbrev cX4_canComeBack : ByteArray := prog_1_method_32_code
def yX4_canComeBack : MethodName := ⟨RX4, "canComeBack", "(LBackhaulReturns$Sale;LBackhaulReturns$Line;I)Z"⟩
abbrev cX4_isBlocked : ByteArray := prog_1_method_33_code
def yX4_isBlocked : MethodName := ⟨RX4, "isBlocked", "(LBackhaulReturns$Customer;)Z"⟩
abbrev cX4_takeBack : ByteArray := prog_1_method_34_code
def yX4_takeBack : MethodName := ⟨RX4, "takeBack", "(LBackhaulReturns$Sale;LBackhaulReturns$Line;IIZ)I"⟩
abbrev cX4_isCost : ByteArray := prog_1_method_35_code
def yX4_isCost : MethodName := ⟨RX4, "isCost", "(I)Z"⟩
abbrev cX4_isUnits : ByteArray := prog_1_method_36_code
def yX4_isUnits : MethodName := ⟨RX4, "isUnits", "(I)Z"⟩
abbrev cX4_isCondition : ByteArray := prog_1_method_37_code
def yX4_isCondition : MethodName := ⟨RX4, "isCondition", "(I)Z"⟩
abbrev cX4_discountPercent : ByteArray := prog_1_method_38_code
def yX4_discountPercent : MethodName := ⟨RX4, "discountPercent", "(I)I"⟩
abbrev cX4_netOf : ByteArray := prog_1_method_39_code
def yX4_netOf : MethodName := ⟨RX4, "netOf", "(I)I"⟩
abbrev cX4_feeOn : ByteArray := prog_1_method_40_code
def yX4_feeOn : MethodName := ⟨RX4, "feeOn", "(III)I"⟩
def RX5 : String := "BackhaulReturnsModel"
def TX5 : u_T := fun k => match k with
  | 0 => ("BackhaulReturnsModel", "prices", "[I", true)
  | 1 => ("BackhaulReturnsModel", "salvages", "[I", true)
  | 2 => ("BackhaulReturnsModel", "repairs", "[I", true)
  | 3 => ("BackhaulReturnsModel", "stock", "[I", true)
  | 4 => ("BackhaulReturnsModel", "day", "I", false)
  | 5 => ("BackhaulReturnsModel", "customers", "[I", true)
  | 6 => ("BackhaulReturnsModel", "sizes", "[I", true)
  | 7 => ("BackhaulReturnsModel", "days", "[I", true)
  | 8 => ("BackhaulReturnsModel", "paid", "[I", true)
  | 9 => ("BackhaulReturnsModel", "released", "[I", true)
  | 10 => ("BackhaulReturnsModel", "firsts", "[I", true)
  | 11 => ("BackhaulReturnsModel", "depths", "[I", true)
  | 12 => ("BackhaulReturnsModel", "sales", "I", false)
  | 13 => ("BackhaulReturnsModel", "products", "[I", true)
  | 14 => ("BackhaulReturnsModel", "linePrices", "[I", true)
  | 15 => ("BackhaulReturnsModel", "units", "[I", true)
  | 16 => ("BackhaulReturnsModel", "backCustomers", "[I", true)
  | 17 => ("BackhaulReturnsModel", "backDays", "[I", true)
  | 18 => ("BackhaulReturnsModel", "backUnits", "[I", true)
  | 19 => ("BackhaulReturnsModel", "isAgain", "[Z", true)
  | 20 => ("BackhaulReturnsModel", "backs", "I", false)
  | 21 => ("BackhaulReturnsModel", "fees", "I", false)
  | 22 => ("BackhaulReturnsModel", "remainders", "[J", true)
  | 23 => ("BackhaulReturnsModel", "values", "[I", true)
  | _ => ("BackhaulReturnsModel", "thrown", "I", false)
def tyX5 : Nat → FieldType := fun k => match k with
  | 0 => .array .int
  | 1 => .array .int
  | 2 => .array .int
  | 3 => .array .int
  | 4 => .int
  | 5 => .array .int
  | 6 => .array .int
  | 7 => .array .int
  | 8 => .array .int
  | 9 => .array .int
  | 10 => .array .int
  | 11 => .array .int
  | 12 => .int
  | 13 => .array .int
  | 14 => .array .int
  | 15 => .array .int
  | 16 => .array .int
  | 17 => .array .int
  | 18 => .array .int
  | 19 => .array .boolean
  | 20 => .int
  | 21 => .int
  | 22 => .array .long
  | 23 => .array .int
  | _ => .int
abbrev wsX50 : List Cond := u_ws RX5 TX5 25
theorem nmX5 : ∀ a, a < 25 → ∀ b, b < 25 → a ≠ b → (TX5 a).2.1 ≠ (TX5 b).2.1 := by decide +kernel
theorem tyX5_ok : ∀ k, k < 25 → parseFieldDescriptor (TX5 k).2.2.1 = some (tyX5 k) := by decide +kernel
abbrev cX5_init : ByteArray := prog_7_method_1_code
def yX5_init : MethodName := ⟨RX5, "<init>", "()V"⟩
abbrev cX5_thrown : ByteArray := prog_7_method_2_code
def yX5_thrown : MethodName := ⟨RX5, "thrown", "()I"⟩
abbrev cX5_goes : ByteArray := prog_7_method_3_code
def yX5_goes : MethodName := ⟨RX5, "goes", "(I)Z"⟩
abbrev cX5_isIn : ByteArray := prog_7_method_4_code
def yX5_isIn : MethodName := ⟨RX5, "isIn", "(III)Z"⟩
abbrev cX5_isTen : ByteArray := prog_7_method_5_code
def yX5_isTen : MethodName := ⟨RX5, "isTen", "(I)Z"⟩
abbrev cX5_isSale : ByteArray := prog_7_method_6_code
def yX5_isSale : MethodName := ⟨RX5, "isSale", "(I)Z"⟩
abbrev cX5_isLine : ByteArray := prog_7_method_7_code
def yX5_isLine : MethodName := ⟨RX5, "isLine", "(II)Z"⟩
abbrev cX5_isOpen : ByteArray := prog_7_method_8_code
def yX5_isOpen : MethodName := ⟨RX5, "isOpen", "(I)Z"⟩
abbrev cX5_setProduct : ByteArray := prog_7_method_9_code
def yX5_setProduct : MethodName := ⟨RX5, "setProduct", "(IIII)I"⟩
abbrev cX5_pass : ByteArray := prog_7_method_10_code
def yX5_pass : MethodName := ⟨RX5, "pass", "(I)I"⟩
abbrev cX5_opens : ByteArray := prog_7_method_11_code
def yX5_opens : MethodName := ⟨RX5, "opens", "(I)I"⟩
abbrev cX5_adds : ByteArray := prog_7_method_12_code
def yX5_adds : MethodName := ⟨RX5, "adds", "(III)I"⟩
abbrev cX5_pays : ByteArray := prog_7_method_13_code
def yX5_pays : MethodName := ⟨RX5, "pays", "(I)I"⟩
abbrev cX5_open : ByteArray := prog_7_method_14_code
def yX5_open : MethodName := ⟨RX5, "open", "(I)I"⟩
abbrev cX5_add : ByteArray := prog_7_method_15_code
def yX5_add : MethodName := ⟨RX5, "add", "(III)I"⟩
abbrev cX5_pay : ByteArray := prog_7_method_16_code
def yX5_pay : MethodName := ⟨RX5, "pay", "(I)I"⟩
abbrev cX5_sales : ByteArray := prog_7_method_17_code
def yX5_sales : MethodName := ⟨RX5, "sales", "()I"⟩
abbrev cX5_paid : ByteArray := prog_7_method_18_code
def yX5_paid : MethodName := ⟨RX5, "paid", "(I)I"⟩
abbrev cX5_kept : ByteArray := prog_7_method_19_code
def yX5_kept : MethodName := ⟨RX5, "kept", "(II)I"⟩
abbrev cX5_goodsOf : ByteArray := prog_7_method_20_code
def yX5_goodsOf : MethodName := ⟨RX5, "goodsOf", "(II)I"⟩
abbrev cX5_goods : ByteArray := prog_7_method_21_code
def yX5_goods : MethodName := ⟨RX5, "goods", "(I)I"⟩
abbrev cX5_net : ByteArray := prog_7_method_22_code
def yX5_net : MethodName := ⟨RX5, "net", "(I)I"⟩
abbrev cX5_keptValue : ByteArray := prog_7_method_23_code
def yX5_keptValue : MethodName := ⟨RX5, "keptValue", "(I)I"⟩
abbrev cX5_next : ByteArray := prog_7_method_24_code
def yX5_next : MethodName := ⟨RX5, "next", "(I)I"⟩
abbrev cX5_splits : ByteArray := prog_7_method_25_code
def yX5_splits : MethodName := ⟨RX5, "splits", "(I)V"⟩
abbrev cX5_lineValue : ByteArray := prog_7_method_26_code
def yX5_lineValue : MethodName := ⟨RX5, "lineValue", "(II)I"⟩
abbrev cX5_part : ByteArray := prog_7_method_27_code
def yX5_part : MethodName := ⟨RX5, "part", "(II)I"⟩
abbrev cX5_worth : ByteArray := prog_7_method_28_code
def yX5_worth : MethodName := ⟨RX5, "worth", "(III)I"⟩
abbrev cX5_best : ByteArray := prog_7_method_29_code
def yX5_best : MethodName := ⟨RX5, "best", "(II)I"⟩
abbrev cX5_asksOption : ByteArray := prog_7_method_30_code
def yX5_asksOption : MethodName := ⟨RX5, "asksOption", "(II)Z"⟩
abbrev cX5_bestOption : ByteArray := prog_7_method_31_code
def yX5_bestOption : MethodName := ⟨RX5, "bestOption", "(II)I"⟩
abbrev cX5_bestWorth : ByteArray := prog_7_method_32_code
def yX5_bestWorth : MethodName := ⟨RX5, "bestWorth", "(II)I"⟩
abbrev cX5_stock : ByteArray := prog_7_method_33_code
def yX5_stock : MethodName := ⟨RX5, "stock", "(II)I"⟩
abbrev cX5_test : ByteArray := prog_7_method_34_code
def yX5_test : MethodName := ⟨RX5, "test", "(IZ)I"⟩
abbrev cX5_scoreOf : ByteArray := prog_7_method_35_code
def yX5_scoreOf : MethodName := ⟨RX5, "scoreOf", "(I)I"⟩
abbrev cX5_score : ByteArray := prog_7_method_36_code
def yX5_score : MethodName := ⟨RX5, "score", "(I)I"⟩
abbrev cX5_age : ByteArray := prog_7_method_37_code
def yX5_age : MethodName := ⟨RX5, "age", "(I)I"⟩
abbrev cX5_wrong : ByteArray := prog_7_method_38_code
def yX5_wrong : MethodName := ⟨RX5, "wrong", "(IIII)I"⟩
abbrev cX5_release : ByteArray := prog_7_method_39_code
def yX5_release : MethodName := ⟨RX5, "release", "(III)I"⟩
abbrev cX5_fee : ByteArray := prog_7_method_40_code
def yX5_fee : MethodName := ⟨RX5, "fee", "(III)I"⟩
abbrev cX5_comesBack : ByteArray := prog_7_method_41_code
def yX5_comesBack : MethodName := ⟨RX5, "comesBack", "(IIIIZ)I"⟩
abbrev cX5_barred : ByteArray := prog_7_method_42_code
def yX5_barred : MethodName := ⟨RX5, "barred", "(II)I"⟩
abbrev cX5_giveBack : ByteArray := prog_7_method_43_code
def yX5_giveBack : MethodName := ⟨RX5, "giveBack", "(IIII)I"⟩
abbrev cX5_exchange : ByteArray := prog_7_method_44_code
def yX5_exchange : MethodName := ⟨RX5, "exchange", "(IIIII)I"⟩
abbrev cX5_quote : ByteArray := prog_7_method_45_code
def yX5_quote : MethodName := ⟨RX5, "quote", "(IIII)I"⟩
abbrev cX5_released : ByteArray := prog_7_method_46_code
def yX5_released : MethodName := ⟨RX5, "released", "(I)I"⟩
abbrev cX5_fees : ByteArray := prog_7_method_47_code
def yX5_fees : MethodName := ⟨RX5, "fees", "()I"⟩
abbrev cX5_firstSale : ByteArray := prog_7_method_48_code
def yX5_firstSale : MethodName := ⟨RX5, "firstSale", "(I)I"⟩
abbrev cX5_exchanges : ByteArray := prog_7_method_49_code
def yX5_exchanges : MethodName := ⟨RX5, "exchanges", "(I)I"⟩
def RJ9 : String := "java/lang/Math"
def TJ9 : u_T := fun k => match k with
  | _ => ("", "", "", false)
def tyJ9 : Nat → FieldType := fun k => match k with
  | _ => .int
abbrev wsJ90 : List Cond := u_ws RJ9 TJ9 0
theorem nmJ9 : ∀ a, a < 0 → ∀ b, b < 0 → a ≠ b → (TJ9 a).2.1 ≠ (TJ9 b).2.1 := by decide +kernel
theorem tyJ9_ok : ∀ k, k < 0 → parseFieldDescriptor (TJ9 k).2.2.1 = some (tyJ9 k) := by decide +kernel
abbrev cJ9_floorDiv_7cf53 : ByteArray := prog_12_method_47_code
def yJ9_floorDiv_7cf53 : MethodName := ⟨RJ9, "floorDiv", "(II)I"⟩
abbrev cJ9_max_7cf53 : ByteArray := prog_12_method_65_code
def yJ9_max_7cf53 : MethodName := ⟨RJ9, "max", "(II)I"⟩
def RJ0 : String := "java/lang/String"
def TJ0 : u_T := fun k => match k with
  | _ => ("", "", "", false)
def tyJ0 : Nat → FieldType := fun k => match k with
  | _ => .int
abbrev wsJ00 : List Cond := u_ws RJ0 TJ0 0
theorem nmJ0 : ∀ a, a < 0 → ∀ b, b < 0 → a ≠ b → (TJ0 a).2.1 ≠ (TJ0 b).2.1 := by decide +kernel
theorem tyJ0_ok : ∀ k, k < 0 → parseFieldDescriptor (TJ0 k).2.2.1 = some (tyJ0 k) := by decide +kernel
def RL : String := "BackhaulReturnsLaw"
abbrev cL_setProduct : ByteArray := method_3_code
def yL_setProduct : MethodName := ⟨RL, "setProduct", "(LBackhaulReturns;IIII[J)I"⟩
abbrev cL_pass : ByteArray := method_4_code
def yL_pass : MethodName := ⟨RL, "pass", "(LBackhaulReturns;I[J)I"⟩
abbrev cL_open : ByteArray := method_5_code
def yL_open : MethodName := ⟨RL, "open", "(LBackhaulReturns;I[J)I"⟩
abbrev cL_add : ByteArray := method_6_code
def yL_add : MethodName := ⟨RL, "add", "(LBackhaulReturns;III[J)I"⟩
abbrev cL_pay : ByteArray := method_7_code
def yL_pay : MethodName := ⟨RL, "pay", "(LBackhaulReturns;I[J)I"⟩
abbrev cL_paid : ByteArray := method_8_code
def yL_paid : MethodName := ⟨RL, "paid", "(LBackhaulReturns;I[J)I"⟩
abbrev cL_kept : ByteArray := method_9_code
def yL_kept : MethodName := ⟨RL, "kept", "(LBackhaulReturns;II[J)I"⟩
abbrev cL_keptValue : ByteArray := method_10_code
def yL_keptValue : MethodName := ⟨RL, "keptValue", "(LBackhaulReturns;I[J)I"⟩
abbrev cL_lineValue : ByteArray := method_11_code
def yL_lineValue : MethodName := ⟨RL, "lineValue", "(LBackhaulReturns;II[J)I"⟩
abbrev cL_giveBack : ByteArray := method_12_code
def yL_giveBack : MethodName := ⟨RL, "giveBack", "(LBackhaulReturns;IIII[J)I"⟩
abbrev cL_exchange : ByteArray := method_13_code
def yL_exchange : MethodName := ⟨RL, "exchange", "(LBackhaulReturns;IIIII[J)I"⟩
abbrev cL_quote : ByteArray := method_14_code
def yL_quote : MethodName := ⟨RL, "quote", "(LBackhaulReturns;IIII[J)I"⟩
abbrev cL_released : ByteArray := method_15_code
def yL_released : MethodName := ⟨RL, "released", "(LBackhaulReturns;I[J)I"⟩
abbrev cL_firstSale : ByteArray := method_16_code
def yL_firstSale : MethodName := ⟨RL, "firstSale", "(LBackhaulReturns;I[J)I"⟩
abbrev cL_exchanges : ByteArray := method_17_code
def yL_exchanges : MethodName := ⟨RL, "exchanges", "(LBackhaulReturns;I[J)I"⟩
abbrev cL_bestOption : ByteArray := method_18_code
def yL_bestOption : MethodName := ⟨RL, "bestOption", "(LBackhaulReturns;II[J)I"⟩
abbrev cL_bestWorth : ByteArray := method_19_code
def yL_bestWorth : MethodName := ⟨RL, "bestWorth", "(LBackhaulReturns;II[J)I"⟩
abbrev cL_stock : ByteArray := method_20_code
def yL_stock : MethodName := ⟨RL, "stock", "(LBackhaulReturns;II[J)I"⟩
abbrev cL_test : ByteArray := method_21_code
def yL_test : MethodName := ⟨RL, "test", "(LBackhaulReturns;IZ[J)I"⟩
abbrev cL_score : ByteArray := method_22_code
def yL_score : MethodName := ⟨RL, "score", "(LBackhaulReturns;I[J)I"⟩
abbrev cL_law : ByteArray := code
def yL_law : MethodName := ⟨RL, "law", "([I)Z"⟩
def wsX0_init : List Cond := .code yX0_init cX0_init 1 none :: ([.methodLink RX0 3 objectInit, .instanceMethod objectInit, .code objectInit ⟨#[0xb1]⟩ 1 none, .arrayClass .int, .fieldLink RX0 9 "BackhaulReturns$Customer" "days" "[I", .fieldLink RX0 15 "BackhaulReturns$Customer" "units" "[I", .arrayClass .boolean, .fieldLink RX0 18 "BackhaulReturns$Customer" "areChained" "[Z"] ++ wsX00)
def wsX0_scoreOn : List Cond := .code yX0_scoreOn cX0_scoreOn 5 (some .int) :: ([.fieldLink RX0 22 "BackhaulReturns$Customer" "count" "I", .fieldLink RX0 9 "BackhaulReturns$Customer" "days" "[I", .fieldLink RX0 15 "BackhaulReturns$Customer" "units" "[I", .fieldLink RX0 18 "BackhaulReturns$Customer" "areChained" "[Z"] ++ wsX00)
def wsX0_forgetBefore : List Cond := .code yX0_forgetBefore cX0_forgetBefore 4 none :: ([.fieldLink RX0 22 "BackhaulReturns$Customer" "count" "I", .fieldLink RX0 9 "BackhaulReturns$Customer" "days" "[I", .fieldLink RX0 15 "BackhaulReturns$Customer" "units" "[I", .fieldLink RX0 18 "BackhaulReturns$Customer" "areChained" "[Z"] ++ wsX00)
def wsX0_remember : List Cond := .code yX0_remember cX0_remember 4 none :: ([.fieldLink RX0 22 "BackhaulReturns$Customer" "count" "I", .fieldLink RX0 9 "BackhaulReturns$Customer" "days" "[I", .fieldLink RX0 15 "BackhaulReturns$Customer" "units" "[I", .fieldLink RX0 18 "BackhaulReturns$Customer" "areChained" "[Z", .methodLink RX0 26 yX0_forgetBefore, .instanceMethod yX0_forgetBefore, .selects RX0 yX0_forgetBefore yX0_forgetBefore, .initialized RX0, .code yX0_forgetBefore cX0_forgetBefore 4 none] ++ wsX00)
def wsX1_init : List Cond := .code yX1_init cX1_init 3 none :: ([.methodLink RX1 1 objectInit, .instanceMethod objectInit, .code objectInit ⟨#[0xb1]⟩ 1 none, .fieldLink RX1 7 "BackhaulReturns$Line" "product" "LBackhaulReturns$Product;", .fieldLink RX1 13 "BackhaulReturns$Line" "quantity" "I", .fieldLink RX1 17 "BackhaulReturns$Product" "unitPrice" "I", .fieldLink RX1 22 "BackhaulReturns$Line" "linePrice" "I"] ++ wsX10 ++ wsX20)
def wsX1_goodsOf : List Cond := .code yX1_goodsOf cX1_goodsOf 2 (some .int) :: ([.fieldLink RX1 22 "BackhaulReturns$Line" "linePrice" "I"] ++ wsX10)
def wsX2_init : List Cond := .code yX2_init cX2_init 1 none :: ([.methodLink RX2 3 objectInit, .instanceMethod objectInit, .code objectInit ⟨#[0xb1]⟩ 1 none, .fieldLink RX2 9 "BackhaulReturns$Product" "unitPrice" "I", .fieldLink RX2 15 "BackhaulReturns$Product" "salvageValue" "I", .fieldLink RX2 18 "BackhaulReturns$Product" "repairCost" "I", .arrayClass .int, .fieldLink RX2 21 "BackhaulReturns$Product" "unitsByPlace" "[I"] ++ wsX20)
def wsX2_unitsAt : List Cond := .code yX2_unitsAt cX2_unitsAt 2 (some .int) :: ([.fieldLink RX2 21 "BackhaulReturns$Product" "unitsByPlace" "[I"] ++ wsX20)
def wsX2_move : List Cond := .code yX2_move cX2_move 3 none :: ([.fieldLink RX2 21 "BackhaulReturns$Product" "unitsByPlace" "[I"] ++ wsX20)
def wsX2_isOffered : List Cond := .code yX2_isOffered cX2_isOffered 2 (some .boolean) :: ([])
def wsX2_repairWorth : List Cond := .code yX2_repairWorth cX2_repairWorth 1 (some .int) :: ([.fieldLink RX2 9 "BackhaulReturns$Product" "unitPrice" "I", .fieldLink RX2 18 "BackhaulReturns$Product" "repairCost" "I"] ++ wsX20)
def wsX2_salvageWorth : List Cond := .code yX2_salvageWorth cX2_salvageWorth 1 (some .int) :: ([.fieldLink RX2 15 "BackhaulReturns$Product" "salvageValue" "I"] ++ wsX20)
def wsJ9_floorDiv_7cf53 : List Cond := .code yJ9_floorDiv_7cf53 cJ9_floorDiv_7cf53 3 (some .int) :: ([])
def wsX2_worthOf : List Cond := .code yX2_worthOf cX2_worthOf 3 (some .int) :: ([.fieldLink RX2 9 "BackhaulReturns$Product" "unitPrice" "I", .methodLink RX2 40 Lib.Math.max.name, .static Lib.Math.max.name, .initialized "java/lang/Math", .code Lib.Math.max.name Lib.Math.max.code 2 (some .int), .methodLink RX2 33 yX2_repairWorth, .instanceMethod yX2_repairWorth, .selects RX2 yX2_repairWorth yX2_repairWorth, .initialized RX2, .code yX2_repairWorth cX2_repairWorth 1 (some .int), .fieldLink RX2 18 "BackhaulReturns$Product" "repairCost" "I", .methodLink RX2 37 yX2_salvageWorth, .instanceMethod yX2_salvageWorth, .selects RX2 yX2_salvageWorth yX2_salvageWorth, .code yX2_salvageWorth cX2_salvageWorth 1 (some .int), .fieldLink RX2 15 "BackhaulReturns$Product" "salvageValue" "I", .methodLink RX2 45 yJ9_floorDiv_7cf53, .static yJ9_floorDiv_7cf53, .initialized RJ9, .code yJ9_floorDiv_7cf53 cJ9_floorDiv_7cf53 3 (some .int)] ++ wsX20)
def wsX2_optionFor_r1 : List Cond := [Cond.methodLink RX2 25 yX2_isOffered, Cond.static yX2_isOffered, Cond.initialized RX2, Cond.code yX2_isOffered cX2_isOffered 2 (some .boolean), Cond.methodLink RX2 29 yX2_worthOf, Cond.instanceMethod yX2_worthOf, Cond.selects RX2 yX2_worthOf yX2_worthOf, Cond.code yX2_worthOf cX2_worthOf 3 (some .int), Cond.fieldLink RX2 9 "BackhaulReturns$Product" "unitPrice" "I", Cond.methodLink RX2 40 Lib.Math.max.name, Cond.static Lib.Math.max.name, Cond.initialized "java/lang/Math", Cond.code Lib.Math.max.name Lib.Math.max.code 2 (some .int), Cond.methodLink RX2 33 yX2_repairWorth, Cond.instanceMethod yX2_repairWorth, Cond.selects RX2 yX2_repairWorth yX2_repairWorth, Cond.code yX2_repairWorth cX2_repairWorth 1 (some .int), Cond.fieldLink RX2 18 "BackhaulReturns$Product" "repairCost" "I", Cond.methodLink RX2 37 yX2_salvageWorth, Cond.instanceMethod yX2_salvageWorth, Cond.selects RX2 yX2_salvageWorth yX2_salvageWorth, Cond.code yX2_salvageWorth cX2_salvageWorth 1 (some .int), Cond.fieldLink RX2 15 "BackhaulReturns$Product" "salvageValue" "I", Cond.methodLink RX2 45 yJ9_floorDiv_7cf53]
def wsX2_optionFor_r2 : List Cond := [Cond.static yJ9_floorDiv_7cf53, Cond.initialized RJ9, Cond.code yJ9_floorDiv_7cf53 cJ9_floorDiv_7cf53 3 (some .int)]
def wsX2_optionFor : List Cond := .code yX2_optionFor cX2_optionFor 4 (some .int) :: ((wsX2_optionFor_r1 ++ wsX2_optionFor_r2) ++ wsX20)
def wsX3_init : List Cond := .code yX3_init cX3_init 4 none :: ([.methodLink RX3 3 objectInit, .instanceMethod objectInit, .code objectInit ⟨#[0xb1]⟩ 1 none, .classLink RX3 9 RX1, .fieldLink RX3 11 "BackhaulReturns$Sale" "lines" "[LBackhaulReturns$Line;", .fieldLink RX3 17 "BackhaulReturns$Sale" "buyer" "LBackhaulReturns$Customer;", .fieldLink RX3 21 "BackhaulReturns$Sale" "firstNumber" "I", .fieldLink RX3 25 "BackhaulReturns$Sale" "depth" "I"] ++ wsX30)
def wsX3_lineAt : List Cond := .code yX3_lineAt cX3_lineAt 2 (some (.object "BackhaulReturns$Line")) :: ([.fieldLink RX3 11 "BackhaulReturns$Sale" "lines" "[LBackhaulReturns$Line;"] ++ wsX30)
def wsX3_append : List Cond := .code yX3_append cX3_append 3 (some .int) :: ([.fieldLink RX3 28 "BackhaulReturns$Sale" "lineCount" "I", .fieldLink RX3 11 "BackhaulReturns$Sale" "lines" "[LBackhaulReturns$Line;"] ++ wsX30)
def wsX3_keptGoods : List Cond := .code yX3_keptGoods cX3_keptGoods 6 (some .int) :: ([.fieldLink RX3 11 "BackhaulReturns$Sale" "lines" "[LBackhaulReturns$Line;", .fieldLink RX3 34 "BackhaulReturns$Line" "keptUnits" "I", .methodLink RX3 55 yX1_goodsOf, .instanceMethod yX1_goodsOf, .selects RX1 yX1_goodsOf yX1_goodsOf, .initialized RX1, .code yX1_goodsOf cX1_goodsOf 2 (some .int), .fieldLink RX1 22 "BackhaulReturns$Line" "linePrice" "I"] ++ wsX30 ++ wsX10)
def wsX4_discountPercent : List Cond := .code yX4_discountPercent cX4_discountPercent 1 (some .int) :: ([])
def wsX4_netOf : List Cond := .code yX4_netOf cX4_netOf 1 (some .int) :: ([.methodLink RX4 237 yX4_discountPercent, .static yX4_discountPercent, .initialized RX4, .code yX4_discountPercent cX4_discountPercent 1 (some .int)])
def wsX3_settle : List Cond := .code yX3_settle cX3_settle 6 none :: ([.fieldLink RX3 11 "BackhaulReturns$Sale" "lines" "[LBackhaulReturns$Line;", .fieldLink RX3 31 "BackhaulReturns$Line" "quantity" "I", .fieldLink RX3 34 "BackhaulReturns$Line" "keptUnits" "I", .fieldLink RX3 37 "BackhaulReturns$Sale" "isPaid" "Z", .fieldLink RX3 41 "BackhaulReturns$Sale" "firstPaidDay" "I", .fieldLink RX3 52 "BackhaulReturns$Sale" "amountPaid" "I", .methodLink RX3 44 yX3_keptGoods, .instanceMethod yX3_keptGoods, .selects RX3 yX3_keptGoods yX3_keptGoods, .initialized RX3, .code yX3_keptGoods cX3_keptGoods 6 (some .int), .methodLink RX3 55 yX1_goodsOf, .instanceMethod yX1_goodsOf, .selects RX1 yX1_goodsOf yX1_goodsOf, .initialized RX1, .code yX1_goodsOf cX1_goodsOf 2 (some .int), .fieldLink RX1 22 "BackhaulReturns$Line" "linePrice" "I", .static yX4_netOf, .initialized RX4, .code yX4_netOf cX4_netOf 1 (some .int), .methodLink RX4 237 yX4_discountPercent, .static yX4_discountPercent, .code yX4_discountPercent cX4_discountPercent 1 (some .int)] ++ wsX30 ++ wsX10)
def wsX3_freedBy_r1 : List Cond := [Cond.fieldLink RX3 52 "BackhaulReturns$Sale" "amountPaid" "I", Cond.fieldLink RX3 58 "BackhaulReturns$Sale" "amountReleased" "I", Cond.methodLink RX3 61 Lib.Math.max.name, Cond.static Lib.Math.max.name, Cond.initialized "java/lang/Math", Cond.code Lib.Math.max.name Lib.Math.max.code 2 (some .int), Cond.methodLink RX3 44 yX3_keptGoods, Cond.instanceMethod yX3_keptGoods, Cond.selects RX3 yX3_keptGoods yX3_keptGoods, Cond.initialized RX3, Cond.code yX3_keptGoods cX3_keptGoods 6 (some .int), Cond.fieldLink RX3 11 "BackhaulReturns$Sale" "lines" "[LBackhaulReturns$Line;", Cond.fieldLink RX3 34 "BackhaulReturns$Line" "keptUnits" "I", Cond.methodLink RX3 55 yX1_goodsOf, Cond.instanceMethod yX1_goodsOf, Cond.selects RX1 yX1_goodsOf yX1_goodsOf, Cond.initialized RX1, Cond.code yX1_goodsOf cX1_goodsOf 2 (some .int), Cond.fieldLink RX1 22 "BackhaulReturns$Line" "linePrice" "I", Cond.static yX4_netOf, Cond.initialized RX4, Cond.code yX4_netOf cX4_netOf 1 (some .int), Cond.methodLink RX4 237 yX4_discountPercent, Cond.static yX4_discountPercent]
def wsX3_freedBy_r2 : List Cond := [Cond.code yX4_discountPercent cX4_discountPercent 1 (some .int)]
def wsX3_freedBy : List Cond := .code yX3_freedBy cX3_freedBy 4 (some .int) :: ((wsX3_freedBy_r1 ++ wsX3_freedBy_r2) ++ wsX30 ++ wsX10)
def wsX3_wholeShare : List Cond := .code yX3_wholeShare cX3_wholeShare 5 (some .int) :: ([.fieldLink RX3 34 "BackhaulReturns$Line" "keptUnits" "I", .methodLink RX3 74 yX3_lineAt, .instanceMethod yX3_lineAt, .selects RX3 yX3_lineAt yX3_lineAt, .initialized RX3, .code yX3_lineAt cX3_lineAt 2 (some (.object "BackhaulReturns$Line")), .fieldLink RX3 11 "BackhaulReturns$Sale" "lines" "[LBackhaulReturns$Line;", .methodLink RX3 55 yX1_goodsOf, .instanceMethod yX1_goodsOf, .selects RX1 yX1_goodsOf yX1_goodsOf, .initialized RX1, .code yX1_goodsOf cX1_goodsOf 2 (some .int), .fieldLink RX1 22 "BackhaulReturns$Line" "linePrice" "I"] ++ wsX10 ++ wsX30)
def wsX3_remainder : List Cond := .code yX3_remainder cX3_remainder 5 (some .long) :: ([.constantLong RX3 78 (-1), .fieldLink RX3 34 "BackhaulReturns$Line" "keptUnits" "I", .methodLink RX3 74 yX3_lineAt, .instanceMethod yX3_lineAt, .selects RX3 yX3_lineAt yX3_lineAt, .initialized RX3, .code yX3_lineAt cX3_lineAt 2 (some (.object "BackhaulReturns$Line")), .fieldLink RX3 11 "BackhaulReturns$Sale" "lines" "[LBackhaulReturns$Line;", .methodLink RX3 55 yX1_goodsOf, .instanceMethod yX1_goodsOf, .selects RX1 yX1_goodsOf yX1_goodsOf, .initialized RX1, .code yX1_goodsOf cX1_goodsOf 2 (some .int), .fieldLink RX1 22 "BackhaulReturns$Line" "linePrice" "I"] ++ wsX10 ++ wsX30)
def wsX3_linesAhead : List Cond := .code yX3_linesAhead cX3_linesAhead 10 (some .int) :: ([.fieldLink RX3 11 "BackhaulReturns$Sale" "lines" "[LBackhaulReturns$Line;", .methodLink RX3 80 yX3_remainder, .instanceMethod yX3_remainder, .selects RX3 yX3_remainder yX3_remainder, .initialized RX3, .code yX3_remainder cX3_remainder 5 (some .long), .constantLong RX3 78 (-1), .fieldLink RX3 34 "BackhaulReturns$Line" "keptUnits" "I", .methodLink RX3 74 yX3_lineAt, .instanceMethod yX3_lineAt, .selects RX3 yX3_lineAt yX3_lineAt, .code yX3_lineAt cX3_lineAt 2 (some (.object "BackhaulReturns$Line")), .methodLink RX3 55 yX1_goodsOf, .instanceMethod yX1_goodsOf, .selects RX1 yX1_goodsOf yX1_goodsOf, .initialized RX1, .code yX1_goodsOf cX1_goodsOf 2 (some .int), .fieldLink RX1 22 "BackhaulReturns$Line" "linePrice" "I"] ++ wsX30 ++ wsX10)
def wsX3_shareOf_r1 : List Cond := [Cond.fieldLink RX3 11 "BackhaulReturns$Sale" "lines" "[LBackhaulReturns$Line;", Cond.methodLink RX3 44 yX3_keptGoods, Cond.instanceMethod yX3_keptGoods, Cond.selects RX3 yX3_keptGoods yX3_keptGoods, Cond.initialized RX3, Cond.code yX3_keptGoods cX3_keptGoods 6 (some .int), Cond.fieldLink RX3 34 "BackhaulReturns$Line" "keptUnits" "I", Cond.methodLink RX3 55 yX1_goodsOf, Cond.instanceMethod yX1_goodsOf, Cond.selects RX1 yX1_goodsOf yX1_goodsOf, Cond.initialized RX1, Cond.code yX1_goodsOf cX1_goodsOf 2 (some .int), Cond.fieldLink RX1 22 "BackhaulReturns$Line" "linePrice" "I", Cond.static yX4_netOf, Cond.initialized RX4, Cond.code yX4_netOf cX4_netOf 1 (some .int), Cond.methodLink RX4 237 yX4_discountPercent, Cond.static yX4_discountPercent, Cond.code yX4_discountPercent cX4_discountPercent 1 (some .int), Cond.methodLink RX3 67 yX3_wholeShare, Cond.instanceMethod yX3_wholeShare, Cond.selects RX3 yX3_wholeShare yX3_wholeShare, Cond.code yX3_wholeShare cX3_wholeShare 5 (some .int), Cond.methodLink RX3 74 yX3_lineAt]
def wsX3_shareOf_r2 : List Cond := [Cond.instanceMethod yX3_lineAt, Cond.selects RX3 yX3_lineAt yX3_lineAt, Cond.code yX3_lineAt cX3_lineAt 2 (some (.object "BackhaulReturns$Line")), Cond.methodLink RX3 71 yX3_linesAhead, Cond.instanceMethod yX3_linesAhead, Cond.selects RX3 yX3_linesAhead yX3_linesAhead, Cond.code yX3_linesAhead cX3_linesAhead 10 (some .int), Cond.methodLink RX3 80 yX3_remainder, Cond.instanceMethod yX3_remainder, Cond.selects RX3 yX3_remainder yX3_remainder, Cond.code yX3_remainder cX3_remainder 5 (some .long), Cond.constantLong RX3 78 (-1)]
def wsX3_shareOf : List Cond := .code yX3_shareOf cX3_shareOf 6 (some .int) :: ((wsX3_shareOf_r1 ++ wsX3_shareOf_r2) ++ wsX30 ++ wsX10)
def wsX4_init_r1 : List Cond := [Cond.methodLink RX4 1 objectInit, Cond.instanceMethod objectInit, Cond.code objectInit ⟨#[0xb1]⟩ 1 none, Cond.classLink RX4 9 RX2, Cond.fieldLink RX4 11 "BackhaulReturns" "catalog" "[LBackhaulReturns$Product;", Cond.instantiable RX2 4, Cond.initialized RX2, Cond.classLink RX4 16 RX0, Cond.fieldLink RX4 18 "BackhaulReturns" "people" "[LBackhaulReturns$Customer;", Cond.instantiable RX0 4, Cond.initialized RX0, Cond.classLink RX4 23 RX3, Cond.fieldLink RX4 25 "BackhaulReturns" "register" "[LBackhaulReturns$Sale;", Cond.instanceMethod yX2_init, Cond.code yX2_init cX2_init 1 none, Cond.methodLink RX2 3 objectInit, Cond.fieldLink RX2 9 "BackhaulReturns$Product" "unitPrice" "I", Cond.fieldLink RX2 15 "BackhaulReturns$Product" "salvageValue" "I", Cond.fieldLink RX2 18 "BackhaulReturns$Product" "repairCost" "I", Cond.arrayClass .int, Cond.fieldLink RX2 21 "BackhaulReturns$Product" "unitsByPlace" "[I", Cond.instanceMethod yX0_init, Cond.code yX0_init cX0_init 1 none, Cond.methodLink RX0 3 objectInit]
def wsX4_init_r2 : List Cond := [Cond.fieldLink RX0 9 "BackhaulReturns$Customer" "days" "[I", Cond.fieldLink RX0 15 "BackhaulReturns$Customer" "units" "[I", Cond.arrayClass .boolean, Cond.fieldLink RX0 18 "BackhaulReturns$Customer" "areChained" "[Z"]
def wsX4_init : List Cond := .code yX4_init cX4_init 2 none :: ((wsX4_init_r1 ++ wsX4_init_r2) ++ wsX40 ++ wsX20 ++ wsX00)
def wsX4_productAt : List Cond := .code yX4_productAt cX4_productAt 2 (some (.object "BackhaulReturns$Product")) :: ([.fieldLink RX4 11 "BackhaulReturns" "catalog" "[LBackhaulReturns$Product;"] ++ wsX40)
def wsX4_isCost : List Cond := .code yX4_isCost cX4_isCost 1 (some .boolean) :: ([.constant RX4 33 (100000)])
def wsX4_setProduct : List Cond := .code yX4_setProduct cX4_setProduct 7 (some .int) :: ([.classLink RX4 38 "java/lang/IllegalArgumentException", .initialized "java/lang/IllegalArgumentException", .constant RX4 33 (100000), .fieldLink RX4 45 "BackhaulReturns$Product" "unitPrice" "I", .fieldLink RX4 49 "BackhaulReturns$Product" "salvageValue" "I", .fieldLink RX4 52 "BackhaulReturns$Product" "repairCost" "I", .methodLink RX4 29 yX4_productAt, .instanceMethod yX4_productAt, .selects RX4 yX4_productAt yX4_productAt, .initialized RX4, .code yX4_productAt cX4_productAt 2 (some (.object "BackhaulReturns$Product")), .fieldLink RX4 11 "BackhaulReturns" "catalog" "[LBackhaulReturns$Product;", .methodLink RX4 34 yX4_isCost, .static yX4_isCost, .code yX4_isCost cX4_isCost 1 (some .boolean)] ++ wsX20 ++ wsX40 ++ (vx_atS RX4 42 "java/lang/IllegalArgumentException" ["java/lang/RuntimeException", "java/lang/Exception"]).filter goodWord)
def wsX4_pass : List Cond := .code yX4_pass cX4_pass 2 (some .int) :: ([.classLink RX4 38 "java/lang/IllegalArgumentException", .initialized "java/lang/IllegalArgumentException", .classLink RX4 60 "java/lang/IllegalStateException", .initialized "java/lang/IllegalStateException", .fieldLink RX4 57 "BackhaulReturns" "today" "I", .constant RX4 33 (100000)] ++ wsX40 ++ (vx_atS RX4 42 "java/lang/IllegalArgumentException" ["java/lang/RuntimeException", "java/lang/Exception"]).filter goodWord ++ (vx_atS RX4 64 "java/lang/IllegalStateException" ["java/lang/RuntimeException", "java/lang/Exception"]).filter goodWord)
def wsX4_customerAt : List Cond := .code yX4_customerAt cX4_customerAt 2 (some (.object "BackhaulReturns$Customer")) :: ([.fieldLink RX4 18 "BackhaulReturns" "people" "[LBackhaulReturns$Customer;"] ++ wsX40)
def wsX4_isRegisterFull : List Cond := .code yX4_isRegisterFull cX4_isRegisterFull 1 (some .boolean) :: ([.fieldLink RX4 77 "BackhaulReturns" "saleCount" "I", .fieldLink RX4 25 "BackhaulReturns" "register" "[LBackhaulReturns$Sale;"] ++ wsX40)
def wsX4_enter : List Cond := .code yX4_enter cX4_enter 3 (some .int) :: ([.fieldLink RX4 77 "BackhaulReturns" "saleCount" "I", .fieldLink RX4 25 "BackhaulReturns" "register" "[LBackhaulReturns$Sale;"] ++ wsX40)
def wsX4_open_r1 : List Cond := [Cond.classLink RX4 38 "java/lang/IllegalArgumentException", Cond.initialized "java/lang/IllegalArgumentException", Cond.classLink RX4 60 "java/lang/IllegalStateException", Cond.initialized "java/lang/IllegalStateException", Cond.classLink RX4 23 RX3, Cond.instantiable RX3 9, Cond.initialized RX3, Cond.fieldLink RX4 77 "BackhaulReturns" "saleCount" "I", Cond.methodLink RX4 65 yX4_customerAt, Cond.instanceMethod yX4_customerAt, Cond.selects RX4 yX4_customerAt yX4_customerAt, Cond.initialized RX4, Cond.code yX4_customerAt cX4_customerAt 2 (some (.object "BackhaulReturns$Customer")), Cond.fieldLink RX4 18 "BackhaulReturns" "people" "[LBackhaulReturns$Customer;", Cond.methodLink RX4 71 yX4_isRegisterFull, Cond.instanceMethod yX4_isRegisterFull, Cond.selects RX4 yX4_isRegisterFull yX4_isRegisterFull, Cond.code yX4_isRegisterFull cX4_isRegisterFull 1 (some .boolean), Cond.fieldLink RX4 25 "BackhaulReturns" "register" "[LBackhaulReturns$Sale;", Cond.methodLink RX4 80 yX3_init, Cond.instanceMethod yX3_init, Cond.code yX3_init cX3_init 4 none, Cond.methodLink RX3 3 objectInit, Cond.instanceMethod objectInit]
def wsX4_open_r2 : List Cond := [Cond.code objectInit ⟨#[0xb1]⟩ 1 none, Cond.classLink RX3 9 RX1, Cond.fieldLink RX3 11 "BackhaulReturns$Sale" "lines" "[LBackhaulReturns$Line;", Cond.fieldLink RX3 17 "BackhaulReturns$Sale" "buyer" "LBackhaulReturns$Customer;", Cond.fieldLink RX3 21 "BackhaulReturns$Sale" "firstNumber" "I", Cond.fieldLink RX3 25 "BackhaulReturns$Sale" "depth" "I", Cond.methodLink RX4 83 yX4_enter, Cond.instanceMethod yX4_enter, Cond.selects RX4 yX4_enter yX4_enter, Cond.code yX4_enter cX4_enter 3 (some .int)]
def wsX4_open : List Cond := .code yX4_open cX4_open 3 (some .int) :: ((wsX4_open_r1 ++ wsX4_open_r2) ++ wsX30 ++ wsX40 ++ (vx_atS RX4 42 "java/lang/IllegalArgumentException" ["java/lang/RuntimeException", "java/lang/Exception"]).filter goodWord ++ (vx_atS RX4 64 "java/lang/IllegalStateException" ["java/lang/RuntimeException", "java/lang/Exception"]).filter goodWord)
def wsX4_saleAt : List Cond := .code yX4_saleAt cX4_saleAt 2 (some (.object "BackhaulReturns$Sale")) :: ([.fieldLink RX4 25 "BackhaulReturns" "register" "[LBackhaulReturns$Sale;"] ++ wsX40)
def wsX4_existingSale : List Cond := .code yX4_existingSale cX4_existingSale 3 (some (.object "BackhaulReturns$Sale")) :: ([.classLink RX4 142 "java/lang/IndexOutOfBoundsException", .initialized "java/lang/IndexOutOfBoundsException", .methodLink RX4 224 yX4_saleAt, .instanceMethod yX4_saleAt, .selects RX4 yX4_saleAt yX4_saleAt, .initialized RX4, .code yX4_saleAt cX4_saleAt 2 (some (.object "BackhaulReturns$Sale")), .fieldLink RX4 25 "BackhaulReturns" "register" "[LBackhaulReturns$Sale;"] ++ wsX40 ++ (vx_atS RX4 146 "java/lang/IndexOutOfBoundsException" ["java/lang/RuntimeException", "java/lang/Exception"]).filter goodWord)
def wsX4_isUnits : List Cond := .code yX4_isUnits cX4_isUnits 1 (some .boolean) :: ([])
def wsX4_add_r1 : List Cond := [Cond.classLink RX4 38 "java/lang/IllegalArgumentException", Cond.initialized "java/lang/IllegalArgumentException", Cond.classLink RX4 60 "java/lang/IllegalStateException", Cond.initialized "java/lang/IllegalStateException", Cond.fieldLink RX4 96 "BackhaulReturns$Sale" "isPaid" "Z", Cond.fieldLink RX4 100 "BackhaulReturns$Sale" "lineCount" "I", Cond.classLink RX4 105 RX1, Cond.instantiable RX1 4, Cond.initialized RX1, Cond.methodLink RX4 87 yX4_existingSale, Cond.instanceMethod yX4_existingSale, Cond.selects RX4 yX4_existingSale yX4_existingSale, Cond.initialized RX4, Cond.code yX4_existingSale cX4_existingSale 3 (some (.object "BackhaulReturns$Sale")), Cond.classLink RX4 142 "java/lang/IndexOutOfBoundsException", Cond.initialized "java/lang/IndexOutOfBoundsException", Cond.methodLink RX4 224 yX4_saleAt, Cond.instanceMethod yX4_saleAt, Cond.selects RX4 yX4_saleAt yX4_saleAt, Cond.code yX4_saleAt cX4_saleAt 2 (some (.object "BackhaulReturns$Sale")), Cond.fieldLink RX4 25 "BackhaulReturns" "register" "[LBackhaulReturns$Sale;", Cond.methodLink RX4 29 yX4_productAt, Cond.instanceMethod yX4_productAt, Cond.selects RX4 yX4_productAt yX4_productAt]
def wsX4_add_r2 : List Cond := [Cond.code yX4_productAt cX4_productAt 2 (some (.object "BackhaulReturns$Product")), Cond.fieldLink RX4 11 "BackhaulReturns" "catalog" "[LBackhaulReturns$Product;", Cond.methodLink RX4 91 yX4_isUnits, Cond.static yX4_isUnits, Cond.code yX4_isUnits cX4_isUnits 1 (some .boolean), Cond.methodLink RX4 107 yX1_init, Cond.instanceMethod yX1_init, Cond.code yX1_init cX1_init 3 none, Cond.methodLink RX1 1 objectInit, Cond.instanceMethod objectInit, Cond.code objectInit ⟨#[0xb1]⟩ 1 none, Cond.fieldLink RX1 7 "BackhaulReturns$Line" "product" "LBackhaulReturns$Product;", Cond.fieldLink RX1 13 "BackhaulReturns$Line" "quantity" "I", Cond.fieldLink RX1 17 "BackhaulReturns$Product" "unitPrice" "I", Cond.fieldLink RX1 22 "BackhaulReturns$Line" "linePrice" "I", Cond.methodLink RX4 110 yX3_append, Cond.instanceMethod yX3_append, Cond.selects RX3 yX3_append yX3_append, Cond.initialized RX3, Cond.code yX3_append cX3_append 3 (some .int), Cond.fieldLink RX3 28 "BackhaulReturns$Sale" "lineCount" "I", Cond.fieldLink RX3 11 "BackhaulReturns$Sale" "lines" "[LBackhaulReturns$Line;"]
def wsX4_add : List Cond := .code yX4_add cX4_add 6 (some .int) :: ((wsX4_add_r1 ++ wsX4_add_r2) ++ wsX30 ++ wsX10 ++ wsX40 ++ wsX20 ++ (vx_atS RX4 42 "java/lang/IllegalArgumentException" ["java/lang/RuntimeException", "java/lang/Exception"]).filter goodWord ++ (vx_atS RX4 64 "java/lang/IllegalStateException" ["java/lang/RuntimeException", "java/lang/Exception"]).filter goodWord ++ (vx_atS RX4 146 "java/lang/IndexOutOfBoundsException" ["java/lang/RuntimeException", "java/lang/Exception"]).filter goodWord)
def wsX4_pay_r1 : List Cond := [Cond.classLink RX4 60 "java/lang/IllegalStateException", Cond.initialized "java/lang/IllegalStateException", Cond.fieldLink RX4 96 "BackhaulReturns$Sale" "isPaid" "Z", Cond.fieldLink RX4 100 "BackhaulReturns$Sale" "lineCount" "I", Cond.fieldLink RX4 57 "BackhaulReturns" "today" "I", Cond.fieldLink RX4 120 "BackhaulReturns$Sale" "amountPaid" "I", Cond.methodLink RX4 87 yX4_existingSale, Cond.instanceMethod yX4_existingSale, Cond.selects RX4 yX4_existingSale yX4_existingSale, Cond.initialized RX4, Cond.code yX4_existingSale cX4_existingSale 3 (some (.object "BackhaulReturns$Sale")), Cond.classLink RX4 142 "java/lang/IndexOutOfBoundsException", Cond.initialized "java/lang/IndexOutOfBoundsException", Cond.methodLink RX4 224 yX4_saleAt, Cond.instanceMethod yX4_saleAt, Cond.selects RX4 yX4_saleAt yX4_saleAt, Cond.code yX4_saleAt cX4_saleAt 2 (some (.object "BackhaulReturns$Sale")), Cond.fieldLink RX4 25 "BackhaulReturns" "register" "[LBackhaulReturns$Sale;", Cond.methodLink RX4 116 yX3_settle, Cond.instanceMethod yX3_settle, Cond.selects RX3 yX3_settle yX3_settle, Cond.initialized RX3, Cond.code yX3_settle cX3_settle 6 none, Cond.fieldLink RX3 11 "BackhaulReturns$Sale" "lines" "[LBackhaulReturns$Line;"]
def wsX4_pay_r2 : List Cond := [Cond.fieldLink RX3 31 "BackhaulReturns$Line" "quantity" "I", Cond.fieldLink RX3 34 "BackhaulReturns$Line" "keptUnits" "I", Cond.fieldLink RX3 37 "BackhaulReturns$Sale" "isPaid" "Z", Cond.fieldLink RX3 41 "BackhaulReturns$Sale" "firstPaidDay" "I", Cond.fieldLink RX3 52 "BackhaulReturns$Sale" "amountPaid" "I", Cond.methodLink RX3 44 yX3_keptGoods, Cond.instanceMethod yX3_keptGoods, Cond.selects RX3 yX3_keptGoods yX3_keptGoods, Cond.code yX3_keptGoods cX3_keptGoods 6 (some .int), Cond.methodLink RX3 55 yX1_goodsOf, Cond.instanceMethod yX1_goodsOf, Cond.selects RX1 yX1_goodsOf yX1_goodsOf, Cond.initialized RX1, Cond.code yX1_goodsOf cX1_goodsOf 2 (some .int), Cond.fieldLink RX1 22 "BackhaulReturns$Line" "linePrice" "I", Cond.static yX4_netOf, Cond.code yX4_netOf cX4_netOf 1 (some .int), Cond.methodLink RX4 237 yX4_discountPercent, Cond.static yX4_discountPercent, Cond.code yX4_discountPercent cX4_discountPercent 1 (some .int)]
def wsX4_pay : List Cond := .code yX4_pay cX4_pay 3 (some .int) :: ((wsX4_pay_r1 ++ wsX4_pay_r2) ++ wsX30 ++ wsX40 ++ wsX10 ++ (vx_atS RX4 64 "java/lang/IllegalStateException" ["java/lang/RuntimeException", "java/lang/Exception"]).filter goodWord ++ (vx_atS RX4 146 "java/lang/IndexOutOfBoundsException" ["java/lang/RuntimeException", "java/lang/Exception"]).filter goodWord)
def wsX4_sales : List Cond := .code yX4_sales cX4_sales 1 (some .int) :: ([.fieldLink RX4 77 "BackhaulReturns" "saleCount" "I"] ++ wsX40)
def wsX4_paid : List Cond := .code yX4_paid cX4_paid 2 (some .int) :: ([.fieldLink RX4 120 "BackhaulReturns$Sale" "amountPaid" "I", .methodLink RX4 87 yX4_existingSale, .instanceMethod yX4_existingSale, .selects RX4 yX4_existingSale yX4_existingSale, .initialized RX4, .code yX4_existingSale cX4_existingSale 3 (some (.object "BackhaulReturns$Sale")), .classLink RX4 142 "java/lang/IndexOutOfBoundsException", .initialized "java/lang/IndexOutOfBoundsException", .methodLink RX4 224 yX4_saleAt, .instanceMethod yX4_saleAt, .selects RX4 yX4_saleAt yX4_saleAt, .code yX4_saleAt cX4_saleAt 2 (some (.object "BackhaulReturns$Sale")), .fieldLink RX4 25 "BackhaulReturns" "register" "[LBackhaulReturns$Sale;"] ++ wsX30 ++ wsX40 ++ (vx_atS RX4 146 "java/lang/IndexOutOfBoundsException" ["java/lang/RuntimeException", "java/lang/Exception"]).filter goodWord)
def wsX4_existingLine : List Cond := .code yX4_existingLine cX4_existingLine 4 (some (.object "BackhaulReturns$Line")) :: ([.classLink RX4 142 "java/lang/IndexOutOfBoundsException", .initialized "java/lang/IndexOutOfBoundsException", .methodLink RX4 87 yX4_existingSale, .instanceMethod yX4_existingSale, .selects RX4 yX4_existingSale yX4_existingSale, .initialized RX4, .code yX4_existingSale cX4_existingSale 3 (some (.object "BackhaulReturns$Sale")), .methodLink RX4 224 yX4_saleAt, .instanceMethod yX4_saleAt, .selects RX4 yX4_saleAt yX4_saleAt, .code yX4_saleAt cX4_saleAt 2 (some (.object "BackhaulReturns$Sale")), .fieldLink RX4 25 "BackhaulReturns" "register" "[LBackhaulReturns$Sale;", .methodLink RX4 138 yX3_lineAt, .instanceMethod yX3_lineAt, .selects RX3 yX3_lineAt yX3_lineAt, .initialized RX3, .code yX3_lineAt cX3_lineAt 2 (some (.object "BackhaulReturns$Line")), .fieldLink RX3 11 "BackhaulReturns$Sale" "lines" "[LBackhaulReturns$Line;"] ++ wsX40 ++ wsX30 ++ (vx_atS RX4 146 "java/lang/IndexOutOfBoundsException" ["java/lang/RuntimeException", "java/lang/Exception"]).filter goodWord)
def wsX4_kept : List Cond := .code yX4_kept cX4_kept 3 (some .int) :: ([.fieldLink RX4 127 "BackhaulReturns$Line" "keptUnits" "I", .methodLink RX4 123 yX4_existingLine, .instanceMethod yX4_existingLine, .selects RX4 yX4_existingLine yX4_existingLine, .initialized RX4, .code yX4_existingLine cX4_existingLine 4 (some (.object "BackhaulReturns$Line")), .classLink RX4 142 "java/lang/IndexOutOfBoundsException", .initialized "java/lang/IndexOutOfBoundsException", .methodLink RX4 87 yX4_existingSale, .instanceMethod yX4_existingSale, .selects RX4 yX4_existingSale yX4_existingSale, .code yX4_existingSale cX4_existingSale 3 (some (.object "BackhaulReturns$Sale")), .methodLink RX4 224 yX4_saleAt, .instanceMethod yX4_saleAt, .selects RX4 yX4_saleAt yX4_saleAt, .code yX4_saleAt cX4_saleAt 2 (some (.object "BackhaulReturns$Sale")), .fieldLink RX4 25 "BackhaulReturns" "register" "[LBackhaulReturns$Sale;", .methodLink RX4 138 yX3_lineAt, .instanceMethod yX3_lineAt, .selects RX3 yX3_lineAt yX3_lineAt, .initialized RX3, .code yX3_lineAt cX3_lineAt 2 (some (.object "BackhaulReturns$Line")), .fieldLink RX3 11 "BackhaulReturns$Sale" "lines" "[LBackhaulReturns$Line;"] ++ wsX10 ++ wsX40 ++ wsX30 ++ (vx_atS RX4 146 "java/lang/IndexOutOfBoundsException" ["java/lang/RuntimeException", "java/lang/Exception"]).filter goodWord)
def wsX4_keptValue_r1 : List Cond := [Cond.methodLink RX4 87 yX4_existingSale, Cond.instanceMethod yX4_existingSale, Cond.selects RX4 yX4_existingSale yX4_existingSale, Cond.initialized RX4, Cond.code yX4_existingSale cX4_existingSale 3 (some (.object "BackhaulReturns$Sale")), Cond.classLink RX4 142 "java/lang/IndexOutOfBoundsException", Cond.initialized "java/lang/IndexOutOfBoundsException", Cond.methodLink RX4 224 yX4_saleAt, Cond.instanceMethod yX4_saleAt, Cond.selects RX4 yX4_saleAt yX4_saleAt, Cond.code yX4_saleAt cX4_saleAt 2 (some (.object "BackhaulReturns$Sale")), Cond.fieldLink RX4 25 "BackhaulReturns" "register" "[LBackhaulReturns$Sale;", Cond.methodLink RX4 130 yX3_keptGoods, Cond.instanceMethod yX3_keptGoods, Cond.selects RX3 yX3_keptGoods yX3_keptGoods, Cond.initialized RX3, Cond.code yX3_keptGoods cX3_keptGoods 6 (some .int), Cond.fieldLink RX3 11 "BackhaulReturns$Sale" "lines" "[LBackhaulReturns$Line;", Cond.fieldLink RX3 34 "BackhaulReturns$Line" "keptUnits" "I", Cond.methodLink RX3 55 yX1_goodsOf, Cond.instanceMethod yX1_goodsOf, Cond.selects RX1 yX1_goodsOf yX1_goodsOf, Cond.initialized RX1, Cond.code yX1_goodsOf cX1_goodsOf 2 (some .int)]
def wsX4_keptValue_r2 : List Cond := [Cond.fieldLink RX1 22 "BackhaulReturns$Line" "linePrice" "I", Cond.methodLink RX4 134 yX4_netOf, Cond.static yX4_netOf, Cond.code yX4_netOf cX4_netOf 1 (some .int), Cond.methodLink RX4 237 yX4_discountPercent, Cond.static yX4_discountPercent, Cond.code yX4_discountPercent cX4_discountPercent 1 (some .int)]
def wsX4_keptValue : List Cond := .code yX4_keptValue cX4_keptValue 2 (some .int) :: ((wsX4_keptValue_r1 ++ wsX4_keptValue_r2) ++ wsX40 ++ wsX30 ++ wsX10 ++ (vx_atS RX4 146 "java/lang/IndexOutOfBoundsException" ["java/lang/RuntimeException", "java/lang/Exception"]).filter goodWord)
def wsX4_lineValue_r1 : List Cond := [Cond.classLink RX4 142 "java/lang/IndexOutOfBoundsException", Cond.initialized "java/lang/IndexOutOfBoundsException", Cond.methodLink RX4 87 yX4_existingSale, Cond.instanceMethod yX4_existingSale, Cond.selects RX4 yX4_existingSale yX4_existingSale, Cond.initialized RX4, Cond.code yX4_existingSale cX4_existingSale 3 (some (.object "BackhaulReturns$Sale")), Cond.methodLink RX4 224 yX4_saleAt, Cond.instanceMethod yX4_saleAt, Cond.selects RX4 yX4_saleAt yX4_saleAt, Cond.code yX4_saleAt cX4_saleAt 2 (some (.object "BackhaulReturns$Sale")), Cond.fieldLink RX4 25 "BackhaulReturns" "register" "[LBackhaulReturns$Sale;", Cond.methodLink RX4 138 yX3_lineAt, Cond.instanceMethod yX3_lineAt, Cond.selects RX3 yX3_lineAt yX3_lineAt, Cond.initialized RX3, Cond.code yX3_lineAt cX3_lineAt 2 (some (.object "BackhaulReturns$Line")), Cond.fieldLink RX3 11 "BackhaulReturns$Sale" "lines" "[LBackhaulReturns$Line;", Cond.methodLink RX4 147 yX3_shareOf, Cond.instanceMethod yX3_shareOf, Cond.selects RX3 yX3_shareOf yX3_shareOf, Cond.code yX3_shareOf cX3_shareOf 6 (some .int), Cond.methodLink RX3 44 yX3_keptGoods, Cond.instanceMethod yX3_keptGoods]
def wsX4_lineValue_r2 : List Cond := [Cond.selects RX3 yX3_keptGoods yX3_keptGoods, Cond.code yX3_keptGoods cX3_keptGoods 6 (some .int), Cond.fieldLink RX3 34 "BackhaulReturns$Line" "keptUnits" "I", Cond.methodLink RX3 55 yX1_goodsOf, Cond.instanceMethod yX1_goodsOf, Cond.selects RX1 yX1_goodsOf yX1_goodsOf, Cond.initialized RX1, Cond.code yX1_goodsOf cX1_goodsOf 2 (some .int), Cond.fieldLink RX1 22 "BackhaulReturns$Line" "linePrice" "I", Cond.static yX4_netOf, Cond.code yX4_netOf cX4_netOf 1 (some .int), Cond.methodLink RX4 237 yX4_discountPercent, Cond.static yX4_discountPercent, Cond.code yX4_discountPercent cX4_discountPercent 1 (some .int), Cond.methodLink RX3 67 yX3_wholeShare, Cond.instanceMethod yX3_wholeShare, Cond.selects RX3 yX3_wholeShare yX3_wholeShare, Cond.code yX3_wholeShare cX3_wholeShare 5 (some .int), Cond.methodLink RX3 74 yX3_lineAt, Cond.methodLink RX3 71 yX3_linesAhead, Cond.instanceMethod yX3_linesAhead, Cond.selects RX3 yX3_linesAhead yX3_linesAhead, Cond.code yX3_linesAhead cX3_linesAhead 10 (some .int), Cond.methodLink RX3 80 yX3_remainder]
def wsX4_lineValue_r3 : List Cond := [Cond.instanceMethod yX3_remainder, Cond.selects RX3 yX3_remainder yX3_remainder, Cond.code yX3_remainder cX3_remainder 5 (some .long), Cond.constantLong RX3 78 (-1)]
def wsX4_lineValue : List Cond := .code yX4_lineValue cX4_lineValue 4 (some .int) :: ((wsX4_lineValue_r1 ++ (wsX4_lineValue_r2 ++ wsX4_lineValue_r3)) ++ wsX40 ++ wsX30 ++ wsX10 ++ (vx_atS RX4 146 "java/lang/IndexOutOfBoundsException" ["java/lang/RuntimeException", "java/lang/Exception"]).filter goodWord)
def wsX4_isCondition : List Cond := .code yX4_isCondition cX4_isCondition 1 (some .boolean) :: ([])
def wsX4_ageOf : List Cond := .code yX4_ageOf cX4_ageOf 2 (some .int) :: ([.fieldLink RX4 57 "BackhaulReturns" "today" "I", .fieldLink RX4 193 "BackhaulReturns$Sale" "firstPaidDay" "I"] ++ wsX40 ++ wsX30)
def wsX4_canComeBack : List Cond := .code yX4_canComeBack cX4_canComeBack 4 (some .boolean) :: ([.fieldLink RX4 96 "BackhaulReturns$Sale" "isPaid" "Z", .fieldLink RX4 127 "BackhaulReturns$Line" "keptUnits" "I", .methodLink RX4 173 yX4_ageOf, .instanceMethod yX4_ageOf, .selects RX4 yX4_ageOf yX4_ageOf, .initialized RX4, .code yX4_ageOf cX4_ageOf 2 (some .int), .fieldLink RX4 57 "BackhaulReturns" "today" "I", .fieldLink RX4 193 "BackhaulReturns$Sale" "firstPaidDay" "I"] ++ wsX30 ++ wsX10 ++ wsX40)
def wsX4_isBlocked : List Cond := .code yX4_isBlocked cX4_isBlocked 2 (some .boolean) :: ([.fieldLink RX4 57 "BackhaulReturns" "today" "I", .methodLink RX4 221 yX0_scoreOn, .instanceMethod yX0_scoreOn, .selects RX0 yX0_scoreOn yX0_scoreOn, .initialized RX0, .code yX0_scoreOn cX0_scoreOn 5 (some .int), .fieldLink RX0 22 "BackhaulReturns$Customer" "count" "I", .fieldLink RX0 9 "BackhaulReturns$Customer" "days" "[I", .fieldLink RX0 15 "BackhaulReturns$Customer" "units" "[I", .fieldLink RX0 18 "BackhaulReturns$Customer" "areChained" "[Z"] ++ wsX40 ++ wsX00)
def wsX4_takeBack_r1 : List Cond := [Cond.fieldLink RX4 200 "BackhaulReturns$Sale" "amountReleased" "I", Cond.fieldLink RX4 127 "BackhaulReturns$Line" "keptUnits" "I", Cond.fieldLink RX4 229 "BackhaulReturns$Line" "product" "LBackhaulReturns$Product;", Cond.fieldLink RX4 159 "BackhaulReturns$Sale" "buyer" "LBackhaulReturns$Customer;", Cond.fieldLink RX4 57 "BackhaulReturns" "today" "I", Cond.methodLink RX4 196 yX3_freedBy, Cond.instanceMethod yX3_freedBy, Cond.selects RX3 yX3_freedBy yX3_freedBy, Cond.initialized RX3, Cond.code yX3_freedBy cX3_freedBy 4 (some .int), Cond.fieldLink RX3 52 "BackhaulReturns$Sale" "amountPaid" "I", Cond.fieldLink RX3 58 "BackhaulReturns$Sale" "amountReleased" "I", Cond.methodLink RX3 61 Lib.Math.max.name, Cond.static Lib.Math.max.name, Cond.initialized "java/lang/Math", Cond.code Lib.Math.max.name Lib.Math.max.code 2 (some .int), Cond.methodLink RX3 44 yX3_keptGoods, Cond.instanceMethod yX3_keptGoods, Cond.selects RX3 yX3_keptGoods yX3_keptGoods, Cond.code yX3_keptGoods cX3_keptGoods 6 (some .int), Cond.fieldLink RX3 11 "BackhaulReturns$Sale" "lines" "[LBackhaulReturns$Line;", Cond.fieldLink RX3 34 "BackhaulReturns$Line" "keptUnits" "I", Cond.methodLink RX3 55 yX1_goodsOf, Cond.instanceMethod yX1_goodsOf]
def wsX4_takeBack_r2 : List Cond := [Cond.selects RX1 yX1_goodsOf yX1_goodsOf, Cond.initialized RX1, Cond.code yX1_goodsOf cX1_goodsOf 2 (some .int), Cond.fieldLink RX1 22 "BackhaulReturns$Line" "linePrice" "I", Cond.static yX4_netOf, Cond.initialized RX4, Cond.code yX4_netOf cX4_netOf 1 (some .int), Cond.methodLink RX4 237 yX4_discountPercent, Cond.static yX4_discountPercent, Cond.code yX4_discountPercent cX4_discountPercent 1 (some .int), Cond.methodLink RX4 203 yX2_optionFor, Cond.instanceMethod yX2_optionFor, Cond.selects RX2 yX2_optionFor yX2_optionFor, Cond.initialized RX2, Cond.code yX2_optionFor cX2_optionFor 4 (some .int), Cond.methodLink RX2 25 yX2_isOffered, Cond.static yX2_isOffered, Cond.code yX2_isOffered cX2_isOffered 2 (some .boolean), Cond.methodLink RX2 29 yX2_worthOf, Cond.instanceMethod yX2_worthOf, Cond.selects RX2 yX2_worthOf yX2_worthOf, Cond.code yX2_worthOf cX2_worthOf 3 (some .int), Cond.fieldLink RX2 9 "BackhaulReturns$Product" "unitPrice" "I", Cond.methodLink RX2 40 Lib.Math.max.name]
def wsX4_takeBack_r3 : List Cond := [Cond.methodLink RX2 33 yX2_repairWorth, Cond.instanceMethod yX2_repairWorth, Cond.selects RX2 yX2_repairWorth yX2_repairWorth, Cond.code yX2_repairWorth cX2_repairWorth 1 (some .int), Cond.fieldLink RX2 18 "BackhaulReturns$Product" "repairCost" "I", Cond.methodLink RX2 37 yX2_salvageWorth, Cond.instanceMethod yX2_salvageWorth, Cond.selects RX2 yX2_salvageWorth yX2_salvageWorth, Cond.code yX2_salvageWorth cX2_salvageWorth 1 (some .int), Cond.fieldLink RX2 15 "BackhaulReturns$Product" "salvageValue" "I", Cond.methodLink RX2 45 yJ9_floorDiv_7cf53, Cond.static yJ9_floorDiv_7cf53, Cond.initialized RJ9, Cond.code yJ9_floorDiv_7cf53 cJ9_floorDiv_7cf53 3 (some .int), Cond.methodLink RX4 217 yX2_move, Cond.instanceMethod yX2_move, Cond.selects RX2 yX2_move yX2_move, Cond.code yX2_move cX2_move 3 none, Cond.fieldLink RX2 21 "BackhaulReturns$Product" "unitsByPlace" "[I", Cond.methodLink RX4 233 yX0_remember, Cond.instanceMethod yX0_remember, Cond.selects RX0 yX0_remember yX0_remember, Cond.initialized RX0, Cond.code yX0_remember cX0_remember 4 none]
def wsX4_takeBack_r4 : List Cond := [Cond.fieldLink RX0 22 "BackhaulReturns$Customer" "count" "I", Cond.fieldLink RX0 9 "BackhaulReturns$Customer" "days" "[I", Cond.fieldLink RX0 15 "BackhaulReturns$Customer" "units" "[I", Cond.fieldLink RX0 18 "BackhaulReturns$Customer" "areChained" "[Z", Cond.methodLink RX0 26 yX0_forgetBefore, Cond.instanceMethod yX0_forgetBefore, Cond.selects RX0 yX0_forgetBefore yX0_forgetBefore, Cond.code yX0_forgetBefore cX0_forgetBefore 4 none]
def wsX4_takeBack : List Cond := .code yX4_takeBack cX4_takeBack 8 (some .int) :: ((wsX4_takeBack_r1 ++ (wsX4_takeBack_r2 ++ (wsX4_takeBack_r3 ++ wsX4_takeBack_r4))) ++ wsX30 ++ wsX10 ++ wsX40 ++ wsX20 ++ wsX00)
def wsX4_feeOn : List Cond := .code yX4_feeOn cX4_feeOn 3 (some .int) :: ([])
def wsX4_giveBack_r1 : List Cond := [Cond.classLink RX4 38 "java/lang/IllegalArgumentException", Cond.initialized "java/lang/IllegalArgumentException", Cond.classLink RX4 60 "java/lang/IllegalStateException", Cond.initialized "java/lang/IllegalStateException", Cond.fieldLink RX4 159 "BackhaulReturns$Sale" "buyer" "LBackhaulReturns$Customer;", Cond.fieldLink RX4 180 "BackhaulReturns" "feeSum" "I", Cond.methodLink RX4 123 yX4_existingLine, Cond.instanceMethod yX4_existingLine, Cond.selects RX4 yX4_existingLine yX4_existingLine, Cond.initialized RX4, Cond.code yX4_existingLine cX4_existingLine 4 (some (.object "BackhaulReturns$Line")), Cond.classLink RX4 142 "java/lang/IndexOutOfBoundsException", Cond.initialized "java/lang/IndexOutOfBoundsException", Cond.methodLink RX4 87 yX4_existingSale, Cond.instanceMethod yX4_existingSale, Cond.selects RX4 yX4_existingSale yX4_existingSale, Cond.code yX4_existingSale cX4_existingSale 3 (some (.object "BackhaulReturns$Sale")), Cond.methodLink RX4 224 yX4_saleAt, Cond.instanceMethod yX4_saleAt, Cond.selects RX4 yX4_saleAt yX4_saleAt, Cond.code yX4_saleAt cX4_saleAt 2 (some (.object "BackhaulReturns$Sale")), Cond.fieldLink RX4 25 "BackhaulReturns" "register" "[LBackhaulReturns$Sale;", Cond.methodLink RX4 138 yX3_lineAt, Cond.instanceMethod yX3_lineAt]
def wsX4_giveBack_r2 : List Cond := [Cond.selects RX3 yX3_lineAt yX3_lineAt, Cond.initialized RX3, Cond.code yX3_lineAt cX3_lineAt 2 (some (.object "BackhaulReturns$Line")), Cond.fieldLink RX3 11 "BackhaulReturns$Sale" "lines" "[LBackhaulReturns$Line;", Cond.methodLink RX4 91 yX4_isUnits, Cond.static yX4_isUnits, Cond.code yX4_isUnits cX4_isUnits 1 (some .boolean), Cond.methodLink RX4 150 yX4_isCondition, Cond.static yX4_isCondition, Cond.code yX4_isCondition cX4_isCondition 1 (some .boolean), Cond.methodLink RX4 155 yX4_canComeBack, Cond.instanceMethod yX4_canComeBack, Cond.selects RX4 yX4_canComeBack yX4_canComeBack, Cond.code yX4_canComeBack cX4_canComeBack 4 (some .boolean), Cond.fieldLink RX4 96 "BackhaulReturns$Sale" "isPaid" "Z", Cond.fieldLink RX4 127 "BackhaulReturns$Line" "keptUnits" "I", Cond.methodLink RX4 173 yX4_ageOf, Cond.instanceMethod yX4_ageOf, Cond.selects RX4 yX4_ageOf yX4_ageOf, Cond.code yX4_ageOf cX4_ageOf 2 (some .int), Cond.fieldLink RX4 57 "BackhaulReturns" "today" "I", Cond.fieldLink RX4 193 "BackhaulReturns$Sale" "firstPaidDay" "I", Cond.methodLink RX4 163 yX4_isBlocked, Cond.instanceMethod yX4_isBlocked]
def wsX4_giveBack_r3 : List Cond := [Cond.selects RX4 yX4_isBlocked yX4_isBlocked, Cond.code yX4_isBlocked cX4_isBlocked 2 (some .boolean), Cond.methodLink RX4 221 yX0_scoreOn, Cond.instanceMethod yX0_scoreOn, Cond.selects RX0 yX0_scoreOn yX0_scoreOn, Cond.initialized RX0, Cond.code yX0_scoreOn cX0_scoreOn 5 (some .int), Cond.fieldLink RX0 22 "BackhaulReturns$Customer" "count" "I", Cond.fieldLink RX0 9 "BackhaulReturns$Customer" "days" "[I", Cond.fieldLink RX0 15 "BackhaulReturns$Customer" "units" "[I", Cond.fieldLink RX0 18 "BackhaulReturns$Customer" "areChained" "[Z", Cond.methodLink RX4 169 yX4_takeBack, Cond.instanceMethod yX4_takeBack, Cond.selects RX4 yX4_takeBack yX4_takeBack, Cond.code yX4_takeBack cX4_takeBack 8 (some .int), Cond.fieldLink RX4 200 "BackhaulReturns$Sale" "amountReleased" "I", Cond.fieldLink RX4 229 "BackhaulReturns$Line" "product" "LBackhaulReturns$Product;", Cond.methodLink RX4 196 yX3_freedBy, Cond.instanceMethod yX3_freedBy, Cond.selects RX3 yX3_freedBy yX3_freedBy, Cond.code yX3_freedBy cX3_freedBy 4 (some .int), Cond.fieldLink RX3 52 "BackhaulReturns$Sale" "amountPaid" "I", Cond.fieldLink RX3 58 "BackhaulReturns$Sale" "amountReleased" "I", Cond.methodLink RX3 61 Lib.Math.max.name]
def wsX4_giveBack_r4 : List Cond := [Cond.static Lib.Math.max.name, Cond.initialized "java/lang/Math", Cond.code Lib.Math.max.name Lib.Math.max.code 2 (some .int), Cond.methodLink RX3 44 yX3_keptGoods, Cond.instanceMethod yX3_keptGoods, Cond.selects RX3 yX3_keptGoods yX3_keptGoods, Cond.code yX3_keptGoods cX3_keptGoods 6 (some .int), Cond.fieldLink RX3 34 "BackhaulReturns$Line" "keptUnits" "I", Cond.methodLink RX3 55 yX1_goodsOf, Cond.instanceMethod yX1_goodsOf, Cond.selects RX1 yX1_goodsOf yX1_goodsOf, Cond.initialized RX1, Cond.code yX1_goodsOf cX1_goodsOf 2 (some .int), Cond.fieldLink RX1 22 "BackhaulReturns$Line" "linePrice" "I", Cond.static yX4_netOf, Cond.code yX4_netOf cX4_netOf 1 (some .int), Cond.methodLink RX4 237 yX4_discountPercent, Cond.static yX4_discountPercent, Cond.code yX4_discountPercent cX4_discountPercent 1 (some .int), Cond.methodLink RX4 203 yX2_optionFor, Cond.instanceMethod yX2_optionFor, Cond.selects RX2 yX2_optionFor yX2_optionFor, Cond.initialized RX2, Cond.code yX2_optionFor cX2_optionFor 4 (some .int)]
def wsX4_giveBack_r5 : List Cond := [Cond.methodLink RX2 25 yX2_isOffered, Cond.static yX2_isOffered, Cond.code yX2_isOffered cX2_isOffered 2 (some .boolean), Cond.methodLink RX2 29 yX2_worthOf, Cond.instanceMethod yX2_worthOf, Cond.selects RX2 yX2_worthOf yX2_worthOf, Cond.code yX2_worthOf cX2_worthOf 3 (some .int), Cond.fieldLink RX2 9 "BackhaulReturns$Product" "unitPrice" "I", Cond.methodLink RX2 40 Lib.Math.max.name, Cond.methodLink RX2 33 yX2_repairWorth, Cond.instanceMethod yX2_repairWorth, Cond.selects RX2 yX2_repairWorth yX2_repairWorth, Cond.code yX2_repairWorth cX2_repairWorth 1 (some .int), Cond.fieldLink RX2 18 "BackhaulReturns$Product" "repairCost" "I", Cond.methodLink RX2 37 yX2_salvageWorth, Cond.instanceMethod yX2_salvageWorth, Cond.selects RX2 yX2_salvageWorth yX2_salvageWorth, Cond.code yX2_salvageWorth cX2_salvageWorth 1 (some .int), Cond.fieldLink RX2 15 "BackhaulReturns$Product" "salvageValue" "I", Cond.methodLink RX2 45 yJ9_floorDiv_7cf53, Cond.static yJ9_floorDiv_7cf53, Cond.initialized RJ9, Cond.code yJ9_floorDiv_7cf53 cJ9_floorDiv_7cf53 3 (some .int), Cond.methodLink RX4 217 yX2_move]
def wsX4_giveBack_r6 : List Cond := [Cond.instanceMethod yX2_move, Cond.selects RX2 yX2_move yX2_move, Cond.code yX2_move cX2_move 3 none, Cond.fieldLink RX2 21 "BackhaulReturns$Product" "unitsByPlace" "[I", Cond.methodLink RX4 233 yX0_remember, Cond.instanceMethod yX0_remember, Cond.selects RX0 yX0_remember yX0_remember, Cond.code yX0_remember cX0_remember 4 none, Cond.methodLink RX0 26 yX0_forgetBefore, Cond.instanceMethod yX0_forgetBefore, Cond.selects RX0 yX0_forgetBefore yX0_forgetBefore, Cond.code yX0_forgetBefore cX0_forgetBefore 4 none, Cond.methodLink RX4 176 yX4_feeOn, Cond.static yX4_feeOn, Cond.code yX4_feeOn cX4_feeOn 3 (some .int)]
def wsX4_giveBack : List Cond := .code yX4_giveBack cX4_giveBack 9 (some .int) :: ((wsX4_giveBack_r1 ++ (wsX4_giveBack_r2 ++ (wsX4_giveBack_r3 ++ (wsX4_giveBack_r4 ++ (wsX4_giveBack_r5 ++ wsX4_giveBack_r6))))) ++ wsX30 ++ wsX40 ++ wsX10 ++ wsX00 ++ wsX20 ++ (vx_atS RX4 42 "java/lang/IllegalArgumentException" ["java/lang/RuntimeException", "java/lang/Exception"]).filter goodWord ++ (vx_atS RX4 64 "java/lang/IllegalStateException" ["java/lang/RuntimeException", "java/lang/Exception"]).filter goodWord ++ (vx_atS RX4 146 "java/lang/IndexOutOfBoundsException" ["java/lang/RuntimeException", "java/lang/Exception"]).filter goodWord)
def wsX4_exchange_r1 : List Cond := [Cond.classLink RX4 38 "java/lang/IllegalArgumentException", Cond.initialized "java/lang/IllegalArgumentException", Cond.classLink RX4 60 "java/lang/IllegalStateException", Cond.initialized "java/lang/IllegalStateException", Cond.fieldLink RX4 159 "BackhaulReturns$Sale" "buyer" "LBackhaulReturns$Customer;", Cond.fieldLink RX4 187 "BackhaulReturns$Sale" "depth" "I", Cond.classLink RX4 23 RX3, Cond.instantiable RX3 9, Cond.initialized RX3, Cond.fieldLink RX4 190 "BackhaulReturns$Sale" "firstNumber" "I", Cond.classLink RX4 105 RX1, Cond.instantiable RX1 4, Cond.initialized RX1, Cond.fieldLink RX4 193 "BackhaulReturns$Sale" "firstPaidDay" "I", Cond.fieldLink RX4 120 "BackhaulReturns$Sale" "amountPaid" "I", Cond.methodLink RX4 123 yX4_existingLine, Cond.instanceMethod yX4_existingLine, Cond.selects RX4 yX4_existingLine yX4_existingLine, Cond.initialized RX4, Cond.code yX4_existingLine cX4_existingLine 4 (some (.object "BackhaulReturns$Line")), Cond.classLink RX4 142 "java/lang/IndexOutOfBoundsException", Cond.initialized "java/lang/IndexOutOfBoundsException", Cond.methodLink RX4 87 yX4_existingSale, Cond.instanceMethod yX4_existingSale]
def wsX4_exchange_r2 : List Cond := [Cond.selects RX4 yX4_existingSale yX4_existingSale, Cond.code yX4_existingSale cX4_existingSale 3 (some (.object "BackhaulReturns$Sale")), Cond.methodLink RX4 224 yX4_saleAt, Cond.instanceMethod yX4_saleAt, Cond.selects RX4 yX4_saleAt yX4_saleAt, Cond.code yX4_saleAt cX4_saleAt 2 (some (.object "BackhaulReturns$Sale")), Cond.fieldLink RX4 25 "BackhaulReturns" "register" "[LBackhaulReturns$Sale;", Cond.methodLink RX4 138 yX3_lineAt, Cond.instanceMethod yX3_lineAt, Cond.selects RX3 yX3_lineAt yX3_lineAt, Cond.code yX3_lineAt cX3_lineAt 2 (some (.object "BackhaulReturns$Line")), Cond.fieldLink RX3 11 "BackhaulReturns$Sale" "lines" "[LBackhaulReturns$Line;", Cond.methodLink RX4 29 yX4_productAt, Cond.instanceMethod yX4_productAt, Cond.selects RX4 yX4_productAt yX4_productAt, Cond.code yX4_productAt cX4_productAt 2 (some (.object "BackhaulReturns$Product")), Cond.fieldLink RX4 11 "BackhaulReturns" "catalog" "[LBackhaulReturns$Product;", Cond.methodLink RX4 91 yX4_isUnits, Cond.static yX4_isUnits, Cond.code yX4_isUnits cX4_isUnits 1 (some .boolean), Cond.methodLink RX4 150 yX4_isCondition, Cond.static yX4_isCondition, Cond.code yX4_isCondition cX4_isCondition 1 (some .boolean), Cond.methodLink RX4 155 yX4_canComeBack]
def wsX4_exchange_r3 : List Cond := [Cond.instanceMethod yX4_canComeBack, Cond.selects RX4 yX4_canComeBack yX4_canComeBack, Cond.code yX4_canComeBack cX4_canComeBack 4 (some .boolean), Cond.fieldLink RX4 96 "BackhaulReturns$Sale" "isPaid" "Z", Cond.fieldLink RX4 127 "BackhaulReturns$Line" "keptUnits" "I", Cond.methodLink RX4 173 yX4_ageOf, Cond.instanceMethod yX4_ageOf, Cond.selects RX4 yX4_ageOf yX4_ageOf, Cond.code yX4_ageOf cX4_ageOf 2 (some .int), Cond.fieldLink RX4 57 "BackhaulReturns" "today" "I", Cond.methodLink RX4 163 yX4_isBlocked, Cond.instanceMethod yX4_isBlocked, Cond.selects RX4 yX4_isBlocked yX4_isBlocked, Cond.code yX4_isBlocked cX4_isBlocked 2 (some .boolean), Cond.methodLink RX4 221 yX0_scoreOn, Cond.instanceMethod yX0_scoreOn, Cond.selects RX0 yX0_scoreOn yX0_scoreOn, Cond.initialized RX0, Cond.code yX0_scoreOn cX0_scoreOn 5 (some .int), Cond.fieldLink RX0 22 "BackhaulReturns$Customer" "count" "I", Cond.fieldLink RX0 9 "BackhaulReturns$Customer" "days" "[I", Cond.fieldLink RX0 15 "BackhaulReturns$Customer" "units" "[I", Cond.fieldLink RX0 18 "BackhaulReturns$Customer" "areChained" "[Z", Cond.methodLink RX4 71 yX4_isRegisterFull]
def wsX4_exchange_r4 : List Cond := [Cond.instanceMethod yX4_isRegisterFull, Cond.selects RX4 yX4_isRegisterFull yX4_isRegisterFull, Cond.code yX4_isRegisterFull cX4_isRegisterFull 1 (some .boolean), Cond.fieldLink RX4 77 "BackhaulReturns" "saleCount" "I", Cond.methodLink RX4 169 yX4_takeBack, Cond.instanceMethod yX4_takeBack, Cond.selects RX4 yX4_takeBack yX4_takeBack, Cond.code yX4_takeBack cX4_takeBack 8 (some .int), Cond.fieldLink RX4 200 "BackhaulReturns$Sale" "amountReleased" "I", Cond.fieldLink RX4 229 "BackhaulReturns$Line" "product" "LBackhaulReturns$Product;", Cond.methodLink RX4 196 yX3_freedBy, Cond.instanceMethod yX3_freedBy, Cond.selects RX3 yX3_freedBy yX3_freedBy, Cond.code yX3_freedBy cX3_freedBy 4 (some .int), Cond.fieldLink RX3 52 "BackhaulReturns$Sale" "amountPaid" "I", Cond.fieldLink RX3 58 "BackhaulReturns$Sale" "amountReleased" "I", Cond.methodLink RX3 61 Lib.Math.max.name, Cond.static Lib.Math.max.name, Cond.initialized "java/lang/Math", Cond.code Lib.Math.max.name Lib.Math.max.code 2 (some .int), Cond.methodLink RX3 44 yX3_keptGoods, Cond.instanceMethod yX3_keptGoods, Cond.selects RX3 yX3_keptGoods yX3_keptGoods, Cond.code yX3_keptGoods cX3_keptGoods 6 (some .int)]
def wsX4_exchange_r5 : List Cond := [Cond.fieldLink RX3 34 "BackhaulReturns$Line" "keptUnits" "I", Cond.methodLink RX3 55 yX1_goodsOf, Cond.instanceMethod yX1_goodsOf, Cond.selects RX1 yX1_goodsOf yX1_goodsOf, Cond.code yX1_goodsOf cX1_goodsOf 2 (some .int), Cond.fieldLink RX1 22 "BackhaulReturns$Line" "linePrice" "I", Cond.static yX4_netOf, Cond.code yX4_netOf cX4_netOf 1 (some .int), Cond.methodLink RX4 237 yX4_discountPercent, Cond.static yX4_discountPercent, Cond.code yX4_discountPercent cX4_discountPercent 1 (some .int), Cond.methodLink RX4 203 yX2_optionFor, Cond.instanceMethod yX2_optionFor, Cond.selects RX2 yX2_optionFor yX2_optionFor, Cond.initialized RX2, Cond.code yX2_optionFor cX2_optionFor 4 (some .int), Cond.methodLink RX2 25 yX2_isOffered, Cond.static yX2_isOffered, Cond.code yX2_isOffered cX2_isOffered 2 (some .boolean), Cond.methodLink RX2 29 yX2_worthOf, Cond.instanceMethod yX2_worthOf, Cond.selects RX2 yX2_worthOf yX2_worthOf, Cond.code yX2_worthOf cX2_worthOf 3 (some .int), Cond.fieldLink RX2 9 "BackhaulReturns$Product" "unitPrice" "I"]
def wsX4_exchange_r6 : List Cond := [Cond.methodLink RX2 40 Lib.Math.max.name, Cond.methodLink RX2 33 yX2_repairWorth, Cond.instanceMethod yX2_repairWorth, Cond.selects RX2 yX2_repairWorth yX2_repairWorth, Cond.code yX2_repairWorth cX2_repairWorth 1 (some .int), Cond.fieldLink RX2 18 "BackhaulReturns$Product" "repairCost" "I", Cond.methodLink RX2 37 yX2_salvageWorth, Cond.instanceMethod yX2_salvageWorth, Cond.selects RX2 yX2_salvageWorth yX2_salvageWorth, Cond.code yX2_salvageWorth cX2_salvageWorth 1 (some .int), Cond.fieldLink RX2 15 "BackhaulReturns$Product" "salvageValue" "I", Cond.methodLink RX2 45 yJ9_floorDiv_7cf53, Cond.static yJ9_floorDiv_7cf53, Cond.initialized RJ9, Cond.code yJ9_floorDiv_7cf53 cJ9_floorDiv_7cf53 3 (some .int), Cond.methodLink RX4 217 yX2_move, Cond.instanceMethod yX2_move, Cond.selects RX2 yX2_move yX2_move, Cond.code yX2_move cX2_move 3 none, Cond.fieldLink RX2 21 "BackhaulReturns$Product" "unitsByPlace" "[I", Cond.methodLink RX4 233 yX0_remember, Cond.instanceMethod yX0_remember, Cond.selects RX0 yX0_remember yX0_remember, Cond.code yX0_remember cX0_remember 4 none]
def wsX4_exchange_r7 : List Cond := [Cond.methodLink RX0 26 yX0_forgetBefore, Cond.instanceMethod yX0_forgetBefore, Cond.selects RX0 yX0_forgetBefore yX0_forgetBefore, Cond.code yX0_forgetBefore cX0_forgetBefore 4 none, Cond.methodLink RX4 80 yX3_init, Cond.instanceMethod yX3_init, Cond.code yX3_init cX3_init 4 none, Cond.methodLink RX3 3 objectInit, Cond.instanceMethod objectInit, Cond.code objectInit ⟨#[0xb1]⟩ 1 none, Cond.classLink RX3 9 RX1, Cond.fieldLink RX3 17 "BackhaulReturns$Sale" "buyer" "LBackhaulReturns$Customer;", Cond.fieldLink RX3 21 "BackhaulReturns$Sale" "firstNumber" "I", Cond.fieldLink RX3 25 "BackhaulReturns$Sale" "depth" "I", Cond.methodLink RX4 107 yX1_init, Cond.instanceMethod yX1_init, Cond.code yX1_init cX1_init 3 none, Cond.methodLink RX1 1 objectInit, Cond.fieldLink RX1 7 "BackhaulReturns$Line" "product" "LBackhaulReturns$Product;", Cond.fieldLink RX1 13 "BackhaulReturns$Line" "quantity" "I", Cond.fieldLink RX1 17 "BackhaulReturns$Product" "unitPrice" "I", Cond.methodLink RX4 110 yX3_append, Cond.instanceMethod yX3_append, Cond.selects RX3 yX3_append yX3_append]
def wsX4_exchange_r8 : List Cond := [Cond.code yX3_append cX3_append 3 (some .int), Cond.fieldLink RX3 28 "BackhaulReturns$Sale" "lineCount" "I", Cond.methodLink RX4 116 yX3_settle, Cond.instanceMethod yX3_settle, Cond.selects RX3 yX3_settle yX3_settle, Cond.code yX3_settle cX3_settle 6 none, Cond.fieldLink RX3 31 "BackhaulReturns$Line" "quantity" "I", Cond.fieldLink RX3 37 "BackhaulReturns$Sale" "isPaid" "Z", Cond.fieldLink RX3 41 "BackhaulReturns$Sale" "firstPaidDay" "I", Cond.methodLink RX4 83 yX4_enter, Cond.instanceMethod yX4_enter, Cond.selects RX4 yX4_enter yX4_enter, Cond.code yX4_enter cX4_enter 3 (some .int)]
def wsX4_exchange : List Cond := .code yX4_exchange cX4_exchange 11 (some .int) :: ((wsX4_exchange_r1 ++ (wsX4_exchange_r2 ++ (wsX4_exchange_r3 ++ (wsX4_exchange_r4 ++ (wsX4_exchange_r5 ++ (wsX4_exchange_r6 ++ (wsX4_exchange_r7 ++ wsX4_exchange_r8))))))) ++ wsX30 ++ wsX10 ++ wsX40 ++ wsX00 ++ wsX20 ++ (vx_atS RX4 42 "java/lang/IllegalArgumentException" ["java/lang/RuntimeException", "java/lang/Exception"]).filter goodWord ++ (vx_atS RX4 64 "java/lang/IllegalStateException" ["java/lang/RuntimeException", "java/lang/Exception"]).filter goodWord ++ (vx_atS RX4 146 "java/lang/IndexOutOfBoundsException" ["java/lang/RuntimeException", "java/lang/Exception"]).filter goodWord)
def wsX4_quote_r1 : List Cond := [Cond.classLink RX4 38 "java/lang/IllegalArgumentException", Cond.initialized "java/lang/IllegalArgumentException", Cond.classLink RX4 60 "java/lang/IllegalStateException", Cond.initialized "java/lang/IllegalStateException", Cond.methodLink RX4 123 yX4_existingLine, Cond.instanceMethod yX4_existingLine, Cond.selects RX4 yX4_existingLine yX4_existingLine, Cond.initialized RX4, Cond.code yX4_existingLine cX4_existingLine 4 (some (.object "BackhaulReturns$Line")), Cond.classLink RX4 142 "java/lang/IndexOutOfBoundsException", Cond.initialized "java/lang/IndexOutOfBoundsException", Cond.methodLink RX4 87 yX4_existingSale, Cond.instanceMethod yX4_existingSale, Cond.selects RX4 yX4_existingSale yX4_existingSale, Cond.code yX4_existingSale cX4_existingSale 3 (some (.object "BackhaulReturns$Sale")), Cond.methodLink RX4 224 yX4_saleAt, Cond.instanceMethod yX4_saleAt, Cond.selects RX4 yX4_saleAt yX4_saleAt, Cond.code yX4_saleAt cX4_saleAt 2 (some (.object "BackhaulReturns$Sale")), Cond.fieldLink RX4 25 "BackhaulReturns" "register" "[LBackhaulReturns$Sale;", Cond.methodLink RX4 138 yX3_lineAt, Cond.instanceMethod yX3_lineAt, Cond.selects RX3 yX3_lineAt yX3_lineAt, Cond.initialized RX3]
def wsX4_quote_r2 : List Cond := [Cond.code yX3_lineAt cX3_lineAt 2 (some (.object "BackhaulReturns$Line")), Cond.fieldLink RX3 11 "BackhaulReturns$Sale" "lines" "[LBackhaulReturns$Line;", Cond.methodLink RX4 91 yX4_isUnits, Cond.static yX4_isUnits, Cond.code yX4_isUnits cX4_isUnits 1 (some .boolean), Cond.methodLink RX4 150 yX4_isCondition, Cond.static yX4_isCondition, Cond.code yX4_isCondition cX4_isCondition 1 (some .boolean), Cond.methodLink RX4 155 yX4_canComeBack, Cond.instanceMethod yX4_canComeBack, Cond.selects RX4 yX4_canComeBack yX4_canComeBack, Cond.code yX4_canComeBack cX4_canComeBack 4 (some .boolean), Cond.fieldLink RX4 96 "BackhaulReturns$Sale" "isPaid" "Z", Cond.fieldLink RX4 127 "BackhaulReturns$Line" "keptUnits" "I", Cond.methodLink RX4 173 yX4_ageOf, Cond.instanceMethod yX4_ageOf, Cond.selects RX4 yX4_ageOf yX4_ageOf, Cond.code yX4_ageOf cX4_ageOf 2 (some .int), Cond.fieldLink RX4 57 "BackhaulReturns" "today" "I", Cond.fieldLink RX4 193 "BackhaulReturns$Sale" "firstPaidDay" "I", Cond.methodLink RX4 196 yX3_freedBy, Cond.instanceMethod yX3_freedBy, Cond.selects RX3 yX3_freedBy yX3_freedBy, Cond.code yX3_freedBy cX3_freedBy 4 (some .int)]
def wsX4_quote_r3 : List Cond := [Cond.fieldLink RX3 52 "BackhaulReturns$Sale" "amountPaid" "I", Cond.fieldLink RX3 58 "BackhaulReturns$Sale" "amountReleased" "I", Cond.methodLink RX3 61 Lib.Math.max.name, Cond.static Lib.Math.max.name, Cond.initialized "java/lang/Math", Cond.code Lib.Math.max.name Lib.Math.max.code 2 (some .int), Cond.methodLink RX3 44 yX3_keptGoods, Cond.instanceMethod yX3_keptGoods, Cond.selects RX3 yX3_keptGoods yX3_keptGoods, Cond.code yX3_keptGoods cX3_keptGoods 6 (some .int), Cond.fieldLink RX3 34 "BackhaulReturns$Line" "keptUnits" "I", Cond.methodLink RX3 55 yX1_goodsOf, Cond.instanceMethod yX1_goodsOf, Cond.selects RX1 yX1_goodsOf yX1_goodsOf, Cond.initialized RX1, Cond.code yX1_goodsOf cX1_goodsOf 2 (some .int), Cond.fieldLink RX1 22 "BackhaulReturns$Line" "linePrice" "I", Cond.static yX4_netOf, Cond.code yX4_netOf cX4_netOf 1 (some .int), Cond.methodLink RX4 237 yX4_discountPercent, Cond.static yX4_discountPercent, Cond.code yX4_discountPercent cX4_discountPercent 1 (some .int), Cond.methodLink RX4 176 yX4_feeOn, Cond.static yX4_feeOn]
def wsX4_quote_r4 : List Cond := [Cond.code yX4_feeOn cX4_feeOn 3 (some .int)]
def wsX4_quote : List Cond := .code yX4_quote cX4_quote 8 (some .int) :: ((wsX4_quote_r1 ++ (wsX4_quote_r2 ++ (wsX4_quote_r3 ++ wsX4_quote_r4))) ++ wsX40 ++ wsX30 ++ wsX10 ++ (vx_atS RX4 42 "java/lang/IllegalArgumentException" ["java/lang/RuntimeException", "java/lang/Exception"]).filter goodWord ++ (vx_atS RX4 64 "java/lang/IllegalStateException" ["java/lang/RuntimeException", "java/lang/Exception"]).filter goodWord ++ (vx_atS RX4 146 "java/lang/IndexOutOfBoundsException" ["java/lang/RuntimeException", "java/lang/Exception"]).filter goodWord)
def wsX4_released : List Cond := .code yX4_released cX4_released 2 (some .int) :: ([.fieldLink RX4 200 "BackhaulReturns$Sale" "amountReleased" "I", .methodLink RX4 87 yX4_existingSale, .instanceMethod yX4_existingSale, .selects RX4 yX4_existingSale yX4_existingSale, .initialized RX4, .code yX4_existingSale cX4_existingSale 3 (some (.object "BackhaulReturns$Sale")), .classLink RX4 142 "java/lang/IndexOutOfBoundsException", .initialized "java/lang/IndexOutOfBoundsException", .methodLink RX4 224 yX4_saleAt, .instanceMethod yX4_saleAt, .selects RX4 yX4_saleAt yX4_saleAt, .code yX4_saleAt cX4_saleAt 2 (some (.object "BackhaulReturns$Sale")), .fieldLink RX4 25 "BackhaulReturns" "register" "[LBackhaulReturns$Sale;"] ++ wsX30 ++ wsX40 ++ (vx_atS RX4 146 "java/lang/IndexOutOfBoundsException" ["java/lang/RuntimeException", "java/lang/Exception"]).filter goodWord)
def wsX4_fees : List Cond := .code yX4_fees cX4_fees 1 (some .int) :: ([.fieldLink RX4 180 "BackhaulReturns" "feeSum" "I"] ++ wsX40)
def wsX4_firstSale : List Cond := .code yX4_firstSale cX4_firstSale 2 (some .int) :: ([.fieldLink RX4 190 "BackhaulReturns$Sale" "firstNumber" "I", .methodLink RX4 87 yX4_existingSale, .instanceMethod yX4_existingSale, .selects RX4 yX4_existingSale yX4_existingSale, .initialized RX4, .code yX4_existingSale cX4_existingSale 3 (some (.object "BackhaulReturns$Sale")), .classLink RX4 142 "java/lang/IndexOutOfBoundsException", .initialized "java/lang/IndexOutOfBoundsException", .methodLink RX4 224 yX4_saleAt, .instanceMethod yX4_saleAt, .selects RX4 yX4_saleAt yX4_saleAt, .code yX4_saleAt cX4_saleAt 2 (some (.object "BackhaulReturns$Sale")), .fieldLink RX4 25 "BackhaulReturns" "register" "[LBackhaulReturns$Sale;"] ++ wsX30 ++ wsX40 ++ (vx_atS RX4 146 "java/lang/IndexOutOfBoundsException" ["java/lang/RuntimeException", "java/lang/Exception"]).filter goodWord)
def wsX4_exchanges : List Cond := .code yX4_exchanges cX4_exchanges 2 (some .int) :: ([.fieldLink RX4 187 "BackhaulReturns$Sale" "depth" "I", .methodLink RX4 87 yX4_existingSale, .instanceMethod yX4_existingSale, .selects RX4 yX4_existingSale yX4_existingSale, .initialized RX4, .code yX4_existingSale cX4_existingSale 3 (some (.object "BackhaulReturns$Sale")), .classLink RX4 142 "java/lang/IndexOutOfBoundsException", .initialized "java/lang/IndexOutOfBoundsException", .methodLink RX4 224 yX4_saleAt, .instanceMethod yX4_saleAt, .selects RX4 yX4_saleAt yX4_saleAt, .code yX4_saleAt cX4_saleAt 2 (some (.object "BackhaulReturns$Sale")), .fieldLink RX4 25 "BackhaulReturns" "register" "[LBackhaulReturns$Sale;"] ++ wsX30 ++ wsX40 ++ (vx_atS RX4 146 "java/lang/IndexOutOfBoundsException" ["java/lang/RuntimeException", "java/lang/Exception"]).filter goodWord)
def wsX4_bestOption_r1 : List Cond := [Cond.classLink RX4 38 "java/lang/IllegalArgumentException", Cond.initialized "java/lang/IllegalArgumentException", Cond.methodLink RX4 29 yX4_productAt, Cond.instanceMethod yX4_productAt, Cond.selects RX4 yX4_productAt yX4_productAt, Cond.initialized RX4, Cond.code yX4_productAt cX4_productAt 2 (some (.object "BackhaulReturns$Product")), Cond.fieldLink RX4 11 "BackhaulReturns" "catalog" "[LBackhaulReturns$Product;", Cond.methodLink RX4 150 yX4_isCondition, Cond.static yX4_isCondition, Cond.code yX4_isCondition cX4_isCondition 1 (some .boolean), Cond.methodLink RX4 203 yX2_optionFor, Cond.instanceMethod yX2_optionFor, Cond.selects RX2 yX2_optionFor yX2_optionFor, Cond.initialized RX2, Cond.code yX2_optionFor cX2_optionFor 4 (some .int), Cond.methodLink RX2 25 yX2_isOffered, Cond.static yX2_isOffered, Cond.code yX2_isOffered cX2_isOffered 2 (some .boolean), Cond.methodLink RX2 29 yX2_worthOf, Cond.instanceMethod yX2_worthOf, Cond.selects RX2 yX2_worthOf yX2_worthOf, Cond.code yX2_worthOf cX2_worthOf 3 (some .int), Cond.fieldLink RX2 9 "BackhaulReturns$Product" "unitPrice" "I"]
def wsX4_bestOption_r2 : List Cond := [Cond.methodLink RX2 40 Lib.Math.max.name, Cond.static Lib.Math.max.name, Cond.initialized "java/lang/Math", Cond.code Lib.Math.max.name Lib.Math.max.code 2 (some .int), Cond.methodLink RX2 33 yX2_repairWorth, Cond.instanceMethod yX2_repairWorth, Cond.selects RX2 yX2_repairWorth yX2_repairWorth, Cond.code yX2_repairWorth cX2_repairWorth 1 (some .int), Cond.fieldLink RX2 18 "BackhaulReturns$Product" "repairCost" "I", Cond.methodLink RX2 37 yX2_salvageWorth, Cond.instanceMethod yX2_salvageWorth, Cond.selects RX2 yX2_salvageWorth yX2_salvageWorth, Cond.code yX2_salvageWorth cX2_salvageWorth 1 (some .int), Cond.fieldLink RX2 15 "BackhaulReturns$Product" "salvageValue" "I", Cond.methodLink RX2 45 yJ9_floorDiv_7cf53, Cond.static yJ9_floorDiv_7cf53, Cond.initialized RJ9, Cond.code yJ9_floorDiv_7cf53 cJ9_floorDiv_7cf53 3 (some .int)]
def wsX4_bestOption : List Cond := .code yX4_bestOption cX4_bestOption 4 (some .int) :: ((wsX4_bestOption_r1 ++ wsX4_bestOption_r2) ++ wsX40 ++ wsX20 ++ (vx_atS RX4 42 "java/lang/IllegalArgumentException" ["java/lang/RuntimeException", "java/lang/Exception"]).filter goodWord)
def wsX4_bestWorth_r1 : List Cond := [Cond.classLink RX4 38 "java/lang/IllegalArgumentException", Cond.initialized "java/lang/IllegalArgumentException", Cond.methodLink RX4 29 yX4_productAt, Cond.instanceMethod yX4_productAt, Cond.selects RX4 yX4_productAt yX4_productAt, Cond.initialized RX4, Cond.code yX4_productAt cX4_productAt 2 (some (.object "BackhaulReturns$Product")), Cond.fieldLink RX4 11 "BackhaulReturns" "catalog" "[LBackhaulReturns$Product;", Cond.methodLink RX4 150 yX4_isCondition, Cond.static yX4_isCondition, Cond.code yX4_isCondition cX4_isCondition 1 (some .boolean), Cond.methodLink RX4 203 yX2_optionFor, Cond.instanceMethod yX2_optionFor, Cond.selects RX2 yX2_optionFor yX2_optionFor, Cond.initialized RX2, Cond.code yX2_optionFor cX2_optionFor 4 (some .int), Cond.methodLink RX2 25 yX2_isOffered, Cond.static yX2_isOffered, Cond.code yX2_isOffered cX2_isOffered 2 (some .boolean), Cond.methodLink RX2 29 yX2_worthOf, Cond.instanceMethod yX2_worthOf, Cond.selects RX2 yX2_worthOf yX2_worthOf, Cond.code yX2_worthOf cX2_worthOf 3 (some .int), Cond.fieldLink RX2 9 "BackhaulReturns$Product" "unitPrice" "I"]
def wsX4_bestWorth_r2 : List Cond := [Cond.methodLink RX2 40 Lib.Math.max.name, Cond.static Lib.Math.max.name, Cond.initialized "java/lang/Math", Cond.code Lib.Math.max.name Lib.Math.max.code 2 (some .int), Cond.methodLink RX2 33 yX2_repairWorth, Cond.instanceMethod yX2_repairWorth, Cond.selects RX2 yX2_repairWorth yX2_repairWorth, Cond.code yX2_repairWorth cX2_repairWorth 1 (some .int), Cond.fieldLink RX2 18 "BackhaulReturns$Product" "repairCost" "I", Cond.methodLink RX2 37 yX2_salvageWorth, Cond.instanceMethod yX2_salvageWorth, Cond.selects RX2 yX2_salvageWorth yX2_salvageWorth, Cond.code yX2_salvageWorth cX2_salvageWorth 1 (some .int), Cond.fieldLink RX2 15 "BackhaulReturns$Product" "salvageValue" "I", Cond.methodLink RX2 45 yJ9_floorDiv_7cf53, Cond.static yJ9_floorDiv_7cf53, Cond.initialized RJ9, Cond.code yJ9_floorDiv_7cf53 cJ9_floorDiv_7cf53 3 (some .int), Cond.methodLink RX4 206 yX2_worthOf]
def wsX4_bestWorth : List Cond := .code yX4_bestWorth cX4_bestWorth 4 (some .int) :: ((wsX4_bestWorth_r1 ++ wsX4_bestWorth_r2) ++ wsX40 ++ wsX20 ++ (vx_atS RX4 42 "java/lang/IllegalArgumentException" ["java/lang/RuntimeException", "java/lang/Exception"]).filter goodWord)
def wsX4_stock : List Cond := .code yX4_stock cX4_stock 4 (some .int) :: ([.classLink RX4 38 "java/lang/IllegalArgumentException", .initialized "java/lang/IllegalArgumentException", .methodLink RX4 29 yX4_productAt, .instanceMethod yX4_productAt, .selects RX4 yX4_productAt yX4_productAt, .initialized RX4, .code yX4_productAt cX4_productAt 2 (some (.object "BackhaulReturns$Product")), .fieldLink RX4 11 "BackhaulReturns" "catalog" "[LBackhaulReturns$Product;", .methodLink RX4 210 yX2_unitsAt, .instanceMethod yX2_unitsAt, .selects RX2 yX2_unitsAt yX2_unitsAt, .initialized RX2, .code yX2_unitsAt cX2_unitsAt 2 (some .int), .fieldLink RX2 21 "BackhaulReturns$Product" "unitsByPlace" "[I"] ++ wsX40 ++ wsX20 ++ (vx_atS RX4 42 "java/lang/IllegalArgumentException" ["java/lang/RuntimeException", "java/lang/Exception"]).filter goodWord)
def wsX4_test_r1 : List Cond := [Cond.classLink RX4 38 "java/lang/IllegalArgumentException", Cond.initialized "java/lang/IllegalArgumentException", Cond.classLink RX4 60 "java/lang/IllegalStateException", Cond.initialized "java/lang/IllegalStateException", Cond.methodLink RX4 29 yX4_productAt, Cond.instanceMethod yX4_productAt, Cond.selects RX4 yX4_productAt yX4_productAt, Cond.initialized RX4, Cond.code yX4_productAt cX4_productAt 2 (some (.object "BackhaulReturns$Product")), Cond.fieldLink RX4 11 "BackhaulReturns" "catalog" "[LBackhaulReturns$Product;", Cond.methodLink RX4 210 yX2_unitsAt, Cond.instanceMethod yX2_unitsAt, Cond.selects RX2 yX2_unitsAt yX2_unitsAt, Cond.initialized RX2, Cond.code yX2_unitsAt cX2_unitsAt 2 (some .int), Cond.fieldLink RX2 21 "BackhaulReturns$Product" "unitsByPlace" "[I", Cond.methodLink RX4 203 yX2_optionFor, Cond.instanceMethod yX2_optionFor, Cond.selects RX2 yX2_optionFor yX2_optionFor, Cond.code yX2_optionFor cX2_optionFor 4 (some .int), Cond.methodLink RX2 25 yX2_isOffered, Cond.static yX2_isOffered, Cond.code yX2_isOffered cX2_isOffered 2 (some .boolean), Cond.methodLink RX2 29 yX2_worthOf]
def wsX4_test_r2 : List Cond := [Cond.instanceMethod yX2_worthOf, Cond.selects RX2 yX2_worthOf yX2_worthOf, Cond.code yX2_worthOf cX2_worthOf 3 (some .int), Cond.fieldLink RX2 9 "BackhaulReturns$Product" "unitPrice" "I", Cond.methodLink RX2 40 Lib.Math.max.name, Cond.static Lib.Math.max.name, Cond.initialized "java/lang/Math", Cond.code Lib.Math.max.name Lib.Math.max.code 2 (some .int), Cond.methodLink RX2 33 yX2_repairWorth, Cond.instanceMethod yX2_repairWorth, Cond.selects RX2 yX2_repairWorth yX2_repairWorth, Cond.code yX2_repairWorth cX2_repairWorth 1 (some .int), Cond.fieldLink RX2 18 "BackhaulReturns$Product" "repairCost" "I", Cond.methodLink RX2 37 yX2_salvageWorth, Cond.instanceMethod yX2_salvageWorth, Cond.selects RX2 yX2_salvageWorth yX2_salvageWorth, Cond.code yX2_salvageWorth cX2_salvageWorth 1 (some .int), Cond.fieldLink RX2 15 "BackhaulReturns$Product" "salvageValue" "I", Cond.methodLink RX2 45 yJ9_floorDiv_7cf53, Cond.static yJ9_floorDiv_7cf53, Cond.initialized RJ9, Cond.code yJ9_floorDiv_7cf53 cJ9_floorDiv_7cf53 3 (some .int), Cond.methodLink RX4 217 yX2_move, Cond.instanceMethod yX2_move]
def wsX4_test_r3 : List Cond := [Cond.selects RX2 yX2_move yX2_move, Cond.code yX2_move cX2_move 3 none]
def wsX4_test : List Cond := .code yX4_test cX4_test 5 (some .int) :: ((wsX4_test_r1 ++ (wsX4_test_r2 ++ wsX4_test_r3)) ++ wsX40 ++ wsX20 ++ (vx_atS RX4 42 "java/lang/IllegalArgumentException" ["java/lang/RuntimeException", "java/lang/Exception"]).filter goodWord ++ (vx_atS RX4 64 "java/lang/IllegalStateException" ["java/lang/RuntimeException", "java/lang/Exception"]).filter goodWord)
def wsX4_score : List Cond := .code yX4_score cX4_score 3 (some .int) :: ([.classLink RX4 38 "java/lang/IllegalArgumentException", .initialized "java/lang/IllegalArgumentException", .fieldLink RX4 57 "BackhaulReturns" "today" "I", .methodLink RX4 65 yX4_customerAt, .instanceMethod yX4_customerAt, .selects RX4 yX4_customerAt yX4_customerAt, .initialized RX4, .code yX4_customerAt cX4_customerAt 2 (some (.object "BackhaulReturns$Customer")), .fieldLink RX4 18 "BackhaulReturns" "people" "[LBackhaulReturns$Customer;", .methodLink RX4 221 yX0_scoreOn, .instanceMethod yX0_scoreOn, .selects RX0 yX0_scoreOn yX0_scoreOn, .initialized RX0, .code yX0_scoreOn cX0_scoreOn 5 (some .int), .fieldLink RX0 22 "BackhaulReturns$Customer" "count" "I", .fieldLink RX0 9 "BackhaulReturns$Customer" "days" "[I", .fieldLink RX0 15 "BackhaulReturns$Customer" "units" "[I", .fieldLink RX0 18 "BackhaulReturns$Customer" "areChained" "[Z"] ++ wsX40 ++ wsX00 ++ (vx_atS RX4 42 "java/lang/IllegalArgumentException" ["java/lang/RuntimeException", "java/lang/Exception"]).filter goodWord)
def wsX5_init_r1 : List Cond := [Cond.methodLink RX5 1 objectInit, Cond.instanceMethod objectInit, Cond.code objectInit ⟨#[0xb1]⟩ 1 none, Cond.arrayClass .int, Cond.fieldLink RX5 7 "BackhaulReturnsModel" "prices" "[I", Cond.fieldLink RX5 13 "BackhaulReturnsModel" "salvages" "[I", Cond.fieldLink RX5 16 "BackhaulReturnsModel" "repairs" "[I", Cond.fieldLink RX5 19 "BackhaulReturnsModel" "stock" "[I", Cond.fieldLink RX5 22 "BackhaulReturnsModel" "customers" "[I", Cond.fieldLink RX5 25 "BackhaulReturnsModel" "sizes" "[I", Cond.fieldLink RX5 28 "BackhaulReturnsModel" "days" "[I", Cond.fieldLink RX5 31 "BackhaulReturnsModel" "paid" "[I", Cond.fieldLink RX5 34 "BackhaulReturnsModel" "released" "[I", Cond.fieldLink RX5 37 "BackhaulReturnsModel" "firsts" "[I", Cond.fieldLink RX5 40 "BackhaulReturnsModel" "depths" "[I", Cond.fieldLink RX5 43 "BackhaulReturnsModel" "products" "[I", Cond.fieldLink RX5 46 "BackhaulReturnsModel" "linePrices" "[I", Cond.fieldLink RX5 49 "BackhaulReturnsModel" "units" "[I", Cond.fieldLink RX5 52 "BackhaulReturnsModel" "backCustomers" "[I", Cond.fieldLink RX5 55 "BackhaulReturnsModel" "backDays" "[I", Cond.fieldLink RX5 58 "BackhaulReturnsModel" "backUnits" "[I", Cond.arrayClass .boolean, Cond.fieldLink RX5 61 "BackhaulReturnsModel" "isAgain" "[Z", Cond.arrayClass .long]
def wsX5_init_r2 : List Cond := [Cond.fieldLink RX5 65 "BackhaulReturnsModel" "remainders" "[J", Cond.fieldLink RX5 69 "BackhaulReturnsModel" "values" "[I"]
def wsX5_init : List Cond := .code yX5_init cX5_init 2 none :: ((wsX5_init_r1 ++ wsX5_init_r2) ++ wsX50)
def wsX5_thrown : List Cond := .code yX5_thrown cX5_thrown 1 (some .int) :: ([.fieldLink RX5 72 "BackhaulReturnsModel" "thrown" "I"] ++ wsX50)
def wsX5_goes : List Cond := .code yX5_goes cX5_goes 2 (some .boolean) :: ([.fieldLink RX5 72 "BackhaulReturnsModel" "thrown" "I"] ++ wsX50)
def wsX5_isIn : List Cond := .code yX5_isIn cX5_isIn 3 (some .boolean) :: ([])
def wsX5_isTen : List Cond := .code yX5_isTen cX5_isTen 1 (some .boolean) :: ([.methodLink RX5 76 yX5_isIn, .static yX5_isIn, .initialized RX5, .code yX5_isIn cX5_isIn 3 (some .boolean)])
def wsX5_isSale : List Cond := .code yX5_isSale cX5_isSale 2 (some .boolean) :: ([.fieldLink RX5 80 "BackhaulReturnsModel" "sales" "I", .methodLink RX5 76 yX5_isIn, .static yX5_isIn, .initialized RX5, .code yX5_isIn cX5_isIn 3 (some .boolean)] ++ wsX50)
def wsX5_isLine : List Cond := .code yX5_isLine cX5_isLine 3 (some .boolean) :: ([.fieldLink RX5 25 "BackhaulReturnsModel" "sizes" "[I", .methodLink RX5 83 yX5_isSale, .instanceMethod yX5_isSale, .selects RX5 yX5_isSale yX5_isSale, .initialized RX5, .code yX5_isSale cX5_isSale 2 (some .boolean), .fieldLink RX5 80 "BackhaulReturnsModel" "sales" "I", .methodLink RX5 76 yX5_isIn, .static yX5_isIn, .code yX5_isIn cX5_isIn 3 (some .boolean)] ++ wsX50)
def wsX5_isOpen : List Cond := .code yX5_isOpen cX5_isOpen 2 (some .boolean) :: ([.fieldLink RX5 28 "BackhaulReturnsModel" "days" "[I"] ++ wsX50)
def wsX5_setProduct : List Cond := .code yX5_setProduct cX5_setProduct 6 (some .int) :: ([.constant RX5 90 (100000), .fieldLink RX5 7 "BackhaulReturnsModel" "prices" "[I", .fieldLink RX5 13 "BackhaulReturnsModel" "salvages" "[I", .fieldLink RX5 16 "BackhaulReturnsModel" "repairs" "[I", .methodLink RX5 87 yX5_isTen, .static yX5_isTen, .initialized RX5, .code yX5_isTen cX5_isTen 1 (some .boolean), .methodLink RX5 76 yX5_isIn, .static yX5_isIn, .code yX5_isIn cX5_isIn 3 (some .boolean), .methodLink RX5 91 yX5_goes, .instanceMethod yX5_goes, .selects RX5 yX5_goes yX5_goes, .code yX5_goes cX5_goes 2 (some .boolean), .fieldLink RX5 72 "BackhaulReturnsModel" "thrown" "I"] ++ wsX50)
def wsX5_pass : List Cond := .code yX5_pass cX5_pass 2 (some .int) :: ([.fieldLink RX5 94 "BackhaulReturnsModel" "day" "I", .constant RX5 90 (100000), .methodLink RX5 76 yX5_isIn, .static yX5_isIn, .initialized RX5, .code yX5_isIn cX5_isIn 3 (some .boolean), .methodLink RX5 91 yX5_goes, .instanceMethod yX5_goes, .selects RX5 yX5_goes yX5_goes, .code yX5_goes cX5_goes 2 (some .boolean), .fieldLink RX5 72 "BackhaulReturnsModel" "thrown" "I"] ++ wsX50)
def wsX5_opens : List Cond := .code yX5_opens cX5_opens 2 (some .int) :: ([.fieldLink RX5 22 "BackhaulReturnsModel" "customers" "[I", .fieldLink RX5 80 "BackhaulReturnsModel" "sales" "I", .fieldLink RX5 25 "BackhaulReturnsModel" "sizes" "[I", .fieldLink RX5 28 "BackhaulReturnsModel" "days" "[I", .fieldLink RX5 31 "BackhaulReturnsModel" "paid" "[I", .fieldLink RX5 34 "BackhaulReturnsModel" "released" "[I", .fieldLink RX5 37 "BackhaulReturnsModel" "firsts" "[I", .fieldLink RX5 40 "BackhaulReturnsModel" "depths" "[I"] ++ wsX50)
def wsX5_adds : List Cond := .code yX5_adds cX5_adds 5 (some .int) :: ([.fieldLink RX5 25 "BackhaulReturnsModel" "sizes" "[I", .fieldLink RX5 43 "BackhaulReturnsModel" "products" "[I", .fieldLink RX5 46 "BackhaulReturnsModel" "linePrices" "[I", .fieldLink RX5 7 "BackhaulReturnsModel" "prices" "[I", .fieldLink RX5 49 "BackhaulReturnsModel" "units" "[I"] ++ wsX50)
def wsX5_goodsOf : List Cond := .code yX5_goodsOf cX5_goodsOf 3 (some .int) :: ([.fieldLink RX5 46 "BackhaulReturnsModel" "linePrices" "[I", .fieldLink RX5 49 "BackhaulReturnsModel" "units" "[I"] ++ wsX50)
def wsX5_goods : List Cond := .code yX5_goods cX5_goods 4 (some .int) :: ([.fieldLink RX5 25 "BackhaulReturnsModel" "sizes" "[I", .methodLink RX5 121 yX5_goodsOf, .instanceMethod yX5_goodsOf, .selects RX5 yX5_goodsOf yX5_goodsOf, .initialized RX5, .code yX5_goodsOf cX5_goodsOf 3 (some .int), .fieldLink RX5 46 "BackhaulReturnsModel" "linePrices" "[I", .fieldLink RX5 49 "BackhaulReturnsModel" "units" "[I"] ++ wsX50)
def wsX5_net : List Cond := .code yX5_net cX5_net 3 (some .int) :: ([.constantLong RX5 125 (5), .constantLong RX5 127 (10), .constantLong RX5 129 (15), .constantLong RX5 131 (100)])
def wsX5_pays : List Cond := .code yX5_pays cX5_pays 2 (some .int) :: ([.fieldLink RX5 28 "BackhaulReturnsModel" "days" "[I", .fieldLink RX5 94 "BackhaulReturnsModel" "day" "I", .fieldLink RX5 31 "BackhaulReturnsModel" "paid" "[I", .methodLink RX5 97 yX5_goods, .instanceMethod yX5_goods, .selects RX5 yX5_goods yX5_goods, .initialized RX5, .code yX5_goods cX5_goods 4 (some .int), .fieldLink RX5 25 "BackhaulReturnsModel" "sizes" "[I", .methodLink RX5 121 yX5_goodsOf, .instanceMethod yX5_goodsOf, .selects RX5 yX5_goodsOf yX5_goodsOf, .code yX5_goodsOf cX5_goodsOf 3 (some .int), .fieldLink RX5 46 "BackhaulReturnsModel" "linePrices" "[I", .fieldLink RX5 49 "BackhaulReturnsModel" "units" "[I", .methodLink RX5 101 yX5_net, .static yX5_net, .code yX5_net cX5_net 3 (some .int), .constantLong RX5 125 (5), .constantLong RX5 127 (10), .constantLong RX5 129 (15), .constantLong RX5 131 (100)] ++ wsX50)
def wsX5_open : List Cond := .code yX5_open cX5_open 2 (some .int) :: ([.fieldLink RX5 80 "BackhaulReturnsModel" "sales" "I", .methodLink RX5 87 yX5_isTen, .static yX5_isTen, .initialized RX5, .code yX5_isTen cX5_isTen 1 (some .boolean), .methodLink RX5 76 yX5_isIn, .static yX5_isIn, .code yX5_isIn cX5_isIn 3 (some .boolean), .methodLink RX5 91 yX5_goes, .instanceMethod yX5_goes, .selects RX5 yX5_goes yX5_goes, .code yX5_goes cX5_goes 2 (some .boolean), .fieldLink RX5 72 "BackhaulReturnsModel" "thrown" "I", .methodLink RX5 104 yX5_opens, .instanceMethod yX5_opens, .selects RX5 yX5_opens yX5_opens, .code yX5_opens cX5_opens 2 (some .int), .fieldLink RX5 22 "BackhaulReturnsModel" "customers" "[I", .fieldLink RX5 25 "BackhaulReturnsModel" "sizes" "[I", .fieldLink RX5 28 "BackhaulReturnsModel" "days" "[I", .fieldLink RX5 31 "BackhaulReturnsModel" "paid" "[I", .fieldLink RX5 34 "BackhaulReturnsModel" "released" "[I", .fieldLink RX5 37 "BackhaulReturnsModel" "firsts" "[I", .fieldLink RX5 40 "BackhaulReturnsModel" "depths" "[I"] ++ wsX50)
def wsX5_add_r1 : List Cond := [Cond.fieldLink RX5 25 "BackhaulReturnsModel" "sizes" "[I", Cond.methodLink RX5 83 yX5_isSale, Cond.instanceMethod yX5_isSale, Cond.selects RX5 yX5_isSale yX5_isSale, Cond.initialized RX5, Cond.code yX5_isSale cX5_isSale 2 (some .boolean), Cond.fieldLink RX5 80 "BackhaulReturnsModel" "sales" "I", Cond.methodLink RX5 76 yX5_isIn, Cond.static yX5_isIn, Cond.code yX5_isIn cX5_isIn 3 (some .boolean), Cond.methodLink RX5 87 yX5_isTen, Cond.static yX5_isTen, Cond.code yX5_isTen cX5_isTen 1 (some .boolean), Cond.methodLink RX5 107 yX5_isOpen, Cond.instanceMethod yX5_isOpen, Cond.selects RX5 yX5_isOpen yX5_isOpen, Cond.code yX5_isOpen cX5_isOpen 2 (some .boolean), Cond.fieldLink RX5 28 "BackhaulReturnsModel" "days" "[I", Cond.methodLink RX5 91 yX5_goes, Cond.instanceMethod yX5_goes, Cond.selects RX5 yX5_goes yX5_goes, Cond.code yX5_goes cX5_goes 2 (some .boolean), Cond.fieldLink RX5 72 "BackhaulReturnsModel" "thrown" "I", Cond.methodLink RX5 110 yX5_adds]
def wsX5_add_r2 : List Cond := [Cond.instanceMethod yX5_adds, Cond.selects RX5 yX5_adds yX5_adds, Cond.code yX5_adds cX5_adds 5 (some .int), Cond.fieldLink RX5 43 "BackhaulReturnsModel" "products" "[I", Cond.fieldLink RX5 46 "BackhaulReturnsModel" "linePrices" "[I", Cond.fieldLink RX5 7 "BackhaulReturnsModel" "prices" "[I", Cond.fieldLink RX5 49 "BackhaulReturnsModel" "units" "[I"]
def wsX5_add : List Cond := .code yX5_add cX5_add 5 (some .int) :: ((wsX5_add_r1 ++ wsX5_add_r2) ++ wsX50)
def wsX5_pay_r1 : List Cond := [Cond.fieldLink RX5 25 "BackhaulReturnsModel" "sizes" "[I", Cond.methodLink RX5 83 yX5_isSale, Cond.instanceMethod yX5_isSale, Cond.selects RX5 yX5_isSale yX5_isSale, Cond.initialized RX5, Cond.code yX5_isSale cX5_isSale 2 (some .boolean), Cond.fieldLink RX5 80 "BackhaulReturnsModel" "sales" "I", Cond.methodLink RX5 76 yX5_isIn, Cond.static yX5_isIn, Cond.code yX5_isIn cX5_isIn 3 (some .boolean), Cond.methodLink RX5 107 yX5_isOpen, Cond.instanceMethod yX5_isOpen, Cond.selects RX5 yX5_isOpen yX5_isOpen, Cond.code yX5_isOpen cX5_isOpen 2 (some .boolean), Cond.fieldLink RX5 28 "BackhaulReturnsModel" "days" "[I", Cond.methodLink RX5 91 yX5_goes, Cond.instanceMethod yX5_goes, Cond.selects RX5 yX5_goes yX5_goes, Cond.code yX5_goes cX5_goes 2 (some .boolean), Cond.fieldLink RX5 72 "BackhaulReturnsModel" "thrown" "I", Cond.methodLink RX5 114 yX5_pays, Cond.instanceMethod yX5_pays, Cond.selects RX5 yX5_pays yX5_pays, Cond.code yX5_pays cX5_pays 2 (some .int)]
def wsX5_pay_r2 : List Cond := [Cond.fieldLink RX5 94 "BackhaulReturnsModel" "day" "I", Cond.fieldLink RX5 31 "BackhaulReturnsModel" "paid" "[I", Cond.methodLink RX5 97 yX5_goods, Cond.instanceMethod yX5_goods, Cond.selects RX5 yX5_goods yX5_goods, Cond.code yX5_goods cX5_goods 4 (some .int), Cond.methodLink RX5 121 yX5_goodsOf, Cond.instanceMethod yX5_goodsOf, Cond.selects RX5 yX5_goodsOf yX5_goodsOf, Cond.code yX5_goodsOf cX5_goodsOf 3 (some .int), Cond.fieldLink RX5 46 "BackhaulReturnsModel" "linePrices" "[I", Cond.fieldLink RX5 49 "BackhaulReturnsModel" "units" "[I", Cond.methodLink RX5 101 yX5_net, Cond.static yX5_net, Cond.code yX5_net cX5_net 3 (some .int), Cond.constantLong RX5 125 (5), Cond.constantLong RX5 127 (10), Cond.constantLong RX5 129 (15), Cond.constantLong RX5 131 (100)]
def wsX5_pay : List Cond := .code yX5_pay cX5_pay 2 (some .int) :: ((wsX5_pay_r1 ++ wsX5_pay_r2) ++ wsX50)
def wsX5_sales : List Cond := .code yX5_sales cX5_sales 1 (some .int) :: ([.fieldLink RX5 72 "BackhaulReturnsModel" "thrown" "I", .fieldLink RX5 80 "BackhaulReturnsModel" "sales" "I"] ++ wsX50)
def wsX5_paid : List Cond := .code yX5_paid cX5_paid 2 (some .int) :: ([.fieldLink RX5 31 "BackhaulReturnsModel" "paid" "[I", .methodLink RX5 83 yX5_isSale, .instanceMethod yX5_isSale, .selects RX5 yX5_isSale yX5_isSale, .initialized RX5, .code yX5_isSale cX5_isSale 2 (some .boolean), .fieldLink RX5 80 "BackhaulReturnsModel" "sales" "I", .methodLink RX5 76 yX5_isIn, .static yX5_isIn, .code yX5_isIn cX5_isIn 3 (some .boolean), .methodLink RX5 91 yX5_goes, .instanceMethod yX5_goes, .selects RX5 yX5_goes yX5_goes, .code yX5_goes cX5_goes 2 (some .boolean), .fieldLink RX5 72 "BackhaulReturnsModel" "thrown" "I"] ++ wsX50)
def wsX5_kept_r1 : List Cond := [Cond.fieldLink RX5 49 "BackhaulReturnsModel" "units" "[I", Cond.methodLink RX5 117 yX5_isLine, Cond.instanceMethod yX5_isLine, Cond.selects RX5 yX5_isLine yX5_isLine, Cond.initialized RX5, Cond.code yX5_isLine cX5_isLine 3 (some .boolean), Cond.fieldLink RX5 25 "BackhaulReturnsModel" "sizes" "[I", Cond.methodLink RX5 83 yX5_isSale, Cond.instanceMethod yX5_isSale, Cond.selects RX5 yX5_isSale yX5_isSale, Cond.code yX5_isSale cX5_isSale 2 (some .boolean), Cond.fieldLink RX5 80 "BackhaulReturnsModel" "sales" "I", Cond.methodLink RX5 76 yX5_isIn, Cond.static yX5_isIn, Cond.code yX5_isIn cX5_isIn 3 (some .boolean), Cond.methodLink RX5 91 yX5_goes, Cond.instanceMethod yX5_goes, Cond.selects RX5 yX5_goes yX5_goes, Cond.code yX5_goes cX5_goes 2 (some .boolean), Cond.fieldLink RX5 72 "BackhaulReturnsModel" "thrown" "I", Cond.methodLink RX5 107 yX5_isOpen, Cond.instanceMethod yX5_isOpen, Cond.selects RX5 yX5_isOpen yX5_isOpen, Cond.code yX5_isOpen cX5_isOpen 2 (some .boolean)]
def wsX5_kept_r2 : List Cond := [Cond.fieldLink RX5 28 "BackhaulReturnsModel" "days" "[I"]
def wsX5_kept : List Cond := .code yX5_kept cX5_kept 3 (some .int) :: ((wsX5_kept_r1 ++ wsX5_kept_r2) ++ wsX50)
def wsX5_keptValue_r1 : List Cond := [Cond.methodLink RX5 83 yX5_isSale, Cond.instanceMethod yX5_isSale, Cond.selects RX5 yX5_isSale yX5_isSale, Cond.initialized RX5, Cond.code yX5_isSale cX5_isSale 2 (some .boolean), Cond.fieldLink RX5 80 "BackhaulReturnsModel" "sales" "I", Cond.methodLink RX5 76 yX5_isIn, Cond.static yX5_isIn, Cond.code yX5_isIn cX5_isIn 3 (some .boolean), Cond.methodLink RX5 91 yX5_goes, Cond.instanceMethod yX5_goes, Cond.selects RX5 yX5_goes yX5_goes, Cond.code yX5_goes cX5_goes 2 (some .boolean), Cond.fieldLink RX5 72 "BackhaulReturnsModel" "thrown" "I", Cond.methodLink RX5 107 yX5_isOpen, Cond.instanceMethod yX5_isOpen, Cond.selects RX5 yX5_isOpen yX5_isOpen, Cond.code yX5_isOpen cX5_isOpen 2 (some .boolean), Cond.fieldLink RX5 28 "BackhaulReturnsModel" "days" "[I", Cond.methodLink RX5 97 yX5_goods, Cond.instanceMethod yX5_goods, Cond.selects RX5 yX5_goods yX5_goods, Cond.code yX5_goods cX5_goods 4 (some .int), Cond.fieldLink RX5 25 "BackhaulReturnsModel" "sizes" "[I"]
def wsX5_keptValue_r2 : List Cond := [Cond.methodLink RX5 121 yX5_goodsOf, Cond.instanceMethod yX5_goodsOf, Cond.selects RX5 yX5_goodsOf yX5_goodsOf, Cond.code yX5_goodsOf cX5_goodsOf 3 (some .int), Cond.fieldLink RX5 46 "BackhaulReturnsModel" "linePrices" "[I", Cond.fieldLink RX5 49 "BackhaulReturnsModel" "units" "[I", Cond.methodLink RX5 101 yX5_net, Cond.static yX5_net, Cond.code yX5_net cX5_net 3 (some .int), Cond.constantLong RX5 125 (5), Cond.constantLong RX5 127 (10), Cond.constantLong RX5 129 (15), Cond.constantLong RX5 131 (100)]
def wsX5_keptValue : List Cond := .code yX5_keptValue cX5_keptValue 2 (some .int) :: ((wsX5_keptValue_r1 ++ wsX5_keptValue_r2) ++ wsX50)
def wsX5_next : List Cond := .code yX5_next cX5_next 4 (some .int) :: ([.fieldLink RX5 25 "BackhaulReturnsModel" "sizes" "[I", .fieldLink RX5 65 "BackhaulReturnsModel" "remainders" "[J", .constantLong RX5 133 (-1)] ++ wsX50)
def wsX5_splits_r1 : List Cond := [Cond.fieldLink RX5 25 "BackhaulReturnsModel" "sizes" "[I", Cond.fieldLink RX5 69 "BackhaulReturnsModel" "values" "[I", Cond.fieldLink RX5 65 "BackhaulReturnsModel" "remainders" "[J", Cond.methodLink RX5 97 yX5_goods, Cond.instanceMethod yX5_goods, Cond.selects RX5 yX5_goods yX5_goods, Cond.initialized RX5, Cond.code yX5_goods cX5_goods 4 (some .int), Cond.methodLink RX5 121 yX5_goodsOf, Cond.instanceMethod yX5_goodsOf, Cond.selects RX5 yX5_goodsOf yX5_goodsOf, Cond.code yX5_goodsOf cX5_goodsOf 3 (some .int), Cond.fieldLink RX5 46 "BackhaulReturnsModel" "linePrices" "[I", Cond.fieldLink RX5 49 "BackhaulReturnsModel" "units" "[I", Cond.methodLink RX5 101 yX5_net, Cond.static yX5_net, Cond.code yX5_net cX5_net 3 (some .int), Cond.constantLong RX5 125 (5), Cond.constantLong RX5 127 (10), Cond.constantLong RX5 129 (15), Cond.constantLong RX5 131 (100), Cond.methodLink RX5 135 yX5_next, Cond.instanceMethod yX5_next, Cond.selects RX5 yX5_next yX5_next]
def wsX5_splits_r2 : List Cond := [Cond.code yX5_next cX5_next 4 (some .int), Cond.constantLong RX5 133 (-1)]
def wsX5_splits : List Cond := .code yX5_splits cX5_splits 8 none :: ((wsX5_splits_r1 ++ wsX5_splits_r2) ++ wsX50)
def wsX5_lineValue_r1 : List Cond := [Cond.fieldLink RX5 69 "BackhaulReturnsModel" "values" "[I", Cond.methodLink RX5 117 yX5_isLine, Cond.instanceMethod yX5_isLine, Cond.selects RX5 yX5_isLine yX5_isLine, Cond.initialized RX5, Cond.code yX5_isLine cX5_isLine 3 (some .boolean), Cond.fieldLink RX5 25 "BackhaulReturnsModel" "sizes" "[I", Cond.methodLink RX5 83 yX5_isSale, Cond.instanceMethod yX5_isSale, Cond.selects RX5 yX5_isSale yX5_isSale, Cond.code yX5_isSale cX5_isSale 2 (some .boolean), Cond.fieldLink RX5 80 "BackhaulReturnsModel" "sales" "I", Cond.methodLink RX5 76 yX5_isIn, Cond.static yX5_isIn, Cond.code yX5_isIn cX5_isIn 3 (some .boolean), Cond.methodLink RX5 91 yX5_goes, Cond.instanceMethod yX5_goes, Cond.selects RX5 yX5_goes yX5_goes, Cond.code yX5_goes cX5_goes 2 (some .boolean), Cond.fieldLink RX5 72 "BackhaulReturnsModel" "thrown" "I", Cond.methodLink RX5 107 yX5_isOpen, Cond.instanceMethod yX5_isOpen, Cond.selects RX5 yX5_isOpen yX5_isOpen, Cond.code yX5_isOpen cX5_isOpen 2 (some .boolean)]
def wsX5_lineValue_r2 : List Cond := [Cond.fieldLink RX5 28 "BackhaulReturnsModel" "days" "[I", Cond.methodLink RX5 138 yX5_splits, Cond.instanceMethod yX5_splits, Cond.selects RX5 yX5_splits yX5_splits, Cond.code yX5_splits cX5_splits 8 none, Cond.fieldLink RX5 65 "BackhaulReturnsModel" "remainders" "[J", Cond.methodLink RX5 97 yX5_goods, Cond.instanceMethod yX5_goods, Cond.selects RX5 yX5_goods yX5_goods, Cond.code yX5_goods cX5_goods 4 (some .int), Cond.methodLink RX5 121 yX5_goodsOf, Cond.instanceMethod yX5_goodsOf, Cond.selects RX5 yX5_goodsOf yX5_goodsOf, Cond.code yX5_goodsOf cX5_goodsOf 3 (some .int), Cond.fieldLink RX5 46 "BackhaulReturnsModel" "linePrices" "[I", Cond.fieldLink RX5 49 "BackhaulReturnsModel" "units" "[I", Cond.methodLink RX5 101 yX5_net, Cond.static yX5_net, Cond.code yX5_net cX5_net 3 (some .int), Cond.constantLong RX5 125 (5), Cond.constantLong RX5 127 (10), Cond.constantLong RX5 129 (15), Cond.constantLong RX5 131 (100), Cond.methodLink RX5 135 yX5_next]
def wsX5_lineValue_r3 : List Cond := [Cond.instanceMethod yX5_next, Cond.selects RX5 yX5_next yX5_next, Cond.code yX5_next cX5_next 4 (some .int), Cond.constantLong RX5 133 (-1)]
def wsX5_lineValue : List Cond := .code yX5_lineValue cX5_lineValue 3 (some .int) :: ((wsX5_lineValue_r1 ++ (wsX5_lineValue_r2 ++ wsX5_lineValue_r3)) ++ wsX50)
def wsX5_part : List Cond := .code yX5_part cX5_part 2 (some .int) :: ([])
def wsX5_worth : List Cond := .code yX5_worth cX5_worth 8 (some .int) :: ([.fieldLink RX5 7 "BackhaulReturnsModel" "prices" "[I", .fieldLink RX5 16 "BackhaulReturnsModel" "repairs" "[I", .fieldLink RX5 13 "BackhaulReturnsModel" "salvages" "[I", .constant RX5 142 (-2000000000), .methodLink RX5 143 yX5_part, .static yX5_part, .initialized RX5, .code yX5_part cX5_part 2 (some .int)] ++ wsX50)
def wsX5_best : List Cond := .code yX5_best cX5_best 5 (some .int) :: ([.methodLink RX5 146 yX5_worth, .instanceMethod yX5_worth, .selects RX5 yX5_worth yX5_worth, .initialized RX5, .code yX5_worth cX5_worth 8 (some .int), .fieldLink RX5 7 "BackhaulReturnsModel" "prices" "[I", .fieldLink RX5 16 "BackhaulReturnsModel" "repairs" "[I", .fieldLink RX5 13 "BackhaulReturnsModel" "salvages" "[I", .constant RX5 142 (-2000000000), .methodLink RX5 143 yX5_part, .static yX5_part, .code yX5_part cX5_part 2 (some .int)] ++ wsX50)
def wsX5_asksOption : List Cond := .code yX5_asksOption cX5_asksOption 3 (some .boolean) :: ([.methodLink RX5 87 yX5_isTen, .static yX5_isTen, .initialized RX5, .code yX5_isTen cX5_isTen 1 (some .boolean), .methodLink RX5 76 yX5_isIn, .static yX5_isIn, .code yX5_isIn cX5_isIn 3 (some .boolean), .methodLink RX5 91 yX5_goes, .instanceMethod yX5_goes, .selects RX5 yX5_goes yX5_goes, .code yX5_goes cX5_goes 2 (some .boolean), .fieldLink RX5 72 "BackhaulReturnsModel" "thrown" "I"] ++ wsX50)
def wsX5_bestOption_r1 : List Cond := [Cond.methodLink RX5 149 yX5_asksOption, Cond.instanceMethod yX5_asksOption, Cond.selects RX5 yX5_asksOption yX5_asksOption, Cond.initialized RX5, Cond.code yX5_asksOption cX5_asksOption 3 (some .boolean), Cond.methodLink RX5 87 yX5_isTen, Cond.static yX5_isTen, Cond.code yX5_isTen cX5_isTen 1 (some .boolean), Cond.methodLink RX5 76 yX5_isIn, Cond.static yX5_isIn, Cond.code yX5_isIn cX5_isIn 3 (some .boolean), Cond.methodLink RX5 91 yX5_goes, Cond.instanceMethod yX5_goes, Cond.selects RX5 yX5_goes yX5_goes, Cond.code yX5_goes cX5_goes 2 (some .boolean), Cond.fieldLink RX5 72 "BackhaulReturnsModel" "thrown" "I", Cond.methodLink RX5 152 yX5_best, Cond.instanceMethod yX5_best, Cond.selects RX5 yX5_best yX5_best, Cond.code yX5_best cX5_best 5 (some .int), Cond.methodLink RX5 146 yX5_worth, Cond.instanceMethod yX5_worth, Cond.selects RX5 yX5_worth yX5_worth, Cond.code yX5_worth cX5_worth 8 (some .int)]
def wsX5_bestOption_r2 : List Cond := [Cond.fieldLink RX5 7 "BackhaulReturnsModel" "prices" "[I", Cond.fieldLink RX5 16 "BackhaulReturnsModel" "repairs" "[I", Cond.fieldLink RX5 13 "BackhaulReturnsModel" "salvages" "[I", Cond.constant RX5 142 (-2000000000), Cond.methodLink RX5 143 yX5_part, Cond.static yX5_part, Cond.code yX5_part cX5_part 2 (some .int)]
def wsX5_bestOption : List Cond := .code yX5_bestOption cX5_bestOption 3 (some .int) :: ((wsX5_bestOption_r1 ++ wsX5_bestOption_r2) ++ wsX50)
def wsX5_bestWorth_r1 : List Cond := [Cond.methodLink RX5 149 yX5_asksOption, Cond.instanceMethod yX5_asksOption, Cond.selects RX5 yX5_asksOption yX5_asksOption, Cond.initialized RX5, Cond.code yX5_asksOption cX5_asksOption 3 (some .boolean), Cond.methodLink RX5 87 yX5_isTen, Cond.static yX5_isTen, Cond.code yX5_isTen cX5_isTen 1 (some .boolean), Cond.methodLink RX5 76 yX5_isIn, Cond.static yX5_isIn, Cond.code yX5_isIn cX5_isIn 3 (some .boolean), Cond.methodLink RX5 91 yX5_goes, Cond.instanceMethod yX5_goes, Cond.selects RX5 yX5_goes yX5_goes, Cond.code yX5_goes cX5_goes 2 (some .boolean), Cond.fieldLink RX5 72 "BackhaulReturnsModel" "thrown" "I", Cond.methodLink RX5 152 yX5_best, Cond.instanceMethod yX5_best, Cond.selects RX5 yX5_best yX5_best, Cond.code yX5_best cX5_best 5 (some .int), Cond.methodLink RX5 146 yX5_worth, Cond.instanceMethod yX5_worth, Cond.selects RX5 yX5_worth yX5_worth, Cond.code yX5_worth cX5_worth 8 (some .int)]
def wsX5_bestWorth_r2 : List Cond := [Cond.fieldLink RX5 7 "BackhaulReturnsModel" "prices" "[I", Cond.fieldLink RX5 16 "BackhaulReturnsModel" "repairs" "[I", Cond.fieldLink RX5 13 "BackhaulReturnsModel" "salvages" "[I", Cond.constant RX5 142 (-2000000000), Cond.methodLink RX5 143 yX5_part, Cond.static yX5_part, Cond.code yX5_part cX5_part 2 (some .int)]
def wsX5_bestWorth : List Cond := .code yX5_bestWorth cX5_bestWorth 3 (some .int) :: ((wsX5_bestWorth_r1 ++ wsX5_bestWorth_r2) ++ wsX50)
def wsX5_stock : List Cond := .code yX5_stock cX5_stock 3 (some .int) :: ([.fieldLink RX5 19 "BackhaulReturnsModel" "stock" "[I", .methodLink RX5 87 yX5_isTen, .static yX5_isTen, .initialized RX5, .code yX5_isTen cX5_isTen 1 (some .boolean), .methodLink RX5 76 yX5_isIn, .static yX5_isIn, .code yX5_isIn cX5_isIn 3 (some .boolean), .methodLink RX5 91 yX5_goes, .instanceMethod yX5_goes, .selects RX5 yX5_goes yX5_goes, .code yX5_goes cX5_goes 2 (some .boolean), .fieldLink RX5 72 "BackhaulReturnsModel" "thrown" "I"] ++ wsX50)
def wsX5_test_r1 : List Cond := [Cond.fieldLink RX5 19 "BackhaulReturnsModel" "stock" "[I", Cond.methodLink RX5 87 yX5_isTen, Cond.static yX5_isTen, Cond.initialized RX5, Cond.code yX5_isTen cX5_isTen 1 (some .boolean), Cond.methodLink RX5 76 yX5_isIn, Cond.static yX5_isIn, Cond.code yX5_isIn cX5_isIn 3 (some .boolean), Cond.methodLink RX5 91 yX5_goes, Cond.instanceMethod yX5_goes, Cond.selects RX5 yX5_goes yX5_goes, Cond.code yX5_goes cX5_goes 2 (some .boolean), Cond.fieldLink RX5 72 "BackhaulReturnsModel" "thrown" "I", Cond.methodLink RX5 152 yX5_best, Cond.instanceMethod yX5_best, Cond.selects RX5 yX5_best yX5_best, Cond.code yX5_best cX5_best 5 (some .int), Cond.methodLink RX5 146 yX5_worth, Cond.instanceMethod yX5_worth, Cond.selects RX5 yX5_worth yX5_worth, Cond.code yX5_worth cX5_worth 8 (some .int), Cond.fieldLink RX5 7 "BackhaulReturnsModel" "prices" "[I", Cond.fieldLink RX5 16 "BackhaulReturnsModel" "repairs" "[I", Cond.fieldLink RX5 13 "BackhaulReturnsModel" "salvages" "[I"]
def wsX5_test_r2 : List Cond := [Cond.constant RX5 142 (-2000000000), Cond.methodLink RX5 143 yX5_part, Cond.static yX5_part, Cond.code yX5_part cX5_part 2 (some .int)]
def wsX5_test : List Cond := .code yX5_test cX5_test 4 (some .int) :: ((wsX5_test_r1 ++ wsX5_test_r2) ++ wsX50)
def wsX5_scoreOf : List Cond := .code yX5_scoreOf cX5_scoreOf 6 (some .int) :: ([.fieldLink RX5 155 "BackhaulReturnsModel" "backs" "I", .fieldLink RX5 94 "BackhaulReturnsModel" "day" "I", .fieldLink RX5 55 "BackhaulReturnsModel" "backDays" "[I", .fieldLink RX5 52 "BackhaulReturnsModel" "backCustomers" "[I", .fieldLink RX5 58 "BackhaulReturnsModel" "backUnits" "[I", .fieldLink RX5 61 "BackhaulReturnsModel" "isAgain" "[Z"] ++ wsX50)
def wsX5_score : List Cond := .code yX5_score cX5_score 2 (some .int) :: ([.methodLink RX5 87 yX5_isTen, .static yX5_isTen, .initialized RX5, .code yX5_isTen cX5_isTen 1 (some .boolean), .methodLink RX5 76 yX5_isIn, .static yX5_isIn, .code yX5_isIn cX5_isIn 3 (some .boolean), .methodLink RX5 91 yX5_goes, .instanceMethod yX5_goes, .selects RX5 yX5_goes yX5_goes, .code yX5_goes cX5_goes 2 (some .boolean), .fieldLink RX5 72 "BackhaulReturnsModel" "thrown" "I", .methodLink RX5 158 yX5_scoreOf, .instanceMethod yX5_scoreOf, .selects RX5 yX5_scoreOf yX5_scoreOf, .code yX5_scoreOf cX5_scoreOf 6 (some .int), .fieldLink RX5 155 "BackhaulReturnsModel" "backs" "I", .fieldLink RX5 94 "BackhaulReturnsModel" "day" "I", .fieldLink RX5 55 "BackhaulReturnsModel" "backDays" "[I", .fieldLink RX5 52 "BackhaulReturnsModel" "backCustomers" "[I", .fieldLink RX5 58 "BackhaulReturnsModel" "backUnits" "[I", .fieldLink RX5 61 "BackhaulReturnsModel" "isAgain" "[Z"] ++ wsX50)
def wsX5_age : List Cond := .code yX5_age cX5_age 2 (some .int) :: ([.fieldLink RX5 94 "BackhaulReturnsModel" "day" "I", .fieldLink RX5 28 "BackhaulReturnsModel" "days" "[I", .fieldLink RX5 37 "BackhaulReturnsModel" "firsts" "[I"] ++ wsX50)
def wsX5_wrong_r1 : List Cond := [Cond.fieldLink RX5 49 "BackhaulReturnsModel" "units" "[I", Cond.methodLink RX5 117 yX5_isLine, Cond.instanceMethod yX5_isLine, Cond.selects RX5 yX5_isLine yX5_isLine, Cond.initialized RX5, Cond.code yX5_isLine cX5_isLine 3 (some .boolean), Cond.fieldLink RX5 25 "BackhaulReturnsModel" "sizes" "[I", Cond.methodLink RX5 83 yX5_isSale, Cond.instanceMethod yX5_isSale, Cond.selects RX5 yX5_isSale yX5_isSale, Cond.code yX5_isSale cX5_isSale 2 (some .boolean), Cond.fieldLink RX5 80 "BackhaulReturnsModel" "sales" "I", Cond.methodLink RX5 76 yX5_isIn, Cond.static yX5_isIn, Cond.code yX5_isIn cX5_isIn 3 (some .boolean), Cond.methodLink RX5 107 yX5_isOpen, Cond.instanceMethod yX5_isOpen, Cond.selects RX5 yX5_isOpen yX5_isOpen, Cond.code yX5_isOpen cX5_isOpen 2 (some .boolean), Cond.fieldLink RX5 28 "BackhaulReturnsModel" "days" "[I", Cond.methodLink RX5 161 yX5_age, Cond.instanceMethod yX5_age, Cond.selects RX5 yX5_age yX5_age, Cond.code yX5_age cX5_age 2 (some .int)]
def wsX5_wrong_r2 : List Cond := [Cond.fieldLink RX5 94 "BackhaulReturnsModel" "day" "I", Cond.fieldLink RX5 37 "BackhaulReturnsModel" "firsts" "[I"]
def wsX5_wrong : List Cond := .code yX5_wrong cX5_wrong 5 (some .int) :: ((wsX5_wrong_r1 ++ wsX5_wrong_r2) ++ wsX50)
def wsX5_release : List Cond := .code yX5_release cX5_release 5 (some .int) :: ([.fieldLink RX5 31 "BackhaulReturnsModel" "paid" "[I", .fieldLink RX5 34 "BackhaulReturnsModel" "released" "[I", .fieldLink RX5 46 "BackhaulReturnsModel" "linePrices" "[I", .methodLink RX5 97 yX5_goods, .instanceMethod yX5_goods, .selects RX5 yX5_goods yX5_goods, .initialized RX5, .code yX5_goods cX5_goods 4 (some .int), .fieldLink RX5 25 "BackhaulReturnsModel" "sizes" "[I", .methodLink RX5 121 yX5_goodsOf, .instanceMethod yX5_goodsOf, .selects RX5 yX5_goodsOf yX5_goodsOf, .code yX5_goodsOf cX5_goodsOf 3 (some .int), .fieldLink RX5 49 "BackhaulReturnsModel" "units" "[I", .methodLink RX5 101 yX5_net, .static yX5_net, .code yX5_net cX5_net 3 (some .int), .constantLong RX5 125 (5), .constantLong RX5 127 (10), .constantLong RX5 129 (15), .constantLong RX5 131 (100)] ++ wsX50)
def wsX5_fee : List Cond := .code yX5_fee cX5_fee 5 (some .int) :: ([.constantLong RX5 131 (100), .methodLink RX5 161 yX5_age, .instanceMethod yX5_age, .selects RX5 yX5_age yX5_age, .initialized RX5, .code yX5_age cX5_age 2 (some .int), .fieldLink RX5 94 "BackhaulReturnsModel" "day" "I", .fieldLink RX5 28 "BackhaulReturnsModel" "days" "[I", .fieldLink RX5 37 "BackhaulReturnsModel" "firsts" "[I"] ++ wsX50)
def wsX5_comesBack_r1 : List Cond := [Cond.fieldLink RX5 43 "BackhaulReturnsModel" "products" "[I", Cond.fieldLink RX5 49 "BackhaulReturnsModel" "units" "[I", Cond.fieldLink RX5 34 "BackhaulReturnsModel" "released" "[I", Cond.fieldLink RX5 19 "BackhaulReturnsModel" "stock" "[I", Cond.fieldLink RX5 52 "BackhaulReturnsModel" "backCustomers" "[I", Cond.fieldLink RX5 155 "BackhaulReturnsModel" "backs" "I", Cond.fieldLink RX5 22 "BackhaulReturnsModel" "customers" "[I", Cond.fieldLink RX5 55 "BackhaulReturnsModel" "backDays" "[I", Cond.fieldLink RX5 94 "BackhaulReturnsModel" "day" "I", Cond.fieldLink RX5 58 "BackhaulReturnsModel" "backUnits" "[I", Cond.fieldLink RX5 61 "BackhaulReturnsModel" "isAgain" "[Z", Cond.fieldLink RX5 40 "BackhaulReturnsModel" "depths" "[I", Cond.methodLink RX5 164 yX5_release, Cond.instanceMethod yX5_release, Cond.selects RX5 yX5_release yX5_release, Cond.initialized RX5, Cond.code yX5_release cX5_release 5 (some .int), Cond.fieldLink RX5 31 "BackhaulReturnsModel" "paid" "[I", Cond.fieldLink RX5 46 "BackhaulReturnsModel" "linePrices" "[I", Cond.methodLink RX5 97 yX5_goods, Cond.instanceMethod yX5_goods, Cond.selects RX5 yX5_goods yX5_goods, Cond.code yX5_goods cX5_goods 4 (some .int), Cond.fieldLink RX5 25 "BackhaulReturnsModel" "sizes" "[I"]
def wsX5_comesBack_r2 : List Cond := [Cond.methodLink RX5 121 yX5_goodsOf, Cond.instanceMethod yX5_goodsOf, Cond.selects RX5 yX5_goodsOf yX5_goodsOf, Cond.code yX5_goodsOf cX5_goodsOf 3 (some .int), Cond.methodLink RX5 101 yX5_net, Cond.static yX5_net, Cond.code yX5_net cX5_net 3 (some .int), Cond.constantLong RX5 125 (5), Cond.constantLong RX5 127 (10), Cond.constantLong RX5 129 (15), Cond.constantLong RX5 131 (100), Cond.methodLink RX5 152 yX5_best, Cond.instanceMethod yX5_best, Cond.selects RX5 yX5_best yX5_best, Cond.code yX5_best cX5_best 5 (some .int), Cond.methodLink RX5 146 yX5_worth, Cond.instanceMethod yX5_worth, Cond.selects RX5 yX5_worth yX5_worth, Cond.code yX5_worth cX5_worth 8 (some .int), Cond.fieldLink RX5 7 "BackhaulReturnsModel" "prices" "[I", Cond.fieldLink RX5 16 "BackhaulReturnsModel" "repairs" "[I", Cond.fieldLink RX5 13 "BackhaulReturnsModel" "salvages" "[I", Cond.constant RX5 142 (-2000000000), Cond.methodLink RX5 143 yX5_part]
def wsX5_comesBack_r3 : List Cond := [Cond.static yX5_part, Cond.code yX5_part cX5_part 2 (some .int)]
def wsX5_comesBack : List Cond := .code yX5_comesBack cX5_comesBack 8 (some .int) :: ((wsX5_comesBack_r1 ++ (wsX5_comesBack_r2 ++ wsX5_comesBack_r3)) ++ wsX50)
def wsX5_barred : List Cond := .code yX5_barred cX5_barred 3 (some .int) :: ([.fieldLink RX5 22 "BackhaulReturnsModel" "customers" "[I", .methodLink RX5 158 yX5_scoreOf, .instanceMethod yX5_scoreOf, .selects RX5 yX5_scoreOf yX5_scoreOf, .initialized RX5, .code yX5_scoreOf cX5_scoreOf 6 (some .int), .fieldLink RX5 155 "BackhaulReturnsModel" "backs" "I", .fieldLink RX5 94 "BackhaulReturnsModel" "day" "I", .fieldLink RX5 55 "BackhaulReturnsModel" "backDays" "[I", .fieldLink RX5 52 "BackhaulReturnsModel" "backCustomers" "[I", .fieldLink RX5 58 "BackhaulReturnsModel" "backUnits" "[I", .fieldLink RX5 61 "BackhaulReturnsModel" "isAgain" "[Z"] ++ wsX50)
def wsX5_giveBack_r1 : List Cond := [Cond.fieldLink RX5 181 "BackhaulReturnsModel" "fees" "I", Cond.methodLink RX5 167 yX5_wrong, Cond.instanceMethod yX5_wrong, Cond.selects RX5 yX5_wrong yX5_wrong, Cond.initialized RX5, Cond.code yX5_wrong cX5_wrong 5 (some .int), Cond.fieldLink RX5 49 "BackhaulReturnsModel" "units" "[I", Cond.methodLink RX5 117 yX5_isLine, Cond.instanceMethod yX5_isLine, Cond.selects RX5 yX5_isLine yX5_isLine, Cond.code yX5_isLine cX5_isLine 3 (some .boolean), Cond.fieldLink RX5 25 "BackhaulReturnsModel" "sizes" "[I", Cond.methodLink RX5 83 yX5_isSale, Cond.instanceMethod yX5_isSale, Cond.selects RX5 yX5_isSale yX5_isSale, Cond.code yX5_isSale cX5_isSale 2 (some .boolean), Cond.fieldLink RX5 80 "BackhaulReturnsModel" "sales" "I", Cond.methodLink RX5 76 yX5_isIn, Cond.static yX5_isIn, Cond.code yX5_isIn cX5_isIn 3 (some .boolean), Cond.methodLink RX5 107 yX5_isOpen, Cond.instanceMethod yX5_isOpen, Cond.selects RX5 yX5_isOpen yX5_isOpen, Cond.code yX5_isOpen cX5_isOpen 2 (some .boolean)]
def wsX5_giveBack_r2 : List Cond := [Cond.fieldLink RX5 28 "BackhaulReturnsModel" "days" "[I", Cond.methodLink RX5 161 yX5_age, Cond.instanceMethod yX5_age, Cond.selects RX5 yX5_age yX5_age, Cond.code yX5_age cX5_age 2 (some .int), Cond.fieldLink RX5 94 "BackhaulReturnsModel" "day" "I", Cond.fieldLink RX5 37 "BackhaulReturnsModel" "firsts" "[I", Cond.methodLink RX5 171 yX5_barred, Cond.instanceMethod yX5_barred, Cond.selects RX5 yX5_barred yX5_barred, Cond.code yX5_barred cX5_barred 3 (some .int), Cond.fieldLink RX5 22 "BackhaulReturnsModel" "customers" "[I", Cond.methodLink RX5 158 yX5_scoreOf, Cond.instanceMethod yX5_scoreOf, Cond.selects RX5 yX5_scoreOf yX5_scoreOf, Cond.code yX5_scoreOf cX5_scoreOf 6 (some .int), Cond.fieldLink RX5 155 "BackhaulReturnsModel" "backs" "I", Cond.fieldLink RX5 55 "BackhaulReturnsModel" "backDays" "[I", Cond.fieldLink RX5 52 "BackhaulReturnsModel" "backCustomers" "[I", Cond.fieldLink RX5 58 "BackhaulReturnsModel" "backUnits" "[I", Cond.fieldLink RX5 61 "BackhaulReturnsModel" "isAgain" "[Z", Cond.methodLink RX5 91 yX5_goes, Cond.instanceMethod yX5_goes, Cond.selects RX5 yX5_goes yX5_goes]
def wsX5_giveBack_r3 : List Cond := [Cond.code yX5_goes cX5_goes 2 (some .boolean), Cond.fieldLink RX5 72 "BackhaulReturnsModel" "thrown" "I", Cond.methodLink RX5 174 yX5_comesBack, Cond.instanceMethod yX5_comesBack, Cond.selects RX5 yX5_comesBack yX5_comesBack, Cond.code yX5_comesBack cX5_comesBack 8 (some .int), Cond.fieldLink RX5 43 "BackhaulReturnsModel" "products" "[I", Cond.fieldLink RX5 34 "BackhaulReturnsModel" "released" "[I", Cond.fieldLink RX5 19 "BackhaulReturnsModel" "stock" "[I", Cond.fieldLink RX5 40 "BackhaulReturnsModel" "depths" "[I", Cond.methodLink RX5 164 yX5_release, Cond.instanceMethod yX5_release, Cond.selects RX5 yX5_release yX5_release, Cond.code yX5_release cX5_release 5 (some .int), Cond.fieldLink RX5 31 "BackhaulReturnsModel" "paid" "[I", Cond.fieldLink RX5 46 "BackhaulReturnsModel" "linePrices" "[I", Cond.methodLink RX5 97 yX5_goods, Cond.instanceMethod yX5_goods, Cond.selects RX5 yX5_goods yX5_goods, Cond.code yX5_goods cX5_goods 4 (some .int), Cond.methodLink RX5 121 yX5_goodsOf, Cond.instanceMethod yX5_goodsOf, Cond.selects RX5 yX5_goodsOf yX5_goodsOf, Cond.code yX5_goodsOf cX5_goodsOf 3 (some .int)]
def wsX5_giveBack_r4 : List Cond := [Cond.methodLink RX5 101 yX5_net, Cond.static yX5_net, Cond.code yX5_net cX5_net 3 (some .int), Cond.constantLong RX5 125 (5), Cond.constantLong RX5 127 (10), Cond.constantLong RX5 129 (15), Cond.constantLong RX5 131 (100), Cond.methodLink RX5 152 yX5_best, Cond.instanceMethod yX5_best, Cond.selects RX5 yX5_best yX5_best, Cond.code yX5_best cX5_best 5 (some .int), Cond.methodLink RX5 146 yX5_worth, Cond.instanceMethod yX5_worth, Cond.selects RX5 yX5_worth yX5_worth, Cond.code yX5_worth cX5_worth 8 (some .int), Cond.fieldLink RX5 7 "BackhaulReturnsModel" "prices" "[I", Cond.fieldLink RX5 16 "BackhaulReturnsModel" "repairs" "[I", Cond.fieldLink RX5 13 "BackhaulReturnsModel" "salvages" "[I", Cond.constant RX5 142 (-2000000000), Cond.methodLink RX5 143 yX5_part, Cond.static yX5_part, Cond.code yX5_part cX5_part 2 (some .int), Cond.methodLink RX5 178 yX5_fee, Cond.instanceMethod yX5_fee]
def wsX5_giveBack_r5 : List Cond := [Cond.selects RX5 yX5_fee yX5_fee, Cond.code yX5_fee cX5_fee 5 (some .int)]
def wsX5_giveBack : List Cond := .code yX5_giveBack cX5_giveBack 7 (some .int) :: ((wsX5_giveBack_r1 ++ (wsX5_giveBack_r2 ++ (wsX5_giveBack_r3 ++ (wsX5_giveBack_r4 ++ wsX5_giveBack_r5)))) ++ wsX50)
def wsX5_exchange_r1 : List Cond := [Cond.fieldLink RX5 80 "BackhaulReturnsModel" "sales" "I", Cond.fieldLink RX5 22 "BackhaulReturnsModel" "customers" "[I", Cond.fieldLink RX5 37 "BackhaulReturnsModel" "firsts" "[I", Cond.fieldLink RX5 40 "BackhaulReturnsModel" "depths" "[I", Cond.methodLink RX5 167 yX5_wrong, Cond.instanceMethod yX5_wrong, Cond.selects RX5 yX5_wrong yX5_wrong, Cond.initialized RX5, Cond.code yX5_wrong cX5_wrong 5 (some .int), Cond.fieldLink RX5 49 "BackhaulReturnsModel" "units" "[I", Cond.methodLink RX5 117 yX5_isLine, Cond.instanceMethod yX5_isLine, Cond.selects RX5 yX5_isLine yX5_isLine, Cond.code yX5_isLine cX5_isLine 3 (some .boolean), Cond.fieldLink RX5 25 "BackhaulReturnsModel" "sizes" "[I", Cond.methodLink RX5 83 yX5_isSale, Cond.instanceMethod yX5_isSale, Cond.selects RX5 yX5_isSale yX5_isSale, Cond.code yX5_isSale cX5_isSale 2 (some .boolean), Cond.methodLink RX5 76 yX5_isIn, Cond.static yX5_isIn, Cond.code yX5_isIn cX5_isIn 3 (some .boolean), Cond.methodLink RX5 107 yX5_isOpen, Cond.instanceMethod yX5_isOpen]
def wsX5_exchange_r2 : List Cond := [Cond.selects RX5 yX5_isOpen yX5_isOpen, Cond.code yX5_isOpen cX5_isOpen 2 (some .boolean), Cond.fieldLink RX5 28 "BackhaulReturnsModel" "days" "[I", Cond.methodLink RX5 161 yX5_age, Cond.instanceMethod yX5_age, Cond.selects RX5 yX5_age yX5_age, Cond.code yX5_age cX5_age 2 (some .int), Cond.fieldLink RX5 94 "BackhaulReturnsModel" "day" "I", Cond.methodLink RX5 87 yX5_isTen, Cond.static yX5_isTen, Cond.code yX5_isTen cX5_isTen 1 (some .boolean), Cond.methodLink RX5 171 yX5_barred, Cond.instanceMethod yX5_barred, Cond.selects RX5 yX5_barred yX5_barred, Cond.code yX5_barred cX5_barred 3 (some .int), Cond.methodLink RX5 158 yX5_scoreOf, Cond.instanceMethod yX5_scoreOf, Cond.selects RX5 yX5_scoreOf yX5_scoreOf, Cond.code yX5_scoreOf cX5_scoreOf 6 (some .int), Cond.fieldLink RX5 155 "BackhaulReturnsModel" "backs" "I", Cond.fieldLink RX5 55 "BackhaulReturnsModel" "backDays" "[I", Cond.fieldLink RX5 52 "BackhaulReturnsModel" "backCustomers" "[I", Cond.fieldLink RX5 58 "BackhaulReturnsModel" "backUnits" "[I", Cond.fieldLink RX5 61 "BackhaulReturnsModel" "isAgain" "[Z"]
def wsX5_exchange_r3 : List Cond := [Cond.methodLink RX5 91 yX5_goes, Cond.instanceMethod yX5_goes, Cond.selects RX5 yX5_goes yX5_goes, Cond.code yX5_goes cX5_goes 2 (some .boolean), Cond.fieldLink RX5 72 "BackhaulReturnsModel" "thrown" "I", Cond.methodLink RX5 174 yX5_comesBack, Cond.instanceMethod yX5_comesBack, Cond.selects RX5 yX5_comesBack yX5_comesBack, Cond.code yX5_comesBack cX5_comesBack 8 (some .int), Cond.fieldLink RX5 43 "BackhaulReturnsModel" "products" "[I", Cond.fieldLink RX5 34 "BackhaulReturnsModel" "released" "[I", Cond.fieldLink RX5 19 "BackhaulReturnsModel" "stock" "[I", Cond.methodLink RX5 164 yX5_release, Cond.instanceMethod yX5_release, Cond.selects RX5 yX5_release yX5_release, Cond.code yX5_release cX5_release 5 (some .int), Cond.fieldLink RX5 31 "BackhaulReturnsModel" "paid" "[I", Cond.fieldLink RX5 46 "BackhaulReturnsModel" "linePrices" "[I", Cond.methodLink RX5 97 yX5_goods, Cond.instanceMethod yX5_goods, Cond.selects RX5 yX5_goods yX5_goods, Cond.code yX5_goods cX5_goods 4 (some .int), Cond.methodLink RX5 121 yX5_goodsOf, Cond.instanceMethod yX5_goodsOf]
def wsX5_exchange_r4 : List Cond := [Cond.selects RX5 yX5_goodsOf yX5_goodsOf, Cond.code yX5_goodsOf cX5_goodsOf 3 (some .int), Cond.methodLink RX5 101 yX5_net, Cond.static yX5_net, Cond.code yX5_net cX5_net 3 (some .int), Cond.constantLong RX5 125 (5), Cond.constantLong RX5 127 (10), Cond.constantLong RX5 129 (15), Cond.constantLong RX5 131 (100), Cond.methodLink RX5 152 yX5_best, Cond.instanceMethod yX5_best, Cond.selects RX5 yX5_best yX5_best, Cond.code yX5_best cX5_best 5 (some .int), Cond.methodLink RX5 146 yX5_worth, Cond.instanceMethod yX5_worth, Cond.selects RX5 yX5_worth yX5_worth, Cond.code yX5_worth cX5_worth 8 (some .int), Cond.fieldLink RX5 7 "BackhaulReturnsModel" "prices" "[I", Cond.fieldLink RX5 16 "BackhaulReturnsModel" "repairs" "[I", Cond.fieldLink RX5 13 "BackhaulReturnsModel" "salvages" "[I", Cond.constant RX5 142 (-2000000000), Cond.methodLink RX5 143 yX5_part, Cond.static yX5_part, Cond.code yX5_part cX5_part 2 (some .int)]
def wsX5_exchange_r5 : List Cond := [Cond.methodLink RX5 104 yX5_opens, Cond.instanceMethod yX5_opens, Cond.selects RX5 yX5_opens yX5_opens, Cond.code yX5_opens cX5_opens 2 (some .int), Cond.methodLink RX5 110 yX5_adds, Cond.instanceMethod yX5_adds, Cond.selects RX5 yX5_adds yX5_adds, Cond.code yX5_adds cX5_adds 5 (some .int), Cond.methodLink RX5 114 yX5_pays, Cond.instanceMethod yX5_pays, Cond.selects RX5 yX5_pays yX5_pays, Cond.code yX5_pays cX5_pays 2 (some .int)]
def wsX5_exchange : List Cond := .code yX5_exchange cX5_exchange 10 (some .int) :: ((wsX5_exchange_r1 ++ (wsX5_exchange_r2 ++ (wsX5_exchange_r3 ++ (wsX5_exchange_r4 ++ wsX5_exchange_r5)))) ++ wsX50)
def wsX5_quote_r1 : List Cond := [Cond.methodLink RX5 167 yX5_wrong, Cond.instanceMethod yX5_wrong, Cond.selects RX5 yX5_wrong yX5_wrong, Cond.initialized RX5, Cond.code yX5_wrong cX5_wrong 5 (some .int), Cond.fieldLink RX5 49 "BackhaulReturnsModel" "units" "[I", Cond.methodLink RX5 117 yX5_isLine, Cond.instanceMethod yX5_isLine, Cond.selects RX5 yX5_isLine yX5_isLine, Cond.code yX5_isLine cX5_isLine 3 (some .boolean), Cond.fieldLink RX5 25 "BackhaulReturnsModel" "sizes" "[I", Cond.methodLink RX5 83 yX5_isSale, Cond.instanceMethod yX5_isSale, Cond.selects RX5 yX5_isSale yX5_isSale, Cond.code yX5_isSale cX5_isSale 2 (some .boolean), Cond.fieldLink RX5 80 "BackhaulReturnsModel" "sales" "I", Cond.methodLink RX5 76 yX5_isIn, Cond.static yX5_isIn, Cond.code yX5_isIn cX5_isIn 3 (some .boolean), Cond.methodLink RX5 107 yX5_isOpen, Cond.instanceMethod yX5_isOpen, Cond.selects RX5 yX5_isOpen yX5_isOpen, Cond.code yX5_isOpen cX5_isOpen 2 (some .boolean), Cond.fieldLink RX5 28 "BackhaulReturnsModel" "days" "[I"]
def wsX5_quote_r2 : List Cond := [Cond.methodLink RX5 161 yX5_age, Cond.instanceMethod yX5_age, Cond.selects RX5 yX5_age yX5_age, Cond.code yX5_age cX5_age 2 (some .int), Cond.fieldLink RX5 94 "BackhaulReturnsModel" "day" "I", Cond.fieldLink RX5 37 "BackhaulReturnsModel" "firsts" "[I", Cond.methodLink RX5 91 yX5_goes, Cond.instanceMethod yX5_goes, Cond.selects RX5 yX5_goes yX5_goes, Cond.code yX5_goes cX5_goes 2 (some .boolean), Cond.fieldLink RX5 72 "BackhaulReturnsModel" "thrown" "I", Cond.methodLink RX5 164 yX5_release, Cond.instanceMethod yX5_release, Cond.selects RX5 yX5_release yX5_release, Cond.code yX5_release cX5_release 5 (some .int), Cond.fieldLink RX5 31 "BackhaulReturnsModel" "paid" "[I", Cond.fieldLink RX5 34 "BackhaulReturnsModel" "released" "[I", Cond.fieldLink RX5 46 "BackhaulReturnsModel" "linePrices" "[I", Cond.methodLink RX5 97 yX5_goods, Cond.instanceMethod yX5_goods, Cond.selects RX5 yX5_goods yX5_goods, Cond.code yX5_goods cX5_goods 4 (some .int), Cond.methodLink RX5 121 yX5_goodsOf, Cond.instanceMethod yX5_goodsOf]
def wsX5_quote_r3 : List Cond := [Cond.selects RX5 yX5_goodsOf yX5_goodsOf, Cond.code yX5_goodsOf cX5_goodsOf 3 (some .int), Cond.methodLink RX5 101 yX5_net, Cond.static yX5_net, Cond.code yX5_net cX5_net 3 (some .int), Cond.constantLong RX5 125 (5), Cond.constantLong RX5 127 (10), Cond.constantLong RX5 129 (15), Cond.constantLong RX5 131 (100), Cond.methodLink RX5 178 yX5_fee, Cond.instanceMethod yX5_fee, Cond.selects RX5 yX5_fee yX5_fee, Cond.code yX5_fee cX5_fee 5 (some .int)]
def wsX5_quote : List Cond := .code yX5_quote cX5_quote 6 (some .int) :: ((wsX5_quote_r1 ++ (wsX5_quote_r2 ++ wsX5_quote_r3)) ++ wsX50)
def wsX5_released : List Cond := .code yX5_released cX5_released 2 (some .int) :: ([.fieldLink RX5 34 "BackhaulReturnsModel" "released" "[I", .methodLink RX5 83 yX5_isSale, .instanceMethod yX5_isSale, .selects RX5 yX5_isSale yX5_isSale, .initialized RX5, .code yX5_isSale cX5_isSale 2 (some .boolean), .fieldLink RX5 80 "BackhaulReturnsModel" "sales" "I", .methodLink RX5 76 yX5_isIn, .static yX5_isIn, .code yX5_isIn cX5_isIn 3 (some .boolean), .methodLink RX5 91 yX5_goes, .instanceMethod yX5_goes, .selects RX5 yX5_goes yX5_goes, .code yX5_goes cX5_goes 2 (some .boolean), .fieldLink RX5 72 "BackhaulReturnsModel" "thrown" "I"] ++ wsX50)
def wsX5_fees : List Cond := .code yX5_fees cX5_fees 1 (some .int) :: ([.fieldLink RX5 72 "BackhaulReturnsModel" "thrown" "I", .fieldLink RX5 181 "BackhaulReturnsModel" "fees" "I"] ++ wsX50)
def wsX5_firstSale : List Cond := .code yX5_firstSale cX5_firstSale 2 (some .int) :: ([.fieldLink RX5 37 "BackhaulReturnsModel" "firsts" "[I", .methodLink RX5 83 yX5_isSale, .instanceMethod yX5_isSale, .selects RX5 yX5_isSale yX5_isSale, .initialized RX5, .code yX5_isSale cX5_isSale 2 (some .boolean), .fieldLink RX5 80 "BackhaulReturnsModel" "sales" "I", .methodLink RX5 76 yX5_isIn, .static yX5_isIn, .code yX5_isIn cX5_isIn 3 (some .boolean), .methodLink RX5 91 yX5_goes, .instanceMethod yX5_goes, .selects RX5 yX5_goes yX5_goes, .code yX5_goes cX5_goes 2 (some .boolean), .fieldLink RX5 72 "BackhaulReturnsModel" "thrown" "I"] ++ wsX50)
def wsX5_exchanges : List Cond := .code yX5_exchanges cX5_exchanges 2 (some .int) :: ([.fieldLink RX5 40 "BackhaulReturnsModel" "depths" "[I", .methodLink RX5 83 yX5_isSale, .instanceMethod yX5_isSale, .selects RX5 yX5_isSale yX5_isSale, .initialized RX5, .code yX5_isSale cX5_isSale 2 (some .boolean), .fieldLink RX5 80 "BackhaulReturnsModel" "sales" "I", .methodLink RX5 76 yX5_isIn, .static yX5_isIn, .code yX5_isIn cX5_isIn 3 (some .boolean), .methodLink RX5 91 yX5_goes, .instanceMethod yX5_goes, .selects RX5 yX5_goes yX5_goes, .code yX5_goes cX5_goes 2 (some .boolean), .fieldLink RX5 72 "BackhaulReturnsModel" "thrown" "I"] ++ wsX50)
def wsJ9_max_7cf53 : List Cond := .code yJ9_max_7cf53 cJ9_max_7cf53 2 (some .int) :: ([])
def wsL_setProduct : List Cond := .codeWith yL_setProduct cL_setProduct 7 (some .int) [(0, 14, 17, 13)] :: ([.classLink RL 13 "java/lang/IllegalArgumentException", .methodLink RL 7 yX4_setProduct, .instanceMethod yX4_setProduct, .selects RX4 yX4_setProduct yX4_setProduct, .initialized RX4, .code yX4_setProduct cX4_setProduct 7 (some .int), .classLink RX4 38 "java/lang/IllegalArgumentException", .initialized "java/lang/IllegalArgumentException", .constant RX4 33 (100000), .fieldLink RX4 45 "BackhaulReturns$Product" "unitPrice" "I", .fieldLink RX4 49 "BackhaulReturns$Product" "salvageValue" "I", .fieldLink RX4 52 "BackhaulReturns$Product" "repairCost" "I", .methodLink RX4 29 yX4_productAt, .instanceMethod yX4_productAt, .selects RX4 yX4_productAt yX4_productAt, .code yX4_productAt cX4_productAt 2 (some (.object "BackhaulReturns$Product")), .fieldLink RX4 11 "BackhaulReturns" "catalog" "[LBackhaulReturns$Product;", .methodLink RX4 34 yX4_isCost, .static yX4_isCost, .code yX4_isCost cX4_isCost 1 (some .boolean)] ++ wsX20 ++ wsX40 ++ (vx_atS RX4 42 "java/lang/IllegalArgumentException" ["java/lang/RuntimeException", "java/lang/Exception"]).filter goodWord)
def wsL_pass : List Cond := .codeWith yL_pass cL_pass 4 (some .int) [(0, 9, 12, 13), (0, 9, 15, 19)] :: ([.classLink RL 13 "java/lang/IllegalArgumentException", .classLink RL 19 "java/lang/IllegalStateException", .methodLink RL 15 yX4_pass, .instanceMethod yX4_pass, .selects RX4 yX4_pass yX4_pass, .initialized RX4, .code yX4_pass cX4_pass 2 (some .int), .classLink RX4 38 "java/lang/IllegalArgumentException", .initialized "java/lang/IllegalArgumentException", .classLink RX4 60 "java/lang/IllegalStateException", .initialized "java/lang/IllegalStateException", .fieldLink RX4 57 "BackhaulReturns" "today" "I", .constant RX4 33 (100000)] ++ wsX40 ++ (vx_atS RX4 42 "java/lang/IllegalArgumentException" ["java/lang/RuntimeException", "java/lang/Exception"]).filter goodWord ++ (vx_atS RX4 64 "java/lang/IllegalStateException" ["java/lang/RuntimeException", "java/lang/Exception"]).filter goodWord)
def wsL_open_r1 : List Cond := [Cond.classLink RL 13 "java/lang/IllegalArgumentException", Cond.classLink RL 19 "java/lang/IllegalStateException", Cond.methodLink RL 21 yX4_open, Cond.instanceMethod yX4_open, Cond.selects RX4 yX4_open yX4_open, Cond.initialized RX4, Cond.code yX4_open cX4_open 3 (some .int), Cond.classLink RX4 38 "java/lang/IllegalArgumentException", Cond.initialized "java/lang/IllegalArgumentException", Cond.classLink RX4 60 "java/lang/IllegalStateException", Cond.initialized "java/lang/IllegalStateException", Cond.classLink RX4 23 RX3, Cond.instantiable RX3 9, Cond.initialized RX3, Cond.fieldLink RX4 77 "BackhaulReturns" "saleCount" "I", Cond.methodLink RX4 65 yX4_customerAt, Cond.instanceMethod yX4_customerAt, Cond.selects RX4 yX4_customerAt yX4_customerAt, Cond.code yX4_customerAt cX4_customerAt 2 (some (.object "BackhaulReturns$Customer")), Cond.fieldLink RX4 18 "BackhaulReturns" "people" "[LBackhaulReturns$Customer;", Cond.methodLink RX4 71 yX4_isRegisterFull, Cond.instanceMethod yX4_isRegisterFull, Cond.selects RX4 yX4_isRegisterFull yX4_isRegisterFull, Cond.code yX4_isRegisterFull cX4_isRegisterFull 1 (some .boolean)]
def wsL_open_r2 : List Cond := [Cond.fieldLink RX4 25 "BackhaulReturns" "register" "[LBackhaulReturns$Sale;", Cond.methodLink RX4 80 yX3_init, Cond.instanceMethod yX3_init, Cond.code yX3_init cX3_init 4 none, Cond.methodLink RX3 3 objectInit, Cond.instanceMethod objectInit, Cond.code objectInit ⟨#[0xb1]⟩ 1 none, Cond.classLink RX3 9 RX1, Cond.fieldLink RX3 11 "BackhaulReturns$Sale" "lines" "[LBackhaulReturns$Line;", Cond.fieldLink RX3 17 "BackhaulReturns$Sale" "buyer" "LBackhaulReturns$Customer;", Cond.fieldLink RX3 21 "BackhaulReturns$Sale" "firstNumber" "I", Cond.fieldLink RX3 25 "BackhaulReturns$Sale" "depth" "I", Cond.methodLink RX4 83 yX4_enter, Cond.instanceMethod yX4_enter, Cond.selects RX4 yX4_enter yX4_enter, Cond.code yX4_enter cX4_enter 3 (some .int)]
def wsL_open : List Cond := .codeWith yL_open cL_open 4 (some .int) [(0, 9, 12, 13), (0, 9, 15, 19)] :: ((wsL_open_r1 ++ wsL_open_r2) ++ wsX30 ++ wsX40 ++ (vx_atS RX4 42 "java/lang/IllegalArgumentException" ["java/lang/RuntimeException", "java/lang/Exception"]).filter goodWord ++ (vx_atS RX4 64 "java/lang/IllegalStateException" ["java/lang/RuntimeException", "java/lang/Exception"]).filter goodWord)
def wsL_add_r1 : List Cond := [Cond.classLink RL 28 "java/lang/IndexOutOfBoundsException", Cond.classLink RL 13 "java/lang/IllegalArgumentException", Cond.classLink RL 19 "java/lang/IllegalStateException", Cond.methodLink RL 24 yX4_add, Cond.instanceMethod yX4_add, Cond.selects RX4 yX4_add yX4_add, Cond.initialized RX4, Cond.code yX4_add cX4_add 6 (some .int), Cond.classLink RX4 38 "java/lang/IllegalArgumentException", Cond.initialized "java/lang/IllegalArgumentException", Cond.classLink RX4 60 "java/lang/IllegalStateException", Cond.initialized "java/lang/IllegalStateException", Cond.fieldLink RX4 96 "BackhaulReturns$Sale" "isPaid" "Z", Cond.fieldLink RX4 100 "BackhaulReturns$Sale" "lineCount" "I", Cond.classLink RX4 105 RX1, Cond.instantiable RX1 4, Cond.initialized RX1, Cond.methodLink RX4 87 yX4_existingSale, Cond.instanceMethod yX4_existingSale, Cond.selects RX4 yX4_existingSale yX4_existingSale, Cond.code yX4_existingSale cX4_existingSale 3 (some (.object "BackhaulReturns$Sale")), Cond.classLink RX4 142 "java/lang/IndexOutOfBoundsException", Cond.initialized "java/lang/IndexOutOfBoundsException", Cond.methodLink RX4 224 yX4_saleAt]
def wsL_add_r2 : List Cond := [Cond.instanceMethod yX4_saleAt, Cond.selects RX4 yX4_saleAt yX4_saleAt, Cond.code yX4_saleAt cX4_saleAt 2 (some (.object "BackhaulReturns$Sale")), Cond.fieldLink RX4 25 "BackhaulReturns" "register" "[LBackhaulReturns$Sale;", Cond.methodLink RX4 29 yX4_productAt, Cond.instanceMethod yX4_productAt, Cond.selects RX4 yX4_productAt yX4_productAt, Cond.code yX4_productAt cX4_productAt 2 (some (.object "BackhaulReturns$Product")), Cond.fieldLink RX4 11 "BackhaulReturns" "catalog" "[LBackhaulReturns$Product;", Cond.methodLink RX4 91 yX4_isUnits, Cond.static yX4_isUnits, Cond.code yX4_isUnits cX4_isUnits 1 (some .boolean), Cond.methodLink RX4 107 yX1_init, Cond.instanceMethod yX1_init, Cond.code yX1_init cX1_init 3 none, Cond.methodLink RX1 1 objectInit, Cond.instanceMethod objectInit, Cond.code objectInit ⟨#[0xb1]⟩ 1 none, Cond.fieldLink RX1 7 "BackhaulReturns$Line" "product" "LBackhaulReturns$Product;", Cond.fieldLink RX1 13 "BackhaulReturns$Line" "quantity" "I", Cond.fieldLink RX1 17 "BackhaulReturns$Product" "unitPrice" "I", Cond.fieldLink RX1 22 "BackhaulReturns$Line" "linePrice" "I", Cond.methodLink RX4 110 yX3_append, Cond.instanceMethod yX3_append]
def wsL_add_r3 : List Cond := [Cond.selects RX3 yX3_append yX3_append, Cond.initialized RX3, Cond.code yX3_append cX3_append 3 (some .int), Cond.fieldLink RX3 28 "BackhaulReturns$Sale" "lineCount" "I", Cond.fieldLink RX3 11 "BackhaulReturns$Sale" "lines" "[LBackhaulReturns$Line;"]
def wsL_add : List Cond := .codeWith yL_add cL_add 6 (some .int) [(0, 12, 15, 28), (0, 12, 19, 13), (0, 12, 23, 19)] :: ((wsL_add_r1 ++ (wsL_add_r2 ++ wsL_add_r3)) ++ wsX30 ++ wsX10 ++ wsX40 ++ wsX20 ++ (vx_atS RX4 42 "java/lang/IllegalArgumentException" ["java/lang/RuntimeException", "java/lang/Exception"]).filter goodWord ++ (vx_atS RX4 64 "java/lang/IllegalStateException" ["java/lang/RuntimeException", "java/lang/Exception"]).filter goodWord ++ (vx_atS RX4 146 "java/lang/IndexOutOfBoundsException" ["java/lang/RuntimeException", "java/lang/Exception"]).filter goodWord)
def wsL_pay_r1 : List Cond := [Cond.classLink RL 28 "java/lang/IndexOutOfBoundsException", Cond.classLink RL 19 "java/lang/IllegalStateException", Cond.methodLink RL 30 yX4_pay, Cond.instanceMethod yX4_pay, Cond.selects RX4 yX4_pay yX4_pay, Cond.initialized RX4, Cond.code yX4_pay cX4_pay 3 (some .int), Cond.classLink RX4 60 "java/lang/IllegalStateException", Cond.initialized "java/lang/IllegalStateException", Cond.fieldLink RX4 96 "BackhaulReturns$Sale" "isPaid" "Z", Cond.fieldLink RX4 100 "BackhaulReturns$Sale" "lineCount" "I", Cond.fieldLink RX4 57 "BackhaulReturns" "today" "I", Cond.fieldLink RX4 120 "BackhaulReturns$Sale" "amountPaid" "I", Cond.methodLink RX4 87 yX4_existingSale, Cond.instanceMethod yX4_existingSale, Cond.selects RX4 yX4_existingSale yX4_existingSale, Cond.code yX4_existingSale cX4_existingSale 3 (some (.object "BackhaulReturns$Sale")), Cond.classLink RX4 142 "java/lang/IndexOutOfBoundsException", Cond.initialized "java/lang/IndexOutOfBoundsException", Cond.methodLink RX4 224 yX4_saleAt, Cond.instanceMethod yX4_saleAt, Cond.selects RX4 yX4_saleAt yX4_saleAt, Cond.code yX4_saleAt cX4_saleAt 2 (some (.object "BackhaulReturns$Sale")), Cond.fieldLink RX4 25 "BackhaulReturns" "register" "[LBackhaulReturns$Sale;"]
def wsL_pay_r2 : List Cond := [Cond.methodLink RX4 116 yX3_settle, Cond.instanceMethod yX3_settle, Cond.selects RX3 yX3_settle yX3_settle, Cond.initialized RX3, Cond.code yX3_settle cX3_settle 6 none, Cond.fieldLink RX3 11 "BackhaulReturns$Sale" "lines" "[LBackhaulReturns$Line;", Cond.fieldLink RX3 31 "BackhaulReturns$Line" "quantity" "I", Cond.fieldLink RX3 34 "BackhaulReturns$Line" "keptUnits" "I", Cond.fieldLink RX3 37 "BackhaulReturns$Sale" "isPaid" "Z", Cond.fieldLink RX3 41 "BackhaulReturns$Sale" "firstPaidDay" "I", Cond.fieldLink RX3 52 "BackhaulReturns$Sale" "amountPaid" "I", Cond.methodLink RX3 44 yX3_keptGoods, Cond.instanceMethod yX3_keptGoods, Cond.selects RX3 yX3_keptGoods yX3_keptGoods, Cond.code yX3_keptGoods cX3_keptGoods 6 (some .int), Cond.methodLink RX3 55 yX1_goodsOf, Cond.instanceMethod yX1_goodsOf, Cond.selects RX1 yX1_goodsOf yX1_goodsOf, Cond.initialized RX1, Cond.code yX1_goodsOf cX1_goodsOf 2 (some .int), Cond.fieldLink RX1 22 "BackhaulReturns$Line" "linePrice" "I", Cond.static yX4_netOf, Cond.code yX4_netOf cX4_netOf 1 (some .int), Cond.methodLink RX4 237 yX4_discountPercent]
def wsL_pay_r3 : List Cond := [Cond.static yX4_discountPercent, Cond.code yX4_discountPercent cX4_discountPercent 1 (some .int)]
def wsL_pay : List Cond := .codeWith yL_pay cL_pay 4 (some .int) [(0, 9, 12, 28), (0, 9, 15, 19)] :: ((wsL_pay_r1 ++ (wsL_pay_r2 ++ wsL_pay_r3)) ++ wsX30 ++ wsX40 ++ wsX10 ++ (vx_atS RX4 64 "java/lang/IllegalStateException" ["java/lang/RuntimeException", "java/lang/Exception"]).filter goodWord ++ (vx_atS RX4 146 "java/lang/IndexOutOfBoundsException" ["java/lang/RuntimeException", "java/lang/Exception"]).filter goodWord)
def wsL_paid : List Cond := .codeWith yL_paid cL_paid 4 (some .int) [(0, 9, 12, 28)] :: ([.classLink RL 28 "java/lang/IndexOutOfBoundsException", .methodLink RL 33 yX4_paid, .instanceMethod yX4_paid, .selects RX4 yX4_paid yX4_paid, .initialized RX4, .code yX4_paid cX4_paid 2 (some .int), .fieldLink RX4 120 "BackhaulReturns$Sale" "amountPaid" "I", .methodLink RX4 87 yX4_existingSale, .instanceMethod yX4_existingSale, .selects RX4 yX4_existingSale yX4_existingSale, .code yX4_existingSale cX4_existingSale 3 (some (.object "BackhaulReturns$Sale")), .classLink RX4 142 "java/lang/IndexOutOfBoundsException", .initialized "java/lang/IndexOutOfBoundsException", .methodLink RX4 224 yX4_saleAt, .instanceMethod yX4_saleAt, .selects RX4 yX4_saleAt yX4_saleAt, .code yX4_saleAt cX4_saleAt 2 (some (.object "BackhaulReturns$Sale")), .fieldLink RX4 25 "BackhaulReturns" "register" "[LBackhaulReturns$Sale;"] ++ wsX30 ++ wsX40 ++ (vx_atS RX4 146 "java/lang/IndexOutOfBoundsException" ["java/lang/RuntimeException", "java/lang/Exception"]).filter goodWord)
def wsL_kept_r1 : List Cond := [Cond.classLink RL 28 "java/lang/IndexOutOfBoundsException", Cond.methodLink RL 36 yX4_kept, Cond.instanceMethod yX4_kept, Cond.selects RX4 yX4_kept yX4_kept, Cond.initialized RX4, Cond.code yX4_kept cX4_kept 3 (some .int), Cond.fieldLink RX4 127 "BackhaulReturns$Line" "keptUnits" "I", Cond.methodLink RX4 123 yX4_existingLine, Cond.instanceMethod yX4_existingLine, Cond.selects RX4 yX4_existingLine yX4_existingLine, Cond.code yX4_existingLine cX4_existingLine 4 (some (.object "BackhaulReturns$Line")), Cond.classLink RX4 142 "java/lang/IndexOutOfBoundsException", Cond.initialized "java/lang/IndexOutOfBoundsException", Cond.methodLink RX4 87 yX4_existingSale, Cond.instanceMethod yX4_existingSale, Cond.selects RX4 yX4_existingSale yX4_existingSale, Cond.code yX4_existingSale cX4_existingSale 3 (some (.object "BackhaulReturns$Sale")), Cond.methodLink RX4 224 yX4_saleAt, Cond.instanceMethod yX4_saleAt, Cond.selects RX4 yX4_saleAt yX4_saleAt, Cond.code yX4_saleAt cX4_saleAt 2 (some (.object "BackhaulReturns$Sale")), Cond.fieldLink RX4 25 "BackhaulReturns" "register" "[LBackhaulReturns$Sale;", Cond.methodLink RX4 138 yX3_lineAt, Cond.instanceMethod yX3_lineAt]
def wsL_kept_r2 : List Cond := [Cond.selects RX3 yX3_lineAt yX3_lineAt, Cond.initialized RX3, Cond.code yX3_lineAt cX3_lineAt 2 (some (.object "BackhaulReturns$Line")), Cond.fieldLink RX3 11 "BackhaulReturns$Sale" "lines" "[LBackhaulReturns$Line;"]
def wsL_kept : List Cond := .codeWith yL_kept cL_kept 5 (some .int) [(0, 10, 13, 28)] :: ((wsL_kept_r1 ++ wsL_kept_r2) ++ wsX10 ++ wsX40 ++ wsX30 ++ (vx_atS RX4 146 "java/lang/IndexOutOfBoundsException" ["java/lang/RuntimeException", "java/lang/Exception"]).filter goodWord)
def wsL_keptValue_r1 : List Cond := [Cond.classLink RL 28 "java/lang/IndexOutOfBoundsException", Cond.methodLink RL 40 yX4_keptValue, Cond.instanceMethod yX4_keptValue, Cond.selects RX4 yX4_keptValue yX4_keptValue, Cond.initialized RX4, Cond.code yX4_keptValue cX4_keptValue 2 (some .int), Cond.methodLink RX4 87 yX4_existingSale, Cond.instanceMethod yX4_existingSale, Cond.selects RX4 yX4_existingSale yX4_existingSale, Cond.code yX4_existingSale cX4_existingSale 3 (some (.object "BackhaulReturns$Sale")), Cond.classLink RX4 142 "java/lang/IndexOutOfBoundsException", Cond.initialized "java/lang/IndexOutOfBoundsException", Cond.methodLink RX4 224 yX4_saleAt, Cond.instanceMethod yX4_saleAt, Cond.selects RX4 yX4_saleAt yX4_saleAt, Cond.code yX4_saleAt cX4_saleAt 2 (some (.object "BackhaulReturns$Sale")), Cond.fieldLink RX4 25 "BackhaulReturns" "register" "[LBackhaulReturns$Sale;", Cond.methodLink RX4 130 yX3_keptGoods, Cond.instanceMethod yX3_keptGoods, Cond.selects RX3 yX3_keptGoods yX3_keptGoods, Cond.initialized RX3, Cond.code yX3_keptGoods cX3_keptGoods 6 (some .int), Cond.fieldLink RX3 11 "BackhaulReturns$Sale" "lines" "[LBackhaulReturns$Line;", Cond.fieldLink RX3 34 "BackhaulReturns$Line" "keptUnits" "I"]
def wsL_keptValue_r2 : List Cond := [Cond.methodLink RX3 55 yX1_goodsOf, Cond.instanceMethod yX1_goodsOf, Cond.selects RX1 yX1_goodsOf yX1_goodsOf, Cond.initialized RX1, Cond.code yX1_goodsOf cX1_goodsOf 2 (some .int), Cond.fieldLink RX1 22 "BackhaulReturns$Line" "linePrice" "I", Cond.methodLink RX4 134 yX4_netOf, Cond.static yX4_netOf, Cond.code yX4_netOf cX4_netOf 1 (some .int), Cond.methodLink RX4 237 yX4_discountPercent, Cond.static yX4_discountPercent, Cond.code yX4_discountPercent cX4_discountPercent 1 (some .int)]
def wsL_keptValue : List Cond := .codeWith yL_keptValue cL_keptValue 4 (some .int) [(0, 9, 12, 28)] :: ((wsL_keptValue_r1 ++ wsL_keptValue_r2) ++ wsX40 ++ wsX30 ++ wsX10 ++ (vx_atS RX4 146 "java/lang/IndexOutOfBoundsException" ["java/lang/RuntimeException", "java/lang/Exception"]).filter goodWord)
def wsL_lineValue_r1 : List Cond := [Cond.classLink RL 28 "java/lang/IndexOutOfBoundsException", Cond.methodLink RL 43 yX4_lineValue, Cond.instanceMethod yX4_lineValue, Cond.selects RX4 yX4_lineValue yX4_lineValue, Cond.initialized RX4, Cond.code yX4_lineValue cX4_lineValue 4 (some .int), Cond.classLink RX4 142 "java/lang/IndexOutOfBoundsException", Cond.initialized "java/lang/IndexOutOfBoundsException", Cond.methodLink RX4 87 yX4_existingSale, Cond.instanceMethod yX4_existingSale, Cond.selects RX4 yX4_existingSale yX4_existingSale, Cond.code yX4_existingSale cX4_existingSale 3 (some (.object "BackhaulReturns$Sale")), Cond.methodLink RX4 224 yX4_saleAt, Cond.instanceMethod yX4_saleAt, Cond.selects RX4 yX4_saleAt yX4_saleAt, Cond.code yX4_saleAt cX4_saleAt 2 (some (.object "BackhaulReturns$Sale")), Cond.fieldLink RX4 25 "BackhaulReturns" "register" "[LBackhaulReturns$Sale;", Cond.methodLink RX4 138 yX3_lineAt, Cond.instanceMethod yX3_lineAt, Cond.selects RX3 yX3_lineAt yX3_lineAt, Cond.initialized RX3, Cond.code yX3_lineAt cX3_lineAt 2 (some (.object "BackhaulReturns$Line")), Cond.fieldLink RX3 11 "BackhaulReturns$Sale" "lines" "[LBackhaulReturns$Line;", Cond.methodLink RX4 147 yX3_shareOf]
def wsL_lineValue_r2 : List Cond := [Cond.instanceMethod yX3_shareOf, Cond.selects RX3 yX3_shareOf yX3_shareOf, Cond.code yX3_shareOf cX3_shareOf 6 (some .int), Cond.methodLink RX3 44 yX3_keptGoods, Cond.instanceMethod yX3_keptGoods, Cond.selects RX3 yX3_keptGoods yX3_keptGoods, Cond.code yX3_keptGoods cX3_keptGoods 6 (some .int), Cond.fieldLink RX3 34 "BackhaulReturns$Line" "keptUnits" "I", Cond.methodLink RX3 55 yX1_goodsOf, Cond.instanceMethod yX1_goodsOf, Cond.selects RX1 yX1_goodsOf yX1_goodsOf, Cond.initialized RX1, Cond.code yX1_goodsOf cX1_goodsOf 2 (some .int), Cond.fieldLink RX1 22 "BackhaulReturns$Line" "linePrice" "I", Cond.static yX4_netOf, Cond.code yX4_netOf cX4_netOf 1 (some .int), Cond.methodLink RX4 237 yX4_discountPercent, Cond.static yX4_discountPercent, Cond.code yX4_discountPercent cX4_discountPercent 1 (some .int), Cond.methodLink RX3 67 yX3_wholeShare, Cond.instanceMethod yX3_wholeShare, Cond.selects RX3 yX3_wholeShare yX3_wholeShare, Cond.code yX3_wholeShare cX3_wholeShare 5 (some .int), Cond.methodLink RX3 74 yX3_lineAt]
def wsL_lineValue_r3 : List Cond := [Cond.methodLink RX3 71 yX3_linesAhead, Cond.instanceMethod yX3_linesAhead, Cond.selects RX3 yX3_linesAhead yX3_linesAhead, Cond.code yX3_linesAhead cX3_linesAhead 10 (some .int), Cond.methodLink RX3 80 yX3_remainder, Cond.instanceMethod yX3_remainder, Cond.selects RX3 yX3_remainder yX3_remainder, Cond.code yX3_remainder cX3_remainder 5 (some .long), Cond.constantLong RX3 78 (-1)]
def wsL_lineValue : List Cond := .codeWith yL_lineValue cL_lineValue 5 (some .int) [(0, 10, 13, 28)] :: ((wsL_lineValue_r1 ++ (wsL_lineValue_r2 ++ wsL_lineValue_r3)) ++ wsX40 ++ wsX30 ++ wsX10 ++ (vx_atS RX4 146 "java/lang/IndexOutOfBoundsException" ["java/lang/RuntimeException", "java/lang/Exception"]).filter goodWord)
def wsL_giveBack_r1 : List Cond := [Cond.classLink RL 28 "java/lang/IndexOutOfBoundsException", Cond.classLink RL 13 "java/lang/IllegalArgumentException", Cond.classLink RL 19 "java/lang/IllegalStateException", Cond.methodLink RL 46 yX4_giveBack, Cond.instanceMethod yX4_giveBack, Cond.selects RX4 yX4_giveBack yX4_giveBack, Cond.initialized RX4, Cond.code yX4_giveBack cX4_giveBack 9 (some .int), Cond.classLink RX4 38 "java/lang/IllegalArgumentException", Cond.initialized "java/lang/IllegalArgumentException", Cond.classLink RX4 60 "java/lang/IllegalStateException", Cond.initialized "java/lang/IllegalStateException", Cond.fieldLink RX4 159 "BackhaulReturns$Sale" "buyer" "LBackhaulReturns$Customer;", Cond.fieldLink RX4 180 "BackhaulReturns" "feeSum" "I", Cond.methodLink RX4 123 yX4_existingLine, Cond.instanceMethod yX4_existingLine, Cond.selects RX4 yX4_existingLine yX4_existingLine, Cond.code yX4_existingLine cX4_existingLine 4 (some (.object "BackhaulReturns$Line")), Cond.classLink RX4 142 "java/lang/IndexOutOfBoundsException", Cond.initialized "java/lang/IndexOutOfBoundsException", Cond.methodLink RX4 87 yX4_existingSale, Cond.instanceMethod yX4_existingSale, Cond.selects RX4 yX4_existingSale yX4_existingSale, Cond.code yX4_existingSale cX4_existingSale 3 (some (.object "BackhaulReturns$Sale"))]
def wsL_giveBack_r2 : List Cond := [Cond.methodLink RX4 224 yX4_saleAt, Cond.instanceMethod yX4_saleAt, Cond.selects RX4 yX4_saleAt yX4_saleAt, Cond.code yX4_saleAt cX4_saleAt 2 (some (.object "BackhaulReturns$Sale")), Cond.fieldLink RX4 25 "BackhaulReturns" "register" "[LBackhaulReturns$Sale;", Cond.methodLink RX4 138 yX3_lineAt, Cond.instanceMethod yX3_lineAt, Cond.selects RX3 yX3_lineAt yX3_lineAt, Cond.initialized RX3, Cond.code yX3_lineAt cX3_lineAt 2 (some (.object "BackhaulReturns$Line")), Cond.fieldLink RX3 11 "BackhaulReturns$Sale" "lines" "[LBackhaulReturns$Line;", Cond.methodLink RX4 91 yX4_isUnits, Cond.static yX4_isUnits, Cond.code yX4_isUnits cX4_isUnits 1 (some .boolean), Cond.methodLink RX4 150 yX4_isCondition, Cond.static yX4_isCondition, Cond.code yX4_isCondition cX4_isCondition 1 (some .boolean), Cond.methodLink RX4 155 yX4_canComeBack, Cond.instanceMethod yX4_canComeBack, Cond.selects RX4 yX4_canComeBack yX4_canComeBack, Cond.code yX4_canComeBack cX4_canComeBack 4 (some .boolean), Cond.fieldLink RX4 96 "BackhaulReturns$Sale" "isPaid" "Z", Cond.fieldLink RX4 127 "BackhaulReturns$Line" "keptUnits" "I", Cond.methodLink RX4 173 yX4_ageOf]
def wsL_giveBack_r3 : List Cond := [Cond.instanceMethod yX4_ageOf, Cond.selects RX4 yX4_ageOf yX4_ageOf, Cond.code yX4_ageOf cX4_ageOf 2 (some .int), Cond.fieldLink RX4 57 "BackhaulReturns" "today" "I", Cond.fieldLink RX4 193 "BackhaulReturns$Sale" "firstPaidDay" "I", Cond.methodLink RX4 163 yX4_isBlocked, Cond.instanceMethod yX4_isBlocked, Cond.selects RX4 yX4_isBlocked yX4_isBlocked, Cond.code yX4_isBlocked cX4_isBlocked 2 (some .boolean), Cond.methodLink RX4 221 yX0_scoreOn, Cond.instanceMethod yX0_scoreOn, Cond.selects RX0 yX0_scoreOn yX0_scoreOn, Cond.initialized RX0, Cond.code yX0_scoreOn cX0_scoreOn 5 (some .int), Cond.fieldLink RX0 22 "BackhaulReturns$Customer" "count" "I", Cond.fieldLink RX0 9 "BackhaulReturns$Customer" "days" "[I", Cond.fieldLink RX0 15 "BackhaulReturns$Customer" "units" "[I", Cond.fieldLink RX0 18 "BackhaulReturns$Customer" "areChained" "[Z", Cond.methodLink RX4 169 yX4_takeBack, Cond.instanceMethod yX4_takeBack, Cond.selects RX4 yX4_takeBack yX4_takeBack, Cond.code yX4_takeBack cX4_takeBack 8 (some .int), Cond.fieldLink RX4 200 "BackhaulReturns$Sale" "amountReleased" "I", Cond.fieldLink RX4 229 "BackhaulReturns$Line" "product" "LBackhaulReturns$Product;"]
def wsL_giveBack_r4 : List Cond := [Cond.methodLink RX4 196 yX3_freedBy, Cond.instanceMethod yX3_freedBy, Cond.selects RX3 yX3_freedBy yX3_freedBy, Cond.code yX3_freedBy cX3_freedBy 4 (some .int), Cond.fieldLink RX3 52 "BackhaulReturns$Sale" "amountPaid" "I", Cond.fieldLink RX3 58 "BackhaulReturns$Sale" "amountReleased" "I", Cond.methodLink RX3 61 Lib.Math.max.name, Cond.static Lib.Math.max.name, Cond.initialized "java/lang/Math", Cond.code Lib.Math.max.name Lib.Math.max.code 2 (some .int), Cond.methodLink RX3 44 yX3_keptGoods, Cond.instanceMethod yX3_keptGoods, Cond.selects RX3 yX3_keptGoods yX3_keptGoods, Cond.code yX3_keptGoods cX3_keptGoods 6 (some .int), Cond.fieldLink RX3 34 "BackhaulReturns$Line" "keptUnits" "I", Cond.methodLink RX3 55 yX1_goodsOf, Cond.instanceMethod yX1_goodsOf, Cond.selects RX1 yX1_goodsOf yX1_goodsOf, Cond.initialized RX1, Cond.code yX1_goodsOf cX1_goodsOf 2 (some .int), Cond.fieldLink RX1 22 "BackhaulReturns$Line" "linePrice" "I", Cond.static yX4_netOf, Cond.code yX4_netOf cX4_netOf 1 (some .int), Cond.methodLink RX4 237 yX4_discountPercent]
def wsL_giveBack_r5 : List Cond := [Cond.static yX4_discountPercent, Cond.code yX4_discountPercent cX4_discountPercent 1 (some .int), Cond.methodLink RX4 203 yX2_optionFor, Cond.instanceMethod yX2_optionFor, Cond.selects RX2 yX2_optionFor yX2_optionFor, Cond.initialized RX2, Cond.code yX2_optionFor cX2_optionFor 4 (some .int), Cond.methodLink RX2 25 yX2_isOffered, Cond.static yX2_isOffered, Cond.code yX2_isOffered cX2_isOffered 2 (some .boolean), Cond.methodLink RX2 29 yX2_worthOf, Cond.instanceMethod yX2_worthOf, Cond.selects RX2 yX2_worthOf yX2_worthOf, Cond.code yX2_worthOf cX2_worthOf 3 (some .int), Cond.fieldLink RX2 9 "BackhaulReturns$Product" "unitPrice" "I", Cond.methodLink RX2 40 Lib.Math.max.name, Cond.methodLink RX2 33 yX2_repairWorth, Cond.instanceMethod yX2_repairWorth, Cond.selects RX2 yX2_repairWorth yX2_repairWorth, Cond.code yX2_repairWorth cX2_repairWorth 1 (some .int), Cond.fieldLink RX2 18 "BackhaulReturns$Product" "repairCost" "I", Cond.methodLink RX2 37 yX2_salvageWorth, Cond.instanceMethod yX2_salvageWorth, Cond.selects RX2 yX2_salvageWorth yX2_salvageWorth]
def wsL_giveBack_r6 : List Cond := [Cond.code yX2_salvageWorth cX2_salvageWorth 1 (some .int), Cond.fieldLink RX2 15 "BackhaulReturns$Product" "salvageValue" "I", Cond.methodLink RX2 45 yJ9_floorDiv_7cf53, Cond.static yJ9_floorDiv_7cf53, Cond.initialized RJ9, Cond.code yJ9_floorDiv_7cf53 cJ9_floorDiv_7cf53 3 (some .int), Cond.methodLink RX4 217 yX2_move, Cond.instanceMethod yX2_move, Cond.selects RX2 yX2_move yX2_move, Cond.code yX2_move cX2_move 3 none, Cond.fieldLink RX2 21 "BackhaulReturns$Product" "unitsByPlace" "[I", Cond.methodLink RX4 233 yX0_remember, Cond.instanceMethod yX0_remember, Cond.selects RX0 yX0_remember yX0_remember, Cond.code yX0_remember cX0_remember 4 none, Cond.methodLink RX0 26 yX0_forgetBefore, Cond.instanceMethod yX0_forgetBefore, Cond.selects RX0 yX0_forgetBefore yX0_forgetBefore, Cond.code yX0_forgetBefore cX0_forgetBefore 4 none, Cond.methodLink RX4 176 yX4_feeOn, Cond.static yX4_feeOn, Cond.code yX4_feeOn cX4_feeOn 3 (some .int)]
def wsL_giveBack : List Cond := .codeWith yL_giveBack cL_giveBack 7 (some .int) [(0, 14, 17, 28), (0, 14, 21, 13), (0, 14, 25, 19)] :: ((wsL_giveBack_r1 ++ (wsL_giveBack_r2 ++ (wsL_giveBack_r3 ++ (wsL_giveBack_r4 ++ (wsL_giveBack_r5 ++ wsL_giveBack_r6))))) ++ wsX30 ++ wsX40 ++ wsX10 ++ wsX00 ++ wsX20 ++ (vx_atS RX4 42 "java/lang/IllegalArgumentException" ["java/lang/RuntimeException", "java/lang/Exception"]).filter goodWord ++ (vx_atS RX4 64 "java/lang/IllegalStateException" ["java/lang/RuntimeException", "java/lang/Exception"]).filter goodWord ++ (vx_atS RX4 146 "java/lang/IndexOutOfBoundsException" ["java/lang/RuntimeException", "java/lang/Exception"]).filter goodWord)
def wsL_exchange_r1 : List Cond := [Cond.classLink RL 28 "java/lang/IndexOutOfBoundsException", Cond.classLink RL 13 "java/lang/IllegalArgumentException", Cond.classLink RL 19 "java/lang/IllegalStateException", Cond.methodLink RL 49 yX4_exchange, Cond.instanceMethod yX4_exchange, Cond.selects RX4 yX4_exchange yX4_exchange, Cond.initialized RX4, Cond.code yX4_exchange cX4_exchange 11 (some .int), Cond.classLink RX4 38 "java/lang/IllegalArgumentException", Cond.initialized "java/lang/IllegalArgumentException", Cond.classLink RX4 60 "java/lang/IllegalStateException", Cond.initialized "java/lang/IllegalStateException", Cond.fieldLink RX4 159 "BackhaulReturns$Sale" "buyer" "LBackhaulReturns$Customer;", Cond.fieldLink RX4 187 "BackhaulReturns$Sale" "depth" "I", Cond.classLink RX4 23 RX3, Cond.instantiable RX3 9, Cond.initialized RX3, Cond.fieldLink RX4 190 "BackhaulReturns$Sale" "firstNumber" "I", Cond.classLink RX4 105 RX1, Cond.instantiable RX1 4, Cond.initialized RX1, Cond.fieldLink RX4 193 "BackhaulReturns$Sale" "firstPaidDay" "I", Cond.fieldLink RX4 120 "BackhaulReturns$Sale" "amountPaid" "I", Cond.methodLink RX4 123 yX4_existingLine]
def wsL_exchange_r2 : List Cond := [Cond.instanceMethod yX4_existingLine, Cond.selects RX4 yX4_existingLine yX4_existingLine, Cond.code yX4_existingLine cX4_existingLine 4 (some (.object "BackhaulReturns$Line")), Cond.classLink RX4 142 "java/lang/IndexOutOfBoundsException", Cond.initialized "java/lang/IndexOutOfBoundsException", Cond.methodLink RX4 87 yX4_existingSale, Cond.instanceMethod yX4_existingSale, Cond.selects RX4 yX4_existingSale yX4_existingSale, Cond.code yX4_existingSale cX4_existingSale 3 (some (.object "BackhaulReturns$Sale")), Cond.methodLink RX4 224 yX4_saleAt, Cond.instanceMethod yX4_saleAt, Cond.selects RX4 yX4_saleAt yX4_saleAt, Cond.code yX4_saleAt cX4_saleAt 2 (some (.object "BackhaulReturns$Sale")), Cond.fieldLink RX4 25 "BackhaulReturns" "register" "[LBackhaulReturns$Sale;", Cond.methodLink RX4 138 yX3_lineAt, Cond.instanceMethod yX3_lineAt, Cond.selects RX3 yX3_lineAt yX3_lineAt, Cond.code yX3_lineAt cX3_lineAt 2 (some (.object "BackhaulReturns$Line")), Cond.fieldLink RX3 11 "BackhaulReturns$Sale" "lines" "[LBackhaulReturns$Line;", Cond.methodLink RX4 29 yX4_productAt, Cond.instanceMethod yX4_productAt, Cond.selects RX4 yX4_productAt yX4_productAt, Cond.code yX4_productAt cX4_productAt 2 (some (.object "BackhaulReturns$Product")), Cond.fieldLink RX4 11 "BackhaulReturns" "catalog" "[LBackhaulReturns$Product;"]
def wsL_exchange_r3 : List Cond := [Cond.methodLink RX4 91 yX4_isUnits, Cond.static yX4_isUnits, Cond.code yX4_isUnits cX4_isUnits 1 (some .boolean), Cond.methodLink RX4 150 yX4_isCondition, Cond.static yX4_isCondition, Cond.code yX4_isCondition cX4_isCondition 1 (some .boolean), Cond.methodLink RX4 155 yX4_canComeBack, Cond.instanceMethod yX4_canComeBack, Cond.selects RX4 yX4_canComeBack yX4_canComeBack, Cond.code yX4_canComeBack cX4_canComeBack 4 (some .boolean), Cond.fieldLink RX4 96 "BackhaulReturns$Sale" "isPaid" "Z", Cond.fieldLink RX4 127 "BackhaulReturns$Line" "keptUnits" "I", Cond.methodLink RX4 173 yX4_ageOf, Cond.instanceMethod yX4_ageOf, Cond.selects RX4 yX4_ageOf yX4_ageOf, Cond.code yX4_ageOf cX4_ageOf 2 (some .int), Cond.fieldLink RX4 57 "BackhaulReturns" "today" "I", Cond.methodLink RX4 163 yX4_isBlocked, Cond.instanceMethod yX4_isBlocked, Cond.selects RX4 yX4_isBlocked yX4_isBlocked, Cond.code yX4_isBlocked cX4_isBlocked 2 (some .boolean), Cond.methodLink RX4 221 yX0_scoreOn, Cond.instanceMethod yX0_scoreOn, Cond.selects RX0 yX0_scoreOn yX0_scoreOn]
def wsL_exchange_r4 : List Cond := [Cond.initialized RX0, Cond.code yX0_scoreOn cX0_scoreOn 5 (some .int), Cond.fieldLink RX0 22 "BackhaulReturns$Customer" "count" "I", Cond.fieldLink RX0 9 "BackhaulReturns$Customer" "days" "[I", Cond.fieldLink RX0 15 "BackhaulReturns$Customer" "units" "[I", Cond.fieldLink RX0 18 "BackhaulReturns$Customer" "areChained" "[Z", Cond.methodLink RX4 71 yX4_isRegisterFull, Cond.instanceMethod yX4_isRegisterFull, Cond.selects RX4 yX4_isRegisterFull yX4_isRegisterFull, Cond.code yX4_isRegisterFull cX4_isRegisterFull 1 (some .boolean), Cond.fieldLink RX4 77 "BackhaulReturns" "saleCount" "I", Cond.methodLink RX4 169 yX4_takeBack, Cond.instanceMethod yX4_takeBack, Cond.selects RX4 yX4_takeBack yX4_takeBack, Cond.code yX4_takeBack cX4_takeBack 8 (some .int), Cond.fieldLink RX4 200 "BackhaulReturns$Sale" "amountReleased" "I", Cond.fieldLink RX4 229 "BackhaulReturns$Line" "product" "LBackhaulReturns$Product;", Cond.methodLink RX4 196 yX3_freedBy, Cond.instanceMethod yX3_freedBy, Cond.selects RX3 yX3_freedBy yX3_freedBy, Cond.code yX3_freedBy cX3_freedBy 4 (some .int), Cond.fieldLink RX3 52 "BackhaulReturns$Sale" "amountPaid" "I", Cond.fieldLink RX3 58 "BackhaulReturns$Sale" "amountReleased" "I", Cond.methodLink RX3 61 Lib.Math.max.name]
def wsL_exchange_r5 : List Cond := [Cond.static Lib.Math.max.name, Cond.initialized "java/lang/Math", Cond.code Lib.Math.max.name Lib.Math.max.code 2 (some .int), Cond.methodLink RX3 44 yX3_keptGoods, Cond.instanceMethod yX3_keptGoods, Cond.selects RX3 yX3_keptGoods yX3_keptGoods, Cond.code yX3_keptGoods cX3_keptGoods 6 (some .int), Cond.fieldLink RX3 34 "BackhaulReturns$Line" "keptUnits" "I", Cond.methodLink RX3 55 yX1_goodsOf, Cond.instanceMethod yX1_goodsOf, Cond.selects RX1 yX1_goodsOf yX1_goodsOf, Cond.code yX1_goodsOf cX1_goodsOf 2 (some .int), Cond.fieldLink RX1 22 "BackhaulReturns$Line" "linePrice" "I", Cond.static yX4_netOf, Cond.code yX4_netOf cX4_netOf 1 (some .int), Cond.methodLink RX4 237 yX4_discountPercent, Cond.static yX4_discountPercent, Cond.code yX4_discountPercent cX4_discountPercent 1 (some .int), Cond.methodLink RX4 203 yX2_optionFor, Cond.instanceMethod yX2_optionFor, Cond.selects RX2 yX2_optionFor yX2_optionFor, Cond.initialized RX2, Cond.code yX2_optionFor cX2_optionFor 4 (some .int), Cond.methodLink RX2 25 yX2_isOffered]
def wsL_exchange_r6 : List Cond := [Cond.static yX2_isOffered, Cond.code yX2_isOffered cX2_isOffered 2 (some .boolean), Cond.methodLink RX2 29 yX2_worthOf, Cond.instanceMethod yX2_worthOf, Cond.selects RX2 yX2_worthOf yX2_worthOf, Cond.code yX2_worthOf cX2_worthOf 3 (some .int), Cond.fieldLink RX2 9 "BackhaulReturns$Product" "unitPrice" "I", Cond.methodLink RX2 40 Lib.Math.max.name, Cond.methodLink RX2 33 yX2_repairWorth, Cond.instanceMethod yX2_repairWorth, Cond.selects RX2 yX2_repairWorth yX2_repairWorth, Cond.code yX2_repairWorth cX2_repairWorth 1 (some .int), Cond.fieldLink RX2 18 "BackhaulReturns$Product" "repairCost" "I", Cond.methodLink RX2 37 yX2_salvageWorth, Cond.instanceMethod yX2_salvageWorth, Cond.selects RX2 yX2_salvageWorth yX2_salvageWorth, Cond.code yX2_salvageWorth cX2_salvageWorth 1 (some .int), Cond.fieldLink RX2 15 "BackhaulReturns$Product" "salvageValue" "I", Cond.methodLink RX2 45 yJ9_floorDiv_7cf53, Cond.static yJ9_floorDiv_7cf53, Cond.initialized RJ9, Cond.code yJ9_floorDiv_7cf53 cJ9_floorDiv_7cf53 3 (some .int), Cond.methodLink RX4 217 yX2_move, Cond.instanceMethod yX2_move]
def wsL_exchange_r7 : List Cond := [Cond.selects RX2 yX2_move yX2_move, Cond.code yX2_move cX2_move 3 none, Cond.fieldLink RX2 21 "BackhaulReturns$Product" "unitsByPlace" "[I", Cond.methodLink RX4 233 yX0_remember, Cond.instanceMethod yX0_remember, Cond.selects RX0 yX0_remember yX0_remember, Cond.code yX0_remember cX0_remember 4 none, Cond.methodLink RX0 26 yX0_forgetBefore, Cond.instanceMethod yX0_forgetBefore, Cond.selects RX0 yX0_forgetBefore yX0_forgetBefore, Cond.code yX0_forgetBefore cX0_forgetBefore 4 none, Cond.methodLink RX4 80 yX3_init, Cond.instanceMethod yX3_init, Cond.code yX3_init cX3_init 4 none, Cond.methodLink RX3 3 objectInit, Cond.instanceMethod objectInit, Cond.code objectInit ⟨#[0xb1]⟩ 1 none, Cond.classLink RX3 9 RX1, Cond.fieldLink RX3 17 "BackhaulReturns$Sale" "buyer" "LBackhaulReturns$Customer;", Cond.fieldLink RX3 21 "BackhaulReturns$Sale" "firstNumber" "I", Cond.fieldLink RX3 25 "BackhaulReturns$Sale" "depth" "I", Cond.methodLink RX4 107 yX1_init, Cond.instanceMethod yX1_init, Cond.code yX1_init cX1_init 3 none]
def wsL_exchange_r8 : List Cond := [Cond.methodLink RX1 1 objectInit, Cond.fieldLink RX1 7 "BackhaulReturns$Line" "product" "LBackhaulReturns$Product;", Cond.fieldLink RX1 13 "BackhaulReturns$Line" "quantity" "I", Cond.fieldLink RX1 17 "BackhaulReturns$Product" "unitPrice" "I", Cond.methodLink RX4 110 yX3_append, Cond.instanceMethod yX3_append, Cond.selects RX3 yX3_append yX3_append, Cond.code yX3_append cX3_append 3 (some .int), Cond.fieldLink RX3 28 "BackhaulReturns$Sale" "lineCount" "I", Cond.methodLink RX4 116 yX3_settle, Cond.instanceMethod yX3_settle, Cond.selects RX3 yX3_settle yX3_settle, Cond.code yX3_settle cX3_settle 6 none, Cond.fieldLink RX3 31 "BackhaulReturns$Line" "quantity" "I", Cond.fieldLink RX3 37 "BackhaulReturns$Sale" "isPaid" "Z", Cond.fieldLink RX3 41 "BackhaulReturns$Sale" "firstPaidDay" "I", Cond.methodLink RX4 83 yX4_enter, Cond.instanceMethod yX4_enter, Cond.selects RX4 yX4_enter yX4_enter, Cond.code yX4_enter cX4_enter 3 (some .int)]
def wsL_exchange : List Cond := .codeWith yL_exchange cL_exchange 8 (some .int) [(0, 16, 19, 28), (0, 16, 23, 13), (0, 16, 27, 19)] :: ((wsL_exchange_r1 ++ (wsL_exchange_r2 ++ (wsL_exchange_r3 ++ (wsL_exchange_r4 ++ (wsL_exchange_r5 ++ (wsL_exchange_r6 ++ (wsL_exchange_r7 ++ wsL_exchange_r8))))))) ++ wsX30 ++ wsX10 ++ wsX40 ++ wsX00 ++ wsX20 ++ (vx_atS RX4 42 "java/lang/IllegalArgumentException" ["java/lang/RuntimeException", "java/lang/Exception"]).filter goodWord ++ (vx_atS RX4 64 "java/lang/IllegalStateException" ["java/lang/RuntimeException", "java/lang/Exception"]).filter goodWord ++ (vx_atS RX4 146 "java/lang/IndexOutOfBoundsException" ["java/lang/RuntimeException", "java/lang/Exception"]).filter goodWord)
def wsL_quote_r1 : List Cond := [Cond.classLink RL 28 "java/lang/IndexOutOfBoundsException", Cond.classLink RL 13 "java/lang/IllegalArgumentException", Cond.classLink RL 19 "java/lang/IllegalStateException", Cond.methodLink RL 53 yX4_quote, Cond.instanceMethod yX4_quote, Cond.selects RX4 yX4_quote yX4_quote, Cond.initialized RX4, Cond.code yX4_quote cX4_quote 8 (some .int), Cond.classLink RX4 38 "java/lang/IllegalArgumentException", Cond.initialized "java/lang/IllegalArgumentException", Cond.classLink RX4 60 "java/lang/IllegalStateException", Cond.initialized "java/lang/IllegalStateException", Cond.methodLink RX4 123 yX4_existingLine, Cond.instanceMethod yX4_existingLine, Cond.selects RX4 yX4_existingLine yX4_existingLine, Cond.code yX4_existingLine cX4_existingLine 4 (some (.object "BackhaulReturns$Line")), Cond.classLink RX4 142 "java/lang/IndexOutOfBoundsException", Cond.initialized "java/lang/IndexOutOfBoundsException", Cond.methodLink RX4 87 yX4_existingSale, Cond.instanceMethod yX4_existingSale, Cond.selects RX4 yX4_existingSale yX4_existingSale, Cond.code yX4_existingSale cX4_existingSale 3 (some (.object "BackhaulReturns$Sale")), Cond.methodLink RX4 224 yX4_saleAt, Cond.instanceMethod yX4_saleAt]
def wsL_quote_r2 : List Cond := [Cond.selects RX4 yX4_saleAt yX4_saleAt, Cond.code yX4_saleAt cX4_saleAt 2 (some (.object "BackhaulReturns$Sale")), Cond.fieldLink RX4 25 "BackhaulReturns" "register" "[LBackhaulReturns$Sale;", Cond.methodLink RX4 138 yX3_lineAt, Cond.instanceMethod yX3_lineAt, Cond.selects RX3 yX3_lineAt yX3_lineAt, Cond.initialized RX3, Cond.code yX3_lineAt cX3_lineAt 2 (some (.object "BackhaulReturns$Line")), Cond.fieldLink RX3 11 "BackhaulReturns$Sale" "lines" "[LBackhaulReturns$Line;", Cond.methodLink RX4 91 yX4_isUnits, Cond.static yX4_isUnits, Cond.code yX4_isUnits cX4_isUnits 1 (some .boolean), Cond.methodLink RX4 150 yX4_isCondition, Cond.static yX4_isCondition, Cond.code yX4_isCondition cX4_isCondition 1 (some .boolean), Cond.methodLink RX4 155 yX4_canComeBack, Cond.instanceMethod yX4_canComeBack, Cond.selects RX4 yX4_canComeBack yX4_canComeBack, Cond.code yX4_canComeBack cX4_canComeBack 4 (some .boolean), Cond.fieldLink RX4 96 "BackhaulReturns$Sale" "isPaid" "Z", Cond.fieldLink RX4 127 "BackhaulReturns$Line" "keptUnits" "I", Cond.methodLink RX4 173 yX4_ageOf, Cond.instanceMethod yX4_ageOf, Cond.selects RX4 yX4_ageOf yX4_ageOf]
def wsL_quote_r3 : List Cond := [Cond.code yX4_ageOf cX4_ageOf 2 (some .int), Cond.fieldLink RX4 57 "BackhaulReturns" "today" "I", Cond.fieldLink RX4 193 "BackhaulReturns$Sale" "firstPaidDay" "I", Cond.methodLink RX4 196 yX3_freedBy, Cond.instanceMethod yX3_freedBy, Cond.selects RX3 yX3_freedBy yX3_freedBy, Cond.code yX3_freedBy cX3_freedBy 4 (some .int), Cond.fieldLink RX3 52 "BackhaulReturns$Sale" "amountPaid" "I", Cond.fieldLink RX3 58 "BackhaulReturns$Sale" "amountReleased" "I", Cond.methodLink RX3 61 Lib.Math.max.name, Cond.static Lib.Math.max.name, Cond.initialized "java/lang/Math", Cond.code Lib.Math.max.name Lib.Math.max.code 2 (some .int), Cond.methodLink RX3 44 yX3_keptGoods, Cond.instanceMethod yX3_keptGoods, Cond.selects RX3 yX3_keptGoods yX3_keptGoods, Cond.code yX3_keptGoods cX3_keptGoods 6 (some .int), Cond.fieldLink RX3 34 "BackhaulReturns$Line" "keptUnits" "I", Cond.methodLink RX3 55 yX1_goodsOf, Cond.instanceMethod yX1_goodsOf, Cond.selects RX1 yX1_goodsOf yX1_goodsOf, Cond.initialized RX1, Cond.code yX1_goodsOf cX1_goodsOf 2 (some .int), Cond.fieldLink RX1 22 "BackhaulReturns$Line" "linePrice" "I"]
def wsL_quote_r4 : List Cond := [Cond.static yX4_netOf, Cond.code yX4_netOf cX4_netOf 1 (some .int), Cond.methodLink RX4 237 yX4_discountPercent, Cond.static yX4_discountPercent, Cond.code yX4_discountPercent cX4_discountPercent 1 (some .int), Cond.methodLink RX4 176 yX4_feeOn, Cond.static yX4_feeOn, Cond.code yX4_feeOn cX4_feeOn 3 (some .int)]
def wsL_quote : List Cond := .codeWith yL_quote cL_quote 7 (some .int) [(0, 14, 17, 28), (0, 14, 21, 13), (0, 14, 25, 19)] :: ((wsL_quote_r1 ++ (wsL_quote_r2 ++ (wsL_quote_r3 ++ wsL_quote_r4))) ++ wsX40 ++ wsX30 ++ wsX10 ++ (vx_atS RX4 42 "java/lang/IllegalArgumentException" ["java/lang/RuntimeException", "java/lang/Exception"]).filter goodWord ++ (vx_atS RX4 64 "java/lang/IllegalStateException" ["java/lang/RuntimeException", "java/lang/Exception"]).filter goodWord ++ (vx_atS RX4 146 "java/lang/IndexOutOfBoundsException" ["java/lang/RuntimeException", "java/lang/Exception"]).filter goodWord)
def wsL_released : List Cond := .codeWith yL_released cL_released 4 (some .int) [(0, 9, 12, 28)] :: ([.classLink RL 28 "java/lang/IndexOutOfBoundsException", .methodLink RL 56 yX4_released, .instanceMethod yX4_released, .selects RX4 yX4_released yX4_released, .initialized RX4, .code yX4_released cX4_released 2 (some .int), .fieldLink RX4 200 "BackhaulReturns$Sale" "amountReleased" "I", .methodLink RX4 87 yX4_existingSale, .instanceMethod yX4_existingSale, .selects RX4 yX4_existingSale yX4_existingSale, .code yX4_existingSale cX4_existingSale 3 (some (.object "BackhaulReturns$Sale")), .classLink RX4 142 "java/lang/IndexOutOfBoundsException", .initialized "java/lang/IndexOutOfBoundsException", .methodLink RX4 224 yX4_saleAt, .instanceMethod yX4_saleAt, .selects RX4 yX4_saleAt yX4_saleAt, .code yX4_saleAt cX4_saleAt 2 (some (.object "BackhaulReturns$Sale")), .fieldLink RX4 25 "BackhaulReturns" "register" "[LBackhaulReturns$Sale;"] ++ wsX30 ++ wsX40 ++ (vx_atS RX4 146 "java/lang/IndexOutOfBoundsException" ["java/lang/RuntimeException", "java/lang/Exception"]).filter goodWord)
def wsL_firstSale : List Cond := .codeWith yL_firstSale cL_firstSale 4 (some .int) [(0, 9, 12, 28)] :: ([.classLink RL 28 "java/lang/IndexOutOfBoundsException", .methodLink RL 59 yX4_firstSale, .instanceMethod yX4_firstSale, .selects RX4 yX4_firstSale yX4_firstSale, .initialized RX4, .code yX4_firstSale cX4_firstSale 2 (some .int), .fieldLink RX4 190 "BackhaulReturns$Sale" "firstNumber" "I", .methodLink RX4 87 yX4_existingSale, .instanceMethod yX4_existingSale, .selects RX4 yX4_existingSale yX4_existingSale, .code yX4_existingSale cX4_existingSale 3 (some (.object "BackhaulReturns$Sale")), .classLink RX4 142 "java/lang/IndexOutOfBoundsException", .initialized "java/lang/IndexOutOfBoundsException", .methodLink RX4 224 yX4_saleAt, .instanceMethod yX4_saleAt, .selects RX4 yX4_saleAt yX4_saleAt, .code yX4_saleAt cX4_saleAt 2 (some (.object "BackhaulReturns$Sale")), .fieldLink RX4 25 "BackhaulReturns" "register" "[LBackhaulReturns$Sale;"] ++ wsX30 ++ wsX40 ++ (vx_atS RX4 146 "java/lang/IndexOutOfBoundsException" ["java/lang/RuntimeException", "java/lang/Exception"]).filter goodWord)
def wsL_exchanges : List Cond := .codeWith yL_exchanges cL_exchanges 4 (some .int) [(0, 9, 12, 28)] :: ([.classLink RL 28 "java/lang/IndexOutOfBoundsException", .methodLink RL 62 yX4_exchanges, .instanceMethod yX4_exchanges, .selects RX4 yX4_exchanges yX4_exchanges, .initialized RX4, .code yX4_exchanges cX4_exchanges 2 (some .int), .fieldLink RX4 187 "BackhaulReturns$Sale" "depth" "I", .methodLink RX4 87 yX4_existingSale, .instanceMethod yX4_existingSale, .selects RX4 yX4_existingSale yX4_existingSale, .code yX4_existingSale cX4_existingSale 3 (some (.object "BackhaulReturns$Sale")), .classLink RX4 142 "java/lang/IndexOutOfBoundsException", .initialized "java/lang/IndexOutOfBoundsException", .methodLink RX4 224 yX4_saleAt, .instanceMethod yX4_saleAt, .selects RX4 yX4_saleAt yX4_saleAt, .code yX4_saleAt cX4_saleAt 2 (some (.object "BackhaulReturns$Sale")), .fieldLink RX4 25 "BackhaulReturns" "register" "[LBackhaulReturns$Sale;"] ++ wsX30 ++ wsX40 ++ (vx_atS RX4 146 "java/lang/IndexOutOfBoundsException" ["java/lang/RuntimeException", "java/lang/Exception"]).filter goodWord)
def wsL_bestOption_r1 : List Cond := [Cond.classLink RL 13 "java/lang/IllegalArgumentException", Cond.methodLink RL 65 yX4_bestOption, Cond.instanceMethod yX4_bestOption, Cond.selects RX4 yX4_bestOption yX4_bestOption, Cond.initialized RX4, Cond.code yX4_bestOption cX4_bestOption 4 (some .int), Cond.classLink RX4 38 "java/lang/IllegalArgumentException", Cond.initialized "java/lang/IllegalArgumentException", Cond.methodLink RX4 29 yX4_productAt, Cond.instanceMethod yX4_productAt, Cond.selects RX4 yX4_productAt yX4_productAt, Cond.code yX4_productAt cX4_productAt 2 (some (.object "BackhaulReturns$Product")), Cond.fieldLink RX4 11 "BackhaulReturns" "catalog" "[LBackhaulReturns$Product;", Cond.methodLink RX4 150 yX4_isCondition, Cond.static yX4_isCondition, Cond.code yX4_isCondition cX4_isCondition 1 (some .boolean), Cond.methodLink RX4 203 yX2_optionFor, Cond.instanceMethod yX2_optionFor, Cond.selects RX2 yX2_optionFor yX2_optionFor, Cond.initialized RX2, Cond.code yX2_optionFor cX2_optionFor 4 (some .int), Cond.methodLink RX2 25 yX2_isOffered, Cond.static yX2_isOffered, Cond.code yX2_isOffered cX2_isOffered 2 (some .boolean)]
def wsL_bestOption_r2 : List Cond := [Cond.methodLink RX2 29 yX2_worthOf, Cond.instanceMethod yX2_worthOf, Cond.selects RX2 yX2_worthOf yX2_worthOf, Cond.code yX2_worthOf cX2_worthOf 3 (some .int), Cond.fieldLink RX2 9 "BackhaulReturns$Product" "unitPrice" "I", Cond.methodLink RX2 40 Lib.Math.max.name, Cond.static Lib.Math.max.name, Cond.initialized "java/lang/Math", Cond.code Lib.Math.max.name Lib.Math.max.code 2 (some .int), Cond.methodLink RX2 33 yX2_repairWorth, Cond.instanceMethod yX2_repairWorth, Cond.selects RX2 yX2_repairWorth yX2_repairWorth, Cond.code yX2_repairWorth cX2_repairWorth 1 (some .int), Cond.fieldLink RX2 18 "BackhaulReturns$Product" "repairCost" "I", Cond.methodLink RX2 37 yX2_salvageWorth, Cond.instanceMethod yX2_salvageWorth, Cond.selects RX2 yX2_salvageWorth yX2_salvageWorth, Cond.code yX2_salvageWorth cX2_salvageWorth 1 (some .int), Cond.fieldLink RX2 15 "BackhaulReturns$Product" "salvageValue" "I", Cond.methodLink RX2 45 yJ9_floorDiv_7cf53, Cond.static yJ9_floorDiv_7cf53, Cond.initialized RJ9, Cond.code yJ9_floorDiv_7cf53 cJ9_floorDiv_7cf53 3 (some .int)]
def wsL_bestOption : List Cond := .codeWith yL_bestOption cL_bestOption 5 (some .int) [(0, 10, 13, 13)] :: ((wsL_bestOption_r1 ++ wsL_bestOption_r2) ++ wsX40 ++ wsX20 ++ (vx_atS RX4 42 "java/lang/IllegalArgumentException" ["java/lang/RuntimeException", "java/lang/Exception"]).filter goodWord)
def wsL_bestWorth_r1 : List Cond := [Cond.classLink RL 13 "java/lang/IllegalArgumentException", Cond.methodLink RL 68 yX4_bestWorth, Cond.instanceMethod yX4_bestWorth, Cond.selects RX4 yX4_bestWorth yX4_bestWorth, Cond.initialized RX4, Cond.code yX4_bestWorth cX4_bestWorth 4 (some .int), Cond.classLink RX4 38 "java/lang/IllegalArgumentException", Cond.initialized "java/lang/IllegalArgumentException", Cond.methodLink RX4 29 yX4_productAt, Cond.instanceMethod yX4_productAt, Cond.selects RX4 yX4_productAt yX4_productAt, Cond.code yX4_productAt cX4_productAt 2 (some (.object "BackhaulReturns$Product")), Cond.fieldLink RX4 11 "BackhaulReturns" "catalog" "[LBackhaulReturns$Product;", Cond.methodLink RX4 150 yX4_isCondition, Cond.static yX4_isCondition, Cond.code yX4_isCondition cX4_isCondition 1 (some .boolean), Cond.methodLink RX4 203 yX2_optionFor, Cond.instanceMethod yX2_optionFor, Cond.selects RX2 yX2_optionFor yX2_optionFor, Cond.initialized RX2, Cond.code yX2_optionFor cX2_optionFor 4 (some .int), Cond.methodLink RX2 25 yX2_isOffered, Cond.static yX2_isOffered, Cond.code yX2_isOffered cX2_isOffered 2 (some .boolean)]
def wsL_bestWorth_r2 : List Cond := [Cond.methodLink RX2 29 yX2_worthOf, Cond.instanceMethod yX2_worthOf, Cond.selects RX2 yX2_worthOf yX2_worthOf, Cond.code yX2_worthOf cX2_worthOf 3 (some .int), Cond.fieldLink RX2 9 "BackhaulReturns$Product" "unitPrice" "I", Cond.methodLink RX2 40 Lib.Math.max.name, Cond.static Lib.Math.max.name, Cond.initialized "java/lang/Math", Cond.code Lib.Math.max.name Lib.Math.max.code 2 (some .int), Cond.methodLink RX2 33 yX2_repairWorth, Cond.instanceMethod yX2_repairWorth, Cond.selects RX2 yX2_repairWorth yX2_repairWorth, Cond.code yX2_repairWorth cX2_repairWorth 1 (some .int), Cond.fieldLink RX2 18 "BackhaulReturns$Product" "repairCost" "I", Cond.methodLink RX2 37 yX2_salvageWorth, Cond.instanceMethod yX2_salvageWorth, Cond.selects RX2 yX2_salvageWorth yX2_salvageWorth, Cond.code yX2_salvageWorth cX2_salvageWorth 1 (some .int), Cond.fieldLink RX2 15 "BackhaulReturns$Product" "salvageValue" "I", Cond.methodLink RX2 45 yJ9_floorDiv_7cf53, Cond.static yJ9_floorDiv_7cf53, Cond.initialized RJ9, Cond.code yJ9_floorDiv_7cf53 cJ9_floorDiv_7cf53 3 (some .int), Cond.methodLink RX4 206 yX2_worthOf]
def wsL_bestWorth : List Cond := .codeWith yL_bestWorth cL_bestWorth 5 (some .int) [(0, 10, 13, 13)] :: ((wsL_bestWorth_r1 ++ wsL_bestWorth_r2) ++ wsX40 ++ wsX20 ++ (vx_atS RX4 42 "java/lang/IllegalArgumentException" ["java/lang/RuntimeException", "java/lang/Exception"]).filter goodWord)
def wsL_stock : List Cond := .codeWith yL_stock cL_stock 5 (some .int) [(0, 10, 13, 13)] :: ([.classLink RL 13 "java/lang/IllegalArgumentException", .methodLink RL 71 yX4_stock, .instanceMethod yX4_stock, .selects RX4 yX4_stock yX4_stock, .initialized RX4, .code yX4_stock cX4_stock 4 (some .int), .classLink RX4 38 "java/lang/IllegalArgumentException", .initialized "java/lang/IllegalArgumentException", .methodLink RX4 29 yX4_productAt, .instanceMethod yX4_productAt, .selects RX4 yX4_productAt yX4_productAt, .code yX4_productAt cX4_productAt 2 (some (.object "BackhaulReturns$Product")), .fieldLink RX4 11 "BackhaulReturns" "catalog" "[LBackhaulReturns$Product;", .methodLink RX4 210 yX2_unitsAt, .instanceMethod yX2_unitsAt, .selects RX2 yX2_unitsAt yX2_unitsAt, .initialized RX2, .code yX2_unitsAt cX2_unitsAt 2 (some .int), .fieldLink RX2 21 "BackhaulReturns$Product" "unitsByPlace" "[I"] ++ wsX40 ++ wsX20 ++ (vx_atS RX4 42 "java/lang/IllegalArgumentException" ["java/lang/RuntimeException", "java/lang/Exception"]).filter goodWord)
def wsL_test_r1 : List Cond := [Cond.classLink RL 13 "java/lang/IllegalArgumentException", Cond.classLink RL 19 "java/lang/IllegalStateException", Cond.methodLink RL 74 yX4_test, Cond.instanceMethod yX4_test, Cond.selects RX4 yX4_test yX4_test, Cond.initialized RX4, Cond.code yX4_test cX4_test 5 (some .int), Cond.classLink RX4 38 "java/lang/IllegalArgumentException", Cond.initialized "java/lang/IllegalArgumentException", Cond.classLink RX4 60 "java/lang/IllegalStateException", Cond.initialized "java/lang/IllegalStateException", Cond.methodLink RX4 29 yX4_productAt, Cond.instanceMethod yX4_productAt, Cond.selects RX4 yX4_productAt yX4_productAt, Cond.code yX4_productAt cX4_productAt 2 (some (.object "BackhaulReturns$Product")), Cond.fieldLink RX4 11 "BackhaulReturns" "catalog" "[LBackhaulReturns$Product;", Cond.methodLink RX4 210 yX2_unitsAt, Cond.instanceMethod yX2_unitsAt, Cond.selects RX2 yX2_unitsAt yX2_unitsAt, Cond.initialized RX2, Cond.code yX2_unitsAt cX2_unitsAt 2 (some .int), Cond.fieldLink RX2 21 "BackhaulReturns$Product" "unitsByPlace" "[I", Cond.methodLink RX4 203 yX2_optionFor, Cond.instanceMethod yX2_optionFor]
def wsL_test_r2 : List Cond := [Cond.selects RX2 yX2_optionFor yX2_optionFor, Cond.code yX2_optionFor cX2_optionFor 4 (some .int), Cond.methodLink RX2 25 yX2_isOffered, Cond.static yX2_isOffered, Cond.code yX2_isOffered cX2_isOffered 2 (some .boolean), Cond.methodLink RX2 29 yX2_worthOf, Cond.instanceMethod yX2_worthOf, Cond.selects RX2 yX2_worthOf yX2_worthOf, Cond.code yX2_worthOf cX2_worthOf 3 (some .int), Cond.fieldLink RX2 9 "BackhaulReturns$Product" "unitPrice" "I", Cond.methodLink RX2 40 Lib.Math.max.name, Cond.static Lib.Math.max.name, Cond.initialized "java/lang/Math", Cond.code Lib.Math.max.name Lib.Math.max.code 2 (some .int), Cond.methodLink RX2 33 yX2_repairWorth, Cond.instanceMethod yX2_repairWorth, Cond.selects RX2 yX2_repairWorth yX2_repairWorth, Cond.code yX2_repairWorth cX2_repairWorth 1 (some .int), Cond.fieldLink RX2 18 "BackhaulReturns$Product" "repairCost" "I", Cond.methodLink RX2 37 yX2_salvageWorth, Cond.instanceMethod yX2_salvageWorth, Cond.selects RX2 yX2_salvageWorth yX2_salvageWorth, Cond.code yX2_salvageWorth cX2_salvageWorth 1 (some .int), Cond.fieldLink RX2 15 "BackhaulReturns$Product" "salvageValue" "I"]
def wsL_test_r3 : List Cond := [Cond.methodLink RX2 45 yJ9_floorDiv_7cf53, Cond.static yJ9_floorDiv_7cf53, Cond.initialized RJ9, Cond.code yJ9_floorDiv_7cf53 cJ9_floorDiv_7cf53 3 (some .int), Cond.methodLink RX4 217 yX2_move, Cond.instanceMethod yX2_move, Cond.selects RX2 yX2_move yX2_move, Cond.code yX2_move cX2_move 3 none]
def wsL_test : List Cond := .codeWith yL_test cL_test 5 (some .int) [(0, 10, 13, 13), (0, 10, 17, 19)] :: ((wsL_test_r1 ++ (wsL_test_r2 ++ wsL_test_r3)) ++ wsX40 ++ wsX20 ++ (vx_atS RX4 42 "java/lang/IllegalArgumentException" ["java/lang/RuntimeException", "java/lang/Exception"]).filter goodWord ++ (vx_atS RX4 64 "java/lang/IllegalStateException" ["java/lang/RuntimeException", "java/lang/Exception"]).filter goodWord)
def wsL_score : List Cond := .codeWith yL_score cL_score 4 (some .int) [(0, 9, 12, 13)] :: ([.classLink RL 13 "java/lang/IllegalArgumentException", .methodLink RL 78 yX4_score, .instanceMethod yX4_score, .selects RX4 yX4_score yX4_score, .initialized RX4, .code yX4_score cX4_score 3 (some .int), .classLink RX4 38 "java/lang/IllegalArgumentException", .initialized "java/lang/IllegalArgumentException", .fieldLink RX4 57 "BackhaulReturns" "today" "I", .methodLink RX4 65 yX4_customerAt, .instanceMethod yX4_customerAt, .selects RX4 yX4_customerAt yX4_customerAt, .code yX4_customerAt cX4_customerAt 2 (some (.object "BackhaulReturns$Customer")), .fieldLink RX4 18 "BackhaulReturns" "people" "[LBackhaulReturns$Customer;", .methodLink RX4 221 yX0_scoreOn, .instanceMethod yX0_scoreOn, .selects RX0 yX0_scoreOn yX0_scoreOn, .initialized RX0, .code yX0_scoreOn cX0_scoreOn 5 (some .int), .fieldLink RX0 22 "BackhaulReturns$Customer" "count" "I", .fieldLink RX0 9 "BackhaulReturns$Customer" "days" "[I", .fieldLink RX0 15 "BackhaulReturns$Customer" "units" "[I", .fieldLink RX0 18 "BackhaulReturns$Customer" "areChained" "[Z"] ++ wsX40 ++ wsX00 ++ (vx_atS RX4 42 "java/lang/IllegalArgumentException" ["java/lang/RuntimeException", "java/lang/Exception"]).filter goodWord)
def wsL_law0_r1 : List Cond := [Cond.classLink RL 8 RX4, Cond.instantiable RX4 6, Cond.initialized RX4, Cond.classLink RL 82 RX5, Cond.instantiable RX5 25, Cond.initialized RX5, Cond.arrayClass .long, Cond.methodLink RL 81 yX4_init, Cond.instanceMethod yX4_init, Cond.code yX4_init cX4_init 2 none, Cond.methodLink RX4 1 objectInit, Cond.instanceMethod objectInit, Cond.code objectInit ⟨#[0xb1]⟩ 1 none, Cond.classLink RX4 9 RX2, Cond.fieldLink RX4 11 "BackhaulReturns" "catalog" "[LBackhaulReturns$Product;", Cond.instantiable RX2 4, Cond.initialized RX2, Cond.classLink RX4 16 RX0, Cond.fieldLink RX4 18 "BackhaulReturns" "people" "[LBackhaulReturns$Customer;", Cond.instantiable RX0 4, Cond.initialized RX0, Cond.classLink RX4 23 RX3, Cond.fieldLink RX4 25 "BackhaulReturns" "register" "[LBackhaulReturns$Sale;", Cond.instanceMethod yX2_init]
def wsL_law0_r2 : List Cond := [Cond.code yX2_init cX2_init 1 none, Cond.methodLink RX2 3 objectInit, Cond.fieldLink RX2 9 "BackhaulReturns$Product" "unitPrice" "I", Cond.fieldLink RX2 15 "BackhaulReturns$Product" "salvageValue" "I", Cond.fieldLink RX2 18 "BackhaulReturns$Product" "repairCost" "I", Cond.arrayClass .int, Cond.fieldLink RX2 21 "BackhaulReturns$Product" "unitsByPlace" "[I", Cond.instanceMethod yX0_init, Cond.code yX0_init cX0_init 1 none, Cond.methodLink RX0 3 objectInit, Cond.fieldLink RX0 9 "BackhaulReturns$Customer" "days" "[I", Cond.fieldLink RX0 15 "BackhaulReturns$Customer" "units" "[I", Cond.arrayClass .boolean, Cond.fieldLink RX0 18 "BackhaulReturns$Customer" "areChained" "[Z", Cond.methodLink RL 84 yX5_init, Cond.instanceMethod yX5_init, Cond.code yX5_init cX5_init 2 none, Cond.methodLink RX5 1 objectInit, Cond.fieldLink RX5 7 "BackhaulReturnsModel" "prices" "[I", Cond.fieldLink RX5 13 "BackhaulReturnsModel" "salvages" "[I", Cond.fieldLink RX5 16 "BackhaulReturnsModel" "repairs" "[I", Cond.fieldLink RX5 19 "BackhaulReturnsModel" "stock" "[I", Cond.fieldLink RX5 22 "BackhaulReturnsModel" "customers" "[I", Cond.fieldLink RX5 25 "BackhaulReturnsModel" "sizes" "[I"]
def wsL_law0_r3 : List Cond := [Cond.fieldLink RX5 28 "BackhaulReturnsModel" "days" "[I", Cond.fieldLink RX5 31 "BackhaulReturnsModel" "paid" "[I", Cond.fieldLink RX5 34 "BackhaulReturnsModel" "released" "[I", Cond.fieldLink RX5 37 "BackhaulReturnsModel" "firsts" "[I", Cond.fieldLink RX5 40 "BackhaulReturnsModel" "depths" "[I", Cond.fieldLink RX5 43 "BackhaulReturnsModel" "products" "[I", Cond.fieldLink RX5 46 "BackhaulReturnsModel" "linePrices" "[I", Cond.fieldLink RX5 49 "BackhaulReturnsModel" "units" "[I", Cond.fieldLink RX5 52 "BackhaulReturnsModel" "backCustomers" "[I", Cond.fieldLink RX5 55 "BackhaulReturnsModel" "backDays" "[I", Cond.fieldLink RX5 58 "BackhaulReturnsModel" "backUnits" "[I", Cond.fieldLink RX5 61 "BackhaulReturnsModel" "isAgain" "[Z", Cond.fieldLink RX5 65 "BackhaulReturnsModel" "remainders" "[J", Cond.fieldLink RX5 69 "BackhaulReturnsModel" "values" "[I", Cond.methodLink RL 85 yL_setProduct, Cond.static yL_setProduct, Cond.initialized RL, Cond.codeWith yL_setProduct cL_setProduct 7 (some .int) [(0, 14, 17, 13)], Cond.classLink RL 13 "java/lang/IllegalArgumentException", Cond.methodLink RL 7 yX4_setProduct, Cond.instanceMethod yX4_setProduct, Cond.selects RX4 yX4_setProduct yX4_setProduct, Cond.code yX4_setProduct cX4_setProduct 7 (some .int), Cond.classLink RX4 38 "java/lang/IllegalArgumentException"]
def wsL_law0_r4 : List Cond := [Cond.initialized "java/lang/IllegalArgumentException", Cond.constant RX4 33 (100000), Cond.fieldLink RX4 45 "BackhaulReturns$Product" "unitPrice" "I", Cond.fieldLink RX4 49 "BackhaulReturns$Product" "salvageValue" "I", Cond.fieldLink RX4 52 "BackhaulReturns$Product" "repairCost" "I", Cond.methodLink RX4 29 yX4_productAt, Cond.instanceMethod yX4_productAt, Cond.selects RX4 yX4_productAt yX4_productAt, Cond.code yX4_productAt cX4_productAt 2 (some (.object "BackhaulReturns$Product")), Cond.methodLink RX4 34 yX4_isCost, Cond.static yX4_isCost, Cond.code yX4_isCost cX4_isCost 1 (some .boolean), Cond.methodLink RL 90 yX5_setProduct, Cond.instanceMethod yX5_setProduct, Cond.selects RX5 yX5_setProduct yX5_setProduct, Cond.code yX5_setProduct cX5_setProduct 6 (some .int), Cond.constant RX5 90 (100000), Cond.methodLink RX5 87 yX5_isTen, Cond.static yX5_isTen, Cond.code yX5_isTen cX5_isTen 1 (some .boolean), Cond.methodLink RX5 76 yX5_isIn, Cond.static yX5_isIn, Cond.code yX5_isIn cX5_isIn 3 (some .boolean), Cond.methodLink RX5 91 yX5_goes]
def wsL_law0_r5 : List Cond := [Cond.instanceMethod yX5_goes, Cond.selects RX5 yX5_goes yX5_goes, Cond.code yX5_goes cX5_goes 2 (some .boolean), Cond.fieldLink RX5 72 "BackhaulReturnsModel" "thrown" "I", Cond.methodLink RL 91 yX5_thrown, Cond.instanceMethod yX5_thrown, Cond.selects RX5 yX5_thrown yX5_thrown, Cond.code yX5_thrown cX5_thrown 1 (some .int), Cond.methodLink RL 95 yL_pass, Cond.static yL_pass, Cond.codeWith yL_pass cL_pass 4 (some .int) [(0, 9, 12, 13), (0, 9, 15, 19)], Cond.classLink RL 19 "java/lang/IllegalStateException", Cond.methodLink RL 15 yX4_pass, Cond.instanceMethod yX4_pass, Cond.selects RX4 yX4_pass yX4_pass, Cond.code yX4_pass cX4_pass 2 (some .int), Cond.classLink RX4 60 "java/lang/IllegalStateException", Cond.initialized "java/lang/IllegalStateException", Cond.fieldLink RX4 57 "BackhaulReturns" "today" "I", Cond.methodLink RL 98 yX5_pass, Cond.instanceMethod yX5_pass, Cond.selects RX5 yX5_pass yX5_pass, Cond.code yX5_pass cX5_pass 2 (some .int), Cond.fieldLink RX5 94 "BackhaulReturnsModel" "day" "I"]
def wsL_law0_r6 : List Cond := [Cond.methodLink RL 99 yL_open, Cond.static yL_open, Cond.codeWith yL_open cL_open 4 (some .int) [(0, 9, 12, 13), (0, 9, 15, 19)], Cond.methodLink RL 21 yX4_open, Cond.instanceMethod yX4_open, Cond.selects RX4 yX4_open yX4_open, Cond.code yX4_open cX4_open 3 (some .int), Cond.instantiable RX3 9, Cond.initialized RX3, Cond.fieldLink RX4 77 "BackhaulReturns" "saleCount" "I", Cond.methodLink RX4 65 yX4_customerAt, Cond.instanceMethod yX4_customerAt, Cond.selects RX4 yX4_customerAt yX4_customerAt, Cond.code yX4_customerAt cX4_customerAt 2 (some (.object "BackhaulReturns$Customer")), Cond.methodLink RX4 71 yX4_isRegisterFull, Cond.instanceMethod yX4_isRegisterFull, Cond.selects RX4 yX4_isRegisterFull yX4_isRegisterFull, Cond.code yX4_isRegisterFull cX4_isRegisterFull 1 (some .boolean), Cond.methodLink RX4 80 yX3_init, Cond.instanceMethod yX3_init, Cond.code yX3_init cX3_init 4 none, Cond.methodLink RX3 3 objectInit, Cond.classLink RX3 9 RX1, Cond.fieldLink RX3 11 "BackhaulReturns$Sale" "lines" "[LBackhaulReturns$Line;"]
def wsL_law0_r7 : List Cond := [Cond.fieldLink RX3 17 "BackhaulReturns$Sale" "buyer" "LBackhaulReturns$Customer;", Cond.fieldLink RX3 21 "BackhaulReturns$Sale" "firstNumber" "I", Cond.fieldLink RX3 25 "BackhaulReturns$Sale" "depth" "I", Cond.methodLink RX4 83 yX4_enter, Cond.instanceMethod yX4_enter, Cond.selects RX4 yX4_enter yX4_enter, Cond.code yX4_enter cX4_enter 3 (some .int), Cond.methodLink RL 101 yX5_open, Cond.instanceMethod yX5_open, Cond.selects RX5 yX5_open yX5_open, Cond.code yX5_open cX5_open 2 (some .int), Cond.fieldLink RX5 80 "BackhaulReturnsModel" "sales" "I", Cond.methodLink RX5 104 yX5_opens, Cond.instanceMethod yX5_opens, Cond.selects RX5 yX5_opens yX5_opens, Cond.code yX5_opens cX5_opens 2 (some .int), Cond.methodLink RL 102 yL_add, Cond.static yL_add, Cond.codeWith yL_add cL_add 6 (some .int) [(0, 12, 15, 28), (0, 12, 19, 13), (0, 12, 23, 19)], Cond.classLink RL 28 "java/lang/IndexOutOfBoundsException", Cond.methodLink RL 24 yX4_add, Cond.instanceMethod yX4_add, Cond.selects RX4 yX4_add yX4_add, Cond.code yX4_add cX4_add 6 (some .int)]
def wsL_law0_r8 : List Cond := [Cond.fieldLink RX4 96 "BackhaulReturns$Sale" "isPaid" "Z", Cond.fieldLink RX4 100 "BackhaulReturns$Sale" "lineCount" "I", Cond.classLink RX4 105 RX1, Cond.instantiable RX1 4, Cond.initialized RX1, Cond.methodLink RX4 87 yX4_existingSale, Cond.instanceMethod yX4_existingSale, Cond.selects RX4 yX4_existingSale yX4_existingSale, Cond.code yX4_existingSale cX4_existingSale 3 (some (.object "BackhaulReturns$Sale")), Cond.classLink RX4 142 "java/lang/IndexOutOfBoundsException", Cond.initialized "java/lang/IndexOutOfBoundsException", Cond.methodLink RX4 224 yX4_saleAt, Cond.instanceMethod yX4_saleAt, Cond.selects RX4 yX4_saleAt yX4_saleAt, Cond.code yX4_saleAt cX4_saleAt 2 (some (.object "BackhaulReturns$Sale")), Cond.methodLink RX4 91 yX4_isUnits, Cond.static yX4_isUnits, Cond.code yX4_isUnits cX4_isUnits 1 (some .boolean), Cond.methodLink RX4 107 yX1_init, Cond.instanceMethod yX1_init, Cond.code yX1_init cX1_init 3 none, Cond.methodLink RX1 1 objectInit, Cond.fieldLink RX1 7 "BackhaulReturns$Line" "product" "LBackhaulReturns$Product;", Cond.fieldLink RX1 13 "BackhaulReturns$Line" "quantity" "I"]
def wsL_law0_r9 : List Cond := [Cond.fieldLink RX1 17 "BackhaulReturns$Product" "unitPrice" "I", Cond.fieldLink RX1 22 "BackhaulReturns$Line" "linePrice" "I", Cond.methodLink RX4 110 yX3_append, Cond.instanceMethod yX3_append, Cond.selects RX3 yX3_append yX3_append, Cond.code yX3_append cX3_append 3 (some .int), Cond.fieldLink RX3 28 "BackhaulReturns$Sale" "lineCount" "I", Cond.methodLink RL 105 yX5_add, Cond.instanceMethod yX5_add, Cond.selects RX5 yX5_add yX5_add, Cond.code yX5_add cX5_add 5 (some .int), Cond.methodLink RX5 83 yX5_isSale, Cond.instanceMethod yX5_isSale, Cond.selects RX5 yX5_isSale yX5_isSale, Cond.code yX5_isSale cX5_isSale 2 (some .boolean), Cond.methodLink RX5 107 yX5_isOpen, Cond.instanceMethod yX5_isOpen, Cond.selects RX5 yX5_isOpen yX5_isOpen, Cond.code yX5_isOpen cX5_isOpen 2 (some .boolean), Cond.methodLink RX5 110 yX5_adds, Cond.instanceMethod yX5_adds, Cond.selects RX5 yX5_adds yX5_adds, Cond.code yX5_adds cX5_adds 5 (some .int), Cond.methodLink RL 106 yL_pay]
def wsL_law0_r10 : List Cond := [Cond.static yL_pay, Cond.codeWith yL_pay cL_pay 4 (some .int) [(0, 9, 12, 28), (0, 9, 15, 19)], Cond.methodLink RL 30 yX4_pay, Cond.instanceMethod yX4_pay, Cond.selects RX4 yX4_pay yX4_pay, Cond.code yX4_pay cX4_pay 3 (some .int), Cond.fieldLink RX4 120 "BackhaulReturns$Sale" "amountPaid" "I", Cond.methodLink RX4 116 yX3_settle, Cond.instanceMethod yX3_settle, Cond.selects RX3 yX3_settle yX3_settle, Cond.code yX3_settle cX3_settle 6 none, Cond.fieldLink RX3 31 "BackhaulReturns$Line" "quantity" "I", Cond.fieldLink RX3 34 "BackhaulReturns$Line" "keptUnits" "I", Cond.fieldLink RX3 37 "BackhaulReturns$Sale" "isPaid" "Z", Cond.fieldLink RX3 41 "BackhaulReturns$Sale" "firstPaidDay" "I", Cond.fieldLink RX3 52 "BackhaulReturns$Sale" "amountPaid" "I", Cond.methodLink RX3 44 yX3_keptGoods, Cond.instanceMethod yX3_keptGoods, Cond.selects RX3 yX3_keptGoods yX3_keptGoods, Cond.code yX3_keptGoods cX3_keptGoods 6 (some .int), Cond.methodLink RX3 55 yX1_goodsOf, Cond.instanceMethod yX1_goodsOf, Cond.selects RX1 yX1_goodsOf yX1_goodsOf, Cond.code yX1_goodsOf cX1_goodsOf 2 (some .int)]
def wsL_law0_r11 : List Cond := [Cond.static yX4_netOf, Cond.code yX4_netOf cX4_netOf 1 (some .int), Cond.methodLink RX4 237 yX4_discountPercent, Cond.static yX4_discountPercent, Cond.code yX4_discountPercent cX4_discountPercent 1 (some .int), Cond.methodLink RL 108 yX5_pay, Cond.instanceMethod yX5_pay, Cond.selects RX5 yX5_pay yX5_pay, Cond.code yX5_pay cX5_pay 2 (some .int), Cond.methodLink RX5 114 yX5_pays, Cond.instanceMethod yX5_pays, Cond.selects RX5 yX5_pays yX5_pays, Cond.code yX5_pays cX5_pays 2 (some .int), Cond.methodLink RX5 97 yX5_goods, Cond.instanceMethod yX5_goods, Cond.selects RX5 yX5_goods yX5_goods, Cond.code yX5_goods cX5_goods 4 (some .int), Cond.methodLink RX5 121 yX5_goodsOf, Cond.instanceMethod yX5_goodsOf, Cond.selects RX5 yX5_goodsOf yX5_goodsOf, Cond.code yX5_goodsOf cX5_goodsOf 3 (some .int), Cond.methodLink RX5 101 yX5_net, Cond.static yX5_net, Cond.code yX5_net cX5_net 3 (some .int)]
def wsL_law0_r12 : List Cond := [Cond.constantLong RX5 125 (5), Cond.constantLong RX5 127 (10), Cond.constantLong RX5 129 (15), Cond.constantLong RX5 131 (100), Cond.methodLink RL 109 yX4_sales, Cond.instanceMethod yX4_sales, Cond.selects RX4 yX4_sales yX4_sales, Cond.code yX4_sales cX4_sales 1 (some .int), Cond.methodLink RL 112 yX5_sales, Cond.instanceMethod yX5_sales, Cond.selects RX5 yX5_sales yX5_sales, Cond.code yX5_sales cX5_sales 1 (some .int), Cond.methodLink RL 113 yL_paid, Cond.static yL_paid, Cond.codeWith yL_paid cL_paid 4 (some .int) [(0, 9, 12, 28)], Cond.methodLink RL 33 yX4_paid, Cond.instanceMethod yX4_paid, Cond.selects RX4 yX4_paid yX4_paid, Cond.code yX4_paid cX4_paid 2 (some .int), Cond.methodLink RL 115 yX5_paid, Cond.instanceMethod yX5_paid, Cond.selects RX5 yX5_paid yX5_paid, Cond.code yX5_paid cX5_paid 2 (some .int), Cond.methodLink RL 116 yL_kept]
def wsL_law0_r13 : List Cond := [Cond.static yL_kept, Cond.codeWith yL_kept cL_kept 5 (some .int) [(0, 10, 13, 28)], Cond.methodLink RL 36 yX4_kept, Cond.instanceMethod yX4_kept, Cond.selects RX4 yX4_kept yX4_kept, Cond.code yX4_kept cX4_kept 3 (some .int), Cond.fieldLink RX4 127 "BackhaulReturns$Line" "keptUnits" "I", Cond.methodLink RX4 123 yX4_existingLine, Cond.instanceMethod yX4_existingLine, Cond.selects RX4 yX4_existingLine yX4_existingLine, Cond.code yX4_existingLine cX4_existingLine 4 (some (.object "BackhaulReturns$Line")), Cond.methodLink RX4 138 yX3_lineAt, Cond.instanceMethod yX3_lineAt, Cond.selects RX3 yX3_lineAt yX3_lineAt, Cond.code yX3_lineAt cX3_lineAt 2 (some (.object "BackhaulReturns$Line")), Cond.methodLink RL 119 yX5_kept, Cond.instanceMethod yX5_kept, Cond.selects RX5 yX5_kept yX5_kept, Cond.code yX5_kept cX5_kept 3 (some .int), Cond.methodLink RX5 117 yX5_isLine, Cond.instanceMethod yX5_isLine, Cond.selects RX5 yX5_isLine yX5_isLine, Cond.code yX5_isLine cX5_isLine 3 (some .boolean), Cond.methodLink RL 120 yL_keptValue]
def wsL_law0_r14 : List Cond := [Cond.static yL_keptValue, Cond.codeWith yL_keptValue cL_keptValue 4 (some .int) [(0, 9, 12, 28)], Cond.methodLink RL 40 yX4_keptValue, Cond.instanceMethod yX4_keptValue, Cond.selects RX4 yX4_keptValue yX4_keptValue, Cond.code yX4_keptValue cX4_keptValue 2 (some .int), Cond.methodLink RX4 130 yX3_keptGoods, Cond.methodLink RX4 134 yX4_netOf, Cond.methodLink RL 122 yX5_keptValue, Cond.instanceMethod yX5_keptValue, Cond.selects RX5 yX5_keptValue yX5_keptValue, Cond.code yX5_keptValue cX5_keptValue 2 (some .int), Cond.methodLink RL 123 yL_lineValue, Cond.static yL_lineValue, Cond.codeWith yL_lineValue cL_lineValue 5 (some .int) [(0, 10, 13, 28)], Cond.methodLink RL 43 yX4_lineValue, Cond.instanceMethod yX4_lineValue, Cond.selects RX4 yX4_lineValue yX4_lineValue, Cond.code yX4_lineValue cX4_lineValue 4 (some .int), Cond.methodLink RX4 147 yX3_shareOf, Cond.instanceMethod yX3_shareOf, Cond.selects RX3 yX3_shareOf yX3_shareOf, Cond.code yX3_shareOf cX3_shareOf 6 (some .int), Cond.methodLink RX3 67 yX3_wholeShare]
def wsL_law0_r15 : List Cond := [Cond.instanceMethod yX3_wholeShare, Cond.selects RX3 yX3_wholeShare yX3_wholeShare, Cond.code yX3_wholeShare cX3_wholeShare 5 (some .int), Cond.methodLink RX3 74 yX3_lineAt, Cond.methodLink RX3 71 yX3_linesAhead, Cond.instanceMethod yX3_linesAhead, Cond.selects RX3 yX3_linesAhead yX3_linesAhead, Cond.code yX3_linesAhead cX3_linesAhead 10 (some .int), Cond.methodLink RX3 80 yX3_remainder, Cond.instanceMethod yX3_remainder, Cond.selects RX3 yX3_remainder yX3_remainder, Cond.code yX3_remainder cX3_remainder 5 (some .long), Cond.constantLong RX3 78 (-1), Cond.methodLink RL 125 yX5_lineValue, Cond.instanceMethod yX5_lineValue, Cond.selects RX5 yX5_lineValue yX5_lineValue, Cond.code yX5_lineValue cX5_lineValue 3 (some .int), Cond.methodLink RX5 138 yX5_splits, Cond.instanceMethod yX5_splits, Cond.selects RX5 yX5_splits yX5_splits, Cond.code yX5_splits cX5_splits 8 none, Cond.methodLink RX5 135 yX5_next, Cond.instanceMethod yX5_next, Cond.selects RX5 yX5_next yX5_next]
def wsL_law0_r16 : List Cond := [Cond.code yX5_next cX5_next 4 (some .int), Cond.constantLong RX5 133 (-1), Cond.methodLink RL 126 yL_giveBack, Cond.static yL_giveBack, Cond.codeWith yL_giveBack cL_giveBack 7 (some .int) [(0, 14, 17, 28), (0, 14, 21, 13), (0, 14, 25, 19)], Cond.methodLink RL 46 yX4_giveBack, Cond.instanceMethod yX4_giveBack, Cond.selects RX4 yX4_giveBack yX4_giveBack, Cond.code yX4_giveBack cX4_giveBack 9 (some .int), Cond.fieldLink RX4 159 "BackhaulReturns$Sale" "buyer" "LBackhaulReturns$Customer;", Cond.fieldLink RX4 180 "BackhaulReturns" "feeSum" "I", Cond.methodLink RX4 150 yX4_isCondition, Cond.static yX4_isCondition, Cond.code yX4_isCondition cX4_isCondition 1 (some .boolean), Cond.methodLink RX4 155 yX4_canComeBack, Cond.instanceMethod yX4_canComeBack, Cond.selects RX4 yX4_canComeBack yX4_canComeBack, Cond.code yX4_canComeBack cX4_canComeBack 4 (some .boolean), Cond.methodLink RX4 173 yX4_ageOf, Cond.instanceMethod yX4_ageOf, Cond.selects RX4 yX4_ageOf yX4_ageOf, Cond.code yX4_ageOf cX4_ageOf 2 (some .int), Cond.fieldLink RX4 193 "BackhaulReturns$Sale" "firstPaidDay" "I", Cond.methodLink RX4 163 yX4_isBlocked]
def wsL_law0_r17 : List Cond := [Cond.instanceMethod yX4_isBlocked, Cond.selects RX4 yX4_isBlocked yX4_isBlocked, Cond.code yX4_isBlocked cX4_isBlocked 2 (some .boolean), Cond.methodLink RX4 221 yX0_scoreOn, Cond.instanceMethod yX0_scoreOn, Cond.selects RX0 yX0_scoreOn yX0_scoreOn, Cond.code yX0_scoreOn cX0_scoreOn 5 (some .int), Cond.fieldLink RX0 22 "BackhaulReturns$Customer" "count" "I", Cond.methodLink RX4 169 yX4_takeBack, Cond.instanceMethod yX4_takeBack, Cond.selects RX4 yX4_takeBack yX4_takeBack, Cond.code yX4_takeBack cX4_takeBack 8 (some .int), Cond.fieldLink RX4 200 "BackhaulReturns$Sale" "amountReleased" "I", Cond.fieldLink RX4 229 "BackhaulReturns$Line" "product" "LBackhaulReturns$Product;", Cond.methodLink RX4 196 yX3_freedBy, Cond.instanceMethod yX3_freedBy, Cond.selects RX3 yX3_freedBy yX3_freedBy, Cond.code yX3_freedBy cX3_freedBy 4 (some .int), Cond.fieldLink RX3 58 "BackhaulReturns$Sale" "amountReleased" "I", Cond.methodLink RX3 61 Lib.Math.max.name, Cond.static Lib.Math.max.name, Cond.initialized "java/lang/Math", Cond.code Lib.Math.max.name Lib.Math.max.code 2 (some .int), Cond.methodLink RX4 203 yX2_optionFor]
def wsL_law0_r18 : List Cond := [Cond.instanceMethod yX2_optionFor, Cond.selects RX2 yX2_optionFor yX2_optionFor, Cond.code yX2_optionFor cX2_optionFor 4 (some .int), Cond.methodLink RX2 25 yX2_isOffered, Cond.static yX2_isOffered, Cond.code yX2_isOffered cX2_isOffered 2 (some .boolean), Cond.methodLink RX2 29 yX2_worthOf, Cond.instanceMethod yX2_worthOf, Cond.selects RX2 yX2_worthOf yX2_worthOf, Cond.code yX2_worthOf cX2_worthOf 3 (some .int), Cond.methodLink RX2 40 Lib.Math.max.name, Cond.methodLink RX2 33 yX2_repairWorth, Cond.instanceMethod yX2_repairWorth, Cond.selects RX2 yX2_repairWorth yX2_repairWorth, Cond.code yX2_repairWorth cX2_repairWorth 1 (some .int), Cond.methodLink RX2 37 yX2_salvageWorth, Cond.instanceMethod yX2_salvageWorth, Cond.selects RX2 yX2_salvageWorth yX2_salvageWorth, Cond.code yX2_salvageWorth cX2_salvageWorth 1 (some .int), Cond.methodLink RX2 45 yJ9_floorDiv_7cf53, Cond.static yJ9_floorDiv_7cf53, Cond.initialized RJ9, Cond.code yJ9_floorDiv_7cf53 cJ9_floorDiv_7cf53 3 (some .int), Cond.methodLink RX4 217 yX2_move]
def wsL_law0_r19 : List Cond := [Cond.instanceMethod yX2_move, Cond.selects RX2 yX2_move yX2_move, Cond.code yX2_move cX2_move 3 none, Cond.methodLink RX4 233 yX0_remember, Cond.instanceMethod yX0_remember, Cond.selects RX0 yX0_remember yX0_remember, Cond.code yX0_remember cX0_remember 4 none, Cond.methodLink RX0 26 yX0_forgetBefore, Cond.instanceMethod yX0_forgetBefore, Cond.selects RX0 yX0_forgetBefore yX0_forgetBefore, Cond.code yX0_forgetBefore cX0_forgetBefore 4 none, Cond.methodLink RX4 176 yX4_feeOn, Cond.static yX4_feeOn, Cond.code yX4_feeOn cX4_feeOn 3 (some .int), Cond.methodLink RL 128 yX5_giveBack, Cond.instanceMethod yX5_giveBack, Cond.selects RX5 yX5_giveBack yX5_giveBack, Cond.code yX5_giveBack cX5_giveBack 7 (some .int), Cond.fieldLink RX5 181 "BackhaulReturnsModel" "fees" "I", Cond.methodLink RX5 167 yX5_wrong, Cond.instanceMethod yX5_wrong, Cond.selects RX5 yX5_wrong yX5_wrong, Cond.code yX5_wrong cX5_wrong 5 (some .int), Cond.methodLink RX5 161 yX5_age]
def wsL_law0_r20 : List Cond := [Cond.instanceMethod yX5_age, Cond.selects RX5 yX5_age yX5_age, Cond.code yX5_age cX5_age 2 (some .int), Cond.methodLink RX5 171 yX5_barred, Cond.instanceMethod yX5_barred, Cond.selects RX5 yX5_barred yX5_barred, Cond.code yX5_barred cX5_barred 3 (some .int), Cond.methodLink RX5 158 yX5_scoreOf, Cond.instanceMethod yX5_scoreOf, Cond.selects RX5 yX5_scoreOf yX5_scoreOf, Cond.code yX5_scoreOf cX5_scoreOf 6 (some .int), Cond.fieldLink RX5 155 "BackhaulReturnsModel" "backs" "I", Cond.methodLink RX5 174 yX5_comesBack, Cond.instanceMethod yX5_comesBack, Cond.selects RX5 yX5_comesBack yX5_comesBack, Cond.code yX5_comesBack cX5_comesBack 8 (some .int), Cond.methodLink RX5 164 yX5_release, Cond.instanceMethod yX5_release, Cond.selects RX5 yX5_release yX5_release, Cond.code yX5_release cX5_release 5 (some .int), Cond.methodLink RX5 152 yX5_best, Cond.instanceMethod yX5_best, Cond.selects RX5 yX5_best yX5_best, Cond.code yX5_best cX5_best 5 (some .int)]
def wsL_law0_r21 : List Cond := [Cond.methodLink RX5 146 yX5_worth, Cond.instanceMethod yX5_worth, Cond.selects RX5 yX5_worth yX5_worth, Cond.code yX5_worth cX5_worth 8 (some .int), Cond.constant RX5 142 (-2000000000), Cond.methodLink RX5 143 yX5_part, Cond.static yX5_part, Cond.code yX5_part cX5_part 2 (some .int), Cond.methodLink RX5 178 yX5_fee, Cond.instanceMethod yX5_fee, Cond.selects RX5 yX5_fee yX5_fee, Cond.code yX5_fee cX5_fee 5 (some .int), Cond.methodLink RL 129 yL_exchange, Cond.static yL_exchange, Cond.codeWith yL_exchange cL_exchange 8 (some .int) [(0, 16, 19, 28), (0, 16, 23, 13), (0, 16, 27, 19)], Cond.methodLink RL 49 yX4_exchange, Cond.instanceMethod yX4_exchange, Cond.selects RX4 yX4_exchange yX4_exchange, Cond.code yX4_exchange cX4_exchange 11 (some .int), Cond.fieldLink RX4 187 "BackhaulReturns$Sale" "depth" "I", Cond.fieldLink RX4 190 "BackhaulReturns$Sale" "firstNumber" "I", Cond.methodLink RL 132 yX5_exchange, Cond.instanceMethod yX5_exchange, Cond.selects RX5 yX5_exchange yX5_exchange]
def wsL_law0_r22 : List Cond := [Cond.code yX5_exchange cX5_exchange 10 (some .int), Cond.methodLink RL 133 yL_quote, Cond.static yL_quote, Cond.codeWith yL_quote cL_quote 7 (some .int) [(0, 14, 17, 28), (0, 14, 21, 13), (0, 14, 25, 19)], Cond.methodLink RL 53 yX4_quote, Cond.instanceMethod yX4_quote, Cond.selects RX4 yX4_quote yX4_quote, Cond.code yX4_quote cX4_quote 8 (some .int), Cond.methodLink RL 135 yX5_quote, Cond.instanceMethod yX5_quote, Cond.selects RX5 yX5_quote yX5_quote, Cond.code yX5_quote cX5_quote 6 (some .int), Cond.methodLink RL 136 yL_released, Cond.static yL_released, Cond.codeWith yL_released cL_released 4 (some .int) [(0, 9, 12, 28)], Cond.methodLink RL 56 yX4_released, Cond.instanceMethod yX4_released, Cond.selects RX4 yX4_released yX4_released, Cond.code yX4_released cX4_released 2 (some .int), Cond.methodLink RL 138 yX5_released, Cond.instanceMethod yX5_released, Cond.selects RX5 yX5_released yX5_released, Cond.code yX5_released cX5_released 2 (some .int), Cond.methodLink RL 139 yX4_fees]
def wsL_law0_r23 : List Cond := [Cond.instanceMethod yX4_fees, Cond.selects RX4 yX4_fees yX4_fees, Cond.code yX4_fees cX4_fees 1 (some .int), Cond.methodLink RL 142 yX5_fees, Cond.instanceMethod yX5_fees, Cond.selects RX5 yX5_fees yX5_fees, Cond.code yX5_fees cX5_fees 1 (some .int), Cond.methodLink RL 143 yL_firstSale, Cond.static yL_firstSale, Cond.codeWith yL_firstSale cL_firstSale 4 (some .int) [(0, 9, 12, 28)], Cond.methodLink RL 59 yX4_firstSale, Cond.instanceMethod yX4_firstSale, Cond.selects RX4 yX4_firstSale yX4_firstSale, Cond.code yX4_firstSale cX4_firstSale 2 (some .int), Cond.methodLink RL 145 yX5_firstSale, Cond.instanceMethod yX5_firstSale, Cond.selects RX5 yX5_firstSale yX5_firstSale, Cond.code yX5_firstSale cX5_firstSale 2 (some .int), Cond.methodLink RL 146 yL_exchanges, Cond.static yL_exchanges, Cond.codeWith yL_exchanges cL_exchanges 4 (some .int) [(0, 9, 12, 28)], Cond.methodLink RL 62 yX4_exchanges, Cond.instanceMethod yX4_exchanges, Cond.selects RX4 yX4_exchanges yX4_exchanges]
def wsL_law0_r24 : List Cond := [Cond.code yX4_exchanges cX4_exchanges 2 (some .int), Cond.methodLink RL 148 yX5_exchanges, Cond.instanceMethod yX5_exchanges, Cond.selects RX5 yX5_exchanges yX5_exchanges, Cond.code yX5_exchanges cX5_exchanges 2 (some .int), Cond.methodLink RL 149 yL_bestOption, Cond.static yL_bestOption, Cond.codeWith yL_bestOption cL_bestOption 5 (some .int) [(0, 10, 13, 13)], Cond.methodLink RL 65 yX4_bestOption, Cond.instanceMethod yX4_bestOption, Cond.selects RX4 yX4_bestOption yX4_bestOption, Cond.code yX4_bestOption cX4_bestOption 4 (some .int), Cond.methodLink RL 151 yX5_bestOption, Cond.instanceMethod yX5_bestOption, Cond.selects RX5 yX5_bestOption yX5_bestOption, Cond.code yX5_bestOption cX5_bestOption 3 (some .int), Cond.methodLink RX5 149 yX5_asksOption, Cond.instanceMethod yX5_asksOption, Cond.selects RX5 yX5_asksOption yX5_asksOption, Cond.code yX5_asksOption cX5_asksOption 3 (some .boolean), Cond.methodLink RL 152 yL_bestWorth, Cond.static yL_bestWorth, Cond.codeWith yL_bestWorth cL_bestWorth 5 (some .int) [(0, 10, 13, 13)], Cond.methodLink RL 68 yX4_bestWorth]
def wsL_law0_r25 : List Cond := [Cond.instanceMethod yX4_bestWorth, Cond.selects RX4 yX4_bestWorth yX4_bestWorth, Cond.code yX4_bestWorth cX4_bestWorth 4 (some .int), Cond.methodLink RX4 206 yX2_worthOf, Cond.methodLink RL 154 yX5_bestWorth, Cond.instanceMethod yX5_bestWorth, Cond.selects RX5 yX5_bestWorth yX5_bestWorth, Cond.code yX5_bestWorth cX5_bestWorth 3 (some .int), Cond.methodLink RL 155 yL_stock, Cond.static yL_stock, Cond.codeWith yL_stock cL_stock 5 (some .int) [(0, 10, 13, 13)], Cond.methodLink RL 71 yX4_stock, Cond.instanceMethod yX4_stock, Cond.selects RX4 yX4_stock yX4_stock, Cond.code yX4_stock cX4_stock 4 (some .int), Cond.methodLink RX4 210 yX2_unitsAt, Cond.instanceMethod yX2_unitsAt, Cond.selects RX2 yX2_unitsAt yX2_unitsAt, Cond.code yX2_unitsAt cX2_unitsAt 2 (some .int), Cond.methodLink RL 157 yX5_stock, Cond.instanceMethod yX5_stock, Cond.selects RX5 yX5_stock yX5_stock, Cond.code yX5_stock cX5_stock 3 (some .int), Cond.methodLink RL 158 yL_test]
def wsL_law0_r26 : List Cond := [Cond.static yL_test, Cond.codeWith yL_test cL_test 5 (some .int) [(0, 10, 13, 13), (0, 10, 17, 19)], Cond.methodLink RL 74 yX4_test, Cond.instanceMethod yX4_test, Cond.selects RX4 yX4_test yX4_test, Cond.code yX4_test cX4_test 5 (some .int), Cond.methodLink RL 161 yX5_test, Cond.instanceMethod yX5_test, Cond.selects RX5 yX5_test yX5_test, Cond.code yX5_test cX5_test 4 (some .int), Cond.methodLink RL 162 yL_score, Cond.static yL_score, Cond.codeWith yL_score cL_score 4 (some .int) [(0, 9, 12, 13)], Cond.methodLink RL 78 yX4_score, Cond.instanceMethod yX4_score, Cond.selects RX4 yX4_score yX4_score, Cond.code yX4_score cX4_score 3 (some .int), Cond.methodLink RL 164 yX5_score, Cond.instanceMethod yX5_score, Cond.selects RX5 yX5_score yX5_score, Cond.code yX5_score cX5_score 2 (some .int)]
def wsL_law0 : List Cond := (wsL_law0_r1 ++ (wsL_law0_r2 ++ (wsL_law0_r3 ++ (wsL_law0_r4 ++ (wsL_law0_r5 ++ (wsL_law0_r6 ++ (wsL_law0_r7 ++ (wsL_law0_r8 ++ (wsL_law0_r9 ++ (wsL_law0_r10 ++ (wsL_law0_r11 ++ (wsL_law0_r12 ++ (wsL_law0_r13 ++ (wsL_law0_r14 ++ (wsL_law0_r15 ++ (wsL_law0_r16 ++ (wsL_law0_r17 ++ (wsL_law0_r18 ++ (wsL_law0_r19 ++ (wsL_law0_r20 ++ (wsL_law0_r21 ++ (wsL_law0_r22 ++ (wsL_law0_r23 ++ (wsL_law0_r24 ++ (wsL_law0_r25 ++ wsL_law0_r26))))))))))))))))))))))))) ++ wsX40 ++ wsX50 ++ wsX20 ++ wsX00 ++ wsX30 ++ wsX10 ++ ([] : List Cond)
def wsL_law : List Cond := wsL_law0 ++ (vx_atS RX4 42 "java/lang/IllegalArgumentException" ["java/lang/RuntimeException", "java/lang/Exception"]).filter goodWord ++ (vx_atS RX4 64 "java/lang/IllegalStateException" ["java/lang/RuntimeException", "java/lang/Exception"]).filter goodWord ++ (vx_atS RX4 146 "java/lang/IndexOutOfBoundsException" ["java/lang/RuntimeException", "java/lang/Exception"]).filter goodWord
theorem inJ9 : ∀ w ∈ wsJ90, w ∈ lw_tbl := by decide +kernel
theorem inJ0 : ∀ w ∈ wsJ00, w ∈ lw_tbl := by decide +kernel
abbrev vwCl : List vw_C := [(RX0, TX0, 4), (RX1, TX1, 4), (RX2, TX2, 4), (RX3, TX3, 9), (RX4, TX4, 6), (RX5, TX5, 25)]
end
section
theorem dX0_init_0 : decode cX0_init 0 = .ok (.aload_n 0, 1) := by decide +kernel
theorem dX0_init_1 : decode cX0_init 1 = .ok (.invokespecial 3, 3) := by decide +kernel
theorem dX0_init_4 : decode cX0_init 4 = .ok (.aload_n 0, 1) := by decide +kernel
theorem dX0_init_5 : decode cX0_init 5 = .ok (.bipush 20, 2) := by decide +kernel
theorem dX0_init_7 : decode cX0_init 7 = .ok (.newarray .int, 2) := by decide +kernel
theorem dX0_init_9 : decode cX0_init 9 = .ok (.putfield 9, 3) := by decide +kernel
theorem dX0_init_12 : decode cX0_init 12 = .ok (.aload_n 0, 1) := by decide +kernel
theorem dX0_init_13 : decode cX0_init 13 = .ok (.bipush 20, 2) := by decide +kernel
theorem dX0_init_15 : decode cX0_init 15 = .ok (.newarray .int, 2) := by decide +kernel
theorem dX0_init_17 : decode cX0_init 17 = .ok (.putfield 15, 3) := by decide +kernel
theorem dX0_init_20 : decode cX0_init 20 = .ok (.aload_n 0, 1) := by decide +kernel
theorem dX0_init_21 : decode cX0_init 21 = .ok (.bipush 20, 2) := by decide +kernel
theorem dX0_init_23 : decode cX0_init 23 = .ok (.newarray .boolean, 2) := by decide +kernel
theorem dX0_init_25 : decode cX0_init 25 = .ok (.putfield 18, 3) := by decide +kernel
theorem dX0_init_28 : decode cX0_init 28 = .ok (.return_, 1) := by decide +kernel
theorem dX0_scoreOn_0 : decode cX0_scoreOn 0 = .ok (.iconst 0, 1) := by decide +kernel
theorem dX0_scoreOn_1 : decode cX0_scoreOn 1 = .ok (.istore_n 2, 1) := by decide +kernel
theorem dX0_scoreOn_2 : decode cX0_scoreOn 2 = .ok (.iconst 0, 1) := by decide +kernel
theorem dX0_scoreOn_3 : decode cX0_scoreOn 3 = .ok (.istore_n 3, 1) := by decide +kernel
theorem dX0_scoreOn_4 : decode cX0_scoreOn 4 = .ok (.iload_n 3, 1) := by decide +kernel
theorem dX0_scoreOn_5 : decode cX0_scoreOn 5 = .ok (.aload_n 0, 1) := by decide +kernel
theorem dX0_scoreOn_6 : decode cX0_scoreOn 6 = .ok (.getfield 22, 3) := by decide +kernel
theorem dX0_scoreOn_9 : decode cX0_scoreOn 9 = .ok (.if_icmp .ge 69, 3) := by decide +kernel
theorem dX0_scoreOn_12 : decode cX0_scoreOn 12 = .ok (.iload_n 3, 1) := by decide +kernel
theorem dX0_scoreOn_13 : decode cX0_scoreOn 13 = .ok (.bipush 20, 2) := by decide +kernel
theorem dX0_scoreOn_15 : decode cX0_scoreOn 15 = .ok (.if_icmp .ge 63, 3) := by decide +kernel
theorem dX0_scoreOn_18 : decode cX0_scoreOn 18 = .ok (.iload_n 1, 1) := by decide +kernel
theorem dX0_scoreOn_19 : decode cX0_scoreOn 19 = .ok (.aload_n 0, 1) := by decide +kernel
theorem dX0_scoreOn_20 : decode cX0_scoreOn 20 = .ok (.getfield 9, 3) := by decide +kernel
theorem dX0_scoreOn_23 : decode cX0_scoreOn 23 = .ok (.iload_n 3, 1) := by decide +kernel
theorem dX0_scoreOn_24 : decode cX0_scoreOn 24 = .ok (.iaload, 1) := by decide +kernel
theorem dX0_scoreOn_25 : decode cX0_scoreOn 25 = .ok (.isub, 1) := by decide +kernel
theorem dX0_scoreOn_26 : decode cX0_scoreOn 26 = .ok (.istore 4, 2) := by decide +kernel
theorem dX0_scoreOn_28 : decode cX0_scoreOn 28 = .ok (.iload 4, 2) := by decide +kernel
theorem dX0_scoreOn_30 : decode cX0_scoreOn 30 = .ok (.bipush 30, 2) := by decide +kernel
theorem dX0_scoreOn_32 : decode cX0_scoreOn 32 = .ok (.if_icmp .ge 15, 3) := by decide +kernel
theorem dX0_scoreOn_35 : decode cX0_scoreOn 35 = .ok (.iload_n 2, 1) := by decide +kernel
theorem dX0_scoreOn_36 : decode cX0_scoreOn 36 = .ok (.bipush 10, 2) := by decide +kernel
theorem dX0_scoreOn_38 : decode cX0_scoreOn 38 = .ok (.aload_n 0, 1) := by decide +kernel
theorem dX0_scoreOn_39 : decode cX0_scoreOn 39 = .ok (.getfield 15, 3) := by decide +kernel
theorem dX0_scoreOn_42 : decode cX0_scoreOn 42 = .ok (.iload_n 3, 1) := by decide +kernel
theorem dX0_scoreOn_43 : decode cX0_scoreOn 43 = .ok (.iaload, 1) := by decide +kernel
theorem dX0_scoreOn_44 : decode cX0_scoreOn 44 = .ok (.imul, 1) := by decide +kernel
theorem dX0_scoreOn_45 : decode cX0_scoreOn 45 = .ok (.iadd, 1) := by decide +kernel
theorem dX0_scoreOn_46 : decode cX0_scoreOn 46 = .ok (.istore_n 2, 1) := by decide +kernel
theorem dX0_scoreOn_47 : decode cX0_scoreOn 47 = .ok (.iload 4, 2) := by decide +kernel
theorem dX0_scoreOn_49 : decode cX0_scoreOn 49 = .ok (.bipush 90, 2) := by decide +kernel
theorem dX0_scoreOn_51 : decode cX0_scoreOn 51 = .ok (.if_icmp .ge 21, 3) := by decide +kernel
theorem dX0_scoreOn_54 : decode cX0_scoreOn 54 = .ok (.iload_n 2, 1) := by decide +kernel
theorem dX0_scoreOn_55 : decode cX0_scoreOn 55 = .ok (.aload_n 0, 1) := by decide +kernel
theorem dX0_scoreOn_56 : decode cX0_scoreOn 56 = .ok (.getfield 18, 3) := by decide +kernel
theorem dX0_scoreOn_59 : decode cX0_scoreOn 59 = .ok (.iload_n 3, 1) := by decide +kernel
theorem dX0_scoreOn_60 : decode cX0_scoreOn 60 = .ok (.baload, 1) := by decide +kernel
theorem dX0_scoreOn_61 : decode cX0_scoreOn 61 = .ok (.ifCond .eq 8, 3) := by decide +kernel
theorem dX0_scoreOn_64 : decode cX0_scoreOn 64 = .ok (.bipush 25, 2) := by decide +kernel
theorem dX0_scoreOn_66 : decode cX0_scoreOn 66 = .ok (.goto 4, 3) := by decide +kernel
theorem dX0_scoreOn_69 : decode cX0_scoreOn 69 = .ok (.iconst 5, 1) := by decide +kernel
theorem dX0_scoreOn_70 : decode cX0_scoreOn 70 = .ok (.iadd, 1) := by decide +kernel
theorem dX0_scoreOn_71 : decode cX0_scoreOn 71 = .ok (.istore_n 2, 1) := by decide +kernel
theorem dX0_scoreOn_72 : decode cX0_scoreOn 72 = .ok (.iinc 3 1, 3) := by decide +kernel
theorem dX0_scoreOn_75 : decode cX0_scoreOn 75 = .ok (.goto (-71), 3) := by decide +kernel
theorem dX0_scoreOn_78 : decode cX0_scoreOn 78 = .ok (.iload_n 2, 1) := by decide +kernel
theorem dX0_scoreOn_79 : decode cX0_scoreOn 79 = .ok (.ireturn, 1) := by decide +kernel
set_option maxRecDepth 20000 in
theorem ggX0_remember_X0_forgetBefore : GoodIn wsX0_remember wsX0_forgetBefore := goodIn_r _ [9, 1, 2, 3, 4, 10, 11, 12, 13] (by decide +kernel) (by decide +kernel)
set_option maxRecDepth 20000 in
theorem gX0_remember_X0_forgetBefore : GoodIn wsX0_remember (wsV RX0 26 RX0 yX0_forgetBefore wsX0_forgetBefore) := goodIn_app (goodIn_of _ (by decide +kernel)) ggX0_remember_X0_forgetBefore
theorem dX0_remember_0 : decode cX0_remember 0 = .ok (.aload_n 0, 1) := by decide +kernel
theorem dX0_remember_1 : decode cX0_remember 1 = .ok (.iload_n 1, 1) := by decide +kernel
theorem dX0_remember_2 : decode cX0_remember 2 = .ok (.bipush 90, 2) := by decide +kernel
theorem dX0_remember_4 : decode cX0_remember 4 = .ok (.isub, 1) := by decide +kernel
theorem dX0_remember_5 : decode cX0_remember 5 = .ok (.iconst 1, 1) := by decide +kernel
theorem dX0_remember_6 : decode cX0_remember 6 = .ok (.iadd, 1) := by decide +kernel
theorem dX0_remember_7 : decode cX0_remember 7 = .ok (.invokevirtual 26, 3) := by decide +kernel
theorem dX0_remember_10 : decode cX0_remember 10 = .ok (.aload_n 0, 1) := by decide +kernel
theorem dX0_remember_11 : decode cX0_remember 11 = .ok (.getfield 22, 3) := by decide +kernel
theorem dX0_remember_14 : decode cX0_remember 14 = .ok (.ifCond .lt 52, 3) := by decide +kernel
theorem dX0_remember_17 : decode cX0_remember 17 = .ok (.aload_n 0, 1) := by decide +kernel
theorem dX0_remember_18 : decode cX0_remember 18 = .ok (.getfield 22, 3) := by decide +kernel
theorem dX0_remember_21 : decode cX0_remember 21 = .ok (.bipush 20, 2) := by decide +kernel
theorem dX0_remember_23 : decode cX0_remember 23 = .ok (.if_icmp .ge 43, 3) := by decide +kernel
theorem dX0_remember_26 : decode cX0_remember 26 = .ok (.aload_n 0, 1) := by decide +kernel
theorem dX0_remember_27 : decode cX0_remember 27 = .ok (.getfield 9, 3) := by decide +kernel
theorem dX0_remember_30 : decode cX0_remember 30 = .ok (.aload_n 0, 1) := by decide +kernel
theorem dX0_remember_31 : decode cX0_remember 31 = .ok (.getfield 22, 3) := by decide +kernel
theorem dX0_remember_34 : decode cX0_remember 34 = .ok (.iload_n 1, 1) := by decide +kernel
theorem dX0_remember_35 : decode cX0_remember 35 = .ok (.iastore, 1) := by decide +kernel
theorem dX0_remember_36 : decode cX0_remember 36 = .ok (.aload_n 0, 1) := by decide +kernel
theorem dX0_remember_37 : decode cX0_remember 37 = .ok (.getfield 15, 3) := by decide +kernel
theorem dX0_remember_40 : decode cX0_remember 40 = .ok (.aload_n 0, 1) := by decide +kernel
theorem dX0_remember_41 : decode cX0_remember 41 = .ok (.getfield 22, 3) := by decide +kernel
theorem dX0_remember_44 : decode cX0_remember 44 = .ok (.iload_n 2, 1) := by decide +kernel
theorem dX0_remember_45 : decode cX0_remember 45 = .ok (.iastore, 1) := by decide +kernel
theorem dX0_remember_46 : decode cX0_remember 46 = .ok (.aload_n 0, 1) := by decide +kernel
theorem dX0_remember_47 : decode cX0_remember 47 = .ok (.getfield 18, 3) := by decide +kernel
theorem dX0_remember_50 : decode cX0_remember 50 = .ok (.aload_n 0, 1) := by decide +kernel
theorem dX0_remember_51 : decode cX0_remember 51 = .ok (.getfield 22, 3) := by decide +kernel
theorem dX0_remember_54 : decode cX0_remember 54 = .ok (.iload_n 3, 1) := by decide +kernel
theorem dX0_remember_55 : decode cX0_remember 55 = .ok (.bastore, 1) := by decide +kernel
theorem dX0_remember_56 : decode cX0_remember 56 = .ok (.aload_n 0, 1) := by decide +kernel
theorem dX0_remember_57 : decode cX0_remember 57 = .ok (.dup, 1) := by decide +kernel
theorem dX0_remember_58 : decode cX0_remember 58 = .ok (.getfield 22, 3) := by decide +kernel
theorem dX0_remember_61 : decode cX0_remember 61 = .ok (.iconst 1, 1) := by decide +kernel
theorem dX0_remember_62 : decode cX0_remember 62 = .ok (.iadd, 1) := by decide +kernel
theorem dX0_remember_63 : decode cX0_remember 63 = .ok (.putfield 22, 3) := by decide +kernel
theorem dX0_remember_66 : decode cX0_remember 66 = .ok (.return_, 1) := by decide +kernel
theorem dX0_forgetBefore_0 : decode cX0_forgetBefore 0 = .ok (.iconst 0, 1) := by decide +kernel
theorem dX0_forgetBefore_1 : decode cX0_forgetBefore 1 = .ok (.istore_n 2, 1) := by decide +kernel
theorem dX0_forgetBefore_2 : decode cX0_forgetBefore 2 = .ok (.iconst 0, 1) := by decide +kernel
theorem dX0_forgetBefore_3 : decode cX0_forgetBefore 3 = .ok (.istore_n 3, 1) := by decide +kernel
theorem dX0_forgetBefore_4 : decode cX0_forgetBefore 4 = .ok (.iload_n 3, 1) := by decide +kernel
theorem dX0_forgetBefore_5 : decode cX0_forgetBefore 5 = .ok (.aload_n 0, 1) := by decide +kernel
theorem dX0_forgetBefore_6 : decode cX0_forgetBefore 6 = .ok (.getfield 22, 3) := by decide +kernel
theorem dX0_forgetBefore_9 : decode cX0_forgetBefore 9 = .ok (.if_icmp .ge 70, 3) := by decide +kernel
theorem dX0_forgetBefore_12 : decode cX0_forgetBefore 12 = .ok (.iload_n 3, 1) := by decide +kernel
theorem dX0_forgetBefore_13 : decode cX0_forgetBefore 13 = .ok (.bipush 20, 2) := by decide +kernel
theorem dX0_forgetBefore_15 : decode cX0_forgetBefore 15 = .ok (.if_icmp .ge 64, 3) := by decide +kernel
theorem dX0_forgetBefore_18 : decode cX0_forgetBefore 18 = .ok (.aload_n 0, 1) := by decide +kernel
theorem dX0_forgetBefore_19 : decode cX0_forgetBefore 19 = .ok (.getfield 9, 3) := by decide +kernel
theorem dX0_forgetBefore_22 : decode cX0_forgetBefore 22 = .ok (.iload_n 3, 1) := by decide +kernel
theorem dX0_forgetBefore_23 : decode cX0_forgetBefore 23 = .ok (.iaload, 1) := by decide +kernel
theorem dX0_forgetBefore_24 : decode cX0_forgetBefore 24 = .ok (.iload_n 1, 1) := by decide +kernel
theorem dX0_forgetBefore_25 : decode cX0_forgetBefore 25 = .ok (.if_icmp .lt 48, 3) := by decide +kernel
theorem dX0_forgetBefore_28 : decode cX0_forgetBefore 28 = .ok (.iload_n 2, 1) := by decide +kernel
theorem dX0_forgetBefore_29 : decode cX0_forgetBefore 29 = .ok (.bipush 20, 2) := by decide +kernel
theorem dX0_forgetBefore_31 : decode cX0_forgetBefore 31 = .ok (.if_icmp .ge 42, 3) := by decide +kernel
theorem dX0_forgetBefore_34 : decode cX0_forgetBefore 34 = .ok (.aload_n 0, 1) := by decide +kernel
theorem dX0_forgetBefore_35 : decode cX0_forgetBefore 35 = .ok (.getfield 9, 3) := by decide +kernel
theorem dX0_forgetBefore_38 : decode cX0_forgetBefore 38 = .ok (.iload_n 2, 1) := by decide +kernel
theorem dX0_forgetBefore_39 : decode cX0_forgetBefore 39 = .ok (.aload_n 0, 1) := by decide +kernel
theorem dX0_forgetBefore_40 : decode cX0_forgetBefore 40 = .ok (.getfield 9, 3) := by decide +kernel
theorem dX0_forgetBefore_43 : decode cX0_forgetBefore 43 = .ok (.iload_n 3, 1) := by decide +kernel
theorem dX0_forgetBefore_44 : decode cX0_forgetBefore 44 = .ok (.iaload, 1) := by decide +kernel
theorem dX0_forgetBefore_45 : decode cX0_forgetBefore 45 = .ok (.iastore, 1) := by decide +kernel
theorem dX0_forgetBefore_46 : decode cX0_forgetBefore 46 = .ok (.aload_n 0, 1) := by decide +kernel
theorem dX0_forgetBefore_47 : decode cX0_forgetBefore 47 = .ok (.getfield 15, 3) := by decide +kernel
theorem dX0_forgetBefore_50 : decode cX0_forgetBefore 50 = .ok (.iload_n 2, 1) := by decide +kernel
theorem dX0_forgetBefore_51 : decode cX0_forgetBefore 51 = .ok (.aload_n 0, 1) := by decide +kernel
theorem dX0_forgetBefore_52 : decode cX0_forgetBefore 52 = .ok (.getfield 15, 3) := by decide +kernel
theorem dX0_forgetBefore_55 : decode cX0_forgetBefore 55 = .ok (.iload_n 3, 1) := by decide +kernel
theorem dX0_forgetBefore_56 : decode cX0_forgetBefore 56 = .ok (.iaload, 1) := by decide +kernel
theorem dX0_forgetBefore_57 : decode cX0_forgetBefore 57 = .ok (.iastore, 1) := by decide +kernel
theorem dX0_forgetBefore_58 : decode cX0_forgetBefore 58 = .ok (.aload_n 0, 1) := by decide +kernel
theorem dX0_forgetBefore_59 : decode cX0_forgetBefore 59 = .ok (.getfield 18, 3) := by decide +kernel
theorem dX0_forgetBefore_62 : decode cX0_forgetBefore 62 = .ok (.iload_n 2, 1) := by decide +kernel
theorem dX0_forgetBefore_63 : decode cX0_forgetBefore 63 = .ok (.aload_n 0, 1) := by decide +kernel
theorem dX0_forgetBefore_64 : decode cX0_forgetBefore 64 = .ok (.getfield 18, 3) := by decide +kernel
theorem dX0_forgetBefore_67 : decode cX0_forgetBefore 67 = .ok (.iload_n 3, 1) := by decide +kernel
theorem dX0_forgetBefore_68 : decode cX0_forgetBefore 68 = .ok (.baload, 1) := by decide +kernel
theorem dX0_forgetBefore_69 : decode cX0_forgetBefore 69 = .ok (.bastore, 1) := by decide +kernel
theorem dX0_forgetBefore_70 : decode cX0_forgetBefore 70 = .ok (.iinc 2 1, 3) := by decide +kernel
theorem dX0_forgetBefore_73 : decode cX0_forgetBefore 73 = .ok (.iinc 3 1, 3) := by decide +kernel
theorem dX0_forgetBefore_76 : decode cX0_forgetBefore 76 = .ok (.goto (-72), 3) := by decide +kernel
theorem dX0_forgetBefore_79 : decode cX0_forgetBefore 79 = .ok (.aload_n 0, 1) := by decide +kernel
theorem dX0_forgetBefore_80 : decode cX0_forgetBefore 80 = .ok (.iload_n 2, 1) := by decide +kernel
theorem dX0_forgetBefore_81 : decode cX0_forgetBefore 81 = .ok (.putfield 22, 3) := by decide +kernel
theorem dX0_forgetBefore_84 : decode cX0_forgetBefore 84 = .ok (.return_, 1) := by decide +kernel
theorem dX1_init_0 : decode cX1_init 0 = .ok (.aload_n 0, 1) := by decide +kernel
theorem dX1_init_1 : decode cX1_init 1 = .ok (.invokespecial 1, 3) := by decide +kernel
theorem dX1_init_4 : decode cX1_init 4 = .ok (.aload_n 0, 1) := by decide +kernel
theorem dX1_init_5 : decode cX1_init 5 = .ok (.aload_n 1, 1) := by decide +kernel
theorem dX1_init_6 : decode cX1_init 6 = .ok (.putfield 7, 3) := by decide +kernel
theorem dX1_init_9 : decode cX1_init 9 = .ok (.aload_n 0, 1) := by decide +kernel
theorem dX1_init_10 : decode cX1_init 10 = .ok (.iload_n 2, 1) := by decide +kernel
theorem dX1_init_11 : decode cX1_init 11 = .ok (.putfield 13, 3) := by decide +kernel
theorem dX1_init_14 : decode cX1_init 14 = .ok (.aload_n 0, 1) := by decide +kernel
theorem dX1_init_15 : decode cX1_init 15 = .ok (.aload_n 1, 1) := by decide +kernel
theorem dX1_init_16 : decode cX1_init 16 = .ok (.getfield 17, 3) := by decide +kernel
theorem dX1_init_19 : decode cX1_init 19 = .ok (.putfield 22, 3) := by decide +kernel
theorem dX1_init_22 : decode cX1_init 22 = .ok (.return_, 1) := by decide +kernel
theorem dX1_goodsOf_0 : decode cX1_goodsOf 0 = .ok (.iload_n 1, 1) := by decide +kernel
theorem dX1_goodsOf_1 : decode cX1_goodsOf 1 = .ok (.aload_n 0, 1) := by decide +kernel
theorem dX1_goodsOf_2 : decode cX1_goodsOf 2 = .ok (.getfield 22, 3) := by decide +kernel
theorem dX1_goodsOf_5 : decode cX1_goodsOf 5 = .ok (.imul, 1) := by decide +kernel
theorem dX1_goodsOf_6 : decode cX1_goodsOf 6 = .ok (.ireturn, 1) := by decide +kernel
theorem dX2_init_0 : decode cX2_init 0 = .ok (.aload_n 0, 1) := by decide +kernel
theorem dX2_init_1 : decode cX2_init 1 = .ok (.invokespecial 3, 3) := by decide +kernel
theorem dX2_init_4 : decode cX2_init 4 = .ok (.aload_n 0, 1) := by decide +kernel
theorem dX2_init_5 : decode cX2_init 5 = .ok (.sipush 1000, 3) := by decide +kernel
theorem dX2_init_8 : decode cX2_init 8 = .ok (.putfield 9, 3) := by decide +kernel
theorem dX2_init_11 : decode cX2_init 11 = .ok (.aload_n 0, 1) := by decide +kernel
theorem dX2_init_12 : decode cX2_init 12 = .ok (.sipush 200, 3) := by decide +kernel
theorem dX2_init_15 : decode cX2_init 15 = .ok (.putfield 15, 3) := by decide +kernel
theorem dX2_init_18 : decode cX2_init 18 = .ok (.aload_n 0, 1) := by decide +kernel
theorem dX2_init_19 : decode cX2_init 19 = .ok (.sipush 300, 3) := by decide +kernel
theorem dX2_init_22 : decode cX2_init 22 = .ok (.putfield 18, 3) := by decide +kernel
theorem dX2_init_25 : decode cX2_init 25 = .ok (.aload_n 0, 1) := by decide +kernel
theorem dX2_init_26 : decode cX2_init 26 = .ok (.iconst 5, 1) := by decide +kernel
theorem dX2_init_27 : decode cX2_init 27 = .ok (.newarray .int, 2) := by decide +kernel
theorem dX2_init_29 : decode cX2_init 29 = .ok (.putfield 21, 3) := by decide +kernel
theorem dX2_init_32 : decode cX2_init 32 = .ok (.return_, 1) := by decide +kernel
theorem dX2_unitsAt_0 : decode cX2_unitsAt 0 = .ok (.iload_n 1, 1) := by decide +kernel
theorem dX2_unitsAt_1 : decode cX2_unitsAt 1 = .ok (.ifCond .lt 21, 3) := by decide +kernel
theorem dX2_unitsAt_4 : decode cX2_unitsAt 4 = .ok (.iload_n 1, 1) := by decide +kernel
theorem dX2_unitsAt_5 : decode cX2_unitsAt 5 = .ok (.aload_n 0, 1) := by decide +kernel
theorem dX2_unitsAt_6 : decode cX2_unitsAt 6 = .ok (.getfield 21, 3) := by decide +kernel
theorem dX2_unitsAt_9 : decode cX2_unitsAt 9 = .ok (.arraylength, 1) := by decide +kernel
theorem dX2_unitsAt_10 : decode cX2_unitsAt 10 = .ok (.if_icmp .ge 12, 3) := by decide +kernel
theorem dX2_unitsAt_13 : decode cX2_unitsAt 13 = .ok (.aload_n 0, 1) := by decide +kernel
theorem dX2_unitsAt_14 : decode cX2_unitsAt 14 = .ok (.getfield 21, 3) := by decide +kernel
theorem dX2_unitsAt_17 : decode cX2_unitsAt 17 = .ok (.iload_n 1, 1) := by decide +kernel
theorem dX2_unitsAt_18 : decode cX2_unitsAt 18 = .ok (.iaload, 1) := by decide +kernel
theorem dX2_unitsAt_19 : decode cX2_unitsAt 19 = .ok (.goto 4, 3) := by decide +kernel
theorem dX2_unitsAt_22 : decode cX2_unitsAt 22 = .ok (.iconst 0, 1) := by decide +kernel
theorem dX2_unitsAt_23 : decode cX2_unitsAt 23 = .ok (.ireturn, 1) := by decide +kernel
theorem dX2_move_0 : decode cX2_move 0 = .ok (.iload_n 1, 1) := by decide +kernel
theorem dX2_move_1 : decode cX2_move 1 = .ok (.ifCond .lt 22, 3) := by decide +kernel
theorem dX2_move_4 : decode cX2_move 4 = .ok (.iload_n 1, 1) := by decide +kernel
theorem dX2_move_5 : decode cX2_move 5 = .ok (.aload_n 0, 1) := by decide +kernel
theorem dX2_move_6 : decode cX2_move 6 = .ok (.getfield 21, 3) := by decide +kernel
theorem dX2_move_9 : decode cX2_move 9 = .ok (.arraylength, 1) := by decide +kernel
theorem dX2_move_10 : decode cX2_move 10 = .ok (.if_icmp .ge 13, 3) := by decide +kernel
theorem dX2_move_13 : decode cX2_move 13 = .ok (.aload_n 0, 1) := by decide +kernel
theorem dX2_move_14 : decode cX2_move 14 = .ok (.getfield 21, 3) := by decide +kernel
theorem dX2_move_17 : decode cX2_move 17 = .ok (.iload_n 1, 1) := by decide +kernel
theorem dX2_move_18 : decode cX2_move 18 = .ok (.dup2, 1) := by decide +kernel
theorem dX2_move_19 : decode cX2_move 19 = .ok (.iaload, 1) := by decide +kernel
theorem dX2_move_20 : decode cX2_move 20 = .ok (.iload_n 2, 1) := by decide +kernel
theorem dX2_move_21 : decode cX2_move 21 = .ok (.iadd, 1) := by decide +kernel
theorem dX2_move_22 : decode cX2_move 22 = .ok (.iastore, 1) := by decide +kernel
theorem dX2_move_23 : decode cX2_move 23 = .ok (.return_, 1) := by decide +kernel
set_option maxRecDepth 20000 in
theorem ggX2_optionFor_X2_isOffered : GoodIn wsX2_optionFor wsX2_isOffered := goodIn_r _ [4] (by decide +kernel) (by decide +kernel)
set_option maxRecDepth 20000 in
theorem gX2_optionFor_X2_isOffered : GoodIn wsX2_optionFor (va_wsS RX2 25 yX2_isOffered wsX2_isOffered) := goodIn_app (goodIn_of _ (by decide +kernel)) ggX2_optionFor_X2_isOffered
set_option maxRecDepth 20000 in
theorem ggX2_optionFor_X2_worthOf : GoodIn wsX2_optionFor wsX2_worthOf := goodIn_r _ [8, 9, 10, 11, 12, 13, 14, 15, 16, 3, 17, 18, 19, 20, 21, 22, 23, 24, 25, 26, 27, 28, 29, 30, 31] (by decide +kernel) (by decide +kernel)
set_option maxRecDepth 20000 in
theorem gX2_optionFor_X2_worthOf : GoodIn wsX2_optionFor (wsV RX2 29 RX2 yX2_worthOf wsX2_worthOf) := goodIn_app (goodIn_of _ (by decide +kernel)) ggX2_optionFor_X2_worthOf
theorem dX2_optionFor_0 : decode cX2_optionFor 0 = .ok (.iconst (-1), 1) := by decide +kernel
theorem dX2_optionFor_1 : decode cX2_optionFor 1 = .ok (.istore_n 2, 1) := by decide +kernel
theorem dX2_optionFor_2 : decode cX2_optionFor 2 = .ok (.iconst 0, 1) := by decide +kernel
theorem dX2_optionFor_3 : decode cX2_optionFor 3 = .ok (.istore_n 3, 1) := by decide +kernel
theorem dX2_optionFor_4 : decode cX2_optionFor 4 = .ok (.iload_n 3, 1) := by decide +kernel
theorem dX2_optionFor_5 : decode cX2_optionFor 5 = .ok (.iconst 5, 1) := by decide +kernel
theorem dX2_optionFor_6 : decode cX2_optionFor 6 = .ok (.if_icmp .ge 38, 3) := by decide +kernel
theorem dX2_optionFor_9 : decode cX2_optionFor 9 = .ok (.iload_n 3, 1) := by decide +kernel
theorem dX2_optionFor_10 : decode cX2_optionFor 10 = .ok (.iload_n 1, 1) := by decide +kernel
theorem dX2_optionFor_11 : decode cX2_optionFor 11 = .ok (.invokestatic 25, 3) := by decide +kernel
theorem dX2_optionFor_14 : decode cX2_optionFor 14 = .ok (.ifCond .eq 24, 3) := by decide +kernel
theorem dX2_optionFor_17 : decode cX2_optionFor 17 = .ok (.iload_n 2, 1) := by decide +kernel
theorem dX2_optionFor_18 : decode cX2_optionFor 18 = .ok (.ifCond .lt 18, 3) := by decide +kernel
theorem dX2_optionFor_21 : decode cX2_optionFor 21 = .ok (.aload_n 0, 1) := by decide +kernel
theorem dX2_optionFor_22 : decode cX2_optionFor 22 = .ok (.iload_n 3, 1) := by decide +kernel
theorem dX2_optionFor_23 : decode cX2_optionFor 23 = .ok (.iload_n 1, 1) := by decide +kernel
theorem dX2_optionFor_24 : decode cX2_optionFor 24 = .ok (.invokevirtual 29, 3) := by decide +kernel
theorem dX2_optionFor_27 : decode cX2_optionFor 27 = .ok (.aload_n 0, 1) := by decide +kernel
theorem dX2_optionFor_28 : decode cX2_optionFor 28 = .ok (.iload_n 2, 1) := by decide +kernel
theorem dX2_optionFor_29 : decode cX2_optionFor 29 = .ok (.iload_n 1, 1) := by decide +kernel
theorem dX2_optionFor_30 : decode cX2_optionFor 30 = .ok (.invokevirtual 29, 3) := by decide +kernel
theorem dX2_optionFor_33 : decode cX2_optionFor 33 = .ok (.if_icmp .le 5, 3) := by decide +kernel
theorem dX2_optionFor_36 : decode cX2_optionFor 36 = .ok (.iload_n 3, 1) := by decide +kernel
theorem dX2_optionFor_37 : decode cX2_optionFor 37 = .ok (.istore_n 2, 1) := by decide +kernel
theorem dX2_optionFor_38 : decode cX2_optionFor 38 = .ok (.iinc 3 1, 3) := by decide +kernel
theorem dX2_optionFor_41 : decode cX2_optionFor 41 = .ok (.goto (-37), 3) := by decide +kernel
theorem dX2_optionFor_44 : decode cX2_optionFor 44 = .ok (.iload_n 2, 1) := by decide +kernel
theorem dX2_optionFor_45 : decode cX2_optionFor 45 = .ok (.ireturn, 1) := by decide +kernel
set_option maxRecDepth 20000 in
theorem ggX2_worthOf_X2_repairWorth : GoodIn wsX2_worthOf wsX2_repairWorth := goodIn_r _ [10, 1, 11, 21, 22, 23, 24] (by decide +kernel) (by decide +kernel)
set_option maxRecDepth 20000 in
theorem gX2_worthOf_X2_repairWorth : GoodIn wsX2_worthOf (wsV RX2 33 RX2 yX2_repairWorth wsX2_repairWorth) := goodIn_app (goodIn_of _ (by decide +kernel)) ggX2_worthOf_X2_repairWorth
set_option maxRecDepth 20000 in
theorem ggX2_worthOf_X2_salvageWorth : GoodIn wsX2_worthOf wsX2_salvageWorth := goodIn_r _ [15, 16, 21, 22, 23, 24] (by decide +kernel) (by decide +kernel)
set_option maxRecDepth 20000 in
theorem gX2_worthOf_X2_salvageWorth : GoodIn wsX2_worthOf (wsV RX2 37 RX2 yX2_salvageWorth wsX2_salvageWorth) := goodIn_app (goodIn_of _ (by decide +kernel)) ggX2_worthOf_X2_salvageWorth
set_option maxRecDepth 20000 in
theorem ggX2_worthOf_J9_floorDiv_7cf53 : GoodIn wsX2_worthOf wsJ9_floorDiv_7cf53 := goodIn_r _ [20] (by decide +kernel) (by decide +kernel)
set_option maxRecDepth 20000 in
theorem gX2_worthOf_J9_floorDiv_7cf53 : GoodIn wsX2_worthOf (va_wsS RX2 45 yJ9_floorDiv_7cf53 wsJ9_floorDiv_7cf53) := goodIn_app (goodIn_of _ (by decide +kernel)) ggX2_worthOf_J9_floorDiv_7cf53
theorem dX2_worthOf_0 : decode cX2_worthOf 0 = .ok (.iload_n 1, 1) := by decide +kernel
theorem dX2_worthOf_1 : decode cX2_worthOf 1 = .ok (.tableswitch 86 0 3 #[31, 48, 76, 81], 31) := by decide +kernel
theorem dX2_worthOf_32 : decode cX2_worthOf 32 = .ok (.iload_n 2, 1) := by decide +kernel
theorem dX2_worthOf_33 : decode cX2_worthOf 33 = .ok (.ifCond .ne 8, 3) := by decide +kernel
theorem dX2_worthOf_36 : decode cX2_worthOf 36 = .ok (.bipush 100, 2) := by decide +kernel
theorem dX2_worthOf_38 : decode cX2_worthOf 38 = .ok (.goto 5, 3) := by decide +kernel
theorem dX2_worthOf_41 : decode cX2_worthOf 41 = .ok (.bipush 46, 2) := by decide +kernel
theorem dX2_worthOf_43 : decode cX2_worthOf 43 = .ok (.aload_n 0, 1) := by decide +kernel
theorem dX2_worthOf_44 : decode cX2_worthOf 44 = .ok (.getfield 9, 3) := by decide +kernel
theorem dX2_worthOf_47 : decode cX2_worthOf 47 = .ok (.imul, 1) := by decide +kernel
theorem dX2_worthOf_48 : decode cX2_worthOf 48 = .ok (.ireturn, 1) := by decide +kernel
theorem dX2_worthOf_49 : decode cX2_worthOf 49 = .ok (.bipush 68, 2) := by decide +kernel
theorem dX2_worthOf_51 : decode cX2_worthOf 51 = .ok (.aload_n 0, 1) := by decide +kernel
theorem dX2_worthOf_52 : decode cX2_worthOf 52 = .ok (.getfield 9, 3) := by decide +kernel
theorem dX2_worthOf_55 : decode cX2_worthOf 55 = .ok (.imul, 1) := by decide +kernel
theorem dX2_worthOf_56 : decode cX2_worthOf 56 = .ok (.sipush 5000, 3) := by decide +kernel
theorem dX2_worthOf_59 : decode cX2_worthOf 59 = .ok (.isub, 1) := by decide +kernel
theorem dX2_worthOf_60 : decode cX2_worthOf 60 = .ok (.aload_n 0, 1) := by decide +kernel
theorem dX2_worthOf_61 : decode cX2_worthOf 61 = .ok (.invokevirtual 33, 3) := by decide +kernel
theorem dX2_worthOf_64 : decode cX2_worthOf 64 = .ok (.aload_n 0, 1) := by decide +kernel
theorem dX2_worthOf_65 : decode cX2_worthOf 65 = .ok (.invokevirtual 37, 3) := by decide +kernel
theorem dX2_worthOf_68 : decode cX2_worthOf 68 = .ok (.invokestatic 40, 3) := by decide +kernel
theorem dX2_worthOf_71 : decode cX2_worthOf 71 = .ok (.iconst 5, 1) := by decide +kernel
theorem dX2_worthOf_72 : decode cX2_worthOf 72 = .ok (.invokestatic 45, 3) := by decide +kernel
theorem dX2_worthOf_75 : decode cX2_worthOf 75 = .ok (.iadd, 1) := by decide +kernel
theorem dX2_worthOf_76 : decode cX2_worthOf 76 = .ok (.ireturn, 1) := by decide +kernel
theorem dX2_worthOf_77 : decode cX2_worthOf 77 = .ok (.aload_n 0, 1) := by decide +kernel
theorem dX2_worthOf_78 : decode cX2_worthOf 78 = .ok (.invokevirtual 33, 3) := by decide +kernel
theorem dX2_worthOf_81 : decode cX2_worthOf 81 = .ok (.ireturn, 1) := by decide +kernel
theorem dX2_worthOf_82 : decode cX2_worthOf 82 = .ok (.aload_n 0, 1) := by decide +kernel
theorem dX2_worthOf_83 : decode cX2_worthOf 83 = .ok (.invokevirtual 37, 3) := by decide +kernel
theorem dX2_worthOf_86 : decode cX2_worthOf 86 = .ok (.ireturn, 1) := by decide +kernel
theorem dX2_worthOf_87 : decode cX2_worthOf 87 = .ok (.bipush 60, 2) := by decide +kernel
theorem dX2_worthOf_89 : decode cX2_worthOf 89 = .ok (.aload_n 0, 1) := by decide +kernel
theorem dX2_worthOf_90 : decode cX2_worthOf 90 = .ok (.getfield 9, 3) := by decide +kernel
theorem dX2_worthOf_93 : decode cX2_worthOf 93 = .ok (.imul, 1) := by decide +kernel
theorem dX2_worthOf_94 : decode cX2_worthOf 94 = .ok (.ireturn, 1) := by decide +kernel
theorem dX2_repairWorth_0 : decode cX2_repairWorth 0 = .ok (.bipush 80, 2) := by decide +kernel
theorem dX2_repairWorth_2 : decode cX2_repairWorth 2 = .ok (.aload_n 0, 1) := by decide +kernel
theorem dX2_repairWorth_3 : decode cX2_repairWorth 3 = .ok (.getfield 9, 3) := by decide +kernel
theorem dX2_repairWorth_6 : decode cX2_repairWorth 6 = .ok (.imul, 1) := by decide +kernel
theorem dX2_repairWorth_7 : decode cX2_repairWorth 7 = .ok (.bipush 100, 2) := by decide +kernel
theorem dX2_repairWorth_9 : decode cX2_repairWorth 9 = .ok (.aload_n 0, 1) := by decide +kernel
theorem dX2_repairWorth_10 : decode cX2_repairWorth 10 = .ok (.getfield 18, 3) := by decide +kernel
theorem dX2_repairWorth_13 : decode cX2_repairWorth 13 = .ok (.imul, 1) := by decide +kernel
theorem dX2_repairWorth_14 : decode cX2_repairWorth 14 = .ok (.isub, 1) := by decide +kernel
theorem dX2_repairWorth_15 : decode cX2_repairWorth 15 = .ok (.ireturn, 1) := by decide +kernel
theorem dX2_salvageWorth_0 : decode cX2_salvageWorth 0 = .ok (.bipush 100, 2) := by decide +kernel
theorem dX2_salvageWorth_2 : decode cX2_salvageWorth 2 = .ok (.aload_n 0, 1) := by decide +kernel
theorem dX2_salvageWorth_3 : decode cX2_salvageWorth 3 = .ok (.getfield 15, 3) := by decide +kernel
theorem dX2_salvageWorth_6 : decode cX2_salvageWorth 6 = .ok (.imul, 1) := by decide +kernel
theorem dX2_salvageWorth_7 : decode cX2_salvageWorth 7 = .ok (.ireturn, 1) := by decide +kernel
theorem dX2_isOffered_0 : decode cX2_isOffered 0 = .ok (.iload_n 1, 1) := by decide +kernel
theorem dX2_isOffered_1 : decode cX2_isOffered 1 = .ok (.tableswitch 73 0 2 #[27, 37, 57], 27) := by decide +kernel
theorem dX2_isOffered_28 : decode cX2_isOffered 28 = .ok (.iload_n 0, 1) := by decide +kernel
theorem dX2_isOffered_29 : decode cX2_isOffered 29 = .ok (.ifCond .ne 7, 3) := by decide +kernel
theorem dX2_isOffered_32 : decode cX2_isOffered 32 = .ok (.iconst 1, 1) := by decide +kernel
theorem dX2_isOffered_33 : decode cX2_isOffered 33 = .ok (.goto 4, 3) := by decide +kernel
theorem dX2_isOffered_36 : decode cX2_isOffered 36 = .ok (.iconst 0, 1) := by decide +kernel
theorem dX2_isOffered_37 : decode cX2_isOffered 37 = .ok (.ireturn, 1) := by decide +kernel
theorem dX2_isOffered_38 : decode cX2_isOffered 38 = .ok (.iload_n 0, 1) := by decide +kernel
theorem dX2_isOffered_39 : decode cX2_isOffered 39 = .ok (.ifCond .eq 13, 3) := by decide +kernel
theorem dX2_isOffered_42 : decode cX2_isOffered 42 = .ok (.iload_n 0, 1) := by decide +kernel
theorem dX2_isOffered_43 : decode cX2_isOffered 43 = .ok (.iconst 1, 1) := by decide +kernel
theorem dX2_isOffered_44 : decode cX2_isOffered 44 = .ok (.if_icmp .eq 8, 3) := by decide +kernel
theorem dX2_isOffered_47 : decode cX2_isOffered 47 = .ok (.iload_n 0, 1) := by decide +kernel
theorem dX2_isOffered_48 : decode cX2_isOffered 48 = .ok (.iconst 3, 1) := by decide +kernel
theorem dX2_isOffered_49 : decode cX2_isOffered 49 = .ok (.if_icmp .ne 7, 3) := by decide +kernel
theorem dX2_isOffered_52 : decode cX2_isOffered 52 = .ok (.iconst 1, 1) := by decide +kernel
theorem dX2_isOffered_53 : decode cX2_isOffered 53 = .ok (.goto 4, 3) := by decide +kernel
theorem dX2_isOffered_56 : decode cX2_isOffered 56 = .ok (.iconst 0, 1) := by decide +kernel
theorem dX2_isOffered_57 : decode cX2_isOffered 57 = .ok (.ireturn, 1) := by decide +kernel
theorem dX2_isOffered_58 : decode cX2_isOffered 58 = .ok (.iload_n 0, 1) := by decide +kernel
theorem dX2_isOffered_59 : decode cX2_isOffered 59 = .ok (.iconst 2, 1) := by decide +kernel
theorem dX2_isOffered_60 : decode cX2_isOffered 60 = .ok (.if_icmp .eq 8, 3) := by decide +kernel
theorem dX2_isOffered_63 : decode cX2_isOffered 63 = .ok (.iload_n 0, 1) := by decide +kernel
theorem dX2_isOffered_64 : decode cX2_isOffered 64 = .ok (.iconst 3, 1) := by decide +kernel
theorem dX2_isOffered_65 : decode cX2_isOffered 65 = .ok (.if_icmp .ne 7, 3) := by decide +kernel
theorem dX2_isOffered_68 : decode cX2_isOffered 68 = .ok (.iconst 1, 1) := by decide +kernel
theorem dX2_isOffered_69 : decode cX2_isOffered 69 = .ok (.goto 4, 3) := by decide +kernel
theorem dX2_isOffered_72 : decode cX2_isOffered 72 = .ok (.iconst 0, 1) := by decide +kernel
theorem dX2_isOffered_73 : decode cX2_isOffered 73 = .ok (.ireturn, 1) := by decide +kernel
theorem dX2_isOffered_74 : decode cX2_isOffered 74 = .ok (.iload_n 0, 1) := by decide +kernel
theorem dX2_isOffered_75 : decode cX2_isOffered 75 = .ok (.iconst 2, 1) := by decide +kernel
theorem dX2_isOffered_76 : decode cX2_isOffered 76 = .ok (.if_icmp .eq 13, 3) := by decide +kernel
theorem dX2_isOffered_79 : decode cX2_isOffered 79 = .ok (.iload_n 0, 1) := by decide +kernel
theorem dX2_isOffered_80 : decode cX2_isOffered 80 = .ok (.iconst 3, 1) := by decide +kernel
theorem dX2_isOffered_81 : decode cX2_isOffered 81 = .ok (.if_icmp .eq 8, 3) := by decide +kernel
theorem dX2_isOffered_84 : decode cX2_isOffered 84 = .ok (.iload_n 0, 1) := by decide +kernel
theorem dX2_isOffered_85 : decode cX2_isOffered 85 = .ok (.iconst 4, 1) := by decide +kernel
theorem dX2_isOffered_86 : decode cX2_isOffered 86 = .ok (.if_icmp .ne 7, 3) := by decide +kernel
theorem dX2_isOffered_89 : decode cX2_isOffered 89 = .ok (.iconst 1, 1) := by decide +kernel
theorem dX2_isOffered_90 : decode cX2_isOffered 90 = .ok (.goto 4, 3) := by decide +kernel
theorem dX2_isOffered_93 : decode cX2_isOffered 93 = .ok (.iconst 0, 1) := by decide +kernel
theorem dX2_isOffered_94 : decode cX2_isOffered 94 = .ok (.ireturn, 1) := by decide +kernel
theorem dX3_init_0 : decode cX3_init 0 = .ok (.aload_n 0, 1) := by decide +kernel
theorem dX3_init_1 : decode cX3_init 1 = .ok (.invokespecial 3, 3) := by decide +kernel
theorem dX3_init_4 : decode cX3_init 4 = .ok (.aload_n 0, 1) := by decide +kernel
theorem dX3_init_5 : decode cX3_init 5 = .ok (.bipush 6, 2) := by decide +kernel
theorem dX3_init_7 : decode cX3_init 7 = .ok (.anewarray 9, 3) := by decide +kernel
theorem dX3_init_10 : decode cX3_init 10 = .ok (.putfield 11, 3) := by decide +kernel
theorem dX3_init_13 : decode cX3_init 13 = .ok (.aload_n 0, 1) := by decide +kernel
theorem dX3_init_14 : decode cX3_init 14 = .ok (.aload_n 1, 1) := by decide +kernel
theorem dX3_init_15 : decode cX3_init 15 = .ok (.putfield 17, 3) := by decide +kernel
theorem dX3_init_18 : decode cX3_init 18 = .ok (.aload_n 0, 1) := by decide +kernel
theorem dX3_init_19 : decode cX3_init 19 = .ok (.iload_n 2, 1) := by decide +kernel
theorem dX3_init_20 : decode cX3_init 20 = .ok (.putfield 21, 3) := by decide +kernel
theorem dX3_init_23 : decode cX3_init 23 = .ok (.aload_n 0, 1) := by decide +kernel
theorem dX3_init_24 : decode cX3_init 24 = .ok (.iload_n 3, 1) := by decide +kernel
theorem dX3_init_25 : decode cX3_init 25 = .ok (.putfield 25, 3) := by decide +kernel
theorem dX3_init_28 : decode cX3_init 28 = .ok (.return_, 1) := by decide +kernel
theorem dX3_lineAt_0 : decode cX3_lineAt 0 = .ok (.iload_n 1, 1) := by decide +kernel
theorem dX3_lineAt_1 : decode cX3_lineAt 1 = .ok (.ifCond .lt 21, 3) := by decide +kernel
theorem dX3_lineAt_4 : decode cX3_lineAt 4 = .ok (.iload_n 1, 1) := by decide +kernel
theorem dX3_lineAt_5 : decode cX3_lineAt 5 = .ok (.aload_n 0, 1) := by decide +kernel
theorem dX3_lineAt_6 : decode cX3_lineAt 6 = .ok (.getfield 11, 3) := by decide +kernel
theorem dX3_lineAt_9 : decode cX3_lineAt 9 = .ok (.arraylength, 1) := by decide +kernel
theorem dX3_lineAt_10 : decode cX3_lineAt 10 = .ok (.if_icmp .ge 12, 3) := by decide +kernel
theorem dX3_lineAt_13 : decode cX3_lineAt 13 = .ok (.aload_n 0, 1) := by decide +kernel
theorem dX3_lineAt_14 : decode cX3_lineAt 14 = .ok (.getfield 11, 3) := by decide +kernel
theorem dX3_lineAt_17 : decode cX3_lineAt 17 = .ok (.iload_n 1, 1) := by decide +kernel
theorem dX3_lineAt_18 : decode cX3_lineAt 18 = .ok (.aaload, 1) := by decide +kernel
theorem dX3_lineAt_19 : decode cX3_lineAt 19 = .ok (.goto 4, 3) := by decide +kernel
theorem dX3_lineAt_22 : decode cX3_lineAt 22 = .ok (.aconst_null, 1) := by decide +kernel
theorem dX3_lineAt_23 : decode cX3_lineAt 23 = .ok (.areturn, 1) := by decide +kernel
theorem dX3_append_0 : decode cX3_append 0 = .ok (.aload_n 0, 1) := by decide +kernel
theorem dX3_append_1 : decode cX3_append 1 = .ok (.getfield 28, 3) := by decide +kernel
theorem dX3_append_4 : decode cX3_append 4 = .ok (.istore_n 2, 1) := by decide +kernel
theorem dX3_append_5 : decode cX3_append 5 = .ok (.iload_n 2, 1) := by decide +kernel
theorem dX3_append_6 : decode cX3_append 6 = .ok (.ifCond .lt 29, 3) := by decide +kernel
theorem dX3_append_9 : decode cX3_append 9 = .ok (.iload_n 2, 1) := by decide +kernel
theorem dX3_append_10 : decode cX3_append 10 = .ok (.aload_n 0, 1) := by decide +kernel
theorem dX3_append_11 : decode cX3_append 11 = .ok (.getfield 11, 3) := by decide +kernel
theorem dX3_append_14 : decode cX3_append 14 = .ok (.arraylength, 1) := by decide +kernel
theorem dX3_append_15 : decode cX3_append 15 = .ok (.if_icmp .ge 20, 3) := by decide +kernel
theorem dX3_append_18 : decode cX3_append 18 = .ok (.aload_n 0, 1) := by decide +kernel
theorem dX3_append_19 : decode cX3_append 19 = .ok (.getfield 11, 3) := by decide +kernel
theorem dX3_append_22 : decode cX3_append 22 = .ok (.iload_n 2, 1) := by decide +kernel
theorem dX3_append_23 : decode cX3_append 23 = .ok (.aload_n 1, 1) := by decide +kernel
theorem dX3_append_24 : decode cX3_append 24 = .ok (.aastore, 1) := by decide +kernel
theorem dX3_append_25 : decode cX3_append 25 = .ok (.aload_n 0, 1) := by decide +kernel
theorem dX3_append_26 : decode cX3_append 26 = .ok (.dup, 1) := by decide +kernel
theorem dX3_append_27 : decode cX3_append 27 = .ok (.getfield 28, 3) := by decide +kernel
theorem dX3_append_30 : decode cX3_append 30 = .ok (.iconst 1, 1) := by decide +kernel
theorem dX3_append_31 : decode cX3_append 31 = .ok (.iadd, 1) := by decide +kernel
theorem dX3_append_32 : decode cX3_append 32 = .ok (.putfield 28, 3) := by decide +kernel
theorem dX3_append_35 : decode cX3_append 35 = .ok (.iload_n 2, 1) := by decide +kernel
theorem dX3_append_36 : decode cX3_append 36 = .ok (.ireturn, 1) := by decide +kernel
set_option maxRecDepth 20000 in
theorem ggX3_settle_X3_keptGoods : GoodIn wsX3_settle wsX3_keptGoods := goodIn_r _ [11, 1, 3, 12, 13, 14, 15, 16, 17, 24, 25, 26, 27, 28, 29, 30, 31, 32, 33, 34, 35, 36] (by decide +kernel) (by decide +kernel)
set_option maxRecDepth 20000 in
theorem gX3_settle_X3_keptGoods : GoodIn wsX3_settle (wsV RX3 44 RX3 yX3_keptGoods wsX3_keptGoods) := goodIn_app (goodIn_of _ (by decide +kernel)) ggX3_settle_X3_keptGoods
set_option maxRecDepth 20000 in
theorem ggX3_settle_X4_netOf : GoodIn wsX3_settle wsX4_netOf := goodIn_r _ [20, 21, 22, 19, 23] (by decide +kernel) (by decide +kernel)
set_option maxRecDepth 20000 in
theorem gX3_settle_X4_netOf_n48 : GoodIn wsX3_settle (wsX4_netOf) := ggX3_settle_X4_netOf
theorem dX3_settle_0 : decode cX3_settle 0 = .ok (.aload_n 0, 1) := by decide +kernel
theorem dX3_settle_1 : decode cX3_settle 1 = .ok (.getfield 11, 3) := by decide +kernel
theorem dX3_settle_4 : decode cX3_settle 4 = .ok (.astore_n 2, 1) := by decide +kernel
theorem dX3_settle_5 : decode cX3_settle 5 = .ok (.aload_n 2, 1) := by decide +kernel
theorem dX3_settle_6 : decode cX3_settle 6 = .ok (.arraylength, 1) := by decide +kernel
theorem dX3_settle_7 : decode cX3_settle 7 = .ok (.istore_n 3, 1) := by decide +kernel
theorem dX3_settle_8 : decode cX3_settle 8 = .ok (.iconst 0, 1) := by decide +kernel
theorem dX3_settle_9 : decode cX3_settle 9 = .ok (.istore 4, 2) := by decide +kernel
theorem dX3_settle_11 : decode cX3_settle 11 = .ok (.iload 4, 2) := by decide +kernel
theorem dX3_settle_13 : decode cX3_settle 13 = .ok (.iload_n 3, 1) := by decide +kernel
theorem dX3_settle_14 : decode cX3_settle 14 = .ok (.if_icmp .ge 30, 3) := by decide +kernel
theorem dX3_settle_17 : decode cX3_settle 17 = .ok (.aload_n 2, 1) := by decide +kernel
theorem dX3_settle_18 : decode cX3_settle 18 = .ok (.iload 4, 2) := by decide +kernel
theorem dX3_settle_20 : decode cX3_settle 20 = .ok (.aaload, 1) := by decide +kernel
theorem dX3_settle_21 : decode cX3_settle 21 = .ok (.astore 5, 2) := by decide +kernel
theorem dX3_settle_23 : decode cX3_settle 23 = .ok (.aload 5, 2) := by decide +kernel
theorem dX3_settle_25 : decode cX3_settle 25 = .ok (.ifnull 13, 3) := by decide +kernel
theorem dX3_settle_28 : decode cX3_settle 28 = .ok (.aload 5, 2) := by decide +kernel
theorem dX3_settle_30 : decode cX3_settle 30 = .ok (.aload 5, 2) := by decide +kernel
theorem dX3_settle_32 : decode cX3_settle 32 = .ok (.getfield 31, 3) := by decide +kernel
theorem dX3_settle_35 : decode cX3_settle 35 = .ok (.putfield 34, 3) := by decide +kernel
theorem dX3_settle_38 : decode cX3_settle 38 = .ok (.iinc 4 1, 3) := by decide +kernel
theorem dX3_settle_41 : decode cX3_settle 41 = .ok (.goto (-30), 3) := by decide +kernel
theorem dX3_settle_44 : decode cX3_settle 44 = .ok (.aload_n 0, 1) := by decide +kernel
theorem dX3_settle_45 : decode cX3_settle 45 = .ok (.iconst 1, 1) := by decide +kernel
theorem dX3_settle_46 : decode cX3_settle 46 = .ok (.putfield 37, 3) := by decide +kernel
theorem dX3_settle_49 : decode cX3_settle 49 = .ok (.aload_n 0, 1) := by decide +kernel
theorem dX3_settle_50 : decode cX3_settle 50 = .ok (.iload_n 1, 1) := by decide +kernel
theorem dX3_settle_51 : decode cX3_settle 51 = .ok (.putfield 41, 3) := by decide +kernel
theorem dX3_settle_54 : decode cX3_settle 54 = .ok (.aload_n 0, 1) := by decide +kernel
theorem dX3_settle_55 : decode cX3_settle 55 = .ok (.aload_n 0, 1) := by decide +kernel
theorem dX3_settle_56 : decode cX3_settle 56 = .ok (.invokevirtual 44, 3) := by decide +kernel
theorem dX3_settle_59 : decode cX3_settle 59 = .ok (.invokestatic 48, 3) := by decide +kernel
theorem dX3_settle_62 : decode cX3_settle 62 = .ok (.putfield 52, 3) := by decide +kernel
theorem dX3_settle_65 : decode cX3_settle 65 = .ok (.return_, 1) := by decide +kernel
set_option maxRecDepth 20000 in
theorem ggX3_keptGoods_X1_goodsOf : GoodIn wsX3_keptGoods wsX1_goodsOf := goodIn_r _ [7, 8, 18, 19, 20, 21] (by decide +kernel) (by decide +kernel)
set_option maxRecDepth 20000 in
theorem gX3_keptGoods_X1_goodsOf : GoodIn wsX3_keptGoods (wsV RX3 55 RX1 yX1_goodsOf wsX1_goodsOf) := goodIn_app (goodIn_of _ (by decide +kernel)) ggX3_keptGoods_X1_goodsOf
theorem dX3_keptGoods_0 : decode cX3_keptGoods 0 = .ok (.iconst 0, 1) := by decide +kernel
theorem dX3_keptGoods_1 : decode cX3_keptGoods 1 = .ok (.istore_n 1, 1) := by decide +kernel
theorem dX3_keptGoods_2 : decode cX3_keptGoods 2 = .ok (.aload_n 0, 1) := by decide +kernel
theorem dX3_keptGoods_3 : decode cX3_keptGoods 3 = .ok (.getfield 11, 3) := by decide +kernel
theorem dX3_keptGoods_6 : decode cX3_keptGoods 6 = .ok (.astore_n 2, 1) := by decide +kernel
theorem dX3_keptGoods_7 : decode cX3_keptGoods 7 = .ok (.aload_n 2, 1) := by decide +kernel
theorem dX3_keptGoods_8 : decode cX3_keptGoods 8 = .ok (.arraylength, 1) := by decide +kernel
theorem dX3_keptGoods_9 : decode cX3_keptGoods 9 = .ok (.istore_n 3, 1) := by decide +kernel
theorem dX3_keptGoods_10 : decode cX3_keptGoods 10 = .ok (.iconst 0, 1) := by decide +kernel
theorem dX3_keptGoods_11 : decode cX3_keptGoods 11 = .ok (.istore 4, 2) := by decide +kernel
theorem dX3_keptGoods_13 : decode cX3_keptGoods 13 = .ok (.iload 4, 2) := by decide +kernel
theorem dX3_keptGoods_15 : decode cX3_keptGoods 15 = .ok (.iload_n 3, 1) := by decide +kernel
theorem dX3_keptGoods_16 : decode cX3_keptGoods 16 = .ok (.if_icmp .ge 33, 3) := by decide +kernel
theorem dX3_keptGoods_19 : decode cX3_keptGoods 19 = .ok (.aload_n 2, 1) := by decide +kernel
theorem dX3_keptGoods_20 : decode cX3_keptGoods 20 = .ok (.iload 4, 2) := by decide +kernel
theorem dX3_keptGoods_22 : decode cX3_keptGoods 22 = .ok (.aaload, 1) := by decide +kernel
theorem dX3_keptGoods_23 : decode cX3_keptGoods 23 = .ok (.astore 5, 2) := by decide +kernel
theorem dX3_keptGoods_25 : decode cX3_keptGoods 25 = .ok (.aload 5, 2) := by decide +kernel
theorem dX3_keptGoods_27 : decode cX3_keptGoods 27 = .ok (.ifnull 16, 3) := by decide +kernel
theorem dX3_keptGoods_30 : decode cX3_keptGoods 30 = .ok (.iload_n 1, 1) := by decide +kernel
theorem dX3_keptGoods_31 : decode cX3_keptGoods 31 = .ok (.aload 5, 2) := by decide +kernel
theorem dX3_keptGoods_33 : decode cX3_keptGoods 33 = .ok (.aload 5, 2) := by decide +kernel
theorem dX3_keptGoods_35 : decode cX3_keptGoods 35 = .ok (.getfield 34, 3) := by decide +kernel
theorem dX3_keptGoods_38 : decode cX3_keptGoods 38 = .ok (.invokevirtual 55, 3) := by decide +kernel
theorem dX3_keptGoods_41 : decode cX3_keptGoods 41 = .ok (.iadd, 1) := by decide +kernel
theorem dX3_keptGoods_42 : decode cX3_keptGoods 42 = .ok (.istore_n 1, 1) := by decide +kernel
theorem dX3_keptGoods_43 : decode cX3_keptGoods 43 = .ok (.iinc 4 1, 3) := by decide +kernel
theorem dX3_keptGoods_46 : decode cX3_keptGoods 46 = .ok (.goto (-33), 3) := by decide +kernel
theorem dX3_keptGoods_49 : decode cX3_keptGoods 49 = .ok (.iload_n 1, 1) := by decide +kernel
theorem dX3_keptGoods_50 : decode cX3_keptGoods 50 = .ok (.ireturn, 1) := by decide +kernel
set_option maxRecDepth 20000 in
theorem ggX3_freedBy_X3_keptGoods : GoodIn wsX3_freedBy wsX3_keptGoods := goodIn_r _ [11, 12, 13, 14, 15, 16, 17, 18, 19, 26, 27, 28, 29, 30, 31, 32, 33, 34, 35, 36, 37, 38] (by decide +kernel) (by decide +kernel)
set_option maxRecDepth 20000 in
theorem gX3_freedBy_X3_keptGoods : GoodIn wsX3_freedBy (wsV RX3 44 RX3 yX3_keptGoods wsX3_keptGoods) := goodIn_app (goodIn_of _ (by decide +kernel)) ggX3_freedBy_X3_keptGoods
set_option maxRecDepth 20000 in
theorem ggX3_freedBy_X1_goodsOf : GoodIn wsX3_freedBy wsX1_goodsOf := goodIn_r _ [18, 19, 35, 36, 37, 38] (by decide +kernel) (by decide +kernel)
set_option maxRecDepth 20000 in
theorem gX3_freedBy_X1_goodsOf : GoodIn wsX3_freedBy (wsV RX3 55 RX1 yX1_goodsOf wsX1_goodsOf) := goodIn_app (goodIn_of _ (by decide +kernel)) ggX3_freedBy_X1_goodsOf
set_option maxRecDepth 20000 in
theorem ggX3_freedBy_X4_netOf : GoodIn wsX3_freedBy wsX4_netOf := goodIn_r _ [22, 23, 24, 21, 25] (by decide +kernel) (by decide +kernel)
set_option maxRecDepth 20000 in
theorem gX3_freedBy_X4_netOf_n48 : GoodIn wsX3_freedBy (wsX4_netOf) := ggX3_freedBy_X4_netOf
theorem dX3_freedBy_0 : decode cX3_freedBy 0 = .ok (.aload_n 0, 1) := by decide +kernel
theorem dX3_freedBy_1 : decode cX3_freedBy 1 = .ok (.invokevirtual 44, 3) := by decide +kernel
theorem dX3_freedBy_4 : decode cX3_freedBy 4 = .ok (.aload_n 1, 1) := by decide +kernel
theorem dX3_freedBy_5 : decode cX3_freedBy 5 = .ok (.iload_n 2, 1) := by decide +kernel
theorem dX3_freedBy_6 : decode cX3_freedBy 6 = .ok (.invokevirtual 55, 3) := by decide +kernel
theorem dX3_freedBy_9 : decode cX3_freedBy 9 = .ok (.isub, 1) := by decide +kernel
theorem dX3_freedBy_10 : decode cX3_freedBy 10 = .ok (.invokestatic 48, 3) := by decide +kernel
theorem dX3_freedBy_13 : decode cX3_freedBy 13 = .ok (.istore_n 3, 1) := by decide +kernel
theorem dX3_freedBy_14 : decode cX3_freedBy 14 = .ok (.iconst 0, 1) := by decide +kernel
theorem dX3_freedBy_15 : decode cX3_freedBy 15 = .ok (.aload_n 0, 1) := by decide +kernel
theorem dX3_freedBy_16 : decode cX3_freedBy 16 = .ok (.getfield 52, 3) := by decide +kernel
theorem dX3_freedBy_19 : decode cX3_freedBy 19 = .ok (.aload_n 0, 1) := by decide +kernel
theorem dX3_freedBy_20 : decode cX3_freedBy 20 = .ok (.getfield 58, 3) := by decide +kernel
theorem dX3_freedBy_23 : decode cX3_freedBy 23 = .ok (.isub, 1) := by decide +kernel
theorem dX3_freedBy_24 : decode cX3_freedBy 24 = .ok (.iload_n 3, 1) := by decide +kernel
theorem dX3_freedBy_25 : decode cX3_freedBy 25 = .ok (.isub, 1) := by decide +kernel
theorem dX3_freedBy_26 : decode cX3_freedBy 26 = .ok (.invokestatic 61, 3) := by decide +kernel
theorem dX3_freedBy_29 : decode cX3_freedBy 29 = .ok (.ireturn, 1) := by decide +kernel
set_option maxRecDepth 20000 in
theorem ggX3_shareOf_X3_keptGoods : GoodIn wsX3_shareOf wsX3_keptGoods := goodIn_r _ [6, 1, 7, 8, 9, 10, 11, 12, 13, 37, 38, 39, 40, 41, 42, 43, 44, 45, 46, 47, 48, 49] (by decide +kernel) (by decide +kernel)
set_option maxRecDepth 20000 in
theorem gX3_shareOf_X3_keptGoods : GoodIn wsX3_shareOf (wsV RX3 44 RX3 yX3_keptGoods wsX3_keptGoods) := goodIn_app (goodIn_of _ (by decide +kernel)) ggX3_shareOf_X3_keptGoods
set_option maxRecDepth 20000 in
theorem ggX3_shareOf_X4_netOf : GoodIn wsX3_shareOf wsX4_netOf := goodIn_r _ [16, 17, 18, 15, 19] (by decide +kernel) (by decide +kernel)
set_option maxRecDepth 20000 in
theorem gX3_shareOf_X4_netOf_n48 : GoodIn wsX3_shareOf (wsX4_netOf) := ggX3_shareOf_X4_netOf
set_option maxRecDepth 20000 in
theorem ggX3_shareOf_X3_wholeShare : GoodIn wsX3_shareOf wsX3_wholeShare := goodIn_r _ [23, 7, 24, 25, 26, 5, 27, 1, 8, 9, 10, 11, 12, 13, 46, 47, 48, 49, 37, 38, 39, 40, 41, 42, 43, 44, 45] (by decide +kernel) (by decide +kernel)
set_option maxRecDepth 20000 in
theorem gX3_shareOf_X3_wholeShare : GoodIn wsX3_shareOf (wsV RX3 67 RX3 yX3_wholeShare wsX3_wholeShare) := goodIn_app (goodIn_of _ (by decide +kernel)) ggX3_shareOf_X3_wholeShare
set_option maxRecDepth 20000 in
theorem ggX3_shareOf_X3_linesAhead : GoodIn wsX3_shareOf wsX3_linesAhead := goodIn_r _ [31, 1, 32, 33, 34, 5, 35, 36, 7, 24, 25, 26, 27, 8, 9, 10, 11, 12, 13, 37, 38, 39, 40, 41, 42, 43, 44, 45, 46, 47, 48, 49] (by decide +kernel) (by decide +kernel)
set_option maxRecDepth 20000 in
theorem gX3_shareOf_X3_linesAhead : GoodIn wsX3_shareOf (wsV RX3 71 RX3 yX3_linesAhead wsX3_linesAhead) := goodIn_app (goodIn_of _ (by decide +kernel)) ggX3_shareOf_X3_linesAhead
theorem dX3_shareOf_0 : decode cX3_shareOf 0 = .ok (.aload_n 0, 1) := by decide +kernel
theorem dX3_shareOf_1 : decode cX3_shareOf 1 = .ok (.invokevirtual 44, 3) := by decide +kernel
theorem dX3_shareOf_4 : decode cX3_shareOf 4 = .ok (.istore_n 2, 1) := by decide +kernel
theorem dX3_shareOf_5 : decode cX3_shareOf 5 = .ok (.iload_n 2, 1) := by decide +kernel
theorem dX3_shareOf_6 : decode cX3_shareOf 6 = .ok (.invokestatic 48, 3) := by decide +kernel
theorem dX3_shareOf_9 : decode cX3_shareOf 9 = .ok (.istore_n 3, 1) := by decide +kernel
theorem dX3_shareOf_10 : decode cX3_shareOf 10 = .ok (.iload_n 3, 1) := by decide +kernel
theorem dX3_shareOf_11 : decode cX3_shareOf 11 = .ok (.istore 4, 2) := by decide +kernel
theorem dX3_shareOf_13 : decode cX3_shareOf 13 = .ok (.iconst 0, 1) := by decide +kernel
theorem dX3_shareOf_14 : decode cX3_shareOf 14 = .ok (.istore 5, 2) := by decide +kernel
theorem dX3_shareOf_16 : decode cX3_shareOf 16 = .ok (.iload 5, 2) := by decide +kernel
theorem dX3_shareOf_18 : decode cX3_shareOf 18 = .ok (.aload_n 0, 1) := by decide +kernel
theorem dX3_shareOf_19 : decode cX3_shareOf 19 = .ok (.getfield 11, 3) := by decide +kernel
theorem dX3_shareOf_22 : decode cX3_shareOf 22 = .ok (.arraylength, 1) := by decide +kernel
theorem dX3_shareOf_23 : decode cX3_shareOf 23 = .ok (.if_icmp .ge 22, 3) := by decide +kernel
theorem dX3_shareOf_26 : decode cX3_shareOf 26 = .ok (.iload 4, 2) := by decide +kernel
theorem dX3_shareOf_28 : decode cX3_shareOf 28 = .ok (.aload_n 0, 1) := by decide +kernel
theorem dX3_shareOf_29 : decode cX3_shareOf 29 = .ok (.iload 5, 2) := by decide +kernel
theorem dX3_shareOf_31 : decode cX3_shareOf 31 = .ok (.iload_n 3, 1) := by decide +kernel
theorem dX3_shareOf_32 : decode cX3_shareOf 32 = .ok (.iload_n 2, 1) := by decide +kernel
theorem dX3_shareOf_33 : decode cX3_shareOf 33 = .ok (.invokevirtual 67, 3) := by decide +kernel
theorem dX3_shareOf_36 : decode cX3_shareOf 36 = .ok (.isub, 1) := by decide +kernel
theorem dX3_shareOf_37 : decode cX3_shareOf 37 = .ok (.istore 4, 2) := by decide +kernel
theorem dX3_shareOf_39 : decode cX3_shareOf 39 = .ok (.iinc 5 1, 3) := by decide +kernel
theorem dX3_shareOf_42 : decode cX3_shareOf 42 = .ok (.goto (-26), 3) := by decide +kernel
theorem dX3_shareOf_45 : decode cX3_shareOf 45 = .ok (.aload_n 0, 1) := by decide +kernel
theorem dX3_shareOf_46 : decode cX3_shareOf 46 = .ok (.iload_n 1, 1) := by decide +kernel
theorem dX3_shareOf_47 : decode cX3_shareOf 47 = .ok (.iload_n 3, 1) := by decide +kernel
theorem dX3_shareOf_48 : decode cX3_shareOf 48 = .ok (.iload_n 2, 1) := by decide +kernel
theorem dX3_shareOf_49 : decode cX3_shareOf 49 = .ok (.invokevirtual 67, 3) := by decide +kernel
theorem dX3_shareOf_52 : decode cX3_shareOf 52 = .ok (.istore 5, 2) := by decide +kernel
theorem dX3_shareOf_54 : decode cX3_shareOf 54 = .ok (.aload_n 0, 1) := by decide +kernel
theorem dX3_shareOf_55 : decode cX3_shareOf 55 = .ok (.iload_n 1, 1) := by decide +kernel
theorem dX3_shareOf_56 : decode cX3_shareOf 56 = .ok (.iload_n 3, 1) := by decide +kernel
theorem dX3_shareOf_57 : decode cX3_shareOf 57 = .ok (.iload_n 2, 1) := by decide +kernel
theorem dX3_shareOf_58 : decode cX3_shareOf 58 = .ok (.invokevirtual 71, 3) := by decide +kernel
theorem dX3_shareOf_61 : decode cX3_shareOf 61 = .ok (.iload 4, 2) := by decide +kernel
theorem dX3_shareOf_63 : decode cX3_shareOf 63 = .ok (.if_icmp .ge 10, 3) := by decide +kernel
theorem dX3_shareOf_66 : decode cX3_shareOf 66 = .ok (.iload 5, 2) := by decide +kernel
theorem dX3_shareOf_68 : decode cX3_shareOf 68 = .ok (.iconst 1, 1) := by decide +kernel
theorem dX3_shareOf_69 : decode cX3_shareOf 69 = .ok (.iadd, 1) := by decide +kernel
theorem dX3_shareOf_70 : decode cX3_shareOf 70 = .ok (.goto 5, 3) := by decide +kernel
theorem dX3_shareOf_73 : decode cX3_shareOf 73 = .ok (.iload 5, 2) := by decide +kernel
theorem dX3_shareOf_75 : decode cX3_shareOf 75 = .ok (.ireturn, 1) := by decide +kernel
set_option maxRecDepth 20000 in
theorem ggX3_wholeShare_X3_lineAt : GoodIn wsX3_wholeShare wsX3_lineAt := goodIn_r _ [6, 7, 18, 19, 20, 21, 22, 23, 24, 25, 26] (by decide +kernel) (by decide +kernel)
set_option maxRecDepth 20000 in
theorem gX3_wholeShare_X3_lineAt : GoodIn wsX3_wholeShare (wsV RX3 74 RX3 yX3_lineAt wsX3_lineAt) := goodIn_app (goodIn_of _ (by decide +kernel)) ggX3_wholeShare_X3_lineAt
set_option maxRecDepth 20000 in
theorem ggX3_wholeShare_X1_goodsOf : GoodIn wsX3_wholeShare wsX1_goodsOf := goodIn_r _ [12, 13, 14, 15, 16, 17] (by decide +kernel) (by decide +kernel)
set_option maxRecDepth 20000 in
theorem gX3_wholeShare_X1_goodsOf : GoodIn wsX3_wholeShare (wsV RX3 55 RX1 yX1_goodsOf wsX1_goodsOf) := goodIn_app (goodIn_of _ (by decide +kernel)) ggX3_wholeShare_X1_goodsOf
theorem dX3_wholeShare_0 : decode cX3_wholeShare 0 = .ok (.aload_n 0, 1) := by decide +kernel
theorem dX3_wholeShare_1 : decode cX3_wholeShare 1 = .ok (.iload_n 1, 1) := by decide +kernel
theorem dX3_wholeShare_2 : decode cX3_wholeShare 2 = .ok (.invokevirtual 74, 3) := by decide +kernel
theorem dX3_wholeShare_5 : decode cX3_wholeShare 5 = .ok (.astore 4, 2) := by decide +kernel
theorem dX3_wholeShare_7 : decode cX3_wholeShare 7 = .ok (.aload 4, 2) := by decide +kernel
theorem dX3_wholeShare_9 : decode cX3_wholeShare 9 = .ok (.ifnull 7, 3) := by decide +kernel
theorem dX3_wholeShare_12 : decode cX3_wholeShare 12 = .ok (.iload_n 3, 1) := by decide +kernel
theorem dX3_wholeShare_13 : decode cX3_wholeShare 13 = .ok (.ifCond .gt 5, 3) := by decide +kernel
theorem dX3_wholeShare_16 : decode cX3_wholeShare 16 = .ok (.iconst 0, 1) := by decide +kernel
theorem dX3_wholeShare_17 : decode cX3_wholeShare 17 = .ok (.ireturn, 1) := by decide +kernel
theorem dX3_wholeShare_18 : decode cX3_wholeShare 18 = .ok (.iload_n 2, 1) := by decide +kernel
theorem dX3_wholeShare_19 : decode cX3_wholeShare 19 = .ok (.i2l, 1) := by decide +kernel
theorem dX3_wholeShare_20 : decode cX3_wholeShare 20 = .ok (.aload 4, 2) := by decide +kernel
theorem dX3_wholeShare_22 : decode cX3_wholeShare 22 = .ok (.aload 4, 2) := by decide +kernel
theorem dX3_wholeShare_24 : decode cX3_wholeShare 24 = .ok (.getfield 34, 3) := by decide +kernel
theorem dX3_wholeShare_27 : decode cX3_wholeShare 27 = .ok (.invokevirtual 55, 3) := by decide +kernel
theorem dX3_wholeShare_30 : decode cX3_wholeShare 30 = .ok (.i2l, 1) := by decide +kernel
theorem dX3_wholeShare_31 : decode cX3_wholeShare 31 = .ok (.lmul, 1) := by decide +kernel
theorem dX3_wholeShare_32 : decode cX3_wholeShare 32 = .ok (.iload_n 3, 1) := by decide +kernel
theorem dX3_wholeShare_33 : decode cX3_wholeShare 33 = .ok (.i2l, 1) := by decide +kernel
theorem dX3_wholeShare_34 : decode cX3_wholeShare 34 = .ok (.ldiv, 1) := by decide +kernel
theorem dX3_wholeShare_35 : decode cX3_wholeShare 35 = .ok (.l2i, 1) := by decide +kernel
theorem dX3_wholeShare_36 : decode cX3_wholeShare 36 = .ok (.ireturn, 1) := by decide +kernel
set_option maxRecDepth 20000 in
theorem ggX3_remainder_X3_lineAt : GoodIn wsX3_remainder wsX3_lineAt := goodIn_r _ [7, 8, 19, 20, 21, 22, 23, 24, 25, 26, 27] (by decide +kernel) (by decide +kernel)
set_option maxRecDepth 20000 in
theorem gX3_remainder_X3_lineAt : GoodIn wsX3_remainder (wsV RX3 74 RX3 yX3_lineAt wsX3_lineAt) := goodIn_app (goodIn_of _ (by decide +kernel)) ggX3_remainder_X3_lineAt
set_option maxRecDepth 20000 in
theorem ggX3_remainder_X1_goodsOf : GoodIn wsX3_remainder wsX1_goodsOf := goodIn_r _ [13, 14, 15, 16, 17, 18] (by decide +kernel) (by decide +kernel)
set_option maxRecDepth 20000 in
theorem gX3_remainder_X1_goodsOf : GoodIn wsX3_remainder (wsV RX3 55 RX1 yX1_goodsOf wsX1_goodsOf) := goodIn_app (goodIn_of _ (by decide +kernel)) ggX3_remainder_X1_goodsOf
theorem dX3_remainder_0 : decode cX3_remainder 0 = .ok (.aload_n 0, 1) := by decide +kernel
theorem dX3_remainder_1 : decode cX3_remainder 1 = .ok (.iload_n 1, 1) := by decide +kernel
theorem dX3_remainder_2 : decode cX3_remainder 2 = .ok (.invokevirtual 74, 3) := by decide +kernel
theorem dX3_remainder_5 : decode cX3_remainder 5 = .ok (.astore 4, 2) := by decide +kernel
theorem dX3_remainder_7 : decode cX3_remainder 7 = .ok (.aload 4, 2) := by decide +kernel
theorem dX3_remainder_9 : decode cX3_remainder 9 = .ok (.ifnull 7, 3) := by decide +kernel
theorem dX3_remainder_12 : decode cX3_remainder 12 = .ok (.iload_n 3, 1) := by decide +kernel
theorem dX3_remainder_13 : decode cX3_remainder 13 = .ok (.ifCond .gt 7, 3) := by decide +kernel
theorem dX3_remainder_16 : decode cX3_remainder 16 = .ok (.ldc2_w 78, 3) := by decide +kernel
theorem dX3_remainder_19 : decode cX3_remainder 19 = .ok (.lreturn, 1) := by decide +kernel
theorem dX3_remainder_20 : decode cX3_remainder 20 = .ok (.iload_n 2, 1) := by decide +kernel
theorem dX3_remainder_21 : decode cX3_remainder 21 = .ok (.i2l, 1) := by decide +kernel
theorem dX3_remainder_22 : decode cX3_remainder 22 = .ok (.aload 4, 2) := by decide +kernel
theorem dX3_remainder_24 : decode cX3_remainder 24 = .ok (.aload 4, 2) := by decide +kernel
theorem dX3_remainder_26 : decode cX3_remainder 26 = .ok (.getfield 34, 3) := by decide +kernel
theorem dX3_remainder_29 : decode cX3_remainder 29 = .ok (.invokevirtual 55, 3) := by decide +kernel
theorem dX3_remainder_32 : decode cX3_remainder 32 = .ok (.i2l, 1) := by decide +kernel
theorem dX3_remainder_33 : decode cX3_remainder 33 = .ok (.lmul, 1) := by decide +kernel
theorem dX3_remainder_34 : decode cX3_remainder 34 = .ok (.iload_n 3, 1) := by decide +kernel
theorem dX3_remainder_35 : decode cX3_remainder 35 = .ok (.i2l, 1) := by decide +kernel
theorem dX3_remainder_36 : decode cX3_remainder 36 = .ok (.lrem, 1) := by decide +kernel
theorem dX3_remainder_37 : decode cX3_remainder 37 = .ok (.lreturn, 1) := by decide +kernel
set_option maxRecDepth 20000 in
theorem ggX3_linesAhead_X3_remainder : GoodIn wsX3_linesAhead wsX3_remainder := goodIn_r _ [6, 7, 8, 9, 10, 11, 5, 12, 1, 13, 14, 15, 16, 17, 18, 28, 29, 30, 31, 19, 20, 21, 22, 23, 24, 25, 26, 27] (by decide +kernel) (by decide +kernel)
set_option maxRecDepth 20000 in
theorem gX3_linesAhead_X3_remainder : GoodIn wsX3_linesAhead (wsV RX3 80 RX3 yX3_remainder wsX3_remainder) := goodIn_app (goodIn_of _ (by decide +kernel)) ggX3_linesAhead_X3_remainder
theorem dX3_linesAhead_0 : decode cX3_linesAhead 0 = .ok (.aload_n 0, 1) := by decide +kernel
theorem dX3_linesAhead_1 : decode cX3_linesAhead 1 = .ok (.iload_n 1, 1) := by decide +kernel
theorem dX3_linesAhead_2 : decode cX3_linesAhead 2 = .ok (.iload_n 2, 1) := by decide +kernel
theorem dX3_linesAhead_3 : decode cX3_linesAhead 3 = .ok (.iload_n 3, 1) := by decide +kernel
theorem dX3_linesAhead_4 : decode cX3_linesAhead 4 = .ok (.invokevirtual 80, 3) := by decide +kernel
theorem dX3_linesAhead_7 : decode cX3_linesAhead 7 = .ok (.lstore 4, 2) := by decide +kernel
theorem dX3_linesAhead_9 : decode cX3_linesAhead 9 = .ok (.iconst 0, 1) := by decide +kernel
theorem dX3_linesAhead_10 : decode cX3_linesAhead 10 = .ok (.istore 6, 2) := by decide +kernel
theorem dX3_linesAhead_12 : decode cX3_linesAhead 12 = .ok (.iconst 0, 1) := by decide +kernel
theorem dX3_linesAhead_13 : decode cX3_linesAhead 13 = .ok (.istore 7, 2) := by decide +kernel
theorem dX3_linesAhead_15 : decode cX3_linesAhead 15 = .ok (.iload 7, 2) := by decide +kernel
theorem dX3_linesAhead_17 : decode cX3_linesAhead 17 = .ok (.aload_n 0, 1) := by decide +kernel
theorem dX3_linesAhead_18 : decode cX3_linesAhead 18 = .ok (.getfield 11, 3) := by decide +kernel
theorem dX3_linesAhead_21 : decode cX3_linesAhead 21 = .ok (.arraylength, 1) := by decide +kernel
theorem dX3_linesAhead_22 : decode cX3_linesAhead 22 = .ok (.if_icmp .ge 44, 3) := by decide +kernel
theorem dX3_linesAhead_25 : decode cX3_linesAhead 25 = .ok (.aload_n 0, 1) := by decide +kernel
theorem dX3_linesAhead_26 : decode cX3_linesAhead 26 = .ok (.iload 7, 2) := by decide +kernel
theorem dX3_linesAhead_28 : decode cX3_linesAhead 28 = .ok (.iload_n 2, 1) := by decide +kernel
theorem dX3_linesAhead_29 : decode cX3_linesAhead 29 = .ok (.iload_n 3, 1) := by decide +kernel
theorem dX3_linesAhead_30 : decode cX3_linesAhead 30 = .ok (.invokevirtual 80, 3) := by decide +kernel
theorem dX3_linesAhead_33 : decode cX3_linesAhead 33 = .ok (.lstore 8, 2) := by decide +kernel
theorem dX3_linesAhead_35 : decode cX3_linesAhead 35 = .ok (.lload 8, 2) := by decide +kernel
theorem dX3_linesAhead_37 : decode cX3_linesAhead 37 = .ok (.lload 4, 2) := by decide +kernel
theorem dX3_linesAhead_39 : decode cX3_linesAhead 39 = .ok (.lcmp, 1) := by decide +kernel
theorem dX3_linesAhead_40 : decode cX3_linesAhead 40 = .ok (.ifCond .gt 17, 3) := by decide +kernel
theorem dX3_linesAhead_43 : decode cX3_linesAhead 43 = .ok (.lload 8, 2) := by decide +kernel
theorem dX3_linesAhead_45 : decode cX3_linesAhead 45 = .ok (.lload 4, 2) := by decide +kernel
theorem dX3_linesAhead_47 : decode cX3_linesAhead 47 = .ok (.lcmp, 1) := by decide +kernel
theorem dX3_linesAhead_48 : decode cX3_linesAhead 48 = .ok (.ifCond .ne 12, 3) := by decide +kernel
theorem dX3_linesAhead_51 : decode cX3_linesAhead 51 = .ok (.iload 7, 2) := by decide +kernel
theorem dX3_linesAhead_53 : decode cX3_linesAhead 53 = .ok (.iload_n 1, 1) := by decide +kernel
theorem dX3_linesAhead_54 : decode cX3_linesAhead 54 = .ok (.if_icmp .ge 6, 3) := by decide +kernel
theorem dX3_linesAhead_57 : decode cX3_linesAhead 57 = .ok (.iinc 6 1, 3) := by decide +kernel
theorem dX3_linesAhead_60 : decode cX3_linesAhead 60 = .ok (.iinc 7 1, 3) := by decide +kernel
theorem dX3_linesAhead_63 : decode cX3_linesAhead 63 = .ok (.goto (-48), 3) := by decide +kernel
theorem dX3_linesAhead_66 : decode cX3_linesAhead 66 = .ok (.iload 6, 2) := by decide +kernel
theorem dX3_linesAhead_68 : decode cX3_linesAhead 68 = .ok (.ireturn, 1) := by decide +kernel
set_option maxRecDepth 20000 in
theorem ggX4_init_X2_init : GoodIn wsX4_init wsX2_init := goodIn_r _ [15, 16, 2, 3, 17, 18, 19, 20, 21, 35, 36, 37, 38] (by decide +kernel) (by decide +kernel)
set_option maxRecDepth 20000 in
theorem gX4_init_X2_init_n15 : GoodIn wsX4_init (wsX2_init) := ggX4_init_X2_init
set_option maxRecDepth 20000 in
theorem ggX4_init_X0_init : GoodIn wsX4_init wsX0_init := goodIn_r _ [23, 24, 2, 3, 20, 25, 26, 27, 28, 39, 40, 41, 42] (by decide +kernel) (by decide +kernel)
set_option maxRecDepth 20000 in
theorem gX4_init_X0_init_n22 : GoodIn wsX4_init (wsX0_init) := ggX4_init_X0_init
theorem dX4_init_0 : decode cX4_init 0 = .ok (.aload_n 0, 1) := by decide +kernel
theorem dX4_init_1 : decode cX4_init 1 = .ok (.invokespecial 1, 3) := by decide +kernel
theorem dX4_init_4 : decode cX4_init 4 = .ok (.aload_n 0, 1) := by decide +kernel
theorem dX4_init_5 : decode cX4_init 5 = .ok (.bipush 10, 2) := by decide +kernel
theorem dX4_init_7 : decode cX4_init 7 = .ok (.anewarray 9, 3) := by decide +kernel
theorem dX4_init_10 : decode cX4_init 10 = .ok (.putfield 11, 3) := by decide +kernel
theorem dX4_init_13 : decode cX4_init 13 = .ok (.iconst 0, 1) := by decide +kernel
theorem dX4_init_14 : decode cX4_init 14 = .ok (.istore_n 1, 1) := by decide +kernel
theorem dX4_init_15 : decode cX4_init 15 = .ok (.iload_n 1, 1) := by decide +kernel
theorem dX4_init_16 : decode cX4_init 16 = .ok (.aload_n 0, 1) := by decide +kernel
theorem dX4_init_17 : decode cX4_init 17 = .ok (.getfield 11, 3) := by decide +kernel
theorem dX4_init_20 : decode cX4_init 20 = .ok (.arraylength, 1) := by decide +kernel
theorem dX4_init_21 : decode cX4_init 21 = .ok (.if_icmp .ge 22, 3) := by decide +kernel
theorem dX4_init_24 : decode cX4_init 24 = .ok (.aload_n 0, 1) := by decide +kernel
theorem dX4_init_25 : decode cX4_init 25 = .ok (.getfield 11, 3) := by decide +kernel
theorem dX4_init_28 : decode cX4_init 28 = .ok (.iload_n 1, 1) := by decide +kernel
theorem dX4_init_29 : decode cX4_init 29 = .ok (.new 9, 3) := by decide +kernel
theorem dX4_init_32 : decode cX4_init 32 = .ok (.dup, 1) := by decide +kernel
theorem dX4_init_33 : decode cX4_init 33 = .ok (.invokespecial 15, 3) := by decide +kernel
theorem dX4_init_36 : decode cX4_init 36 = .ok (.aastore, 1) := by decide +kernel
theorem dX4_init_37 : decode cX4_init 37 = .ok (.iinc 1 1, 3) := by decide +kernel
theorem dX4_init_40 : decode cX4_init 40 = .ok (.goto (-25), 3) := by decide +kernel
theorem dX4_init_43 : decode cX4_init 43 = .ok (.aload_n 0, 1) := by decide +kernel
theorem dX4_init_44 : decode cX4_init 44 = .ok (.bipush 10, 2) := by decide +kernel
theorem dX4_init_46 : decode cX4_init 46 = .ok (.anewarray 16, 3) := by decide +kernel
theorem dX4_init_49 : decode cX4_init 49 = .ok (.putfield 18, 3) := by decide +kernel
theorem dX4_init_52 : decode cX4_init 52 = .ok (.iconst 0, 1) := by decide +kernel
theorem dX4_init_53 : decode cX4_init 53 = .ok (.istore_n 1, 1) := by decide +kernel
theorem dX4_init_54 : decode cX4_init 54 = .ok (.iload_n 1, 1) := by decide +kernel
theorem dX4_init_55 : decode cX4_init 55 = .ok (.aload_n 0, 1) := by decide +kernel
theorem dX4_init_56 : decode cX4_init 56 = .ok (.getfield 18, 3) := by decide +kernel
theorem dX4_init_59 : decode cX4_init 59 = .ok (.arraylength, 1) := by decide +kernel
theorem dX4_init_60 : decode cX4_init 60 = .ok (.if_icmp .ge 22, 3) := by decide +kernel
theorem dX4_init_63 : decode cX4_init 63 = .ok (.aload_n 0, 1) := by decide +kernel
theorem dX4_init_64 : decode cX4_init 64 = .ok (.getfield 18, 3) := by decide +kernel
theorem dX4_init_67 : decode cX4_init 67 = .ok (.iload_n 1, 1) := by decide +kernel
theorem dX4_init_68 : decode cX4_init 68 = .ok (.new 16, 3) := by decide +kernel
theorem dX4_init_71 : decode cX4_init 71 = .ok (.dup, 1) := by decide +kernel
theorem dX4_init_72 : decode cX4_init 72 = .ok (.invokespecial 22, 3) := by decide +kernel
theorem dX4_init_75 : decode cX4_init 75 = .ok (.aastore, 1) := by decide +kernel
theorem dX4_init_76 : decode cX4_init 76 = .ok (.iinc 1 1, 3) := by decide +kernel
theorem dX4_init_79 : decode cX4_init 79 = .ok (.goto (-25), 3) := by decide +kernel
theorem dX4_init_82 : decode cX4_init 82 = .ok (.aload_n 0, 1) := by decide +kernel
theorem dX4_init_83 : decode cX4_init 83 = .ok (.bipush 40, 2) := by decide +kernel
theorem dX4_init_85 : decode cX4_init 85 = .ok (.anewarray 23, 3) := by decide +kernel
theorem dX4_init_88 : decode cX4_init 88 = .ok (.putfield 25, 3) := by decide +kernel
theorem dX4_init_91 : decode cX4_init 91 = .ok (.return_, 1) := by decide +kernel
set_option maxRecDepth 20000 in
theorem ggX4_setProduct_X4_productAt : GoodIn wsX4_setProduct wsX4_productAt := goodIn_r _ [11, 12, 20, 21, 22, 23, 24, 25] (by decide +kernel) (by decide +kernel)
set_option maxRecDepth 20000 in
theorem gX4_setProduct_X4_productAt : GoodIn wsX4_setProduct (wsV RX4 29 RX4 yX4_productAt wsX4_productAt) := goodIn_app (goodIn_of _ (by decide +kernel)) ggX4_setProduct_X4_productAt
set_option maxRecDepth 20000 in
theorem ggX4_setProduct_X4_isCost : GoodIn wsX4_setProduct wsX4_isCost := goodIn_r _ [15, 3] (by decide +kernel) (by decide +kernel)
set_option maxRecDepth 20000 in
theorem gX4_setProduct_X4_isCost : GoodIn wsX4_setProduct (va_wsS RX4 34 yX4_isCost wsX4_isCost) := goodIn_app (goodIn_of _ (by decide +kernel)) ggX4_setProduct_X4_isCost
theorem dX4_setProduct_0 : decode cX4_setProduct 0 = .ok (.aload_n 0, 1) := by decide +kernel
theorem dX4_setProduct_1 : decode cX4_setProduct 1 = .ok (.iload_n 1, 1) := by decide +kernel
theorem dX4_setProduct_2 : decode cX4_setProduct 2 = .ok (.invokevirtual 29, 3) := by decide +kernel
theorem dX4_setProduct_5 : decode cX4_setProduct 5 = .ok (.astore 5, 2) := by decide +kernel
theorem dX4_setProduct_7 : decode cX4_setProduct 7 = .ok (.aload 5, 2) := by decide +kernel
theorem dX4_setProduct_9 : decode cX4_setProduct 9 = .ok (.ifnull 29, 3) := by decide +kernel
theorem dX4_setProduct_12 : decode cX4_setProduct 12 = .ok (.iload_n 2, 1) := by decide +kernel
theorem dX4_setProduct_13 : decode cX4_setProduct 13 = .ok (.iconst 1, 1) := by decide +kernel
theorem dX4_setProduct_14 : decode cX4_setProduct 14 = .ok (.if_icmp .lt 24, 3) := by decide +kernel
theorem dX4_setProduct_17 : decode cX4_setProduct 17 = .ok (.iload_n 2, 1) := by decide +kernel
theorem dX4_setProduct_18 : decode cX4_setProduct 18 = .ok (.ldc 33, 2) := by decide +kernel
theorem dX4_setProduct_20 : decode cX4_setProduct 20 = .ok (.if_icmp .gt 18, 3) := by decide +kernel
theorem dX4_setProduct_23 : decode cX4_setProduct 23 = .ok (.iload_n 3, 1) := by decide +kernel
theorem dX4_setProduct_24 : decode cX4_setProduct 24 = .ok (.invokestatic 34, 3) := by decide +kernel
theorem dX4_setProduct_27 : decode cX4_setProduct 27 = .ok (.ifCond .eq 11, 3) := by decide +kernel
theorem dX4_setProduct_30 : decode cX4_setProduct 30 = .ok (.iload 4, 2) := by decide +kernel
theorem dX4_setProduct_32 : decode cX4_setProduct 32 = .ok (.invokestatic 34, 3) := by decide +kernel
theorem dX4_setProduct_35 : decode cX4_setProduct 35 = .ok (.ifCond .ne 13, 3) := by decide +kernel
theorem dX4_setProduct_38 : decode cX4_setProduct 38 = .ok (.new 38, 3) := by decide +kernel
theorem dX4_setProduct_41 : decode cX4_setProduct 41 = .ok (.dup, 1) := by decide +kernel
theorem dX4_setProduct_42 : decode cX4_setProduct 42 = .ok (.ldc 40, 2) := by decide +kernel
theorem dX4_setProduct_44 : decode cX4_setProduct 44 = .ok (.invokespecial 42, 3) := by decide +kernel
theorem dX4_setProduct_47 : decode cX4_setProduct 47 = .ok (.athrow, 1) := by decide +kernel
theorem dX4_setProduct_48 : decode cX4_setProduct 48 = .ok (.aload 5, 2) := by decide +kernel
theorem dX4_setProduct_50 : decode cX4_setProduct 50 = .ok (.getfield 45, 3) := by decide +kernel
theorem dX4_setProduct_53 : decode cX4_setProduct 53 = .ok (.istore 6, 2) := by decide +kernel
theorem dX4_setProduct_55 : decode cX4_setProduct 55 = .ok (.aload 5, 2) := by decide +kernel
theorem dX4_setProduct_57 : decode cX4_setProduct 57 = .ok (.iload_n 2, 1) := by decide +kernel
theorem dX4_setProduct_58 : decode cX4_setProduct 58 = .ok (.putfield 45, 3) := by decide +kernel
theorem dX4_setProduct_61 : decode cX4_setProduct 61 = .ok (.aload 5, 2) := by decide +kernel
theorem dX4_setProduct_63 : decode cX4_setProduct 63 = .ok (.iload_n 3, 1) := by decide +kernel
theorem dX4_setProduct_64 : decode cX4_setProduct 64 = .ok (.putfield 49, 3) := by decide +kernel
theorem dX4_setProduct_67 : decode cX4_setProduct 67 = .ok (.aload 5, 2) := by decide +kernel
theorem dX4_setProduct_69 : decode cX4_setProduct 69 = .ok (.iload 4, 2) := by decide +kernel
theorem dX4_setProduct_71 : decode cX4_setProduct 71 = .ok (.putfield 52, 3) := by decide +kernel
theorem dX4_setProduct_74 : decode cX4_setProduct 74 = .ok (.iload 6, 2) := by decide +kernel
theorem dX4_setProduct_76 : decode cX4_setProduct 76 = .ok (.ireturn, 1) := by decide +kernel
theorem dX4_pass_0 : decode cX4_pass 0 = .ok (.iload_n 1, 1) := by decide +kernel
theorem dX4_pass_1 : decode cX4_pass 1 = .ok (.iconst 1, 1) := by decide +kernel
theorem dX4_pass_2 : decode cX4_pass 2 = .ok (.if_icmp .lt 10, 3) := by decide +kernel
theorem dX4_pass_5 : decode cX4_pass 5 = .ok (.iload_n 1, 1) := by decide +kernel
theorem dX4_pass_6 : decode cX4_pass 6 = .ok (.sipush 365, 3) := by decide +kernel
theorem dX4_pass_9 : decode cX4_pass 9 = .ok (.if_icmp .le 13, 3) := by decide +kernel
theorem dX4_pass_12 : decode cX4_pass 12 = .ok (.new 38, 3) := by decide +kernel
theorem dX4_pass_15 : decode cX4_pass 15 = .ok (.dup, 1) := by decide +kernel
theorem dX4_pass_16 : decode cX4_pass 16 = .ok (.ldc 55, 2) := by decide +kernel
theorem dX4_pass_18 : decode cX4_pass 18 = .ok (.invokespecial 42, 3) := by decide +kernel
theorem dX4_pass_21 : decode cX4_pass 21 = .ok (.athrow, 1) := by decide +kernel
theorem dX4_pass_22 : decode cX4_pass 22 = .ok (.aload_n 0, 1) := by decide +kernel
theorem dX4_pass_23 : decode cX4_pass 23 = .ok (.getfield 57, 3) := by decide +kernel
theorem dX4_pass_26 : decode cX4_pass 26 = .ok (.iload_n 1, 1) := by decide +kernel
theorem dX4_pass_27 : decode cX4_pass 27 = .ok (.iadd, 1) := by decide +kernel
theorem dX4_pass_28 : decode cX4_pass 28 = .ok (.ldc 33, 2) := by decide +kernel
theorem dX4_pass_30 : decode cX4_pass 30 = .ok (.if_icmp .le 13, 3) := by decide +kernel
theorem dX4_pass_33 : decode cX4_pass 33 = .ok (.new 60, 3) := by decide +kernel
theorem dX4_pass_36 : decode cX4_pass 36 = .ok (.dup, 1) := by decide +kernel
theorem dX4_pass_37 : decode cX4_pass 37 = .ok (.ldc 62, 2) := by decide +kernel
theorem dX4_pass_39 : decode cX4_pass 39 = .ok (.invokespecial 64, 3) := by decide +kernel
theorem dX4_pass_42 : decode cX4_pass 42 = .ok (.athrow, 1) := by decide +kernel
theorem dX4_pass_43 : decode cX4_pass 43 = .ok (.aload_n 0, 1) := by decide +kernel
theorem dX4_pass_44 : decode cX4_pass 44 = .ok (.dup, 1) := by decide +kernel
theorem dX4_pass_45 : decode cX4_pass 45 = .ok (.getfield 57, 3) := by decide +kernel
theorem dX4_pass_48 : decode cX4_pass 48 = .ok (.iload_n 1, 1) := by decide +kernel
theorem dX4_pass_49 : decode cX4_pass 49 = .ok (.iadd, 1) := by decide +kernel
theorem dX4_pass_50 : decode cX4_pass 50 = .ok (.putfield 57, 3) := by decide +kernel
theorem dX4_pass_53 : decode cX4_pass 53 = .ok (.aload_n 0, 1) := by decide +kernel
theorem dX4_pass_54 : decode cX4_pass 54 = .ok (.getfield 57, 3) := by decide +kernel
theorem dX4_pass_57 : decode cX4_pass 57 = .ok (.ireturn, 1) := by decide +kernel
set_option maxRecDepth 20000 in
theorem ggX4_open_X4_customerAt : GoodIn wsX4_open wsX4_customerAt := goodIn_r _ [13, 14, 44, 45, 46, 47, 48, 49] (by decide +kernel) (by decide +kernel)
set_option maxRecDepth 20000 in
theorem gX4_open_X4_customerAt : GoodIn wsX4_open (wsV RX4 65 RX4 yX4_customerAt wsX4_customerAt) := goodIn_app (goodIn_of _ (by decide +kernel)) ggX4_open_X4_customerAt
set_option maxRecDepth 20000 in
theorem ggX4_open_X4_isRegisterFull : GoodIn wsX4_open wsX4_isRegisterFull := goodIn_r _ [18, 8, 19, 44, 45, 46, 47, 48, 49] (by decide +kernel) (by decide +kernel)
set_option maxRecDepth 20000 in
theorem gX4_open_X4_isRegisterFull : GoodIn wsX4_open (wsV RX4 71 RX4 yX4_isRegisterFull wsX4_isRegisterFull) := goodIn_app (goodIn_of _ (by decide +kernel)) ggX4_open_X4_isRegisterFull
set_option maxRecDepth 20000 in
theorem ggX4_open_X3_init : GoodIn wsX4_open wsX3_init := goodIn_r _ [22, 23, 24, 25, 26, 27, 28, 29, 30, 35, 36, 37, 38, 39, 40, 41, 42, 43] (by decide +kernel) (by decide +kernel)
set_option maxRecDepth 20000 in
theorem gX4_open_X3_init : GoodIn wsX4_open (wsX3_init) := ggX4_open_X3_init
set_option maxRecDepth 20000 in
theorem ggX4_open_X4_enter : GoodIn wsX4_open wsX4_enter := goodIn_r _ [34, 8, 19, 44, 45, 46, 47, 48, 49] (by decide +kernel) (by decide +kernel)
set_option maxRecDepth 20000 in
theorem gX4_open_X4_enter : GoodIn wsX4_open (wsV RX4 83 RX4 yX4_enter wsX4_enter) := goodIn_app (goodIn_of _ (by decide +kernel)) ggX4_open_X4_enter
theorem dX4_open_0 : decode cX4_open 0 = .ok (.aload_n 0, 1) := by decide +kernel
theorem dX4_open_1 : decode cX4_open 1 = .ok (.iload_n 1, 1) := by decide +kernel
theorem dX4_open_2 : decode cX4_open 2 = .ok (.invokevirtual 65, 3) := by decide +kernel
theorem dX4_open_5 : decode cX4_open 5 = .ok (.astore_n 2, 1) := by decide +kernel
theorem dX4_open_6 : decode cX4_open 6 = .ok (.aload_n 2, 1) := by decide +kernel
theorem dX4_open_7 : decode cX4_open 7 = .ok (.ifnonnull 13, 3) := by decide +kernel
theorem dX4_open_10 : decode cX4_open 10 = .ok (.new 38, 3) := by decide +kernel
theorem dX4_open_13 : decode cX4_open 13 = .ok (.dup, 1) := by decide +kernel
theorem dX4_open_14 : decode cX4_open 14 = .ok (.ldc 69, 2) := by decide +kernel
theorem dX4_open_16 : decode cX4_open 16 = .ok (.invokespecial 42, 3) := by decide +kernel
theorem dX4_open_19 : decode cX4_open 19 = .ok (.athrow, 1) := by decide +kernel
theorem dX4_open_20 : decode cX4_open 20 = .ok (.aload_n 0, 1) := by decide +kernel
theorem dX4_open_21 : decode cX4_open 21 = .ok (.invokevirtual 71, 3) := by decide +kernel
theorem dX4_open_24 : decode cX4_open 24 = .ok (.ifCond .eq 13, 3) := by decide +kernel
theorem dX4_open_27 : decode cX4_open 27 = .ok (.new 60, 3) := by decide +kernel
theorem dX4_open_30 : decode cX4_open 30 = .ok (.dup, 1) := by decide +kernel
theorem dX4_open_31 : decode cX4_open 31 = .ok (.ldc 75, 2) := by decide +kernel
theorem dX4_open_33 : decode cX4_open 33 = .ok (.invokespecial 64, 3) := by decide +kernel
theorem dX4_open_36 : decode cX4_open 36 = .ok (.athrow, 1) := by decide +kernel
theorem dX4_open_37 : decode cX4_open 37 = .ok (.aload_n 0, 1) := by decide +kernel
theorem dX4_open_38 : decode cX4_open 38 = .ok (.new 23, 3) := by decide +kernel
theorem dX4_open_41 : decode cX4_open 41 = .ok (.dup, 1) := by decide +kernel
theorem dX4_open_42 : decode cX4_open 42 = .ok (.aload_n 2, 1) := by decide +kernel
theorem dX4_open_43 : decode cX4_open 43 = .ok (.aload_n 0, 1) := by decide +kernel
theorem dX4_open_44 : decode cX4_open 44 = .ok (.getfield 77, 3) := by decide +kernel
theorem dX4_open_47 : decode cX4_open 47 = .ok (.iconst 0, 1) := by decide +kernel
theorem dX4_open_48 : decode cX4_open 48 = .ok (.invokespecial 80, 3) := by decide +kernel
theorem dX4_open_51 : decode cX4_open 51 = .ok (.invokevirtual 83, 3) := by decide +kernel
theorem dX4_open_54 : decode cX4_open 54 = .ok (.ireturn, 1) := by decide +kernel
set_option maxRecDepth 20000 in
theorem ggX4_add_X4_existingSale : GoodIn wsX4_add wsX4_existingSale := goodIn_ca (goodIn_r _ [14, 15, 16, 17, 18, 19, 13, 20, 21, 60, 61, 62, 63, 64, 65] (by decide +kernel) (by decide +kernel)) (goodIn_sub (fun _ h => List.mem_cons_of_mem _ (List.mem_append_right _ h)) (by decide +kernel))
set_option maxRecDepth 20000 in
theorem gX4_add_X4_existingSale : GoodIn wsX4_add (wsV RX4 87 RX4 yX4_existingSale wsX4_existingSale) := goodIn_app (goodIn_of _ (by decide +kernel)) ggX4_add_X4_existingSale
set_option maxRecDepth 20000 in
theorem ggX4_add_X4_productAt : GoodIn wsX4_add wsX4_productAt := goodIn_r _ [25, 26, 60, 61, 62, 63, 64, 65] (by decide +kernel) (by decide +kernel)
set_option maxRecDepth 20000 in
theorem gX4_add_X4_productAt : GoodIn wsX4_add (wsV RX4 29 RX4 yX4_productAt wsX4_productAt) := goodIn_app (goodIn_of _ (by decide +kernel)) ggX4_add_X4_productAt
set_option maxRecDepth 20000 in
theorem ggX4_add_X4_isUnits : GoodIn wsX4_add wsX4_isUnits := goodIn_r _ [29] (by decide +kernel) (by decide +kernel)
set_option maxRecDepth 20000 in
theorem gX4_add_X4_isUnits : GoodIn wsX4_add (va_wsS RX4 91 yX4_isUnits wsX4_isUnits) := goodIn_app (goodIn_of _ (by decide +kernel)) ggX4_add_X4_isUnits
set_option maxRecDepth 20000 in
theorem ggX4_add_X1_init : GoodIn wsX4_add wsX1_init := goodIn_r _ [32, 33, 34, 35, 36, 37, 38, 39, 56, 57, 58, 59, 66, 67, 68, 69] (by decide +kernel) (by decide +kernel)
set_option maxRecDepth 20000 in
theorem gX4_add_X1_init : GoodIn wsX4_add (wsX1_init) := ggX4_add_X1_init
set_option maxRecDepth 20000 in
theorem ggX4_add_X3_append : GoodIn wsX4_add wsX3_append := goodIn_r _ [44, 45, 46, 47, 48, 49, 50, 51, 52, 53, 54, 55] (by decide +kernel) (by decide +kernel)
set_option maxRecDepth 20000 in
theorem gX4_add_X3_append : GoodIn wsX4_add (wsV RX4 110 RX3 yX3_append wsX3_append) := goodIn_app (goodIn_of _ (by decide +kernel)) ggX4_add_X3_append
theorem dX4_add_0 : decode cX4_add 0 = .ok (.aload_n 0, 1) := by decide +kernel
theorem dX4_add_1 : decode cX4_add 1 = .ok (.iload_n 1, 1) := by decide +kernel
theorem dX4_add_2 : decode cX4_add 2 = .ok (.invokevirtual 87, 3) := by decide +kernel
theorem dX4_add_5 : decode cX4_add 5 = .ok (.astore 4, 2) := by decide +kernel
theorem dX4_add_7 : decode cX4_add 7 = .ok (.aload_n 0, 1) := by decide +kernel
theorem dX4_add_8 : decode cX4_add 8 = .ok (.iload_n 2, 1) := by decide +kernel
theorem dX4_add_9 : decode cX4_add 9 = .ok (.invokevirtual 29, 3) := by decide +kernel
theorem dX4_add_12 : decode cX4_add 12 = .ok (.astore 5, 2) := by decide +kernel
theorem dX4_add_14 : decode cX4_add 14 = .ok (.aload 5, 2) := by decide +kernel
theorem dX4_add_16 : decode cX4_add 16 = .ok (.ifnull 10, 3) := by decide +kernel
theorem dX4_add_19 : decode cX4_add 19 = .ok (.iload_n 3, 1) := by decide +kernel
theorem dX4_add_20 : decode cX4_add 20 = .ok (.invokestatic 91, 3) := by decide +kernel
theorem dX4_add_23 : decode cX4_add 23 = .ok (.ifCond .ne 13, 3) := by decide +kernel
theorem dX4_add_26 : decode cX4_add 26 = .ok (.new 38, 3) := by decide +kernel
theorem dX4_add_29 : decode cX4_add 29 = .ok (.dup, 1) := by decide +kernel
theorem dX4_add_30 : decode cX4_add 30 = .ok (.ldc 94, 2) := by decide +kernel
theorem dX4_add_32 : decode cX4_add 32 = .ok (.invokespecial 42, 3) := by decide +kernel
theorem dX4_add_35 : decode cX4_add 35 = .ok (.athrow, 1) := by decide +kernel
theorem dX4_add_36 : decode cX4_add 36 = .ok (.aload 4, 2) := by decide +kernel
theorem dX4_add_38 : decode cX4_add 38 = .ok (.getfield 96, 3) := by decide +kernel
theorem dX4_add_41 : decode cX4_add 41 = .ok (.ifCond .ne 13, 3) := by decide +kernel
theorem dX4_add_44 : decode cX4_add 44 = .ok (.aload 4, 2) := by decide +kernel
theorem dX4_add_46 : decode cX4_add 46 = .ok (.getfield 100, 3) := by decide +kernel
theorem dX4_add_49 : decode cX4_add 49 = .ok (.bipush 6, 2) := by decide +kernel
theorem dX4_add_51 : decode cX4_add 51 = .ok (.if_icmp .lt 13, 3) := by decide +kernel
theorem dX4_add_54 : decode cX4_add 54 = .ok (.new 60, 3) := by decide +kernel
theorem dX4_add_57 : decode cX4_add 57 = .ok (.dup, 1) := by decide +kernel
theorem dX4_add_58 : decode cX4_add 58 = .ok (.ldc 103, 2) := by decide +kernel
theorem dX4_add_60 : decode cX4_add 60 = .ok (.invokespecial 64, 3) := by decide +kernel
theorem dX4_add_63 : decode cX4_add 63 = .ok (.athrow, 1) := by decide +kernel
theorem dX4_add_64 : decode cX4_add 64 = .ok (.aload 4, 2) := by decide +kernel
theorem dX4_add_66 : decode cX4_add 66 = .ok (.new 105, 3) := by decide +kernel
theorem dX4_add_69 : decode cX4_add 69 = .ok (.dup, 1) := by decide +kernel
theorem dX4_add_70 : decode cX4_add 70 = .ok (.aload 5, 2) := by decide +kernel
theorem dX4_add_72 : decode cX4_add 72 = .ok (.iload_n 3, 1) := by decide +kernel
theorem dX4_add_73 : decode cX4_add 73 = .ok (.invokespecial 107, 3) := by decide +kernel
theorem dX4_add_76 : decode cX4_add 76 = .ok (.invokevirtual 110, 3) := by decide +kernel
theorem dX4_add_79 : decode cX4_add 79 = .ok (.ireturn, 1) := by decide +kernel
set_option maxRecDepth 20000 in
theorem ggX4_pay_X4_existingSale : GoodIn wsX4_pay wsX4_existingSale := goodIn_ca (goodIn_r _ [11, 12, 13, 14, 15, 16, 10, 17, 18, 54, 55, 56, 57, 58, 59] (by decide +kernel) (by decide +kernel)) (goodIn_sub (fun _ h => List.mem_cons_of_mem _ (List.mem_append_right _ h)) (by decide +kernel))
set_option maxRecDepth 20000 in
theorem gX4_pay_X4_existingSale : GoodIn wsX4_pay (wsV RX4 87 RX4 yX4_existingSale wsX4_existingSale) := goodIn_app (goodIn_of _ (by decide +kernel)) ggX4_pay_X4_existingSale
set_option maxRecDepth 20000 in
theorem ggX4_pay_X3_settle : GoodIn wsX4_pay wsX3_settle := goodIn_r _ [23, 24, 25, 26, 27, 28, 29, 30, 31, 32, 22, 33, 34, 35, 36, 37, 38, 39, 40, 10, 41, 42, 43, 44, 45, 46, 47, 48, 49, 50, 51, 52, 53, 60, 61, 62, 63] (by decide +kernel) (by decide +kernel)
set_option maxRecDepth 20000 in
theorem gX4_pay_X3_settle : GoodIn wsX4_pay (wsV RX4 116 RX3 yX3_settle wsX3_settle) := goodIn_app (goodIn_of _ (by decide +kernel)) ggX4_pay_X3_settle
theorem dX4_pay_0 : decode cX4_pay 0 = .ok (.aload_n 0, 1) := by decide +kernel
theorem dX4_pay_1 : decode cX4_pay 1 = .ok (.iload_n 1, 1) := by decide +kernel
theorem dX4_pay_2 : decode cX4_pay 2 = .ok (.invokevirtual 87, 3) := by decide +kernel
theorem dX4_pay_5 : decode cX4_pay 5 = .ok (.astore_n 2, 1) := by decide +kernel
theorem dX4_pay_6 : decode cX4_pay 6 = .ok (.aload_n 2, 1) := by decide +kernel
theorem dX4_pay_7 : decode cX4_pay 7 = .ok (.getfield 96, 3) := by decide +kernel
theorem dX4_pay_10 : decode cX4_pay 10 = .ok (.ifCond .ne 10, 3) := by decide +kernel
theorem dX4_pay_13 : decode cX4_pay 13 = .ok (.aload_n 2, 1) := by decide +kernel
theorem dX4_pay_14 : decode cX4_pay 14 = .ok (.getfield 100, 3) := by decide +kernel
theorem dX4_pay_17 : decode cX4_pay 17 = .ok (.ifCond .ne 13, 3) := by decide +kernel
theorem dX4_pay_20 : decode cX4_pay 20 = .ok (.new 60, 3) := by decide +kernel
theorem dX4_pay_23 : decode cX4_pay 23 = .ok (.dup, 1) := by decide +kernel
theorem dX4_pay_24 : decode cX4_pay 24 = .ok (.ldc 114, 2) := by decide +kernel
theorem dX4_pay_26 : decode cX4_pay 26 = .ok (.invokespecial 64, 3) := by decide +kernel
theorem dX4_pay_29 : decode cX4_pay 29 = .ok (.athrow, 1) := by decide +kernel
theorem dX4_pay_30 : decode cX4_pay 30 = .ok (.aload_n 2, 1) := by decide +kernel
theorem dX4_pay_31 : decode cX4_pay 31 = .ok (.aload_n 0, 1) := by decide +kernel
theorem dX4_pay_32 : decode cX4_pay 32 = .ok (.getfield 57, 3) := by decide +kernel
theorem dX4_pay_35 : decode cX4_pay 35 = .ok (.invokevirtual 116, 3) := by decide +kernel
theorem dX4_pay_38 : decode cX4_pay 38 = .ok (.aload_n 2, 1) := by decide +kernel
theorem dX4_pay_39 : decode cX4_pay 39 = .ok (.getfield 120, 3) := by decide +kernel
theorem dX4_pay_42 : decode cX4_pay 42 = .ok (.ireturn, 1) := by decide +kernel
theorem dX4_sales_0 : decode cX4_sales 0 = .ok (.aload_n 0, 1) := by decide +kernel
theorem dX4_sales_1 : decode cX4_sales 1 = .ok (.getfield 77, 3) := by decide +kernel
theorem dX4_sales_4 : decode cX4_sales 4 = .ok (.ireturn, 1) := by decide +kernel
set_option maxRecDepth 20000 in
theorem ggX4_paid_X4_existingSale : GoodIn wsX4_paid wsX4_existingSale := goodIn_ca (goodIn_r _ [6, 7, 8, 9, 10, 11, 5, 12, 13, 23, 24, 25, 26, 27, 28] (by decide +kernel) (by decide +kernel)) (goodIn_sub (fun _ h => List.mem_cons_of_mem _ (List.mem_append_right _ h)) (by decide +kernel))
set_option maxRecDepth 20000 in
theorem gX4_paid_X4_existingSale : GoodIn wsX4_paid (wsV RX4 87 RX4 yX4_existingSale wsX4_existingSale) := goodIn_app (goodIn_of _ (by decide +kernel)) ggX4_paid_X4_existingSale
theorem dX4_paid_0 : decode cX4_paid 0 = .ok (.aload_n 0, 1) := by decide +kernel
theorem dX4_paid_1 : decode cX4_paid 1 = .ok (.iload_n 1, 1) := by decide +kernel
theorem dX4_paid_2 : decode cX4_paid 2 = .ok (.invokevirtual 87, 3) := by decide +kernel
theorem dX4_paid_5 : decode cX4_paid 5 = .ok (.getfield 120, 3) := by decide +kernel
theorem dX4_paid_8 : decode cX4_paid 8 = .ok (.ireturn, 1) := by decide +kernel
set_option maxRecDepth 20000 in
theorem ggX4_kept_X4_existingLine : GoodIn wsX4_kept wsX4_existingLine := goodIn_ca (goodIn_r _ [6, 7, 8, 9, 10, 11, 5, 12, 13, 14, 15, 16, 17, 18, 19, 20, 21, 22, 23, 28, 29, 30, 31, 32, 33, 34, 35, 36, 37, 38, 39, 40, 41, 42] (by decide +kernel) (by decide +kernel)) (goodIn_sub (fun _ h => List.mem_cons_of_mem _ (List.mem_append_right _ h)) (by decide +kernel))
set_option maxRecDepth 20000 in
theorem gX4_kept_X4_existingLine : GoodIn wsX4_kept (wsV RX4 123 RX4 yX4_existingLine wsX4_existingLine) := goodIn_app (goodIn_of _ (by decide +kernel)) ggX4_kept_X4_existingLine
theorem dX4_kept_0 : decode cX4_kept 0 = .ok (.aload_n 0, 1) := by decide +kernel
theorem dX4_kept_1 : decode cX4_kept 1 = .ok (.iload_n 1, 1) := by decide +kernel
theorem dX4_kept_2 : decode cX4_kept 2 = .ok (.iload_n 2, 1) := by decide +kernel
theorem dX4_kept_3 : decode cX4_kept 3 = .ok (.invokevirtual 123, 3) := by decide +kernel
theorem dX4_kept_6 : decode cX4_kept 6 = .ok (.getfield 127, 3) := by decide +kernel
theorem dX4_kept_9 : decode cX4_kept 9 = .ok (.ireturn, 1) := by decide +kernel
set_option maxRecDepth 20000 in
theorem ggX4_keptValue_X4_existingSale : GoodIn wsX4_keptValue wsX4_existingSale := goodIn_ca (goodIn_r _ [5, 6, 7, 8, 9, 10, 4, 11, 12, 32, 33, 34, 35, 36, 37] (by decide +kernel) (by decide +kernel)) (goodIn_sub (fun _ h => List.mem_cons_of_mem _ (List.mem_append_right _ h)) (by decide +kernel))
set_option maxRecDepth 20000 in
theorem gX4_keptValue_X4_existingSale : GoodIn wsX4_keptValue (wsV RX4 87 RX4 yX4_existingSale wsX4_existingSale) := goodIn_app (goodIn_of _ (by decide +kernel)) ggX4_keptValue_X4_existingSale
set_option maxRecDepth 20000 in
theorem ggX4_keptValue_X3_keptGoods : GoodIn wsX4_keptValue wsX3_keptGoods := goodIn_r _ [17, 18, 19, 20, 21, 22, 23, 24, 25, 38, 39, 40, 41, 42, 43, 44, 45, 46, 47, 48, 49, 50] (by decide +kernel) (by decide +kernel)
set_option maxRecDepth 20000 in
theorem gX4_keptValue_X3_keptGoods : GoodIn wsX4_keptValue (wsV RX4 130 RX3 yX3_keptGoods wsX3_keptGoods) := goodIn_app (goodIn_of _ (by decide +kernel)) ggX4_keptValue_X3_keptGoods
set_option maxRecDepth 20000 in
theorem ggX4_keptValue_X4_netOf : GoodIn wsX4_keptValue wsX4_netOf := goodIn_r _ [28, 29, 30, 4, 31] (by decide +kernel) (by decide +kernel)
set_option maxRecDepth 20000 in
theorem gX4_keptValue_X4_netOf : GoodIn wsX4_keptValue (va_wsS RX4 134 yX4_netOf wsX4_netOf) := goodIn_app (goodIn_of _ (by decide +kernel)) ggX4_keptValue_X4_netOf
theorem dX4_keptValue_0 : decode cX4_keptValue 0 = .ok (.aload_n 0, 1) := by decide +kernel
theorem dX4_keptValue_1 : decode cX4_keptValue 1 = .ok (.iload_n 1, 1) := by decide +kernel
theorem dX4_keptValue_2 : decode cX4_keptValue 2 = .ok (.invokevirtual 87, 3) := by decide +kernel
theorem dX4_keptValue_5 : decode cX4_keptValue 5 = .ok (.invokevirtual 130, 3) := by decide +kernel
theorem dX4_keptValue_8 : decode cX4_keptValue 8 = .ok (.invokestatic 134, 3) := by decide +kernel
theorem dX4_keptValue_11 : decode cX4_keptValue 11 = .ok (.ireturn, 1) := by decide +kernel
set_option maxRecDepth 20000 in
theorem ggX4_lineValue_X4_existingSale : GoodIn wsX4_lineValue wsX4_existingSale := goodIn_ca (goodIn_r _ [7, 1, 2, 8, 9, 10, 6, 11, 12, 53, 54, 55, 56, 57, 58] (by decide +kernel) (by decide +kernel)) (goodIn_sub (fun _ h => List.mem_cons_of_mem _ (List.mem_append_right _ h)) (by decide +kernel))
set_option maxRecDepth 20000 in
theorem gX4_lineValue_X4_existingSale : GoodIn wsX4_lineValue (wsV RX4 87 RX4 yX4_existingSale wsX4_existingSale) := goodIn_app (goodIn_of _ (by decide +kernel)) ggX4_lineValue_X4_existingSale
set_option maxRecDepth 20000 in
theorem ggX4_lineValue_X3_lineAt : GoodIn wsX4_lineValue wsX3_lineAt := goodIn_r _ [17, 18, 59, 60, 61, 62, 63, 64, 65, 66, 67] (by decide +kernel) (by decide +kernel)
set_option maxRecDepth 20000 in
theorem gX4_lineValue_X3_lineAt : GoodIn wsX4_lineValue (wsV RX4 138 RX3 yX3_lineAt wsX3_lineAt) := goodIn_app (goodIn_of _ (by decide +kernel)) ggX4_lineValue_X3_lineAt
set_option maxRecDepth 20000 in
theorem ggX4_lineValue_X3_shareOf : GoodIn wsX4_lineValue wsX3_shareOf := goodIn_r _ [22, 18, 23, 24, 25, 16, 26, 27, 28, 29, 30, 31, 32, 33, 34, 6, 35, 36, 37, 38, 39, 40, 41, 42, 43, 14, 15, 17, 44, 45, 46, 47, 48, 49, 50, 51, 52, 59, 60, 61, 62, 63, 64, 65, 66, 67, 68, 69, 70, 71] (by decide +kernel) (by decide +kernel)
set_option maxRecDepth 20000 in
theorem gX4_lineValue_X3_shareOf : GoodIn wsX4_lineValue (wsV RX4 147 RX3 yX3_shareOf wsX3_shareOf) := goodIn_app (goodIn_of _ (by decide +kernel)) ggX4_lineValue_X3_shareOf
theorem dX4_lineValue_0 : decode cX4_lineValue 0 = .ok (.aload_n 0, 1) := by decide +kernel
theorem dX4_lineValue_1 : decode cX4_lineValue 1 = .ok (.iload_n 1, 1) := by decide +kernel
theorem dX4_lineValue_2 : decode cX4_lineValue 2 = .ok (.invokevirtual 87, 3) := by decide +kernel
theorem dX4_lineValue_5 : decode cX4_lineValue 5 = .ok (.astore_n 3, 1) := by decide +kernel
theorem dX4_lineValue_6 : decode cX4_lineValue 6 = .ok (.aload_n 3, 1) := by decide +kernel
theorem dX4_lineValue_7 : decode cX4_lineValue 7 = .ok (.iload_n 2, 1) := by decide +kernel
theorem dX4_lineValue_8 : decode cX4_lineValue 8 = .ok (.invokevirtual 138, 3) := by decide +kernel
theorem dX4_lineValue_11 : decode cX4_lineValue 11 = .ok (.ifnonnull 13, 3) := by decide +kernel
theorem dX4_lineValue_14 : decode cX4_lineValue 14 = .ok (.new 142, 3) := by decide +kernel
theorem dX4_lineValue_17 : decode cX4_lineValue 17 = .ok (.dup, 1) := by decide +kernel
theorem dX4_lineValue_18 : decode cX4_lineValue 18 = .ok (.ldc 144, 2) := by decide +kernel
theorem dX4_lineValue_20 : decode cX4_lineValue 20 = .ok (.invokespecial 146, 3) := by decide +kernel
theorem dX4_lineValue_23 : decode cX4_lineValue 23 = .ok (.athrow, 1) := by decide +kernel
theorem dX4_lineValue_24 : decode cX4_lineValue 24 = .ok (.aload_n 3, 1) := by decide +kernel
theorem dX4_lineValue_25 : decode cX4_lineValue 25 = .ok (.iload_n 2, 1) := by decide +kernel
theorem dX4_lineValue_26 : decode cX4_lineValue 26 = .ok (.invokevirtual 147, 3) := by decide +kernel
theorem dX4_lineValue_29 : decode cX4_lineValue 29 = .ok (.ireturn, 1) := by decide +kernel
set_option maxRecDepth 20000 in
theorem ggX4_giveBack_X4_existingLine : GoodIn wsX4_giveBack wsX4_existingLine := goodIn_ca (goodIn_r _ [11, 12, 13, 14, 15, 16, 10, 17, 18, 19, 20, 21, 22, 23, 24, 25, 26, 27, 28, 145, 146, 147, 148, 149, 150, 136, 137, 138, 139, 140, 141, 142, 143, 144] (by decide +kernel) (by decide +kernel)) (goodIn_sub (fun _ h => List.mem_cons_of_mem _ (List.mem_append_right _ h)) (by decide +kernel))
set_option maxRecDepth 20000 in
theorem gX4_giveBack_X4_existingLine : GoodIn wsX4_giveBack (wsV RX4 123 RX4 yX4_existingLine wsX4_existingLine) := goodIn_app (goodIn_of _ (by decide +kernel)) ggX4_giveBack_X4_existingLine
set_option maxRecDepth 20000 in
theorem ggX4_giveBack_X4_existingSale : GoodIn wsX4_giveBack wsX4_existingSale := goodIn_ca (goodIn_r _ [17, 12, 13, 18, 19, 20, 10, 21, 22, 145, 146, 147, 148, 149, 150] (by decide +kernel) (by decide +kernel)) (goodIn_sub (fun _ h => List.mem_cons_of_mem _ (List.mem_append_right _ h)) (by decide +kernel))
set_option maxRecDepth 20000 in
theorem gX4_giveBack_X4_existingSale : GoodIn wsX4_giveBack (wsV RX4 87 RX4 yX4_existingSale wsX4_existingSale) := goodIn_app (goodIn_of _ (by decide +kernel)) ggX4_giveBack_X4_existingSale
set_option maxRecDepth 20000 in
theorem ggX4_giveBack_X4_isUnits : GoodIn wsX4_giveBack wsX4_isUnits := goodIn_r _ [31] (by decide +kernel) (by decide +kernel)
set_option maxRecDepth 20000 in
theorem gX4_giveBack_X4_isUnits : GoodIn wsX4_giveBack (va_wsS RX4 91 yX4_isUnits wsX4_isUnits) := goodIn_app (goodIn_of _ (by decide +kernel)) ggX4_giveBack_X4_isUnits
set_option maxRecDepth 20000 in
theorem ggX4_giveBack_X4_isCondition : GoodIn wsX4_giveBack wsX4_isCondition := goodIn_r _ [34] (by decide +kernel) (by decide +kernel)
set_option maxRecDepth 20000 in
theorem gX4_giveBack_X4_isCondition : GoodIn wsX4_giveBack (va_wsS RX4 150 yX4_isCondition wsX4_isCondition) := goodIn_app (goodIn_of _ (by decide +kernel)) ggX4_giveBack_X4_isCondition
set_option maxRecDepth 20000 in
theorem ggX4_giveBack_X4_canComeBack : GoodIn wsX4_giveBack wsX4_canComeBack := goodIn_r _ [38, 39, 40, 41, 42, 43, 10, 44, 45, 46, 136, 137, 138, 139, 140, 141, 142, 143, 144, 151, 152, 153, 154, 145, 146, 147, 148, 149, 150] (by decide +kernel) (by decide +kernel)
set_option maxRecDepth 20000 in
theorem gX4_giveBack_X4_canComeBack : GoodIn wsX4_giveBack (wsV RX4 155 RX4 yX4_canComeBack wsX4_canComeBack) := goodIn_app (goodIn_of _ (by decide +kernel)) ggX4_giveBack_X4_canComeBack
set_option maxRecDepth 20000 in
theorem ggX4_giveBack_X4_isBlocked : GoodIn wsX4_giveBack wsX4_isBlocked := goodIn_r _ [50, 45, 51, 52, 53, 54, 55, 56, 57, 58, 59, 145, 146, 147, 148, 149, 150, 155, 156, 157, 158] (by decide +kernel) (by decide +kernel)
set_option maxRecDepth 20000 in
theorem gX4_giveBack_X4_isBlocked : GoodIn wsX4_giveBack (wsV RX4 163 RX4 yX4_isBlocked wsX4_isBlocked) := goodIn_app (goodIn_of _ (by decide +kernel)) ggX4_giveBack_X4_isBlocked
set_option maxRecDepth 20000 in
theorem ggX4_giveBack_X4_takeBack : GoodIn wsX4_giveBack wsX4_takeBack := goodIn_r _ [63, 64, 40, 65, 5, 45, 66, 67, 68, 26, 69, 70, 71, 72, 73, 74, 75, 76, 77, 78, 79, 28, 80, 81, 82, 83, 84, 85, 86, 87, 10, 88, 89, 90, 91, 92, 93, 94, 95, 96, 97, 98, 99, 100, 101, 102, 103, 104, 105, 106, 107, 108, 109, 110, 111, 112, 113, 114, 115, 116, 117, 118, 119, 120, 121, 122, 123, 124, 125, 126, 127, 54, 128, 56, 57, 58, 59, 129, 130, 131, 132, 136, 137, 138, 139, 140, 141, 142, 143, 144, 151, 152, 153, 154, 145, 146, 147, 148, 149, 150, 159, 160, 161, 162, 155, 156, 157, 158] (by decide +kernel) (by decide +kernel)
set_option maxRecDepth 20000 in
theorem gX4_giveBack_X4_takeBack : GoodIn wsX4_giveBack (wsV RX4 169 RX4 yX4_takeBack wsX4_takeBack) := goodIn_app (goodIn_of _ (by decide +kernel)) ggX4_giveBack_X4_takeBack
set_option maxRecDepth 20000 in
theorem ggX4_giveBack_X4_ageOf : GoodIn wsX4_giveBack wsX4_ageOf := goodIn_r _ [44, 45, 46, 145, 146, 147, 148, 149, 150, 136, 137, 138, 139, 140, 141, 142, 143, 144] (by decide +kernel) (by decide +kernel)
set_option maxRecDepth 20000 in
theorem gX4_giveBack_X4_ageOf : GoodIn wsX4_giveBack (wsV RX4 173 RX4 yX4_ageOf wsX4_ageOf) := goodIn_app (goodIn_of _ (by decide +kernel)) ggX4_giveBack_X4_ageOf
set_option maxRecDepth 20000 in
theorem ggX4_giveBack_X4_feeOn : GoodIn wsX4_giveBack wsX4_feeOn := goodIn_r _ [135] (by decide +kernel) (by decide +kernel)
set_option maxRecDepth 20000 in
theorem gX4_giveBack_X4_feeOn : GoodIn wsX4_giveBack (va_wsS RX4 176 yX4_feeOn wsX4_feeOn) := goodIn_app (goodIn_of _ (by decide +kernel)) ggX4_giveBack_X4_feeOn
theorem dX4_giveBack_0 : decode cX4_giveBack 0 = .ok (.aload_n 0, 1) := by decide +kernel
theorem dX4_giveBack_1 : decode cX4_giveBack 1 = .ok (.iload_n 1, 1) := by decide +kernel
theorem dX4_giveBack_2 : decode cX4_giveBack 2 = .ok (.iload_n 2, 1) := by decide +kernel
theorem dX4_giveBack_3 : decode cX4_giveBack 3 = .ok (.invokevirtual 123, 3) := by decide +kernel
theorem dX4_giveBack_6 : decode cX4_giveBack 6 = .ok (.astore 5, 2) := by decide +kernel
theorem dX4_giveBack_8 : decode cX4_giveBack 8 = .ok (.aload_n 0, 1) := by decide +kernel
theorem dX4_giveBack_9 : decode cX4_giveBack 9 = .ok (.iload_n 1, 1) := by decide +kernel
theorem dX4_giveBack_10 : decode cX4_giveBack 10 = .ok (.invokevirtual 87, 3) := by decide +kernel
theorem dX4_giveBack_13 : decode cX4_giveBack 13 = .ok (.astore 6, 2) := by decide +kernel
theorem dX4_giveBack_15 : decode cX4_giveBack 15 = .ok (.iload_n 3, 1) := by decide +kernel
theorem dX4_giveBack_16 : decode cX4_giveBack 16 = .ok (.invokestatic 91, 3) := by decide +kernel
theorem dX4_giveBack_19 : decode cX4_giveBack 19 = .ok (.ifCond .eq 11, 3) := by decide +kernel
theorem dX4_giveBack_22 : decode cX4_giveBack 22 = .ok (.iload 4, 2) := by decide +kernel
theorem dX4_giveBack_24 : decode cX4_giveBack 24 = .ok (.invokestatic 150, 3) := by decide +kernel
theorem dX4_giveBack_27 : decode cX4_giveBack 27 = .ok (.ifCond .ne 13, 3) := by decide +kernel
theorem dX4_giveBack_30 : decode cX4_giveBack 30 = .ok (.new 38, 3) := by decide +kernel
theorem dX4_giveBack_33 : decode cX4_giveBack 33 = .ok (.dup, 1) := by decide +kernel
theorem dX4_giveBack_34 : decode cX4_giveBack 34 = .ok (.ldc 153, 2) := by decide +kernel
theorem dX4_giveBack_36 : decode cX4_giveBack 36 = .ok (.invokespecial 42, 3) := by decide +kernel
theorem dX4_giveBack_39 : decode cX4_giveBack 39 = .ok (.athrow, 1) := by decide +kernel
theorem dX4_giveBack_40 : decode cX4_giveBack 40 = .ok (.aload_n 0, 1) := by decide +kernel
theorem dX4_giveBack_41 : decode cX4_giveBack 41 = .ok (.aload 6, 2) := by decide +kernel
theorem dX4_giveBack_43 : decode cX4_giveBack 43 = .ok (.aload 5, 2) := by decide +kernel
theorem dX4_giveBack_45 : decode cX4_giveBack 45 = .ok (.iload_n 3, 1) := by decide +kernel
theorem dX4_giveBack_46 : decode cX4_giveBack 46 = .ok (.invokevirtual 155, 3) := by decide +kernel
theorem dX4_giveBack_49 : decode cX4_giveBack 49 = .ok (.ifCond .eq 15, 3) := by decide +kernel
theorem dX4_giveBack_52 : decode cX4_giveBack 52 = .ok (.aload_n 0, 1) := by decide +kernel
theorem dX4_giveBack_53 : decode cX4_giveBack 53 = .ok (.aload 6, 2) := by decide +kernel
theorem dX4_giveBack_55 : decode cX4_giveBack 55 = .ok (.getfield 159, 3) := by decide +kernel
theorem dX4_giveBack_58 : decode cX4_giveBack 58 = .ok (.invokevirtual 163, 3) := by decide +kernel
theorem dX4_giveBack_61 : decode cX4_giveBack 61 = .ok (.ifCond .eq 13, 3) := by decide +kernel
theorem dX4_giveBack_64 : decode cX4_giveBack 64 = .ok (.new 60, 3) := by decide +kernel
theorem dX4_giveBack_67 : decode cX4_giveBack 67 = .ok (.dup, 1) := by decide +kernel
theorem dX4_giveBack_68 : decode cX4_giveBack 68 = .ok (.ldc 167, 2) := by decide +kernel
theorem dX4_giveBack_70 : decode cX4_giveBack 70 = .ok (.invokespecial 64, 3) := by decide +kernel
theorem dX4_giveBack_73 : decode cX4_giveBack 73 = .ok (.athrow, 1) := by decide +kernel
theorem dX4_giveBack_74 : decode cX4_giveBack 74 = .ok (.aload_n 0, 1) := by decide +kernel
theorem dX4_giveBack_75 : decode cX4_giveBack 75 = .ok (.aload 6, 2) := by decide +kernel
theorem dX4_giveBack_77 : decode cX4_giveBack 77 = .ok (.aload 5, 2) := by decide +kernel
theorem dX4_giveBack_79 : decode cX4_giveBack 79 = .ok (.iload_n 3, 1) := by decide +kernel
theorem dX4_giveBack_80 : decode cX4_giveBack 80 = .ok (.iload 4, 2) := by decide +kernel
theorem dX4_giveBack_82 : decode cX4_giveBack 82 = .ok (.iconst 0, 1) := by decide +kernel
theorem dX4_giveBack_83 : decode cX4_giveBack 83 = .ok (.invokevirtual 169, 3) := by decide +kernel
theorem dX4_giveBack_86 : decode cX4_giveBack 86 = .ok (.istore 7, 2) := by decide +kernel
theorem dX4_giveBack_88 : decode cX4_giveBack 88 = .ok (.iload 7, 2) := by decide +kernel
theorem dX4_giveBack_90 : decode cX4_giveBack 90 = .ok (.aload_n 0, 1) := by decide +kernel
theorem dX4_giveBack_91 : decode cX4_giveBack 91 = .ok (.aload 6, 2) := by decide +kernel
theorem dX4_giveBack_93 : decode cX4_giveBack 93 = .ok (.invokevirtual 173, 3) := by decide +kernel
theorem dX4_giveBack_96 : decode cX4_giveBack 96 = .ok (.iload 4, 2) := by decide +kernel
theorem dX4_giveBack_98 : decode cX4_giveBack 98 = .ok (.invokestatic 176, 3) := by decide +kernel
theorem dX4_giveBack_101 : decode cX4_giveBack 101 = .ok (.istore 8, 2) := by decide +kernel
theorem dX4_giveBack_103 : decode cX4_giveBack 103 = .ok (.aload_n 0, 1) := by decide +kernel
theorem dX4_giveBack_104 : decode cX4_giveBack 104 = .ok (.dup, 1) := by decide +kernel
theorem dX4_giveBack_105 : decode cX4_giveBack 105 = .ok (.getfield 180, 3) := by decide +kernel
theorem dX4_giveBack_108 : decode cX4_giveBack 108 = .ok (.iload 8, 2) := by decide +kernel
theorem dX4_giveBack_110 : decode cX4_giveBack 110 = .ok (.iadd, 1) := by decide +kernel
theorem dX4_giveBack_111 : decode cX4_giveBack 111 = .ok (.putfield 180, 3) := by decide +kernel
theorem dX4_giveBack_114 : decode cX4_giveBack 114 = .ok (.iload 7, 2) := by decide +kernel
theorem dX4_giveBack_116 : decode cX4_giveBack 116 = .ok (.iload 8, 2) := by decide +kernel
theorem dX4_giveBack_118 : decode cX4_giveBack 118 = .ok (.isub, 1) := by decide +kernel
theorem dX4_giveBack_119 : decode cX4_giveBack 119 = .ok (.ireturn, 1) := by decide +kernel
set_option maxRecDepth 20000 in
theorem ggX4_exchange_X4_existingLine : GoodIn wsX4_exchange wsX4_existingLine := goodIn_ca (goodIn_r _ [20, 21, 22, 23, 24, 25, 19, 26, 27, 28, 29, 30, 31, 32, 33, 34, 9, 35, 36, 195, 196, 197, 198, 199, 200, 182, 183, 184, 185, 186, 187, 188, 189, 190] (by decide +kernel) (by decide +kernel)) (goodIn_sub (fun _ h => List.mem_cons_of_mem _ (List.mem_append_right _ h)) (by decide +kernel))
set_option maxRecDepth 20000 in
theorem gX4_exchange_X4_existingLine : GoodIn wsX4_exchange (wsV RX4 123 RX4 yX4_existingLine wsX4_existingLine) := goodIn_app (goodIn_of _ (by decide +kernel)) ggX4_exchange_X4_existingLine
set_option maxRecDepth 20000 in
theorem ggX4_exchange_X4_existingSale : GoodIn wsX4_exchange wsX4_existingSale := goodIn_ca (goodIn_r _ [26, 21, 22, 27, 28, 29, 19, 30, 31, 195, 196, 197, 198, 199, 200] (by decide +kernel) (by decide +kernel)) (goodIn_sub (fun _ h => List.mem_cons_of_mem _ (List.mem_append_right _ h)) (by decide +kernel))
set_option maxRecDepth 20000 in
theorem gX4_exchange_X4_existingSale : GoodIn wsX4_exchange (wsV RX4 87 RX4 yX4_existingSale wsX4_existingSale) := goodIn_app (goodIn_of _ (by decide +kernel)) ggX4_exchange_X4_existingSale
set_option maxRecDepth 20000 in
theorem ggX4_exchange_X4_productAt : GoodIn wsX4_exchange wsX4_productAt := goodIn_r _ [40, 41, 195, 196, 197, 198, 199, 200] (by decide +kernel) (by decide +kernel)
set_option maxRecDepth 20000 in
theorem gX4_exchange_X4_productAt : GoodIn wsX4_exchange (wsV RX4 29 RX4 yX4_productAt wsX4_productAt) := goodIn_app (goodIn_of _ (by decide +kernel)) ggX4_exchange_X4_productAt
set_option maxRecDepth 20000 in
theorem ggX4_exchange_X4_isUnits : GoodIn wsX4_exchange wsX4_isUnits := goodIn_r _ [44] (by decide +kernel) (by decide +kernel)
set_option maxRecDepth 20000 in
theorem gX4_exchange_X4_isUnits : GoodIn wsX4_exchange (va_wsS RX4 91 yX4_isUnits wsX4_isUnits) := goodIn_app (goodIn_of _ (by decide +kernel)) ggX4_exchange_X4_isUnits
set_option maxRecDepth 20000 in
theorem ggX4_exchange_X4_isCondition : GoodIn wsX4_exchange wsX4_isCondition := goodIn_r _ [47] (by decide +kernel) (by decide +kernel)
set_option maxRecDepth 20000 in
theorem gX4_exchange_X4_isCondition : GoodIn wsX4_exchange (va_wsS RX4 150 yX4_isCondition wsX4_isCondition) := goodIn_app (goodIn_of _ (by decide +kernel)) ggX4_exchange_X4_isCondition
set_option maxRecDepth 20000 in
theorem ggX4_exchange_X4_canComeBack : GoodIn wsX4_exchange wsX4_canComeBack := goodIn_r _ [51, 52, 53, 54, 55, 56, 19, 57, 58, 14, 182, 183, 184, 185, 186, 187, 188, 189, 190, 191, 192, 193, 194, 195, 196, 197, 198, 199, 200] (by decide +kernel) (by decide +kernel)
set_option maxRecDepth 20000 in
theorem gX4_exchange_X4_canComeBack : GoodIn wsX4_exchange (wsV RX4 155 RX4 yX4_canComeBack wsX4_canComeBack) := goodIn_app (goodIn_of _ (by decide +kernel)) ggX4_exchange_X4_canComeBack
set_option maxRecDepth 20000 in
theorem ggX4_exchange_X4_isBlocked : GoodIn wsX4_exchange wsX4_isBlocked := goodIn_r _ [62, 58, 63, 64, 65, 66, 67, 68, 69, 70, 71, 195, 196, 197, 198, 199, 200, 201, 202, 203, 204] (by decide +kernel) (by decide +kernel)
set_option maxRecDepth 20000 in
theorem gX4_exchange_X4_isBlocked : GoodIn wsX4_exchange (wsV RX4 163 RX4 yX4_isBlocked wsX4_isBlocked) := goodIn_app (goodIn_of _ (by decide +kernel)) ggX4_exchange_X4_isBlocked
set_option maxRecDepth 20000 in
theorem ggX4_exchange_X4_isRegisterFull : GoodIn wsX4_exchange wsX4_isRegisterFull := goodIn_r _ [75, 76, 31, 195, 196, 197, 198, 199, 200] (by decide +kernel) (by decide +kernel)
set_option maxRecDepth 20000 in
theorem gX4_exchange_X4_isRegisterFull : GoodIn wsX4_exchange (wsV RX4 71 RX4 yX4_isRegisterFull wsX4_isRegisterFull) := goodIn_app (goodIn_of _ (by decide +kernel)) ggX4_exchange_X4_isRegisterFull
set_option maxRecDepth 20000 in
theorem ggX4_exchange_X4_takeBack : GoodIn wsX4_exchange wsX4_takeBack := goodIn_r _ [80, 81, 53, 82, 5, 58, 83, 84, 85, 9, 86, 87, 88, 89, 90, 91, 92, 93, 94, 95, 96, 36, 97, 98, 99, 100, 13, 101, 102, 103, 19, 104, 105, 106, 107, 108, 109, 110, 111, 112, 113, 114, 115, 116, 117, 118, 119, 120, 121, 122, 123, 124, 125, 126, 127, 128, 129, 130, 131, 132, 133, 134, 135, 136, 137, 138, 139, 140, 141, 142, 143, 66, 144, 68, 69, 70, 71, 145, 146, 147, 148, 182, 183, 184, 185, 186, 187, 188, 189, 190, 191, 192, 193, 194, 195, 196, 197, 198, 199, 200, 205, 206, 207, 208, 201, 202, 203, 204] (by decide +kernel) (by decide +kernel)
set_option maxRecDepth 20000 in
theorem gX4_exchange_X4_takeBack : GoodIn wsX4_exchange (wsV RX4 169 RX4 yX4_takeBack wsX4_takeBack) := goodIn_app (goodIn_of _ (by decide +kernel)) ggX4_exchange_X4_takeBack
set_option maxRecDepth 20000 in
theorem ggX4_exchange_X3_init : GoodIn wsX4_exchange wsX3_init := goodIn_r _ [151, 152, 153, 154, 155, 36, 156, 157, 158, 182, 183, 184, 185, 186, 187, 188, 189, 190] (by decide +kernel) (by decide +kernel)
set_option maxRecDepth 20000 in
theorem gX4_exchange_X3_init : GoodIn wsX4_exchange (wsX3_init) := ggX4_exchange_X3_init
set_option maxRecDepth 20000 in
theorem ggX4_exchange_X1_init : GoodIn wsX4_exchange wsX1_init := goodIn_r _ [161, 162, 153, 154, 163, 164, 165, 102, 191, 192, 193, 194, 205, 206, 207, 208] (by decide +kernel) (by decide +kernel)
set_option maxRecDepth 20000 in
theorem gX4_exchange_X1_init : GoodIn wsX4_exchange (wsX1_init) := ggX4_exchange_X1_init
set_option maxRecDepth 20000 in
theorem ggX4_exchange_X3_append : GoodIn wsX4_exchange wsX3_append := goodIn_r _ [169, 170, 36, 182, 183, 184, 185, 186, 187, 188, 189, 190] (by decide +kernel) (by decide +kernel)
set_option maxRecDepth 20000 in
theorem gX4_exchange_X3_append : GoodIn wsX4_exchange (wsV RX4 110 RX3 yX3_append wsX3_append) := goodIn_app (goodIn_of _ (by decide +kernel)) ggX4_exchange_X3_append
set_option maxRecDepth 20000 in
theorem ggX4_exchange_X3_settle : GoodIn wsX4_exchange wsX3_settle := goodIn_r _ [174, 36, 175, 97, 176, 177, 87, 93, 94, 95, 9, 96, 98, 99, 100, 13, 101, 102, 103, 19, 104, 105, 106, 107, 182, 183, 184, 185, 186, 187, 188, 189, 190, 191, 192, 193, 194] (by decide +kernel) (by decide +kernel)
set_option maxRecDepth 20000 in
theorem gX4_exchange_X3_settle : GoodIn wsX4_exchange (wsV RX4 116 RX3 yX3_settle wsX3_settle) := goodIn_app (goodIn_of _ (by decide +kernel)) ggX4_exchange_X3_settle
set_option maxRecDepth 20000 in
theorem ggX4_exchange_X4_enter : GoodIn wsX4_exchange wsX4_enter := goodIn_r _ [181, 76, 31, 195, 196, 197, 198, 199, 200] (by decide +kernel) (by decide +kernel)
set_option maxRecDepth 20000 in
theorem gX4_exchange_X4_enter : GoodIn wsX4_exchange (wsV RX4 83 RX4 yX4_enter wsX4_enter) := goodIn_app (goodIn_of _ (by decide +kernel)) ggX4_exchange_X4_enter
theorem dX4_exchange_0 : decode cX4_exchange 0 = .ok (.aload_n 0, 1) := by decide +kernel
theorem dX4_exchange_1 : decode cX4_exchange 1 = .ok (.iload_n 1, 1) := by decide +kernel
theorem dX4_exchange_2 : decode cX4_exchange 2 = .ok (.iload_n 2, 1) := by decide +kernel
theorem dX4_exchange_3 : decode cX4_exchange 3 = .ok (.invokevirtual 123, 3) := by decide +kernel
theorem dX4_exchange_6 : decode cX4_exchange 6 = .ok (.astore 6, 2) := by decide +kernel
theorem dX4_exchange_8 : decode cX4_exchange 8 = .ok (.aload_n 0, 1) := by decide +kernel
theorem dX4_exchange_9 : decode cX4_exchange 9 = .ok (.iload_n 1, 1) := by decide +kernel
theorem dX4_exchange_10 : decode cX4_exchange 10 = .ok (.invokevirtual 87, 3) := by decide +kernel
theorem dX4_exchange_13 : decode cX4_exchange 13 = .ok (.astore 7, 2) := by decide +kernel
theorem dX4_exchange_15 : decode cX4_exchange 15 = .ok (.aload_n 0, 1) := by decide +kernel
theorem dX4_exchange_16 : decode cX4_exchange 16 = .ok (.iload 5, 2) := by decide +kernel
theorem dX4_exchange_18 : decode cX4_exchange 18 = .ok (.invokevirtual 29, 3) := by decide +kernel
theorem dX4_exchange_21 : decode cX4_exchange 21 = .ok (.astore 8, 2) := by decide +kernel
theorem dX4_exchange_23 : decode cX4_exchange 23 = .ok (.aload 8, 2) := by decide +kernel
theorem dX4_exchange_25 : decode cX4_exchange 25 = .ok (.ifnull 18, 3) := by decide +kernel
theorem dX4_exchange_28 : decode cX4_exchange 28 = .ok (.iload_n 3, 1) := by decide +kernel
theorem dX4_exchange_29 : decode cX4_exchange 29 = .ok (.invokestatic 91, 3) := by decide +kernel
theorem dX4_exchange_32 : decode cX4_exchange 32 = .ok (.ifCond .eq 11, 3) := by decide +kernel
theorem dX4_exchange_35 : decode cX4_exchange 35 = .ok (.iload 4, 2) := by decide +kernel
theorem dX4_exchange_37 : decode cX4_exchange 37 = .ok (.invokestatic 150, 3) := by decide +kernel
theorem dX4_exchange_40 : decode cX4_exchange 40 = .ok (.ifCond .ne 13, 3) := by decide +kernel
theorem dX4_exchange_43 : decode cX4_exchange 43 = .ok (.new 38, 3) := by decide +kernel
theorem dX4_exchange_46 : decode cX4_exchange 46 = .ok (.dup, 1) := by decide +kernel
theorem dX4_exchange_47 : decode cX4_exchange 47 = .ok (.ldc 183, 2) := by decide +kernel
theorem dX4_exchange_49 : decode cX4_exchange 49 = .ok (.invokespecial 42, 3) := by decide +kernel
theorem dX4_exchange_52 : decode cX4_exchange 52 = .ok (.athrow, 1) := by decide +kernel
theorem dX4_exchange_53 : decode cX4_exchange 53 = .ok (.aload_n 0, 1) := by decide +kernel
theorem dX4_exchange_54 : decode cX4_exchange 54 = .ok (.aload 7, 2) := by decide +kernel
theorem dX4_exchange_56 : decode cX4_exchange 56 = .ok (.aload 6, 2) := by decide +kernel
theorem dX4_exchange_58 : decode cX4_exchange 58 = .ok (.iload_n 3, 1) := by decide +kernel
theorem dX4_exchange_59 : decode cX4_exchange 59 = .ok (.invokevirtual 155, 3) := by decide +kernel
theorem dX4_exchange_62 : decode cX4_exchange 62 = .ok (.ifCond .eq 22, 3) := by decide +kernel
theorem dX4_exchange_65 : decode cX4_exchange 65 = .ok (.aload_n 0, 1) := by decide +kernel
theorem dX4_exchange_66 : decode cX4_exchange 66 = .ok (.aload 7, 2) := by decide +kernel
theorem dX4_exchange_68 : decode cX4_exchange 68 = .ok (.getfield 159, 3) := by decide +kernel
theorem dX4_exchange_71 : decode cX4_exchange 71 = .ok (.invokevirtual 163, 3) := by decide +kernel
theorem dX4_exchange_74 : decode cX4_exchange 74 = .ok (.ifCond .ne 10, 3) := by decide +kernel
theorem dX4_exchange_77 : decode cX4_exchange 77 = .ok (.aload_n 0, 1) := by decide +kernel
theorem dX4_exchange_78 : decode cX4_exchange 78 = .ok (.invokevirtual 71, 3) := by decide +kernel
theorem dX4_exchange_81 : decode cX4_exchange 81 = .ok (.ifCond .eq 13, 3) := by decide +kernel
theorem dX4_exchange_84 : decode cX4_exchange 84 = .ok (.new 60, 3) := by decide +kernel
theorem dX4_exchange_87 : decode cX4_exchange 87 = .ok (.dup, 1) := by decide +kernel
theorem dX4_exchange_88 : decode cX4_exchange 88 = .ok (.ldc 185, 2) := by decide +kernel
theorem dX4_exchange_90 : decode cX4_exchange 90 = .ok (.invokespecial 64, 3) := by decide +kernel
theorem dX4_exchange_93 : decode cX4_exchange 93 = .ok (.athrow, 1) := by decide +kernel
theorem dX4_exchange_94 : decode cX4_exchange 94 = .ok (.aload_n 0, 1) := by decide +kernel
theorem dX4_exchange_95 : decode cX4_exchange 95 = .ok (.aload 7, 2) := by decide +kernel
theorem dX4_exchange_97 : decode cX4_exchange 97 = .ok (.aload 6, 2) := by decide +kernel
theorem dX4_exchange_99 : decode cX4_exchange 99 = .ok (.iload_n 3, 1) := by decide +kernel
theorem dX4_exchange_100 : decode cX4_exchange 100 = .ok (.iload 4, 2) := by decide +kernel
theorem dX4_exchange_102 : decode cX4_exchange 102 = .ok (.aload 7, 2) := by decide +kernel
theorem dX4_exchange_104 : decode cX4_exchange 104 = .ok (.getfield 187, 3) := by decide +kernel
theorem dX4_exchange_107 : decode cX4_exchange 107 = .ok (.ifCond .le 7, 3) := by decide +kernel
theorem dX4_exchange_110 : decode cX4_exchange 110 = .ok (.iconst 1, 1) := by decide +kernel
theorem dX4_exchange_111 : decode cX4_exchange 111 = .ok (.goto 4, 3) := by decide +kernel
theorem dX4_exchange_114 : decode cX4_exchange 114 = .ok (.iconst 0, 1) := by decide +kernel
theorem dX4_exchange_115 : decode cX4_exchange 115 = .ok (.invokevirtual 169, 3) := by decide +kernel
theorem dX4_exchange_118 : decode cX4_exchange 118 = .ok (.istore 9, 2) := by decide +kernel
theorem dX4_exchange_120 : decode cX4_exchange 120 = .ok (.new 23, 3) := by decide +kernel
theorem dX4_exchange_123 : decode cX4_exchange 123 = .ok (.dup, 1) := by decide +kernel
theorem dX4_exchange_124 : decode cX4_exchange 124 = .ok (.aload 7, 2) := by decide +kernel
theorem dX4_exchange_126 : decode cX4_exchange 126 = .ok (.getfield 159, 3) := by decide +kernel
theorem dX4_exchange_129 : decode cX4_exchange 129 = .ok (.aload 7, 2) := by decide +kernel
theorem dX4_exchange_131 : decode cX4_exchange 131 = .ok (.getfield 190, 3) := by decide +kernel
theorem dX4_exchange_134 : decode cX4_exchange 134 = .ok (.aload 7, 2) := by decide +kernel
theorem dX4_exchange_136 : decode cX4_exchange 136 = .ok (.getfield 187, 3) := by decide +kernel
theorem dX4_exchange_139 : decode cX4_exchange 139 = .ok (.iconst 1, 1) := by decide +kernel
theorem dX4_exchange_140 : decode cX4_exchange 140 = .ok (.iadd, 1) := by decide +kernel
theorem dX4_exchange_141 : decode cX4_exchange 141 = .ok (.invokespecial 80, 3) := by decide +kernel
theorem dX4_exchange_144 : decode cX4_exchange 144 = .ok (.astore 10, 2) := by decide +kernel
theorem dX4_exchange_146 : decode cX4_exchange 146 = .ok (.aload 10, 2) := by decide +kernel
end
section
theorem dX4_exchange_148 : decode cX4_exchange 148 = .ok (.new 105, 3) := by decide +kernel
theorem dX4_exchange_151 : decode cX4_exchange 151 = .ok (.dup, 1) := by decide +kernel
theorem dX4_exchange_152 : decode cX4_exchange 152 = .ok (.aload 8, 2) := by decide +kernel
theorem dX4_exchange_154 : decode cX4_exchange 154 = .ok (.iload_n 3, 1) := by decide +kernel
theorem dX4_exchange_155 : decode cX4_exchange 155 = .ok (.invokespecial 107, 3) := by decide +kernel
theorem dX4_exchange_158 : decode cX4_exchange 158 = .ok (.invokevirtual 110, 3) := by decide +kernel
theorem dX4_exchange_161 : decode cX4_exchange 161 = .ok (.pop, 1) := by decide +kernel
theorem dX4_exchange_162 : decode cX4_exchange 162 = .ok (.aload 10, 2) := by decide +kernel
theorem dX4_exchange_164 : decode cX4_exchange 164 = .ok (.aload 7, 2) := by decide +kernel
theorem dX4_exchange_166 : decode cX4_exchange 166 = .ok (.getfield 193, 3) := by decide +kernel
theorem dX4_exchange_169 : decode cX4_exchange 169 = .ok (.invokevirtual 116, 3) := by decide +kernel
theorem dX4_exchange_172 : decode cX4_exchange 172 = .ok (.aload_n 0, 1) := by decide +kernel
theorem dX4_exchange_173 : decode cX4_exchange 173 = .ok (.aload 10, 2) := by decide +kernel
theorem dX4_exchange_175 : decode cX4_exchange 175 = .ok (.invokevirtual 83, 3) := by decide +kernel
theorem dX4_exchange_178 : decode cX4_exchange 178 = .ok (.pop, 1) := by decide +kernel
theorem dX4_exchange_179 : decode cX4_exchange 179 = .ok (.aload 10, 2) := by decide +kernel
theorem dX4_exchange_181 : decode cX4_exchange 181 = .ok (.getfield 120, 3) := by decide +kernel
theorem dX4_exchange_184 : decode cX4_exchange 184 = .ok (.iload 9, 2) := by decide +kernel
theorem dX4_exchange_186 : decode cX4_exchange 186 = .ok (.isub, 1) := by decide +kernel
theorem dX4_exchange_187 : decode cX4_exchange 187 = .ok (.ireturn, 1) := by decide +kernel
set_option maxRecDepth 20000 in
theorem ggX4_quote_X4_existingLine : GoodIn wsX4_quote wsX4_existingLine := goodIn_ca (goodIn_r _ [9, 10, 11, 12, 13, 14, 8, 15, 16, 17, 18, 19, 20, 21, 22, 23, 24, 25, 26, 74, 75, 76, 77, 78, 79, 80, 81, 82, 83, 84, 85, 86, 87, 88] (by decide +kernel) (by decide +kernel)) (goodIn_sub (fun _ h => List.mem_cons_of_mem _ (List.mem_append_right _ h)) (by decide +kernel))
set_option maxRecDepth 20000 in
theorem gX4_quote_X4_existingLine : GoodIn wsX4_quote (wsV RX4 123 RX4 yX4_existingLine wsX4_existingLine) := goodIn_app (goodIn_of _ (by decide +kernel)) ggX4_quote_X4_existingLine
set_option maxRecDepth 20000 in
theorem ggX4_quote_X4_existingSale : GoodIn wsX4_quote wsX4_existingSale := goodIn_ca (goodIn_r _ [15, 10, 11, 16, 17, 18, 8, 19, 20, 74, 75, 76, 77, 78, 79] (by decide +kernel) (by decide +kernel)) (goodIn_sub (fun _ h => List.mem_cons_of_mem _ (List.mem_append_right _ h)) (by decide +kernel))
set_option maxRecDepth 20000 in
theorem gX4_quote_X4_existingSale : GoodIn wsX4_quote (wsV RX4 87 RX4 yX4_existingSale wsX4_existingSale) := goodIn_app (goodIn_of _ (by decide +kernel)) ggX4_quote_X4_existingSale
set_option maxRecDepth 20000 in
theorem ggX4_quote_X4_isUnits : GoodIn wsX4_quote wsX4_isUnits := goodIn_r _ [29] (by decide +kernel) (by decide +kernel)
set_option maxRecDepth 20000 in
theorem gX4_quote_X4_isUnits : GoodIn wsX4_quote (va_wsS RX4 91 yX4_isUnits wsX4_isUnits) := goodIn_app (goodIn_of _ (by decide +kernel)) ggX4_quote_X4_isUnits
set_option maxRecDepth 20000 in
theorem ggX4_quote_X4_isCondition : GoodIn wsX4_quote wsX4_isCondition := goodIn_r _ [32] (by decide +kernel) (by decide +kernel)
set_option maxRecDepth 20000 in
theorem gX4_quote_X4_isCondition : GoodIn wsX4_quote (va_wsS RX4 150 yX4_isCondition wsX4_isCondition) := goodIn_app (goodIn_of _ (by decide +kernel)) ggX4_quote_X4_isCondition
set_option maxRecDepth 20000 in
theorem ggX4_quote_X4_canComeBack : GoodIn wsX4_quote wsX4_canComeBack := goodIn_r _ [36, 37, 38, 39, 40, 41, 8, 42, 43, 44, 80, 81, 82, 83, 84, 85, 86, 87, 88, 89, 90, 91, 92, 74, 75, 76, 77, 78, 79] (by decide +kernel) (by decide +kernel)
set_option maxRecDepth 20000 in
theorem gX4_quote_X4_canComeBack : GoodIn wsX4_quote (wsV RX4 155 RX4 yX4_canComeBack wsX4_canComeBack) := goodIn_app (goodIn_of _ (by decide +kernel)) ggX4_quote_X4_canComeBack
set_option maxRecDepth 20000 in
theorem ggX4_quote_X3_freedBy : GoodIn wsX4_quote wsX3_freedBy := goodIn_r _ [48, 49, 50, 51, 52, 53, 54, 55, 56, 57, 24, 58, 26, 59, 60, 61, 62, 63, 64, 65, 66, 8, 67, 68, 69, 70, 80, 81, 82, 83, 84, 85, 86, 87, 88, 89, 90, 91, 92] (by decide +kernel) (by decide +kernel)
set_option maxRecDepth 20000 in
theorem gX4_quote_X3_freedBy : GoodIn wsX4_quote (wsV RX4 196 RX3 yX3_freedBy wsX3_freedBy) := goodIn_app (goodIn_of _ (by decide +kernel)) ggX4_quote_X3_freedBy
set_option maxRecDepth 20000 in
theorem ggX4_quote_X4_ageOf : GoodIn wsX4_quote wsX4_ageOf := goodIn_r _ [42, 43, 44, 74, 75, 76, 77, 78, 79, 80, 81, 82, 83, 84, 85, 86, 87, 88] (by decide +kernel) (by decide +kernel)
set_option maxRecDepth 20000 in
theorem gX4_quote_X4_ageOf : GoodIn wsX4_quote (wsV RX4 173 RX4 yX4_ageOf wsX4_ageOf) := goodIn_app (goodIn_of _ (by decide +kernel)) ggX4_quote_X4_ageOf
set_option maxRecDepth 20000 in
theorem ggX4_quote_X4_feeOn : GoodIn wsX4_quote wsX4_feeOn := goodIn_r _ [73] (by decide +kernel) (by decide +kernel)
set_option maxRecDepth 20000 in
theorem gX4_quote_X4_feeOn : GoodIn wsX4_quote (va_wsS RX4 176 yX4_feeOn wsX4_feeOn) := goodIn_app (goodIn_of _ (by decide +kernel)) ggX4_quote_X4_feeOn
theorem dX4_quote_0 : decode cX4_quote 0 = .ok (.aload_n 0, 1) := by decide +kernel
theorem dX4_quote_1 : decode cX4_quote 1 = .ok (.iload_n 1, 1) := by decide +kernel
theorem dX4_quote_2 : decode cX4_quote 2 = .ok (.iload_n 2, 1) := by decide +kernel
theorem dX4_quote_3 : decode cX4_quote 3 = .ok (.invokevirtual 123, 3) := by decide +kernel
theorem dX4_quote_6 : decode cX4_quote 6 = .ok (.astore 5, 2) := by decide +kernel
theorem dX4_quote_8 : decode cX4_quote 8 = .ok (.aload_n 0, 1) := by decide +kernel
theorem dX4_quote_9 : decode cX4_quote 9 = .ok (.iload_n 1, 1) := by decide +kernel
theorem dX4_quote_10 : decode cX4_quote 10 = .ok (.invokevirtual 87, 3) := by decide +kernel
theorem dX4_quote_13 : decode cX4_quote 13 = .ok (.astore 6, 2) := by decide +kernel
theorem dX4_quote_15 : decode cX4_quote 15 = .ok (.iload_n 3, 1) := by decide +kernel
theorem dX4_quote_16 : decode cX4_quote 16 = .ok (.invokestatic 91, 3) := by decide +kernel
theorem dX4_quote_19 : decode cX4_quote 19 = .ok (.ifCond .eq 11, 3) := by decide +kernel
theorem dX4_quote_22 : decode cX4_quote 22 = .ok (.iload 4, 2) := by decide +kernel
theorem dX4_quote_24 : decode cX4_quote 24 = .ok (.invokestatic 150, 3) := by decide +kernel
theorem dX4_quote_27 : decode cX4_quote 27 = .ok (.ifCond .ne 13, 3) := by decide +kernel
theorem dX4_quote_30 : decode cX4_quote 30 = .ok (.new 38, 3) := by decide +kernel
theorem dX4_quote_33 : decode cX4_quote 33 = .ok (.dup, 1) := by decide +kernel
theorem dX4_quote_34 : decode cX4_quote 34 = .ok (.ldc 153, 2) := by decide +kernel
theorem dX4_quote_36 : decode cX4_quote 36 = .ok (.invokespecial 42, 3) := by decide +kernel
theorem dX4_quote_39 : decode cX4_quote 39 = .ok (.athrow, 1) := by decide +kernel
theorem dX4_quote_40 : decode cX4_quote 40 = .ok (.aload_n 0, 1) := by decide +kernel
theorem dX4_quote_41 : decode cX4_quote 41 = .ok (.aload 6, 2) := by decide +kernel
theorem dX4_quote_43 : decode cX4_quote 43 = .ok (.aload 5, 2) := by decide +kernel
theorem dX4_quote_45 : decode cX4_quote 45 = .ok (.iload_n 3, 1) := by decide +kernel
theorem dX4_quote_46 : decode cX4_quote 46 = .ok (.invokevirtual 155, 3) := by decide +kernel
theorem dX4_quote_49 : decode cX4_quote 49 = .ok (.ifCond .ne 13, 3) := by decide +kernel
theorem dX4_quote_52 : decode cX4_quote 52 = .ok (.new 60, 3) := by decide +kernel
theorem dX4_quote_55 : decode cX4_quote 55 = .ok (.dup, 1) := by decide +kernel
theorem dX4_quote_56 : decode cX4_quote 56 = .ok (.ldc 167, 2) := by decide +kernel
theorem dX4_quote_58 : decode cX4_quote 58 = .ok (.invokespecial 64, 3) := by decide +kernel
theorem dX4_quote_61 : decode cX4_quote 61 = .ok (.athrow, 1) := by decide +kernel
theorem dX4_quote_62 : decode cX4_quote 62 = .ok (.aload 6, 2) := by decide +kernel
theorem dX4_quote_64 : decode cX4_quote 64 = .ok (.aload 5, 2) := by decide +kernel
theorem dX4_quote_66 : decode cX4_quote 66 = .ok (.iload_n 3, 1) := by decide +kernel
theorem dX4_quote_67 : decode cX4_quote 67 = .ok (.invokevirtual 196, 3) := by decide +kernel
theorem dX4_quote_70 : decode cX4_quote 70 = .ok (.istore 7, 2) := by decide +kernel
theorem dX4_quote_72 : decode cX4_quote 72 = .ok (.iload 7, 2) := by decide +kernel
theorem dX4_quote_74 : decode cX4_quote 74 = .ok (.iload 7, 2) := by decide +kernel
theorem dX4_quote_76 : decode cX4_quote 76 = .ok (.aload_n 0, 1) := by decide +kernel
theorem dX4_quote_77 : decode cX4_quote 77 = .ok (.aload 6, 2) := by decide +kernel
theorem dX4_quote_79 : decode cX4_quote 79 = .ok (.invokevirtual 173, 3) := by decide +kernel
theorem dX4_quote_82 : decode cX4_quote 82 = .ok (.iload 4, 2) := by decide +kernel
theorem dX4_quote_84 : decode cX4_quote 84 = .ok (.invokestatic 176, 3) := by decide +kernel
theorem dX4_quote_87 : decode cX4_quote 87 = .ok (.isub, 1) := by decide +kernel
theorem dX4_quote_88 : decode cX4_quote 88 = .ok (.ireturn, 1) := by decide +kernel
set_option maxRecDepth 20000 in
theorem ggX4_released_X4_existingSale : GoodIn wsX4_released wsX4_existingSale := goodIn_ca (goodIn_r _ [6, 7, 8, 9, 10, 11, 5, 12, 13, 23, 24, 25, 26, 27, 28] (by decide +kernel) (by decide +kernel)) (goodIn_sub (fun _ h => List.mem_cons_of_mem _ (List.mem_append_right _ h)) (by decide +kernel))
set_option maxRecDepth 20000 in
theorem gX4_released_X4_existingSale : GoodIn wsX4_released (wsV RX4 87 RX4 yX4_existingSale wsX4_existingSale) := goodIn_app (goodIn_of _ (by decide +kernel)) ggX4_released_X4_existingSale
theorem dX4_released_0 : decode cX4_released 0 = .ok (.aload_n 0, 1) := by decide +kernel
theorem dX4_released_1 : decode cX4_released 1 = .ok (.iload_n 1, 1) := by decide +kernel
theorem dX4_released_2 : decode cX4_released 2 = .ok (.invokevirtual 87, 3) := by decide +kernel
theorem dX4_released_5 : decode cX4_released 5 = .ok (.getfield 200, 3) := by decide +kernel
theorem dX4_released_8 : decode cX4_released 8 = .ok (.ireturn, 1) := by decide +kernel
theorem dX4_fees_0 : decode cX4_fees 0 = .ok (.aload_n 0, 1) := by decide +kernel
theorem dX4_fees_1 : decode cX4_fees 1 = .ok (.getfield 180, 3) := by decide +kernel
theorem dX4_fees_4 : decode cX4_fees 4 = .ok (.ireturn, 1) := by decide +kernel
set_option maxRecDepth 20000 in
theorem ggX4_firstSale_X4_existingSale : GoodIn wsX4_firstSale wsX4_existingSale := goodIn_ca (goodIn_r _ [6, 7, 8, 9, 10, 11, 5, 12, 13, 23, 24, 25, 26, 27, 28] (by decide +kernel) (by decide +kernel)) (goodIn_sub (fun _ h => List.mem_cons_of_mem _ (List.mem_append_right _ h)) (by decide +kernel))
set_option maxRecDepth 20000 in
theorem gX4_firstSale_X4_existingSale : GoodIn wsX4_firstSale (wsV RX4 87 RX4 yX4_existingSale wsX4_existingSale) := goodIn_app (goodIn_of _ (by decide +kernel)) ggX4_firstSale_X4_existingSale
theorem dX4_firstSale_0 : decode cX4_firstSale 0 = .ok (.aload_n 0, 1) := by decide +kernel
theorem dX4_firstSale_1 : decode cX4_firstSale 1 = .ok (.iload_n 1, 1) := by decide +kernel
theorem dX4_firstSale_2 : decode cX4_firstSale 2 = .ok (.invokevirtual 87, 3) := by decide +kernel
theorem dX4_firstSale_5 : decode cX4_firstSale 5 = .ok (.getfield 190, 3) := by decide +kernel
theorem dX4_firstSale_8 : decode cX4_firstSale 8 = .ok (.ireturn, 1) := by decide +kernel
set_option maxRecDepth 20000 in
theorem ggX4_exchanges_X4_existingSale : GoodIn wsX4_exchanges wsX4_existingSale := goodIn_ca (goodIn_r _ [6, 7, 8, 9, 10, 11, 5, 12, 13, 23, 24, 25, 26, 27, 28] (by decide +kernel) (by decide +kernel)) (goodIn_sub (fun _ h => List.mem_cons_of_mem _ (List.mem_append_right _ h)) (by decide +kernel))
set_option maxRecDepth 20000 in
theorem gX4_exchanges_X4_existingSale : GoodIn wsX4_exchanges (wsV RX4 87 RX4 yX4_existingSale wsX4_existingSale) := goodIn_app (goodIn_of _ (by decide +kernel)) ggX4_exchanges_X4_existingSale
theorem dX4_exchanges_0 : decode cX4_exchanges 0 = .ok (.aload_n 0, 1) := by decide +kernel
theorem dX4_exchanges_1 : decode cX4_exchanges 1 = .ok (.iload_n 1, 1) := by decide +kernel
theorem dX4_exchanges_2 : decode cX4_exchanges 2 = .ok (.invokevirtual 87, 3) := by decide +kernel
theorem dX4_exchanges_5 : decode cX4_exchanges 5 = .ok (.getfield 187, 3) := by decide +kernel
theorem dX4_exchanges_8 : decode cX4_exchanges 8 = .ok (.ireturn, 1) := by decide +kernel
set_option maxRecDepth 20000 in
theorem ggX4_bestOption_X4_productAt : GoodIn wsX4_bestOption wsX4_productAt := goodIn_r _ [7, 8, 43, 44, 45, 46, 47, 48] (by decide +kernel) (by decide +kernel)
set_option maxRecDepth 20000 in
theorem gX4_bestOption_X4_productAt : GoodIn wsX4_bestOption (wsV RX4 29 RX4 yX4_productAt wsX4_productAt) := goodIn_app (goodIn_of _ (by decide +kernel)) ggX4_bestOption_X4_productAt
set_option maxRecDepth 20000 in
theorem ggX4_bestOption_X4_isCondition : GoodIn wsX4_bestOption wsX4_isCondition := goodIn_r _ [11] (by decide +kernel) (by decide +kernel)
set_option maxRecDepth 20000 in
theorem gX4_bestOption_X4_isCondition : GoodIn wsX4_bestOption (va_wsS RX4 150 yX4_isCondition wsX4_isCondition) := goodIn_app (goodIn_of _ (by decide +kernel)) ggX4_bestOption_X4_isCondition
set_option maxRecDepth 20000 in
theorem ggX4_bestOption_X2_optionFor : GoodIn wsX4_bestOption wsX2_optionFor := goodIn_r _ [16, 17, 18, 15, 19, 20, 21, 22, 23, 24, 25, 26, 27, 28, 29, 30, 31, 32, 33, 34, 35, 36, 37, 38, 39, 40, 41, 42, 49, 50, 51, 52] (by decide +kernel) (by decide +kernel)
set_option maxRecDepth 20000 in
theorem gX4_bestOption_X2_optionFor : GoodIn wsX4_bestOption (wsV RX4 203 RX2 yX2_optionFor wsX2_optionFor) := goodIn_app (goodIn_of _ (by decide +kernel)) ggX4_bestOption_X2_optionFor
theorem dX4_bestOption_0 : decode cX4_bestOption 0 = .ok (.aload_n 0, 1) := by decide +kernel
theorem dX4_bestOption_1 : decode cX4_bestOption 1 = .ok (.iload_n 1, 1) := by decide +kernel
theorem dX4_bestOption_2 : decode cX4_bestOption 2 = .ok (.invokevirtual 29, 3) := by decide +kernel
theorem dX4_bestOption_5 : decode cX4_bestOption 5 = .ok (.astore_n 3, 1) := by decide +kernel
theorem dX4_bestOption_6 : decode cX4_bestOption 6 = .ok (.aload_n 3, 1) := by decide +kernel
theorem dX4_bestOption_7 : decode cX4_bestOption 7 = .ok (.ifnull 10, 3) := by decide +kernel
theorem dX4_bestOption_10 : decode cX4_bestOption 10 = .ok (.iload_n 2, 1) := by decide +kernel
theorem dX4_bestOption_11 : decode cX4_bestOption 11 = .ok (.invokestatic 150, 3) := by decide +kernel
theorem dX4_bestOption_14 : decode cX4_bestOption 14 = .ok (.ifCond .ne 13, 3) := by decide +kernel
theorem dX4_bestOption_17 : decode cX4_bestOption 17 = .ok (.new 38, 3) := by decide +kernel
theorem dX4_bestOption_20 : decode cX4_bestOption 20 = .ok (.dup, 1) := by decide +kernel
theorem dX4_bestOption_21 : decode cX4_bestOption 21 = .ok (.ldc 40, 2) := by decide +kernel
theorem dX4_bestOption_23 : decode cX4_bestOption 23 = .ok (.invokespecial 42, 3) := by decide +kernel
theorem dX4_bestOption_26 : decode cX4_bestOption 26 = .ok (.athrow, 1) := by decide +kernel
theorem dX4_bestOption_27 : decode cX4_bestOption 27 = .ok (.aload_n 3, 1) := by decide +kernel
theorem dX4_bestOption_28 : decode cX4_bestOption 28 = .ok (.iload_n 2, 1) := by decide +kernel
theorem dX4_bestOption_29 : decode cX4_bestOption 29 = .ok (.invokevirtual 203, 3) := by decide +kernel
theorem dX4_bestOption_32 : decode cX4_bestOption 32 = .ok (.ireturn, 1) := by decide +kernel
set_option maxRecDepth 20000 in
theorem ggX4_bestWorth_X4_productAt : GoodIn wsX4_bestWorth wsX4_productAt := goodIn_r _ [7, 8, 44, 45, 46, 47, 48, 49] (by decide +kernel) (by decide +kernel)
set_option maxRecDepth 20000 in
theorem gX4_bestWorth_X4_productAt : GoodIn wsX4_bestWorth (wsV RX4 29 RX4 yX4_productAt wsX4_productAt) := goodIn_app (goodIn_of _ (by decide +kernel)) ggX4_bestWorth_X4_productAt
set_option maxRecDepth 20000 in
theorem ggX4_bestWorth_X4_isCondition : GoodIn wsX4_bestWorth wsX4_isCondition := goodIn_r _ [11] (by decide +kernel) (by decide +kernel)
set_option maxRecDepth 20000 in
theorem gX4_bestWorth_X4_isCondition : GoodIn wsX4_bestWorth (va_wsS RX4 150 yX4_isCondition wsX4_isCondition) := goodIn_app (goodIn_of _ (by decide +kernel)) ggX4_bestWorth_X4_isCondition
set_option maxRecDepth 20000 in
theorem ggX4_bestWorth_X2_optionFor : GoodIn wsX4_bestWorth wsX2_optionFor := goodIn_r _ [16, 17, 18, 15, 19, 20, 21, 22, 23, 24, 25, 26, 27, 28, 29, 30, 31, 32, 33, 34, 35, 36, 37, 38, 39, 40, 41, 42, 50, 51, 52, 53] (by decide +kernel) (by decide +kernel)
set_option maxRecDepth 20000 in
theorem gX4_bestWorth_X2_optionFor : GoodIn wsX4_bestWorth (wsV RX4 203 RX2 yX2_optionFor wsX2_optionFor) := goodIn_app (goodIn_of _ (by decide +kernel)) ggX4_bestWorth_X2_optionFor
set_option maxRecDepth 20000 in
theorem ggX4_bestWorth_X2_worthOf : GoodIn wsX4_bestWorth wsX2_worthOf := goodIn_r _ [23, 24, 25, 26, 27, 28, 29, 30, 31, 15, 32, 33, 34, 35, 36, 37, 38, 39, 40, 41, 42, 50, 51, 52, 53] (by decide +kernel) (by decide +kernel)
set_option maxRecDepth 20000 in
theorem gX4_bestWorth_X2_worthOf : GoodIn wsX4_bestWorth (wsV RX4 206 RX2 yX2_worthOf wsX2_worthOf) := goodIn_app (goodIn_of _ (by decide +kernel)) ggX4_bestWorth_X2_worthOf
theorem dX4_bestWorth_0 : decode cX4_bestWorth 0 = .ok (.aload_n 0, 1) := by decide +kernel
theorem dX4_bestWorth_1 : decode cX4_bestWorth 1 = .ok (.iload_n 1, 1) := by decide +kernel
theorem dX4_bestWorth_2 : decode cX4_bestWorth 2 = .ok (.invokevirtual 29, 3) := by decide +kernel
theorem dX4_bestWorth_5 : decode cX4_bestWorth 5 = .ok (.astore_n 3, 1) := by decide +kernel
theorem dX4_bestWorth_6 : decode cX4_bestWorth 6 = .ok (.aload_n 3, 1) := by decide +kernel
theorem dX4_bestWorth_7 : decode cX4_bestWorth 7 = .ok (.ifnull 10, 3) := by decide +kernel
theorem dX4_bestWorth_10 : decode cX4_bestWorth 10 = .ok (.iload_n 2, 1) := by decide +kernel
theorem dX4_bestWorth_11 : decode cX4_bestWorth 11 = .ok (.invokestatic 150, 3) := by decide +kernel
theorem dX4_bestWorth_14 : decode cX4_bestWorth 14 = .ok (.ifCond .ne 13, 3) := by decide +kernel
theorem dX4_bestWorth_17 : decode cX4_bestWorth 17 = .ok (.new 38, 3) := by decide +kernel
theorem dX4_bestWorth_20 : decode cX4_bestWorth 20 = .ok (.dup, 1) := by decide +kernel
theorem dX4_bestWorth_21 : decode cX4_bestWorth 21 = .ok (.ldc 40, 2) := by decide +kernel
theorem dX4_bestWorth_23 : decode cX4_bestWorth 23 = .ok (.invokespecial 42, 3) := by decide +kernel
theorem dX4_bestWorth_26 : decode cX4_bestWorth 26 = .ok (.athrow, 1) := by decide +kernel
theorem dX4_bestWorth_27 : decode cX4_bestWorth 27 = .ok (.aload_n 3, 1) := by decide +kernel
theorem dX4_bestWorth_28 : decode cX4_bestWorth 28 = .ok (.aload_n 3, 1) := by decide +kernel
theorem dX4_bestWorth_29 : decode cX4_bestWorth 29 = .ok (.iload_n 2, 1) := by decide +kernel
theorem dX4_bestWorth_30 : decode cX4_bestWorth 30 = .ok (.invokevirtual 203, 3) := by decide +kernel
theorem dX4_bestWorth_33 : decode cX4_bestWorth 33 = .ok (.iload_n 2, 1) := by decide +kernel
theorem dX4_bestWorth_34 : decode cX4_bestWorth 34 = .ok (.invokevirtual 206, 3) := by decide +kernel
theorem dX4_bestWorth_37 : decode cX4_bestWorth 37 = .ok (.ireturn, 1) := by decide +kernel
set_option maxRecDepth 20000 in
theorem ggX4_stock_X4_productAt : GoodIn wsX4_stock wsX4_productAt := goodIn_r _ [7, 8, 15, 16, 17, 18, 19, 20] (by decide +kernel) (by decide +kernel)
set_option maxRecDepth 20000 in
theorem gX4_stock_X4_productAt : GoodIn wsX4_stock (wsV RX4 29 RX4 yX4_productAt wsX4_productAt) := goodIn_app (goodIn_of _ (by decide +kernel)) ggX4_stock_X4_productAt
set_option maxRecDepth 20000 in
theorem ggX4_stock_X2_unitsAt : GoodIn wsX4_stock wsX2_unitsAt := goodIn_r _ [13, 14, 21, 22, 23, 24] (by decide +kernel) (by decide +kernel)
set_option maxRecDepth 20000 in
theorem gX4_stock_X2_unitsAt : GoodIn wsX4_stock (wsV RX4 210 RX2 yX2_unitsAt wsX2_unitsAt) := goodIn_app (goodIn_of _ (by decide +kernel)) ggX4_stock_X2_unitsAt
theorem dX4_stock_0 : decode cX4_stock 0 = .ok (.aload_n 0, 1) := by decide +kernel
theorem dX4_stock_1 : decode cX4_stock 1 = .ok (.iload_n 1, 1) := by decide +kernel
theorem dX4_stock_2 : decode cX4_stock 2 = .ok (.invokevirtual 29, 3) := by decide +kernel
theorem dX4_stock_5 : decode cX4_stock 5 = .ok (.astore_n 3, 1) := by decide +kernel
theorem dX4_stock_6 : decode cX4_stock 6 = .ok (.aload_n 3, 1) := by decide +kernel
theorem dX4_stock_7 : decode cX4_stock 7 = .ok (.ifnull 12, 3) := by decide +kernel
theorem dX4_stock_10 : decode cX4_stock 10 = .ok (.iload_n 2, 1) := by decide +kernel
theorem dX4_stock_11 : decode cX4_stock 11 = .ok (.ifCond .lt 8, 3) := by decide +kernel
theorem dX4_stock_14 : decode cX4_stock 14 = .ok (.iload_n 2, 1) := by decide +kernel
theorem dX4_stock_15 : decode cX4_stock 15 = .ok (.iconst 5, 1) := by decide +kernel
theorem dX4_stock_16 : decode cX4_stock 16 = .ok (.if_icmp .lt 13, 3) := by decide +kernel
theorem dX4_stock_19 : decode cX4_stock 19 = .ok (.new 38, 3) := by decide +kernel
theorem dX4_stock_22 : decode cX4_stock 22 = .ok (.dup, 1) := by decide +kernel
theorem dX4_stock_23 : decode cX4_stock 23 = .ok (.ldc 40, 2) := by decide +kernel
theorem dX4_stock_25 : decode cX4_stock 25 = .ok (.invokespecial 42, 3) := by decide +kernel
theorem dX4_stock_28 : decode cX4_stock 28 = .ok (.athrow, 1) := by decide +kernel
theorem dX4_stock_29 : decode cX4_stock 29 = .ok (.aload_n 3, 1) := by decide +kernel
theorem dX4_stock_30 : decode cX4_stock 30 = .ok (.iload_n 2, 1) := by decide +kernel
theorem dX4_stock_31 : decode cX4_stock 31 = .ok (.invokevirtual 210, 3) := by decide +kernel
theorem dX4_stock_34 : decode cX4_stock 34 = .ok (.ireturn, 1) := by decide +kernel
set_option maxRecDepth 20000 in
theorem ggX4_test_X4_productAt : GoodIn wsX4_test wsX4_productAt := goodIn_r _ [9, 10, 51, 52, 53, 54, 55, 56] (by decide +kernel) (by decide +kernel)
set_option maxRecDepth 20000 in
theorem gX4_test_X4_productAt : GoodIn wsX4_test (wsV RX4 29 RX4 yX4_productAt wsX4_productAt) := goodIn_app (goodIn_of _ (by decide +kernel)) ggX4_test_X4_productAt
set_option maxRecDepth 20000 in
theorem ggX4_test_X2_unitsAt : GoodIn wsX4_test wsX2_unitsAt := goodIn_r _ [15, 16, 57, 58, 59, 60] (by decide +kernel) (by decide +kernel)
set_option maxRecDepth 20000 in
theorem gX4_test_X2_unitsAt : GoodIn wsX4_test (wsV RX4 210 RX2 yX2_unitsAt wsX2_unitsAt) := goodIn_app (goodIn_of _ (by decide +kernel)) ggX4_test_X2_unitsAt
set_option maxRecDepth 20000 in
theorem ggX4_test_X2_optionFor : GoodIn wsX4_test wsX2_optionFor := goodIn_r _ [20, 21, 22, 14, 23, 24, 25, 26, 27, 28, 29, 30, 31, 32, 33, 34, 35, 36, 37, 38, 39, 40, 41, 42, 43, 44, 45, 46, 57, 58, 59, 60] (by decide +kernel) (by decide +kernel)
set_option maxRecDepth 20000 in
theorem gX4_test_X2_optionFor : GoodIn wsX4_test (wsV RX4 203 RX2 yX2_optionFor wsX2_optionFor) := goodIn_app (goodIn_of _ (by decide +kernel)) ggX4_test_X2_optionFor
set_option maxRecDepth 20000 in
theorem ggX4_test_X2_move : GoodIn wsX4_test wsX2_move := goodIn_r _ [50, 16, 57, 58, 59, 60] (by decide +kernel) (by decide +kernel)
set_option maxRecDepth 20000 in
theorem gX4_test_X2_move : GoodIn wsX4_test (wsV RX4 217 RX2 yX2_move wsX2_move) := goodIn_app (goodIn_of _ (by decide +kernel)) ggX4_test_X2_move
theorem dX4_test_0 : decode cX4_test 0 = .ok (.aload_n 0, 1) := by decide +kernel
theorem dX4_test_1 : decode cX4_test 1 = .ok (.iload_n 1, 1) := by decide +kernel
theorem dX4_test_2 : decode cX4_test 2 = .ok (.invokevirtual 29, 3) := by decide +kernel
theorem dX4_test_5 : decode cX4_test 5 = .ok (.astore_n 3, 1) := by decide +kernel
theorem dX4_test_6 : decode cX4_test 6 = .ok (.aload_n 3, 1) := by decide +kernel
theorem dX4_test_7 : decode cX4_test 7 = .ok (.ifnonnull 13, 3) := by decide +kernel
theorem dX4_test_10 : decode cX4_test 10 = .ok (.new 38, 3) := by decide +kernel
theorem dX4_test_13 : decode cX4_test 13 = .ok (.dup, 1) := by decide +kernel
theorem dX4_test_14 : decode cX4_test 14 = .ok (.ldc 213, 2) := by decide +kernel
theorem dX4_test_16 : decode cX4_test 16 = .ok (.invokespecial 42, 3) := by decide +kernel
theorem dX4_test_19 : decode cX4_test 19 = .ok (.athrow, 1) := by decide +kernel
theorem dX4_test_20 : decode cX4_test 20 = .ok (.aload_n 3, 1) := by decide +kernel
theorem dX4_test_21 : decode cX4_test 21 = .ok (.iconst 1, 1) := by decide +kernel
theorem dX4_test_22 : decode cX4_test 22 = .ok (.invokevirtual 210, 3) := by decide +kernel
theorem dX4_test_25 : decode cX4_test 25 = .ok (.ifCond .ne 13, 3) := by decide +kernel
theorem dX4_test_28 : decode cX4_test 28 = .ok (.new 60, 3) := by decide +kernel
theorem dX4_test_31 : decode cX4_test 31 = .ok (.dup, 1) := by decide +kernel
theorem dX4_test_32 : decode cX4_test 32 = .ok (.ldc 215, 2) := by decide +kernel
theorem dX4_test_34 : decode cX4_test 34 = .ok (.invokespecial 64, 3) := by decide +kernel
theorem dX4_test_37 : decode cX4_test 37 = .ok (.athrow, 1) := by decide +kernel
theorem dX4_test_38 : decode cX4_test 38 = .ok (.iload_n 2, 1) := by decide +kernel
theorem dX4_test_39 : decode cX4_test 39 = .ok (.ifCond .eq 7, 3) := by decide +kernel
theorem dX4_test_42 : decode cX4_test 42 = .ok (.iconst 0, 1) := by decide +kernel
theorem dX4_test_43 : decode cX4_test 43 = .ok (.goto 8, 3) := by decide +kernel
theorem dX4_test_46 : decode cX4_test 46 = .ok (.aload_n 3, 1) := by decide +kernel
theorem dX4_test_47 : decode cX4_test 47 = .ok (.iconst 2, 1) := by decide +kernel
theorem dX4_test_48 : decode cX4_test 48 = .ok (.invokevirtual 203, 3) := by decide +kernel
theorem dX4_test_51 : decode cX4_test 51 = .ok (.istore 4, 2) := by decide +kernel
theorem dX4_test_53 : decode cX4_test 53 = .ok (.aload_n 3, 1) := by decide +kernel
theorem dX4_test_54 : decode cX4_test 54 = .ok (.iconst 1, 1) := by decide +kernel
theorem dX4_test_55 : decode cX4_test 55 = .ok (.iconst (-1), 1) := by decide +kernel
theorem dX4_test_56 : decode cX4_test 56 = .ok (.invokevirtual 217, 3) := by decide +kernel
theorem dX4_test_59 : decode cX4_test 59 = .ok (.aload_n 3, 1) := by decide +kernel
theorem dX4_test_60 : decode cX4_test 60 = .ok (.iload 4, 2) := by decide +kernel
theorem dX4_test_62 : decode cX4_test 62 = .ok (.iconst 1, 1) := by decide +kernel
theorem dX4_test_63 : decode cX4_test 63 = .ok (.invokevirtual 217, 3) := by decide +kernel
theorem dX4_test_66 : decode cX4_test 66 = .ok (.iload 4, 2) := by decide +kernel
theorem dX4_test_68 : decode cX4_test 68 = .ok (.ireturn, 1) := by decide +kernel
set_option maxRecDepth 20000 in
theorem ggX4_score_X4_customerAt : GoodIn wsX4_score wsX4_customerAt := goodIn_r _ [8, 9, 19, 20, 21, 22, 23, 24] (by decide +kernel) (by decide +kernel)
set_option maxRecDepth 20000 in
theorem gX4_score_X4_customerAt : GoodIn wsX4_score (wsV RX4 65 RX4 yX4_customerAt wsX4_customerAt) := goodIn_app (goodIn_of _ (by decide +kernel)) ggX4_score_X4_customerAt
set_option maxRecDepth 20000 in
theorem ggX4_score_X0_scoreOn : GoodIn wsX4_score wsX0_scoreOn := goodIn_r _ [14, 15, 16, 17, 18, 25, 26, 27, 28] (by decide +kernel) (by decide +kernel)
set_option maxRecDepth 20000 in
theorem gX4_score_X0_scoreOn : GoodIn wsX4_score (wsV RX4 221 RX0 yX0_scoreOn wsX0_scoreOn) := goodIn_app (goodIn_of _ (by decide +kernel)) ggX4_score_X0_scoreOn
theorem dX4_score_0 : decode cX4_score 0 = .ok (.aload_n 0, 1) := by decide +kernel
theorem dX4_score_1 : decode cX4_score 1 = .ok (.iload_n 1, 1) := by decide +kernel
theorem dX4_score_2 : decode cX4_score 2 = .ok (.invokevirtual 65, 3) := by decide +kernel
theorem dX4_score_5 : decode cX4_score 5 = .ok (.astore_n 2, 1) := by decide +kernel
theorem dX4_score_6 : decode cX4_score 6 = .ok (.aload_n 2, 1) := by decide +kernel
theorem dX4_score_7 : decode cX4_score 7 = .ok (.ifnonnull 13, 3) := by decide +kernel
theorem dX4_score_10 : decode cX4_score 10 = .ok (.new 38, 3) := by decide +kernel
theorem dX4_score_13 : decode cX4_score 13 = .ok (.dup, 1) := by decide +kernel
theorem dX4_score_14 : decode cX4_score 14 = .ok (.ldc 69, 2) := by decide +kernel
theorem dX4_score_16 : decode cX4_score 16 = .ok (.invokespecial 42, 3) := by decide +kernel
theorem dX4_score_19 : decode cX4_score 19 = .ok (.athrow, 1) := by decide +kernel
theorem dX4_score_20 : decode cX4_score 20 = .ok (.aload_n 2, 1) := by decide +kernel
theorem dX4_score_21 : decode cX4_score 21 = .ok (.aload_n 0, 1) := by decide +kernel
theorem dX4_score_22 : decode cX4_score 22 = .ok (.getfield 57, 3) := by decide +kernel
theorem dX4_score_25 : decode cX4_score 25 = .ok (.invokevirtual 221, 3) := by decide +kernel
theorem dX4_score_28 : decode cX4_score 28 = .ok (.ireturn, 1) := by decide +kernel
theorem dX4_productAt_0 : decode cX4_productAt 0 = .ok (.iload_n 1, 1) := by decide +kernel
theorem dX4_productAt_1 : decode cX4_productAt 1 = .ok (.ifCond .lt 21, 3) := by decide +kernel
theorem dX4_productAt_4 : decode cX4_productAt 4 = .ok (.iload_n 1, 1) := by decide +kernel
theorem dX4_productAt_5 : decode cX4_productAt 5 = .ok (.aload_n 0, 1) := by decide +kernel
theorem dX4_productAt_6 : decode cX4_productAt 6 = .ok (.getfield 11, 3) := by decide +kernel
theorem dX4_productAt_9 : decode cX4_productAt 9 = .ok (.arraylength, 1) := by decide +kernel
theorem dX4_productAt_10 : decode cX4_productAt 10 = .ok (.if_icmp .ge 12, 3) := by decide +kernel
theorem dX4_productAt_13 : decode cX4_productAt 13 = .ok (.aload_n 0, 1) := by decide +kernel
theorem dX4_productAt_14 : decode cX4_productAt 14 = .ok (.getfield 11, 3) := by decide +kernel
theorem dX4_productAt_17 : decode cX4_productAt 17 = .ok (.iload_n 1, 1) := by decide +kernel
theorem dX4_productAt_18 : decode cX4_productAt 18 = .ok (.aaload, 1) := by decide +kernel
theorem dX4_productAt_19 : decode cX4_productAt 19 = .ok (.goto 4, 3) := by decide +kernel
theorem dX4_productAt_22 : decode cX4_productAt 22 = .ok (.aconst_null, 1) := by decide +kernel
theorem dX4_productAt_23 : decode cX4_productAt 23 = .ok (.areturn, 1) := by decide +kernel
theorem dX4_customerAt_0 : decode cX4_customerAt 0 = .ok (.iload_n 1, 1) := by decide +kernel
theorem dX4_customerAt_1 : decode cX4_customerAt 1 = .ok (.ifCond .lt 21, 3) := by decide +kernel
theorem dX4_customerAt_4 : decode cX4_customerAt 4 = .ok (.iload_n 1, 1) := by decide +kernel
theorem dX4_customerAt_5 : decode cX4_customerAt 5 = .ok (.aload_n 0, 1) := by decide +kernel
theorem dX4_customerAt_6 : decode cX4_customerAt 6 = .ok (.getfield 18, 3) := by decide +kernel
theorem dX4_customerAt_9 : decode cX4_customerAt 9 = .ok (.arraylength, 1) := by decide +kernel
theorem dX4_customerAt_10 : decode cX4_customerAt 10 = .ok (.if_icmp .ge 12, 3) := by decide +kernel
theorem dX4_customerAt_13 : decode cX4_customerAt 13 = .ok (.aload_n 0, 1) := by decide +kernel
theorem dX4_customerAt_14 : decode cX4_customerAt 14 = .ok (.getfield 18, 3) := by decide +kernel
theorem dX4_customerAt_17 : decode cX4_customerAt 17 = .ok (.iload_n 1, 1) := by decide +kernel
theorem dX4_customerAt_18 : decode cX4_customerAt 18 = .ok (.aaload, 1) := by decide +kernel
theorem dX4_customerAt_19 : decode cX4_customerAt 19 = .ok (.goto 4, 3) := by decide +kernel
theorem dX4_customerAt_22 : decode cX4_customerAt 22 = .ok (.aconst_null, 1) := by decide +kernel
theorem dX4_customerAt_23 : decode cX4_customerAt 23 = .ok (.areturn, 1) := by decide +kernel
theorem dX4_saleAt_0 : decode cX4_saleAt 0 = .ok (.iload_n 1, 1) := by decide +kernel
theorem dX4_saleAt_1 : decode cX4_saleAt 1 = .ok (.ifCond .lt 21, 3) := by decide +kernel
theorem dX4_saleAt_4 : decode cX4_saleAt 4 = .ok (.iload_n 1, 1) := by decide +kernel
theorem dX4_saleAt_5 : decode cX4_saleAt 5 = .ok (.aload_n 0, 1) := by decide +kernel
theorem dX4_saleAt_6 : decode cX4_saleAt 6 = .ok (.getfield 25, 3) := by decide +kernel
theorem dX4_saleAt_9 : decode cX4_saleAt 9 = .ok (.arraylength, 1) := by decide +kernel
theorem dX4_saleAt_10 : decode cX4_saleAt 10 = .ok (.if_icmp .ge 12, 3) := by decide +kernel
theorem dX4_saleAt_13 : decode cX4_saleAt 13 = .ok (.aload_n 0, 1) := by decide +kernel
theorem dX4_saleAt_14 : decode cX4_saleAt 14 = .ok (.getfield 25, 3) := by decide +kernel
theorem dX4_saleAt_17 : decode cX4_saleAt 17 = .ok (.iload_n 1, 1) := by decide +kernel
theorem dX4_saleAt_18 : decode cX4_saleAt 18 = .ok (.aaload, 1) := by decide +kernel
theorem dX4_saleAt_19 : decode cX4_saleAt 19 = .ok (.goto 4, 3) := by decide +kernel
theorem dX4_saleAt_22 : decode cX4_saleAt 22 = .ok (.aconst_null, 1) := by decide +kernel
theorem dX4_saleAt_23 : decode cX4_saleAt 23 = .ok (.areturn, 1) := by decide +kernel
set_option maxRecDepth 20000 in
theorem ggX4_existingSale_X4_saleAt : GoodIn wsX4_existingSale wsX4_saleAt := goodIn_r _ [7, 8, 9, 10, 11, 12, 13, 14] (by decide +kernel) (by decide +kernel)
set_option maxRecDepth 20000 in
theorem gX4_existingSale_X4_saleAt : GoodIn wsX4_existingSale (wsV RX4 224 RX4 yX4_saleAt wsX4_saleAt) := goodIn_app (goodIn_of _ (by decide +kernel)) ggX4_existingSale_X4_saleAt
theorem dX4_existingSale_0 : decode cX4_existingSale 0 = .ok (.aload_n 0, 1) := by decide +kernel
theorem dX4_existingSale_1 : decode cX4_existingSale 1 = .ok (.iload_n 1, 1) := by decide +kernel
theorem dX4_existingSale_2 : decode cX4_existingSale 2 = .ok (.invokevirtual 224, 3) := by decide +kernel
theorem dX4_existingSale_5 : decode cX4_existingSale 5 = .ok (.astore_n 2, 1) := by decide +kernel
theorem dX4_existingSale_6 : decode cX4_existingSale 6 = .ok (.aload_n 2, 1) := by decide +kernel
theorem dX4_existingSale_7 : decode cX4_existingSale 7 = .ok (.ifnonnull 13, 3) := by decide +kernel
theorem dX4_existingSale_10 : decode cX4_existingSale 10 = .ok (.new 142, 3) := by decide +kernel
theorem dX4_existingSale_13 : decode cX4_existingSale 13 = .ok (.dup, 1) := by decide +kernel
theorem dX4_existingSale_14 : decode cX4_existingSale 14 = .ok (.ldc 227, 2) := by decide +kernel
theorem dX4_existingSale_16 : decode cX4_existingSale 16 = .ok (.invokespecial 146, 3) := by decide +kernel
theorem dX4_existingSale_19 : decode cX4_existingSale 19 = .ok (.athrow, 1) := by decide +kernel
theorem dX4_existingSale_20 : decode cX4_existingSale 20 = .ok (.aload_n 2, 1) := by decide +kernel
theorem dX4_existingSale_21 : decode cX4_existingSale 21 = .ok (.areturn, 1) := by decide +kernel
set_option maxRecDepth 20000 in
theorem ggX4_existingLine_X4_existingSale : GoodIn wsX4_existingLine wsX4_existingSale := goodIn_ca (goodIn_r _ [7, 1, 2, 8, 9, 10, 6, 11, 12, 19, 20, 21, 22, 23, 24] (by decide +kernel) (by decide +kernel)) (goodIn_sub (fun _ h => List.mem_cons_of_mem _ (List.mem_append_right _ h)) (by decide +kernel))
set_option maxRecDepth 20000 in
theorem gX4_existingLine_X4_existingSale : GoodIn wsX4_existingLine (wsV RX4 87 RX4 yX4_existingSale wsX4_existingSale) := goodIn_app (goodIn_of _ (by decide +kernel)) ggX4_existingLine_X4_existingSale
set_option maxRecDepth 20000 in
theorem ggX4_existingLine_X3_lineAt : GoodIn wsX4_existingLine wsX3_lineAt := goodIn_r _ [17, 18, 25, 26, 27, 28, 29, 30, 31, 32, 33] (by decide +kernel) (by decide +kernel)
set_option maxRecDepth 20000 in
theorem gX4_existingLine_X3_lineAt : GoodIn wsX4_existingLine (wsV RX4 138 RX3 yX3_lineAt wsX3_lineAt) := goodIn_app (goodIn_of _ (by decide +kernel)) ggX4_existingLine_X3_lineAt
theorem dX4_existingLine_0 : decode cX4_existingLine 0 = .ok (.aload_n 0, 1) := by decide +kernel
theorem dX4_existingLine_1 : decode cX4_existingLine 1 = .ok (.iload_n 1, 1) := by decide +kernel
theorem dX4_existingLine_2 : decode cX4_existingLine 2 = .ok (.invokevirtual 87, 3) := by decide +kernel
theorem dX4_existingLine_5 : decode cX4_existingLine 5 = .ok (.iload_n 2, 1) := by decide +kernel
theorem dX4_existingLine_6 : decode cX4_existingLine 6 = .ok (.invokevirtual 138, 3) := by decide +kernel
theorem dX4_existingLine_9 : decode cX4_existingLine 9 = .ok (.astore_n 3, 1) := by decide +kernel
theorem dX4_existingLine_10 : decode cX4_existingLine 10 = .ok (.aload_n 3, 1) := by decide +kernel
theorem dX4_existingLine_11 : decode cX4_existingLine 11 = .ok (.ifnonnull 13, 3) := by decide +kernel
theorem dX4_existingLine_14 : decode cX4_existingLine 14 = .ok (.new 142, 3) := by decide +kernel
theorem dX4_existingLine_17 : decode cX4_existingLine 17 = .ok (.dup, 1) := by decide +kernel
theorem dX4_existingLine_18 : decode cX4_existingLine 18 = .ok (.ldc 144, 2) := by decide +kernel
theorem dX4_existingLine_20 : decode cX4_existingLine 20 = .ok (.invokespecial 146, 3) := by decide +kernel
theorem dX4_existingLine_23 : decode cX4_existingLine 23 = .ok (.athrow, 1) := by decide +kernel
theorem dX4_existingLine_24 : decode cX4_existingLine 24 = .ok (.aload_n 3, 1) := by decide +kernel
theorem dX4_existingLine_25 : decode cX4_existingLine 25 = .ok (.areturn, 1) := by decide +kernel
theorem dX4_isRegisterFull_0 : decode cX4_isRegisterFull 0 = .ok (.aload_n 0, 1) := by decide +kernel
theorem dX4_isRegisterFull_1 : decode cX4_isRegisterFull 1 = .ok (.getfield 77, 3) := by decide +kernel
theorem dX4_isRegisterFull_4 : decode cX4_isRegisterFull 4 = .ok (.aload_n 0, 1) := by decide +kernel
theorem dX4_isRegisterFull_5 : decode cX4_isRegisterFull 5 = .ok (.getfield 25, 3) := by decide +kernel
theorem dX4_isRegisterFull_8 : decode cX4_isRegisterFull 8 = .ok (.arraylength, 1) := by decide +kernel
theorem dX4_isRegisterFull_9 : decode cX4_isRegisterFull 9 = .ok (.if_icmp .lt 7, 3) := by decide +kernel
theorem dX4_isRegisterFull_12 : decode cX4_isRegisterFull 12 = .ok (.iconst 1, 1) := by decide +kernel
theorem dX4_isRegisterFull_13 : decode cX4_isRegisterFull 13 = .ok (.goto 4, 3) := by decide +kernel
theorem dX4_isRegisterFull_16 : decode cX4_isRegisterFull 16 = .ok (.iconst 0, 1) := by decide +kernel
theorem dX4_isRegisterFull_17 : decode cX4_isRegisterFull 17 = .ok (.ireturn, 1) := by decide +kernel
theorem dX4_enter_0 : decode cX4_enter 0 = .ok (.aload_n 0, 1) := by decide +kernel
theorem dX4_enter_1 : decode cX4_enter 1 = .ok (.getfield 77, 3) := by decide +kernel
theorem dX4_enter_4 : decode cX4_enter 4 = .ok (.istore_n 2, 1) := by decide +kernel
theorem dX4_enter_5 : decode cX4_enter 5 = .ok (.iload_n 2, 1) := by decide +kernel
theorem dX4_enter_6 : decode cX4_enter 6 = .ok (.ifCond .lt 29, 3) := by decide +kernel
theorem dX4_enter_9 : decode cX4_enter 9 = .ok (.iload_n 2, 1) := by decide +kernel
theorem dX4_enter_10 : decode cX4_enter 10 = .ok (.aload_n 0, 1) := by decide +kernel
theorem dX4_enter_11 : decode cX4_enter 11 = .ok (.getfield 25, 3) := by decide +kernel
theorem dX4_enter_14 : decode cX4_enter 14 = .ok (.arraylength, 1) := by decide +kernel
theorem dX4_enter_15 : decode cX4_enter 15 = .ok (.if_icmp .ge 20, 3) := by decide +kernel
theorem dX4_enter_18 : decode cX4_enter 18 = .ok (.aload_n 0, 1) := by decide +kernel
theorem dX4_enter_19 : decode cX4_enter 19 = .ok (.getfield 25, 3) := by decide +kernel
theorem dX4_enter_22 : decode cX4_enter 22 = .ok (.iload_n 2, 1) := by decide +kernel
theorem dX4_enter_23 : decode cX4_enter 23 = .ok (.aload_n 1, 1) := by decide +kernel
theorem dX4_enter_24 : decode cX4_enter 24 = .ok (.aastore, 1) := by decide +kernel
theorem dX4_enter_25 : decode cX4_enter 25 = .ok (.aload_n 0, 1) := by decide +kernel
theorem dX4_enter_26 : decode cX4_enter 26 = .ok (.dup, 1) := by decide +kernel
theorem dX4_enter_27 : decode cX4_enter 27 = .ok (.getfield 77, 3) := by decide +kernel
theorem dX4_enter_30 : decode cX4_enter 30 = .ok (.iconst 1, 1) := by decide +kernel
theorem dX4_enter_31 : decode cX4_enter 31 = .ok (.iadd, 1) := by decide +kernel
theorem dX4_enter_32 : decode cX4_enter 32 = .ok (.putfield 77, 3) := by decide +kernel
theorem dX4_enter_35 : decode cX4_enter 35 = .ok (.iload_n 2, 1) := by decide +kernel
theorem dX4_enter_36 : decode cX4_enter 36 = .ok (.ireturn, 1) := by decide +kernel
theorem dX4_ageOf_0 : decode cX4_ageOf 0 = .ok (.aload_n 0, 1) := by decide +kernel
theorem dX4_ageOf_1 : decode cX4_ageOf 1 = .ok (.getfield 57, 3) := by decide +kernel
theorem dX4_ageOf_4 : decode cX4_ageOf 4 = .ok (.aload_n 1, 1) := by decide +kernel
theorem dX4_ageOf_5 : decode cX4_ageOf 5 = .ok (.getfield 193, 3) := by decide +kernel
theorem dX4_ageOf_8 : decode cX4_ageOf 8 = .ok (.isub, 1) := by decide +kernel
theorem dX4_ageOf_9 : decode cX4_ageOf 9 = .ok (.ireturn, 1) := by decide +kernel
set_option maxRecDepth 20000 in
theorem ggX4_canComeBack_X4_ageOf : GoodIn wsX4_canComeBack wsX4_ageOf := goodIn_r _ [7, 8, 9, 23, 24, 25, 26, 27, 28, 10, 11, 12, 13, 14, 15, 16, 17, 18] (by decide +kernel) (by decide +kernel)
set_option maxRecDepth 20000 in
theorem gX4_canComeBack_X4_ageOf : GoodIn wsX4_canComeBack (wsV RX4 173 RX4 yX4_ageOf wsX4_ageOf) := goodIn_app (goodIn_of _ (by decide +kernel)) ggX4_canComeBack_X4_ageOf
theorem dX4_canComeBack_0 : decode cX4_canComeBack 0 = .ok (.aload_n 1, 1) := by decide +kernel
theorem dX4_canComeBack_1 : decode cX4_canComeBack 1 = .ok (.getfield 96, 3) := by decide +kernel
theorem dX4_canComeBack_4 : decode cX4_canComeBack 4 = .ok (.ifCond .eq 25, 3) := by decide +kernel
theorem dX4_canComeBack_7 : decode cX4_canComeBack 7 = .ok (.aload_n 0, 1) := by decide +kernel
theorem dX4_canComeBack_8 : decode cX4_canComeBack 8 = .ok (.aload_n 1, 1) := by decide +kernel
theorem dX4_canComeBack_9 : decode cX4_canComeBack 9 = .ok (.invokevirtual 173, 3) := by decide +kernel
theorem dX4_canComeBack_12 : decode cX4_canComeBack 12 = .ok (.bipush 60, 2) := by decide +kernel
theorem dX4_canComeBack_14 : decode cX4_canComeBack 14 = .ok (.if_icmp .gt 15, 3) := by decide +kernel
theorem dX4_canComeBack_17 : decode cX4_canComeBack 17 = .ok (.iload_n 3, 1) := by decide +kernel
theorem dX4_canComeBack_18 : decode cX4_canComeBack 18 = .ok (.aload_n 2, 1) := by decide +kernel
theorem dX4_canComeBack_19 : decode cX4_canComeBack 19 = .ok (.getfield 127, 3) := by decide +kernel
theorem dX4_canComeBack_22 : decode cX4_canComeBack 22 = .ok (.if_icmp .gt 7, 3) := by decide +kernel
theorem dX4_canComeBack_25 : decode cX4_canComeBack 25 = .ok (.iconst 1, 1) := by decide +kernel
theorem dX4_canComeBack_26 : decode cX4_canComeBack 26 = .ok (.goto 4, 3) := by decide +kernel
theorem dX4_canComeBack_29 : decode cX4_canComeBack 29 = .ok (.iconst 0, 1) := by decide +kernel
theorem dX4_canComeBack_30 : decode cX4_canComeBack 30 = .ok (.ireturn, 1) := by decide +kernel
set_option maxRecDepth 20000 in
theorem ggX4_isBlocked_X0_scoreOn : GoodIn wsX4_isBlocked wsX0_scoreOn := goodIn_r _ [6, 7, 8, 9, 10, 17, 18, 19, 20] (by decide +kernel) (by decide +kernel)
set_option maxRecDepth 20000 in
theorem gX4_isBlocked_X0_scoreOn : GoodIn wsX4_isBlocked (wsV RX4 221 RX0 yX0_scoreOn wsX0_scoreOn) := goodIn_app (goodIn_of _ (by decide +kernel)) ggX4_isBlocked_X0_scoreOn
theorem dX4_isBlocked_0 : decode cX4_isBlocked 0 = .ok (.aload_n 1, 1) := by decide +kernel
theorem dX4_isBlocked_1 : decode cX4_isBlocked 1 = .ok (.aload_n 0, 1) := by decide +kernel
theorem dX4_isBlocked_2 : decode cX4_isBlocked 2 = .ok (.getfield 57, 3) := by decide +kernel
theorem dX4_isBlocked_5 : decode cX4_isBlocked 5 = .ok (.invokevirtual 221, 3) := by decide +kernel
theorem dX4_isBlocked_8 : decode cX4_isBlocked 8 = .ok (.bipush 100, 2) := by decide +kernel
theorem dX4_isBlocked_10 : decode cX4_isBlocked 10 = .ok (.if_icmp .lt 7, 3) := by decide +kernel
theorem dX4_isBlocked_13 : decode cX4_isBlocked 13 = .ok (.iconst 1, 1) := by decide +kernel
theorem dX4_isBlocked_14 : decode cX4_isBlocked 14 = .ok (.goto 4, 3) := by decide +kernel
theorem dX4_isBlocked_17 : decode cX4_isBlocked 17 = .ok (.iconst 0, 1) := by decide +kernel
theorem dX4_isBlocked_18 : decode cX4_isBlocked 18 = .ok (.ireturn, 1) := by decide +kernel
set_option maxRecDepth 20000 in
theorem ggX4_takeBack_X3_freedBy : GoodIn wsX4_takeBack wsX3_freedBy := goodIn_r _ [10, 11, 12, 13, 14, 15, 16, 17, 18, 19, 9, 20, 21, 22, 23, 24, 25, 26, 27, 28, 29, 30, 31, 32, 33, 34, 81, 82, 83, 84, 85, 86, 87, 88, 89, 90, 91, 92, 93] (by decide +kernel) (by decide +kernel)
set_option maxRecDepth 20000 in
theorem gX4_takeBack_X3_freedBy : GoodIn wsX4_takeBack (wsV RX4 196 RX3 yX3_freedBy wsX3_freedBy) := goodIn_app (goodIn_of _ (by decide +kernel)) ggX4_takeBack_X3_freedBy
set_option maxRecDepth 20000 in
theorem ggX4_takeBack_X2_optionFor : GoodIn wsX4_takeBack wsX2_optionFor := goodIn_r _ [39, 40, 41, 38, 42, 43, 44, 45, 46, 47, 48, 14, 15, 16, 49, 50, 51, 52, 53, 54, 55, 56, 57, 58, 59, 60, 61, 62, 100, 101, 102, 103] (by decide +kernel) (by decide +kernel)
set_option maxRecDepth 20000 in
theorem gX4_takeBack_X2_optionFor : GoodIn wsX4_takeBack (wsV RX4 203 RX2 yX2_optionFor wsX2_optionFor) := goodIn_app (goodIn_of _ (by decide +kernel)) ggX4_takeBack_X2_optionFor
set_option maxRecDepth 20000 in
theorem ggX4_takeBack_X2_move : GoodIn wsX4_takeBack wsX2_move := goodIn_r _ [66, 67, 100, 101, 102, 103] (by decide +kernel) (by decide +kernel)
set_option maxRecDepth 20000 in
theorem gX4_takeBack_X2_move : GoodIn wsX4_takeBack (wsV RX4 217 RX2 yX2_move wsX2_move) := goodIn_app (goodIn_of _ (by decide +kernel)) ggX4_takeBack_X2_move
set_option maxRecDepth 20000 in
theorem ggX4_takeBack_X0_remember : GoodIn wsX4_takeBack wsX0_remember := goodIn_r _ [72, 73, 74, 75, 76, 77, 78, 79, 71, 80, 104, 105, 106, 107] (by decide +kernel) (by decide +kernel)
set_option maxRecDepth 20000 in
theorem gX4_takeBack_X0_remember : GoodIn wsX4_takeBack (wsV RX4 233 RX0 yX0_remember wsX0_remember) := goodIn_app (goodIn_of _ (by decide +kernel)) ggX4_takeBack_X0_remember
theorem dX4_takeBack_0 : decode cX4_takeBack 0 = .ok (.aload_n 1, 1) := by decide +kernel
theorem dX4_takeBack_1 : decode cX4_takeBack 1 = .ok (.aload_n 2, 1) := by decide +kernel
theorem dX4_takeBack_2 : decode cX4_takeBack 2 = .ok (.iload_n 3, 1) := by decide +kernel
theorem dX4_takeBack_3 : decode cX4_takeBack 3 = .ok (.invokevirtual 196, 3) := by decide +kernel
theorem dX4_takeBack_6 : decode cX4_takeBack 6 = .ok (.istore 6, 2) := by decide +kernel
theorem dX4_takeBack_8 : decode cX4_takeBack 8 = .ok (.aload_n 1, 1) := by decide +kernel
theorem dX4_takeBack_9 : decode cX4_takeBack 9 = .ok (.dup, 1) := by decide +kernel
theorem dX4_takeBack_10 : decode cX4_takeBack 10 = .ok (.getfield 200, 3) := by decide +kernel
theorem dX4_takeBack_13 : decode cX4_takeBack 13 = .ok (.iload 6, 2) := by decide +kernel
theorem dX4_takeBack_15 : decode cX4_takeBack 15 = .ok (.iadd, 1) := by decide +kernel
theorem dX4_takeBack_16 : decode cX4_takeBack 16 = .ok (.putfield 200, 3) := by decide +kernel
theorem dX4_takeBack_19 : decode cX4_takeBack 19 = .ok (.aload_n 2, 1) := by decide +kernel
theorem dX4_takeBack_20 : decode cX4_takeBack 20 = .ok (.dup, 1) := by decide +kernel
theorem dX4_takeBack_21 : decode cX4_takeBack 21 = .ok (.getfield 127, 3) := by decide +kernel
theorem dX4_takeBack_24 : decode cX4_takeBack 24 = .ok (.iload_n 3, 1) := by decide +kernel
theorem dX4_takeBack_25 : decode cX4_takeBack 25 = .ok (.isub, 1) := by decide +kernel
theorem dX4_takeBack_26 : decode cX4_takeBack 26 = .ok (.putfield 127, 3) := by decide +kernel
theorem dX4_takeBack_29 : decode cX4_takeBack 29 = .ok (.aload_n 2, 1) := by decide +kernel
theorem dX4_takeBack_30 : decode cX4_takeBack 30 = .ok (.getfield 229, 3) := by decide +kernel
theorem dX4_takeBack_33 : decode cX4_takeBack 33 = .ok (.astore 7, 2) := by decide +kernel
theorem dX4_takeBack_35 : decode cX4_takeBack 35 = .ok (.aload 7, 2) := by decide +kernel
theorem dX4_takeBack_37 : decode cX4_takeBack 37 = .ok (.aload 7, 2) := by decide +kernel
theorem dX4_takeBack_39 : decode cX4_takeBack 39 = .ok (.iload 4, 2) := by decide +kernel
theorem dX4_takeBack_41 : decode cX4_takeBack 41 = .ok (.invokevirtual 203, 3) := by decide +kernel
theorem dX4_takeBack_44 : decode cX4_takeBack 44 = .ok (.iload_n 3, 1) := by decide +kernel
theorem dX4_takeBack_45 : decode cX4_takeBack 45 = .ok (.invokevirtual 217, 3) := by decide +kernel
theorem dX4_takeBack_48 : decode cX4_takeBack 48 = .ok (.aload_n 1, 1) := by decide +kernel
theorem dX4_takeBack_49 : decode cX4_takeBack 49 = .ok (.getfield 159, 3) := by decide +kernel
theorem dX4_takeBack_52 : decode cX4_takeBack 52 = .ok (.aload_n 0, 1) := by decide +kernel
theorem dX4_takeBack_53 : decode cX4_takeBack 53 = .ok (.getfield 57, 3) := by decide +kernel
theorem dX4_takeBack_56 : decode cX4_takeBack 56 = .ok (.iload_n 3, 1) := by decide +kernel
theorem dX4_takeBack_57 : decode cX4_takeBack 57 = .ok (.iload 5, 2) := by decide +kernel
theorem dX4_takeBack_59 : decode cX4_takeBack 59 = .ok (.invokevirtual 233, 3) := by decide +kernel
theorem dX4_takeBack_62 : decode cX4_takeBack 62 = .ok (.iload 6, 2) := by decide +kernel
theorem dX4_takeBack_64 : decode cX4_takeBack 64 = .ok (.ireturn, 1) := by decide +kernel
theorem dX4_isCost_0 : decode cX4_isCost 0 = .ok (.iload_n 0, 1) := by decide +kernel
theorem dX4_isCost_1 : decode cX4_isCost 1 = .ok (.ifCond .lt 13, 3) := by decide +kernel
theorem dX4_isCost_4 : decode cX4_isCost 4 = .ok (.iload_n 0, 1) := by decide +kernel
theorem dX4_isCost_5 : decode cX4_isCost 5 = .ok (.ldc 33, 2) := by decide +kernel
theorem dX4_isCost_7 : decode cX4_isCost 7 = .ok (.if_icmp .gt 7, 3) := by decide +kernel
theorem dX4_isCost_10 : decode cX4_isCost 10 = .ok (.iconst 1, 1) := by decide +kernel
theorem dX4_isCost_11 : decode cX4_isCost 11 = .ok (.goto 4, 3) := by decide +kernel
theorem dX4_isCost_14 : decode cX4_isCost 14 = .ok (.iconst 0, 1) := by decide +kernel
theorem dX4_isCost_15 : decode cX4_isCost 15 = .ok (.ireturn, 1) := by decide +kernel
theorem dX4_isUnits_0 : decode cX4_isUnits 0 = .ok (.iload_n 0, 1) := by decide +kernel
theorem dX4_isUnits_1 : decode cX4_isUnits 1 = .ok (.iconst 1, 1) := by decide +kernel
theorem dX4_isUnits_2 : decode cX4_isUnits 2 = .ok (.if_icmp .lt 13, 3) := by decide +kernel
theorem dX4_isUnits_5 : decode cX4_isUnits 5 = .ok (.iload_n 0, 1) := by decide +kernel
theorem dX4_isUnits_6 : decode cX4_isUnits 6 = .ok (.bipush 20, 2) := by decide +kernel
theorem dX4_isUnits_8 : decode cX4_isUnits 8 = .ok (.if_icmp .gt 7, 3) := by decide +kernel
theorem dX4_isUnits_11 : decode cX4_isUnits 11 = .ok (.iconst 1, 1) := by decide +kernel
theorem dX4_isUnits_12 : decode cX4_isUnits 12 = .ok (.goto 4, 3) := by decide +kernel
theorem dX4_isUnits_15 : decode cX4_isUnits 15 = .ok (.iconst 0, 1) := by decide +kernel
theorem dX4_isUnits_16 : decode cX4_isUnits 16 = .ok (.ireturn, 1) := by decide +kernel
theorem dX4_isCondition_0 : decode cX4_isCondition 0 = .ok (.iload_n 0, 1) := by decide +kernel
theorem dX4_isCondition_1 : decode cX4_isCondition 1 = .ok (.ifCond .lt 12, 3) := by decide +kernel
theorem dX4_isCondition_4 : decode cX4_isCondition 4 = .ok (.iload_n 0, 1) := by decide +kernel
theorem dX4_isCondition_5 : decode cX4_isCondition 5 = .ok (.iconst 4, 1) := by decide +kernel
theorem dX4_isCondition_6 : decode cX4_isCondition 6 = .ok (.if_icmp .ge 7, 3) := by decide +kernel
theorem dX4_isCondition_9 : decode cX4_isCondition 9 = .ok (.iconst 1, 1) := by decide +kernel
theorem dX4_isCondition_10 : decode cX4_isCondition 10 = .ok (.goto 4, 3) := by decide +kernel
theorem dX4_isCondition_13 : decode cX4_isCondition 13 = .ok (.iconst 0, 1) := by decide +kernel
theorem dX4_isCondition_14 : decode cX4_isCondition 14 = .ok (.ireturn, 1) := by decide +kernel
theorem dX4_discountPercent_0 : decode cX4_discountPercent 0 = .ok (.iload_n 0, 1) := by decide +kernel
theorem dX4_discountPercent_1 : decode cX4_discountPercent 1 = .ok (.sipush 5000, 3) := by decide +kernel
theorem dX4_discountPercent_4 : decode cX4_discountPercent 4 = .ok (.if_icmp .ge 5, 3) := by decide +kernel
theorem dX4_discountPercent_7 : decode cX4_discountPercent 7 = .ok (.iconst 0, 1) := by decide +kernel
theorem dX4_discountPercent_8 : decode cX4_discountPercent 8 = .ok (.ireturn, 1) := by decide +kernel
theorem dX4_discountPercent_9 : decode cX4_discountPercent 9 = .ok (.iload_n 0, 1) := by decide +kernel
theorem dX4_discountPercent_10 : decode cX4_discountPercent 10 = .ok (.sipush 10000, 3) := by decide +kernel
theorem dX4_discountPercent_13 : decode cX4_discountPercent 13 = .ok (.if_icmp .ge 5, 3) := by decide +kernel
theorem dX4_discountPercent_16 : decode cX4_discountPercent 16 = .ok (.iconst 5, 1) := by decide +kernel
theorem dX4_discountPercent_17 : decode cX4_discountPercent 17 = .ok (.ireturn, 1) := by decide +kernel
theorem dX4_discountPercent_18 : decode cX4_discountPercent 18 = .ok (.iload_n 0, 1) := by decide +kernel
theorem dX4_discountPercent_19 : decode cX4_discountPercent 19 = .ok (.sipush 20000, 3) := by decide +kernel
theorem dX4_discountPercent_22 : decode cX4_discountPercent 22 = .ok (.if_icmp .ge 8, 3) := by decide +kernel
theorem dX4_discountPercent_25 : decode cX4_discountPercent 25 = .ok (.bipush 10, 2) := by decide +kernel
theorem dX4_discountPercent_27 : decode cX4_discountPercent 27 = .ok (.goto 5, 3) := by decide +kernel
theorem dX4_discountPercent_30 : decode cX4_discountPercent 30 = .ok (.bipush 15, 2) := by decide +kernel
theorem dX4_discountPercent_32 : decode cX4_discountPercent 32 = .ok (.ireturn, 1) := by decide +kernel
set_option maxRecDepth 20000 in
theorem ggX4_netOf_X4_discountPercent : GoodIn wsX4_netOf wsX4_discountPercent := goodIn_r _ [4] (by decide +kernel) (by decide +kernel)
set_option maxRecDepth 20000 in
theorem gX4_netOf_X4_discountPercent : GoodIn wsX4_netOf (va_wsS RX4 237 yX4_discountPercent wsX4_discountPercent) := goodIn_app (goodIn_of _ (by decide +kernel)) ggX4_netOf_X4_discountPercent
theorem dX4_netOf_0 : decode cX4_netOf 0 = .ok (.iload_n 0, 1) := by decide +kernel
theorem dX4_netOf_1 : decode cX4_netOf 1 = .ok (.iload_n 0, 1) := by decide +kernel
theorem dX4_netOf_2 : decode cX4_netOf 2 = .ok (.iload_n 0, 1) := by decide +kernel
theorem dX4_netOf_3 : decode cX4_netOf 3 = .ok (.invokestatic 237, 3) := by decide +kernel
theorem dX4_netOf_6 : decode cX4_netOf 6 = .ok (.imul, 1) := by decide +kernel
theorem dX4_netOf_7 : decode cX4_netOf 7 = .ok (.bipush 100, 2) := by decide +kernel
theorem dX4_netOf_9 : decode cX4_netOf 9 = .ok (.idiv, 1) := by decide +kernel
theorem dX4_netOf_10 : decode cX4_netOf 10 = .ok (.isub, 1) := by decide +kernel
theorem dX4_netOf_11 : decode cX4_netOf 11 = .ok (.ireturn, 1) := by decide +kernel
theorem dX4_feeOn_0 : decode cX4_feeOn 0 = .ok (.iload_n 2, 1) := by decide +kernel
theorem dX4_feeOn_1 : decode cX4_feeOn 1 = .ok (.iconst 3, 1) := by decide +kernel
theorem dX4_feeOn_2 : decode cX4_feeOn 2 = .ok (.if_icmp .eq 9, 3) := by decide +kernel
theorem dX4_feeOn_5 : decode cX4_feeOn 5 = .ok (.iload_n 1, 1) := by decide +kernel
theorem dX4_feeOn_6 : decode cX4_feeOn 6 = .ok (.bipush 14, 2) := by decide +kernel
theorem dX4_feeOn_8 : decode cX4_feeOn 8 = .ok (.if_icmp .gt 5, 3) := by decide +kernel
theorem dX4_feeOn_11 : decode cX4_feeOn 11 = .ok (.iconst 0, 1) := by decide +kernel
theorem dX4_feeOn_12 : decode cX4_feeOn 12 = .ok (.ireturn, 1) := by decide +kernel
theorem dX4_feeOn_13 : decode cX4_feeOn 13 = .ok (.iload_n 0, 1) := by decide +kernel
theorem dX4_feeOn_14 : decode cX4_feeOn 14 = .ok (.iload_n 1, 1) := by decide +kernel
theorem dX4_feeOn_15 : decode cX4_feeOn 15 = .ok (.bipush 30, 2) := by decide +kernel
theorem dX4_feeOn_17 : decode cX4_feeOn 17 = .ok (.if_icmp .gt 8, 3) := by decide +kernel
theorem dX4_feeOn_20 : decode cX4_feeOn 20 = .ok (.bipush 15, 2) := by decide +kernel
theorem dX4_feeOn_22 : decode cX4_feeOn 22 = .ok (.goto 5, 3) := by decide +kernel
theorem dX4_feeOn_25 : decode cX4_feeOn 25 = .ok (.bipush 50, 2) := by decide +kernel
theorem dX4_feeOn_27 : decode cX4_feeOn 27 = .ok (.imul, 1) := by decide +kernel
theorem dX4_feeOn_28 : decode cX4_feeOn 28 = .ok (.bipush 100, 2) := by decide +kernel
theorem dX4_feeOn_30 : decode cX4_feeOn 30 = .ok (.idiv, 1) := by decide +kernel
theorem dX4_feeOn_31 : decode cX4_feeOn 31 = .ok (.ireturn, 1) := by decide +kernel
theorem dX5_init_0 : decode cX5_init 0 = .ok (.aload_n 0, 1) := by decide +kernel
theorem dX5_init_1 : decode cX5_init 1 = .ok (.invokespecial 1, 3) := by decide +kernel
theorem dX5_init_4 : decode cX5_init 4 = .ok (.aload_n 0, 1) := by decide +kernel
theorem dX5_init_5 : decode cX5_init 5 = .ok (.bipush 10, 2) := by decide +kernel
theorem dX5_init_7 : decode cX5_init 7 = .ok (.newarray .int, 2) := by decide +kernel
theorem dX5_init_9 : decode cX5_init 9 = .ok (.putfield 7, 3) := by decide +kernel
theorem dX5_init_12 : decode cX5_init 12 = .ok (.aload_n 0, 1) := by decide +kernel
theorem dX5_init_13 : decode cX5_init 13 = .ok (.bipush 10, 2) := by decide +kernel
theorem dX5_init_15 : decode cX5_init 15 = .ok (.newarray .int, 2) := by decide +kernel
theorem dX5_init_17 : decode cX5_init 17 = .ok (.putfield 13, 3) := by decide +kernel
theorem dX5_init_20 : decode cX5_init 20 = .ok (.aload_n 0, 1) := by decide +kernel
theorem dX5_init_21 : decode cX5_init 21 = .ok (.bipush 10, 2) := by decide +kernel
theorem dX5_init_23 : decode cX5_init 23 = .ok (.newarray .int, 2) := by decide +kernel
theorem dX5_init_25 : decode cX5_init 25 = .ok (.putfield 16, 3) := by decide +kernel
theorem dX5_init_28 : decode cX5_init 28 = .ok (.aload_n 0, 1) := by decide +kernel
theorem dX5_init_29 : decode cX5_init 29 = .ok (.bipush 50, 2) := by decide +kernel
theorem dX5_init_31 : decode cX5_init 31 = .ok (.newarray .int, 2) := by decide +kernel
theorem dX5_init_33 : decode cX5_init 33 = .ok (.putfield 19, 3) := by decide +kernel
theorem dX5_init_36 : decode cX5_init 36 = .ok (.aload_n 0, 1) := by decide +kernel
theorem dX5_init_37 : decode cX5_init 37 = .ok (.bipush 40, 2) := by decide +kernel
theorem dX5_init_39 : decode cX5_init 39 = .ok (.newarray .int, 2) := by decide +kernel
theorem dX5_init_41 : decode cX5_init 41 = .ok (.putfield 22, 3) := by decide +kernel
theorem dX5_init_44 : decode cX5_init 44 = .ok (.aload_n 0, 1) := by decide +kernel
theorem dX5_init_45 : decode cX5_init 45 = .ok (.bipush 40, 2) := by decide +kernel
theorem dX5_init_47 : decode cX5_init 47 = .ok (.newarray .int, 2) := by decide +kernel
theorem dX5_init_49 : decode cX5_init 49 = .ok (.putfield 25, 3) := by decide +kernel
theorem dX5_init_52 : decode cX5_init 52 = .ok (.aload_n 0, 1) := by decide +kernel
theorem dX5_init_53 : decode cX5_init 53 = .ok (.bipush 40, 2) := by decide +kernel
theorem dX5_init_55 : decode cX5_init 55 = .ok (.newarray .int, 2) := by decide +kernel
theorem dX5_init_57 : decode cX5_init 57 = .ok (.putfield 28, 3) := by decide +kernel
theorem dX5_init_60 : decode cX5_init 60 = .ok (.aload_n 0, 1) := by decide +kernel
theorem dX5_init_61 : decode cX5_init 61 = .ok (.bipush 40, 2) := by decide +kernel
theorem dX5_init_63 : decode cX5_init 63 = .ok (.newarray .int, 2) := by decide +kernel
theorem dX5_init_65 : decode cX5_init 65 = .ok (.putfield 31, 3) := by decide +kernel
theorem dX5_init_68 : decode cX5_init 68 = .ok (.aload_n 0, 1) := by decide +kernel
theorem dX5_init_69 : decode cX5_init 69 = .ok (.bipush 40, 2) := by decide +kernel
theorem dX5_init_71 : decode cX5_init 71 = .ok (.newarray .int, 2) := by decide +kernel
theorem dX5_init_73 : decode cX5_init 73 = .ok (.putfield 34, 3) := by decide +kernel
theorem dX5_init_76 : decode cX5_init 76 = .ok (.aload_n 0, 1) := by decide +kernel
theorem dX5_init_77 : decode cX5_init 77 = .ok (.bipush 40, 2) := by decide +kernel
theorem dX5_init_79 : decode cX5_init 79 = .ok (.newarray .int, 2) := by decide +kernel
theorem dX5_init_81 : decode cX5_init 81 = .ok (.putfield 37, 3) := by decide +kernel
theorem dX5_init_84 : decode cX5_init 84 = .ok (.aload_n 0, 1) := by decide +kernel
theorem dX5_init_85 : decode cX5_init 85 = .ok (.bipush 40, 2) := by decide +kernel
theorem dX5_init_87 : decode cX5_init 87 = .ok (.newarray .int, 2) := by decide +kernel
theorem dX5_init_89 : decode cX5_init 89 = .ok (.putfield 40, 3) := by decide +kernel
theorem dX5_init_92 : decode cX5_init 92 = .ok (.aload_n 0, 1) := by decide +kernel
theorem dX5_init_93 : decode cX5_init 93 = .ok (.sipush 240, 3) := by decide +kernel
theorem dX5_init_96 : decode cX5_init 96 = .ok (.newarray .int, 2) := by decide +kernel
theorem dX5_init_98 : decode cX5_init 98 = .ok (.putfield 43, 3) := by decide +kernel
theorem dX5_init_101 : decode cX5_init 101 = .ok (.aload_n 0, 1) := by decide +kernel
theorem dX5_init_102 : decode cX5_init 102 = .ok (.sipush 240, 3) := by decide +kernel
theorem dX5_init_105 : decode cX5_init 105 = .ok (.newarray .int, 2) := by decide +kernel
theorem dX5_init_107 : decode cX5_init 107 = .ok (.putfield 46, 3) := by decide +kernel
theorem dX5_init_110 : decode cX5_init 110 = .ok (.aload_n 0, 1) := by decide +kernel
theorem dX5_init_111 : decode cX5_init 111 = .ok (.sipush 240, 3) := by decide +kernel
theorem dX5_init_114 : decode cX5_init 114 = .ok (.newarray .int, 2) := by decide +kernel
theorem dX5_init_116 : decode cX5_init 116 = .ok (.putfield 49, 3) := by decide +kernel
theorem dX5_init_119 : decode cX5_init 119 = .ok (.aload_n 0, 1) := by decide +kernel
theorem dX5_init_120 : decode cX5_init 120 = .ok (.sipush 4800, 3) := by decide +kernel
theorem dX5_init_123 : decode cX5_init 123 = .ok (.newarray .int, 2) := by decide +kernel
theorem dX5_init_125 : decode cX5_init 125 = .ok (.putfield 52, 3) := by decide +kernel
theorem dX5_init_128 : decode cX5_init 128 = .ok (.aload_n 0, 1) := by decide +kernel
theorem dX5_init_129 : decode cX5_init 129 = .ok (.sipush 4800, 3) := by decide +kernel
theorem dX5_init_132 : decode cX5_init 132 = .ok (.newarray .int, 2) := by decide +kernel
theorem dX5_init_134 : decode cX5_init 134 = .ok (.putfield 55, 3) := by decide +kernel
theorem dX5_init_137 : decode cX5_init 137 = .ok (.aload_n 0, 1) := by decide +kernel
theorem dX5_init_138 : decode cX5_init 138 = .ok (.sipush 4800, 3) := by decide +kernel
theorem dX5_init_141 : decode cX5_init 141 = .ok (.newarray .int, 2) := by decide +kernel
theorem dX5_init_143 : decode cX5_init 143 = .ok (.putfield 58, 3) := by decide +kernel
theorem dX5_init_146 : decode cX5_init 146 = .ok (.aload_n 0, 1) := by decide +kernel
theorem dX5_init_147 : decode cX5_init 147 = .ok (.sipush 4800, 3) := by decide +kernel
theorem dX5_init_150 : decode cX5_init 150 = .ok (.newarray .boolean, 2) := by decide +kernel
theorem dX5_init_152 : decode cX5_init 152 = .ok (.putfield 61, 3) := by decide +kernel
theorem dX5_init_155 : decode cX5_init 155 = .ok (.aload_n 0, 1) := by decide +kernel
theorem dX5_init_156 : decode cX5_init 156 = .ok (.bipush 6, 2) := by decide +kernel
theorem dX5_init_158 : decode cX5_init 158 = .ok (.newarray .long, 2) := by decide +kernel
theorem dX5_init_160 : decode cX5_init 160 = .ok (.putfield 65, 3) := by decide +kernel
theorem dX5_init_163 : decode cX5_init 163 = .ok (.aload_n 0, 1) := by decide +kernel
theorem dX5_init_164 : decode cX5_init 164 = .ok (.bipush 6, 2) := by decide +kernel
theorem dX5_init_166 : decode cX5_init 166 = .ok (.newarray .int, 2) := by decide +kernel
theorem dX5_init_168 : decode cX5_init 168 = .ok (.putfield 69, 3) := by decide +kernel
theorem dX5_init_171 : decode cX5_init 171 = .ok (.iconst 0, 1) := by decide +kernel
theorem dX5_init_172 : decode cX5_init 172 = .ok (.istore_n 1, 1) := by decide +kernel
theorem dX5_init_173 : decode cX5_init 173 = .ok (.iload_n 1, 1) := by decide +kernel
theorem dX5_init_174 : decode cX5_init 174 = .ok (.bipush 10, 2) := by decide +kernel
theorem dX5_init_176 : decode cX5_init 176 = .ok (.if_icmp .ge 36, 3) := by decide +kernel
theorem dX5_init_179 : decode cX5_init 179 = .ok (.aload_n 0, 1) := by decide +kernel
theorem dX5_init_180 : decode cX5_init 180 = .ok (.getfield 7, 3) := by decide +kernel
theorem dX5_init_183 : decode cX5_init 183 = .ok (.iload_n 1, 1) := by decide +kernel
theorem dX5_init_184 : decode cX5_init 184 = .ok (.sipush 1000, 3) := by decide +kernel
theorem dX5_init_187 : decode cX5_init 187 = .ok (.iastore, 1) := by decide +kernel
theorem dX5_init_188 : decode cX5_init 188 = .ok (.aload_n 0, 1) := by decide +kernel
theorem dX5_init_189 : decode cX5_init 189 = .ok (.getfield 13, 3) := by decide +kernel
theorem dX5_init_192 : decode cX5_init 192 = .ok (.iload_n 1, 1) := by decide +kernel
theorem dX5_init_193 : decode cX5_init 193 = .ok (.sipush 200, 3) := by decide +kernel
theorem dX5_init_196 : decode cX5_init 196 = .ok (.iastore, 1) := by decide +kernel
theorem dX5_init_197 : decode cX5_init 197 = .ok (.aload_n 0, 1) := by decide +kernel
theorem dX5_init_198 : decode cX5_init 198 = .ok (.getfield 16, 3) := by decide +kernel
theorem dX5_init_201 : decode cX5_init 201 = .ok (.iload_n 1, 1) := by decide +kernel
theorem dX5_init_202 : decode cX5_init 202 = .ok (.sipush 300, 3) := by decide +kernel
theorem dX5_init_205 : decode cX5_init 205 = .ok (.iastore, 1) := by decide +kernel
theorem dX5_init_206 : decode cX5_init 206 = .ok (.iinc 1 1, 3) := by decide +kernel
theorem dX5_init_209 : decode cX5_init 209 = .ok (.goto (-36), 3) := by decide +kernel
theorem dX5_init_212 : decode cX5_init 212 = .ok (.return_, 1) := by decide +kernel
theorem dX5_thrown_0 : decode cX5_thrown 0 = .ok (.aload_n 0, 1) := by decide +kernel
theorem dX5_thrown_1 : decode cX5_thrown 1 = .ok (.getfield 72, 3) := by decide +kernel
theorem dX5_thrown_4 : decode cX5_thrown 4 = .ok (.ireturn, 1) := by decide +kernel
theorem dX5_goes_0 : decode cX5_goes 0 = .ok (.aload_n 0, 1) := by decide +kernel
theorem dX5_goes_1 : decode cX5_goes 1 = .ok (.iload_n 1, 1) := by decide +kernel
theorem dX5_goes_2 : decode cX5_goes 2 = .ok (.putfield 72, 3) := by decide +kernel
theorem dX5_goes_5 : decode cX5_goes 5 = .ok (.iload_n 1, 1) := by decide +kernel
theorem dX5_goes_6 : decode cX5_goes 6 = .ok (.ifCond .ne 7, 3) := by decide +kernel
theorem dX5_goes_9 : decode cX5_goes 9 = .ok (.iconst 1, 1) := by decide +kernel
theorem dX5_goes_10 : decode cX5_goes 10 = .ok (.goto 4, 3) := by decide +kernel
theorem dX5_goes_13 : decode cX5_goes 13 = .ok (.iconst 0, 1) := by decide +kernel
theorem dX5_goes_14 : decode cX5_goes 14 = .ok (.ireturn, 1) := by decide +kernel
theorem dX5_isIn_0 : decode cX5_isIn 0 = .ok (.iload_n 0, 1) := by decide +kernel
theorem dX5_isIn_1 : decode cX5_isIn 1 = .ok (.iload_n 1, 1) := by decide +kernel
theorem dX5_isIn_2 : decode cX5_isIn 2 = .ok (.if_icmp .lt 12, 3) := by decide +kernel
theorem dX5_isIn_5 : decode cX5_isIn 5 = .ok (.iload_n 0, 1) := by decide +kernel
theorem dX5_isIn_6 : decode cX5_isIn 6 = .ok (.iload_n 2, 1) := by decide +kernel
theorem dX5_isIn_7 : decode cX5_isIn 7 = .ok (.if_icmp .gt 7, 3) := by decide +kernel
theorem dX5_isIn_10 : decode cX5_isIn 10 = .ok (.iconst 1, 1) := by decide +kernel
theorem dX5_isIn_11 : decode cX5_isIn 11 = .ok (.goto 4, 3) := by decide +kernel
theorem dX5_isIn_14 : decode cX5_isIn 14 = .ok (.iconst 0, 1) := by decide +kernel
theorem dX5_isIn_15 : decode cX5_isIn 15 = .ok (.ireturn, 1) := by decide +kernel
set_option maxRecDepth 20000 in
theorem ggX5_isTen_X5_isIn : GoodIn wsX5_isTen wsX5_isIn := goodIn_r _ [4] (by decide +kernel) (by decide +kernel)
set_option maxRecDepth 20000 in
theorem gX5_isTen_X5_isIn : GoodIn wsX5_isTen (va_wsS RX5 76 yX5_isIn wsX5_isIn) := goodIn_app (goodIn_of _ (by decide +kernel)) ggX5_isTen_X5_isIn
theorem dX5_isTen_0 : decode cX5_isTen 0 = .ok (.iload_n 0, 1) := by decide +kernel
theorem dX5_isTen_1 : decode cX5_isTen 1 = .ok (.iconst 0, 1) := by decide +kernel
theorem dX5_isTen_2 : decode cX5_isTen 2 = .ok (.bipush 9, 2) := by decide +kernel
theorem dX5_isTen_4 : decode cX5_isTen 4 = .ok (.invokestatic 76, 3) := by decide +kernel
theorem dX5_isTen_7 : decode cX5_isTen 7 = .ok (.ireturn, 1) := by decide +kernel
set_option maxRecDepth 20000 in
theorem ggX5_isSale_X5_isIn : GoodIn wsX5_isSale wsX5_isIn := goodIn_r _ [5] (by decide +kernel) (by decide +kernel)
set_option maxRecDepth 20000 in
theorem gX5_isSale_X5_isIn : GoodIn wsX5_isSale (va_wsS RX5 76 yX5_isIn wsX5_isIn) := goodIn_app (goodIn_of _ (by decide +kernel)) ggX5_isSale_X5_isIn
theorem dX5_isSale_0 : decode cX5_isSale 0 = .ok (.iload_n 1, 1) := by decide +kernel
theorem dX5_isSale_1 : decode cX5_isSale 1 = .ok (.iconst 0, 1) := by decide +kernel
theorem dX5_isSale_2 : decode cX5_isSale 2 = .ok (.aload_n 0, 1) := by decide +kernel
theorem dX5_isSale_3 : decode cX5_isSale 3 = .ok (.getfield 80, 3) := by decide +kernel
theorem dX5_isSale_6 : decode cX5_isSale 6 = .ok (.iconst 1, 1) := by decide +kernel
theorem dX5_isSale_7 : decode cX5_isSale 7 = .ok (.isub, 1) := by decide +kernel
theorem dX5_isSale_8 : decode cX5_isSale 8 = .ok (.invokestatic 76, 3) := by decide +kernel
theorem dX5_isSale_11 : decode cX5_isSale 11 = .ok (.ireturn, 1) := by decide +kernel
set_option maxRecDepth 20000 in
theorem ggX5_isLine_X5_isSale : GoodIn wsX5_isLine wsX5_isSale := goodIn_r _ [6, 7, 8, 9, 5, 10, 11, 12, 13, 14, 15, 16, 17, 18, 19, 20, 21, 22, 23, 24, 25, 26, 27, 28, 29, 30, 31, 32, 33, 34, 35] (by decide +kernel) (by decide +kernel)
set_option maxRecDepth 20000 in
theorem gX5_isLine_X5_isSale : GoodIn wsX5_isLine (wsV RX5 83 RX5 yX5_isSale wsX5_isSale) := goodIn_app (goodIn_of _ (by decide +kernel)) ggX5_isLine_X5_isSale
set_option maxRecDepth 20000 in
theorem ggX5_isLine_X5_isIn : GoodIn wsX5_isLine wsX5_isIn := goodIn_r _ [10] (by decide +kernel) (by decide +kernel)
set_option maxRecDepth 20000 in
theorem gX5_isLine_X5_isIn : GoodIn wsX5_isLine (va_wsS RX5 76 yX5_isIn wsX5_isIn) := goodIn_app (goodIn_of _ (by decide +kernel)) ggX5_isLine_X5_isIn
theorem dX5_isLine_0 : decode cX5_isLine 0 = .ok (.aload_n 0, 1) := by decide +kernel
theorem dX5_isLine_1 : decode cX5_isLine 1 = .ok (.iload_n 1, 1) := by decide +kernel
theorem dX5_isLine_2 : decode cX5_isLine 2 = .ok (.invokevirtual 83, 3) := by decide +kernel
theorem dX5_isLine_5 : decode cX5_isLine 5 = .ok (.ifCond .eq 23, 3) := by decide +kernel
theorem dX5_isLine_8 : decode cX5_isLine 8 = .ok (.iload_n 2, 1) := by decide +kernel
theorem dX5_isLine_9 : decode cX5_isLine 9 = .ok (.iconst 0, 1) := by decide +kernel
theorem dX5_isLine_10 : decode cX5_isLine 10 = .ok (.aload_n 0, 1) := by decide +kernel
theorem dX5_isLine_11 : decode cX5_isLine 11 = .ok (.getfield 25, 3) := by decide +kernel
theorem dX5_isLine_14 : decode cX5_isLine 14 = .ok (.iload_n 1, 1) := by decide +kernel
theorem dX5_isLine_15 : decode cX5_isLine 15 = .ok (.iaload, 1) := by decide +kernel
theorem dX5_isLine_16 : decode cX5_isLine 16 = .ok (.iconst 1, 1) := by decide +kernel
theorem dX5_isLine_17 : decode cX5_isLine 17 = .ok (.isub, 1) := by decide +kernel
theorem dX5_isLine_18 : decode cX5_isLine 18 = .ok (.invokestatic 76, 3) := by decide +kernel
theorem dX5_isLine_21 : decode cX5_isLine 21 = .ok (.ifCond .eq 7, 3) := by decide +kernel
theorem dX5_isLine_24 : decode cX5_isLine 24 = .ok (.iconst 1, 1) := by decide +kernel
theorem dX5_isLine_25 : decode cX5_isLine 25 = .ok (.goto 4, 3) := by decide +kernel
theorem dX5_isLine_28 : decode cX5_isLine 28 = .ok (.iconst 0, 1) := by decide +kernel
theorem dX5_isLine_29 : decode cX5_isLine 29 = .ok (.ireturn, 1) := by decide +kernel
theorem dX5_isOpen_0 : decode cX5_isOpen 0 = .ok (.aload_n 0, 1) := by decide +kernel
theorem dX5_isOpen_1 : decode cX5_isOpen 1 = .ok (.getfield 28, 3) := by decide +kernel
theorem dX5_isOpen_4 : decode cX5_isOpen 4 = .ok (.iload_n 1, 1) := by decide +kernel
theorem dX5_isOpen_5 : decode cX5_isOpen 5 = .ok (.iaload, 1) := by decide +kernel
theorem dX5_isOpen_6 : decode cX5_isOpen 6 = .ok (.iconst (-1), 1) := by decide +kernel
theorem dX5_isOpen_7 : decode cX5_isOpen 7 = .ok (.if_icmp .ne 7, 3) := by decide +kernel
theorem dX5_isOpen_10 : decode cX5_isOpen 10 = .ok (.iconst 1, 1) := by decide +kernel
theorem dX5_isOpen_11 : decode cX5_isOpen 11 = .ok (.goto 4, 3) := by decide +kernel
theorem dX5_isOpen_14 : decode cX5_isOpen 14 = .ok (.iconst 0, 1) := by decide +kernel
theorem dX5_isOpen_15 : decode cX5_isOpen 15 = .ok (.ireturn, 1) := by decide +kernel
set_option maxRecDepth 20000 in
theorem ggX5_setProduct_X5_isTen : GoodIn wsX5_setProduct wsX5_isTen := goodIn_r _ [8, 9, 10, 7, 11] (by decide +kernel) (by decide +kernel)
set_option maxRecDepth 20000 in
theorem gX5_setProduct_X5_isTen : GoodIn wsX5_setProduct (va_wsS RX5 87 yX5_isTen wsX5_isTen) := goodIn_app (goodIn_of _ (by decide +kernel)) ggX5_setProduct_X5_isTen
set_option maxRecDepth 20000 in
theorem ggX5_setProduct_X5_isIn : GoodIn wsX5_setProduct wsX5_isIn := goodIn_r _ [11] (by decide +kernel) (by decide +kernel)
set_option maxRecDepth 20000 in
theorem gX5_setProduct_X5_isIn : GoodIn wsX5_setProduct (va_wsS RX5 76 yX5_isIn wsX5_isIn) := goodIn_app (goodIn_of _ (by decide +kernel)) ggX5_setProduct_X5_isIn
set_option maxRecDepth 20000 in
theorem ggX5_setProduct_X5_goes : GoodIn wsX5_setProduct wsX5_goes := goodIn_r _ [15, 16, 17, 18, 19, 20, 21, 22, 23, 24, 25, 26, 27, 28, 29, 30, 31, 32, 33, 34, 35, 36, 37, 38, 39, 40, 41] (by decide +kernel) (by decide +kernel)
set_option maxRecDepth 20000 in
theorem gX5_setProduct_X5_goes : GoodIn wsX5_setProduct (wsV RX5 91 RX5 yX5_goes wsX5_goes) := goodIn_app (goodIn_of _ (by decide +kernel)) ggX5_setProduct_X5_goes
theorem dX5_setProduct_0 : decode cX5_setProduct 0 = .ok (.aload_n 0, 1) := by decide +kernel
theorem dX5_setProduct_1 : decode cX5_setProduct 1 = .ok (.iload_n 1, 1) := by decide +kernel
theorem dX5_setProduct_2 : decode cX5_setProduct 2 = .ok (.invokestatic 87, 3) := by decide +kernel
theorem dX5_setProduct_5 : decode cX5_setProduct 5 = .ok (.ifCond .eq 38, 3) := by decide +kernel
theorem dX5_setProduct_8 : decode cX5_setProduct 8 = .ok (.iload_n 2, 1) := by decide +kernel
theorem dX5_setProduct_9 : decode cX5_setProduct 9 = .ok (.iconst 1, 1) := by decide +kernel
theorem dX5_setProduct_10 : decode cX5_setProduct 10 = .ok (.ldc 90, 2) := by decide +kernel
theorem dX5_setProduct_12 : decode cX5_setProduct 12 = .ok (.invokestatic 76, 3) := by decide +kernel
theorem dX5_setProduct_15 : decode cX5_setProduct 15 = .ok (.ifCond .eq 28, 3) := by decide +kernel
theorem dX5_setProduct_18 : decode cX5_setProduct 18 = .ok (.iload_n 3, 1) := by decide +kernel
theorem dX5_setProduct_19 : decode cX5_setProduct 19 = .ok (.iconst 0, 1) := by decide +kernel
theorem dX5_setProduct_20 : decode cX5_setProduct 20 = .ok (.ldc 90, 2) := by decide +kernel
theorem dX5_setProduct_22 : decode cX5_setProduct 22 = .ok (.invokestatic 76, 3) := by decide +kernel
theorem dX5_setProduct_25 : decode cX5_setProduct 25 = .ok (.ifCond .eq 18, 3) := by decide +kernel
theorem dX5_setProduct_28 : decode cX5_setProduct 28 = .ok (.iload 4, 2) := by decide +kernel
theorem dX5_setProduct_30 : decode cX5_setProduct 30 = .ok (.iconst 0, 1) := by decide +kernel
theorem dX5_setProduct_31 : decode cX5_setProduct 31 = .ok (.ldc 90, 2) := by decide +kernel
theorem dX5_setProduct_33 : decode cX5_setProduct 33 = .ok (.invokestatic 76, 3) := by decide +kernel
theorem dX5_setProduct_36 : decode cX5_setProduct 36 = .ok (.ifCond .eq 7, 3) := by decide +kernel
theorem dX5_setProduct_39 : decode cX5_setProduct 39 = .ok (.iconst 0, 1) := by decide +kernel
theorem dX5_setProduct_40 : decode cX5_setProduct 40 = .ok (.goto 4, 3) := by decide +kernel
theorem dX5_setProduct_43 : decode cX5_setProduct 43 = .ok (.iconst 1, 1) := by decide +kernel
theorem dX5_setProduct_44 : decode cX5_setProduct 44 = .ok (.invokevirtual 91, 3) := by decide +kernel
theorem dX5_setProduct_47 : decode cX5_setProduct 47 = .ok (.ifCond .ne 5, 3) := by decide +kernel
theorem dX5_setProduct_50 : decode cX5_setProduct 50 = .ok (.iconst 0, 1) := by decide +kernel
theorem dX5_setProduct_51 : decode cX5_setProduct 51 = .ok (.ireturn, 1) := by decide +kernel
theorem dX5_setProduct_52 : decode cX5_setProduct 52 = .ok (.aload_n 0, 1) := by decide +kernel
theorem dX5_setProduct_53 : decode cX5_setProduct 53 = .ok (.getfield 7, 3) := by decide +kernel
theorem dX5_setProduct_56 : decode cX5_setProduct 56 = .ok (.iload_n 1, 1) := by decide +kernel
theorem dX5_setProduct_57 : decode cX5_setProduct 57 = .ok (.iaload, 1) := by decide +kernel
theorem dX5_setProduct_58 : decode cX5_setProduct 58 = .ok (.istore 5, 2) := by decide +kernel
theorem dX5_setProduct_60 : decode cX5_setProduct 60 = .ok (.aload_n 0, 1) := by decide +kernel
theorem dX5_setProduct_61 : decode cX5_setProduct 61 = .ok (.getfield 7, 3) := by decide +kernel
theorem dX5_setProduct_64 : decode cX5_setProduct 64 = .ok (.iload_n 1, 1) := by decide +kernel
theorem dX5_setProduct_65 : decode cX5_setProduct 65 = .ok (.iload_n 2, 1) := by decide +kernel
theorem dX5_setProduct_66 : decode cX5_setProduct 66 = .ok (.iastore, 1) := by decide +kernel
theorem dX5_setProduct_67 : decode cX5_setProduct 67 = .ok (.aload_n 0, 1) := by decide +kernel
theorem dX5_setProduct_68 : decode cX5_setProduct 68 = .ok (.getfield 13, 3) := by decide +kernel
theorem dX5_setProduct_71 : decode cX5_setProduct 71 = .ok (.iload_n 1, 1) := by decide +kernel
theorem dX5_setProduct_72 : decode cX5_setProduct 72 = .ok (.iload_n 3, 1) := by decide +kernel
theorem dX5_setProduct_73 : decode cX5_setProduct 73 = .ok (.iastore, 1) := by decide +kernel
theorem dX5_setProduct_74 : decode cX5_setProduct 74 = .ok (.aload_n 0, 1) := by decide +kernel
theorem dX5_setProduct_75 : decode cX5_setProduct 75 = .ok (.getfield 16, 3) := by decide +kernel
theorem dX5_setProduct_78 : decode cX5_setProduct 78 = .ok (.iload_n 1, 1) := by decide +kernel
theorem dX5_setProduct_79 : decode cX5_setProduct 79 = .ok (.iload 4, 2) := by decide +kernel
theorem dX5_setProduct_81 : decode cX5_setProduct 81 = .ok (.iastore, 1) := by decide +kernel
theorem dX5_setProduct_82 : decode cX5_setProduct 82 = .ok (.iload 5, 2) := by decide +kernel
theorem dX5_setProduct_84 : decode cX5_setProduct 84 = .ok (.ireturn, 1) := by decide +kernel
set_option maxRecDepth 20000 in
theorem ggX5_pass_X5_isIn : GoodIn wsX5_pass wsX5_isIn := goodIn_r _ [6] (by decide +kernel) (by decide +kernel)
set_option maxRecDepth 20000 in
theorem gX5_pass_X5_isIn : GoodIn wsX5_pass (va_wsS RX5 76 yX5_isIn wsX5_isIn) := goodIn_app (goodIn_of _ (by decide +kernel)) ggX5_pass_X5_isIn
set_option maxRecDepth 20000 in
theorem ggX5_pass_X5_goes : GoodIn wsX5_pass wsX5_goes := goodIn_r _ [10, 11, 12, 13, 14, 15, 16, 17, 18, 19, 20, 21, 22, 23, 24, 25, 26, 27, 28, 29, 30, 31, 32, 33, 34, 35, 36] (by decide +kernel) (by decide +kernel)
set_option maxRecDepth 20000 in
theorem gX5_pass_X5_goes : GoodIn wsX5_pass (wsV RX5 91 RX5 yX5_goes wsX5_goes) := goodIn_app (goodIn_of _ (by decide +kernel)) ggX5_pass_X5_goes
theorem dX5_pass_0 : decode cX5_pass 0 = .ok (.aload_n 0, 1) := by decide +kernel
theorem dX5_pass_1 : decode cX5_pass 1 = .ok (.iload_n 1, 1) := by decide +kernel
theorem dX5_pass_2 : decode cX5_pass 2 = .ok (.iconst 1, 1) := by decide +kernel
theorem dX5_pass_3 : decode cX5_pass 3 = .ok (.sipush 365, 3) := by decide +kernel
theorem dX5_pass_6 : decode cX5_pass 6 = .ok (.invokestatic 76, 3) := by decide +kernel
theorem dX5_pass_9 : decode cX5_pass 9 = .ok (.ifCond .ne 7, 3) := by decide +kernel
theorem dX5_pass_12 : decode cX5_pass 12 = .ok (.iconst 1, 1) := by decide +kernel
theorem dX5_pass_13 : decode cX5_pass 13 = .ok (.goto 19, 3) := by decide +kernel
theorem dX5_pass_16 : decode cX5_pass 16 = .ok (.aload_n 0, 1) := by decide +kernel
theorem dX5_pass_17 : decode cX5_pass 17 = .ok (.getfield 94, 3) := by decide +kernel
theorem dX5_pass_20 : decode cX5_pass 20 = .ok (.iload_n 1, 1) := by decide +kernel
theorem dX5_pass_21 : decode cX5_pass 21 = .ok (.iadd, 1) := by decide +kernel
theorem dX5_pass_22 : decode cX5_pass 22 = .ok (.ldc 90, 2) := by decide +kernel
theorem dX5_pass_24 : decode cX5_pass 24 = .ok (.if_icmp .le 7, 3) := by decide +kernel
theorem dX5_pass_27 : decode cX5_pass 27 = .ok (.iconst 2, 1) := by decide +kernel
theorem dX5_pass_28 : decode cX5_pass 28 = .ok (.goto 4, 3) := by decide +kernel
theorem dX5_pass_31 : decode cX5_pass 31 = .ok (.iconst 0, 1) := by decide +kernel
theorem dX5_pass_32 : decode cX5_pass 32 = .ok (.invokevirtual 91, 3) := by decide +kernel
theorem dX5_pass_35 : decode cX5_pass 35 = .ok (.ifCond .ne 5, 3) := by decide +kernel
theorem dX5_pass_38 : decode cX5_pass 38 = .ok (.iconst 0, 1) := by decide +kernel
theorem dX5_pass_39 : decode cX5_pass 39 = .ok (.ireturn, 1) := by decide +kernel
theorem dX5_pass_40 : decode cX5_pass 40 = .ok (.aload_n 0, 1) := by decide +kernel
theorem dX5_pass_41 : decode cX5_pass 41 = .ok (.dup, 1) := by decide +kernel
theorem dX5_pass_42 : decode cX5_pass 42 = .ok (.getfield 94, 3) := by decide +kernel
theorem dX5_pass_45 : decode cX5_pass 45 = .ok (.iload_n 1, 1) := by decide +kernel
theorem dX5_pass_46 : decode cX5_pass 46 = .ok (.iadd, 1) := by decide +kernel
theorem dX5_pass_47 : decode cX5_pass 47 = .ok (.putfield 94, 3) := by decide +kernel
theorem dX5_pass_50 : decode cX5_pass 50 = .ok (.aload_n 0, 1) := by decide +kernel
theorem dX5_pass_51 : decode cX5_pass 51 = .ok (.getfield 94, 3) := by decide +kernel
theorem dX5_pass_54 : decode cX5_pass 54 = .ok (.ireturn, 1) := by decide +kernel
theorem dX5_opens_0 : decode cX5_opens 0 = .ok (.aload_n 0, 1) := by decide +kernel
theorem dX5_opens_1 : decode cX5_opens 1 = .ok (.getfield 22, 3) := by decide +kernel
theorem dX5_opens_4 : decode cX5_opens 4 = .ok (.aload_n 0, 1) := by decide +kernel
theorem dX5_opens_5 : decode cX5_opens 5 = .ok (.getfield 80, 3) := by decide +kernel
theorem dX5_opens_8 : decode cX5_opens 8 = .ok (.iload_n 1, 1) := by decide +kernel
theorem dX5_opens_9 : decode cX5_opens 9 = .ok (.iastore, 1) := by decide +kernel
theorem dX5_opens_10 : decode cX5_opens 10 = .ok (.aload_n 0, 1) := by decide +kernel
theorem dX5_opens_11 : decode cX5_opens 11 = .ok (.getfield 25, 3) := by decide +kernel
theorem dX5_opens_14 : decode cX5_opens 14 = .ok (.aload_n 0, 1) := by decide +kernel
theorem dX5_opens_15 : decode cX5_opens 15 = .ok (.getfield 80, 3) := by decide +kernel
theorem dX5_opens_18 : decode cX5_opens 18 = .ok (.iconst 0, 1) := by decide +kernel
theorem dX5_opens_19 : decode cX5_opens 19 = .ok (.iastore, 1) := by decide +kernel
theorem dX5_opens_20 : decode cX5_opens 20 = .ok (.aload_n 0, 1) := by decide +kernel
theorem dX5_opens_21 : decode cX5_opens 21 = .ok (.getfield 28, 3) := by decide +kernel
theorem dX5_opens_24 : decode cX5_opens 24 = .ok (.aload_n 0, 1) := by decide +kernel
theorem dX5_opens_25 : decode cX5_opens 25 = .ok (.getfield 80, 3) := by decide +kernel
theorem dX5_opens_28 : decode cX5_opens 28 = .ok (.iconst (-1), 1) := by decide +kernel
theorem dX5_opens_29 : decode cX5_opens 29 = .ok (.iastore, 1) := by decide +kernel
theorem dX5_opens_30 : decode cX5_opens 30 = .ok (.aload_n 0, 1) := by decide +kernel
theorem dX5_opens_31 : decode cX5_opens 31 = .ok (.getfield 31, 3) := by decide +kernel
theorem dX5_opens_34 : decode cX5_opens 34 = .ok (.aload_n 0, 1) := by decide +kernel
theorem dX5_opens_35 : decode cX5_opens 35 = .ok (.getfield 80, 3) := by decide +kernel
theorem dX5_opens_38 : decode cX5_opens 38 = .ok (.iconst 0, 1) := by decide +kernel
theorem dX5_opens_39 : decode cX5_opens 39 = .ok (.iastore, 1) := by decide +kernel
theorem dX5_opens_40 : decode cX5_opens 40 = .ok (.aload_n 0, 1) := by decide +kernel
theorem dX5_opens_41 : decode cX5_opens 41 = .ok (.getfield 34, 3) := by decide +kernel
theorem dX5_opens_44 : decode cX5_opens 44 = .ok (.aload_n 0, 1) := by decide +kernel
theorem dX5_opens_45 : decode cX5_opens 45 = .ok (.getfield 80, 3) := by decide +kernel
theorem dX5_opens_48 : decode cX5_opens 48 = .ok (.iconst 0, 1) := by decide +kernel
theorem dX5_opens_49 : decode cX5_opens 49 = .ok (.iastore, 1) := by decide +kernel
theorem dX5_opens_50 : decode cX5_opens 50 = .ok (.aload_n 0, 1) := by decide +kernel
theorem dX5_opens_51 : decode cX5_opens 51 = .ok (.getfield 37, 3) := by decide +kernel
theorem dX5_opens_54 : decode cX5_opens 54 = .ok (.aload_n 0, 1) := by decide +kernel
theorem dX5_opens_55 : decode cX5_opens 55 = .ok (.getfield 80, 3) := by decide +kernel
theorem dX5_opens_58 : decode cX5_opens 58 = .ok (.aload_n 0, 1) := by decide +kernel
theorem dX5_opens_59 : decode cX5_opens 59 = .ok (.getfield 80, 3) := by decide +kernel
theorem dX5_opens_62 : decode cX5_opens 62 = .ok (.iastore, 1) := by decide +kernel
theorem dX5_opens_63 : decode cX5_opens 63 = .ok (.aload_n 0, 1) := by decide +kernel
theorem dX5_opens_64 : decode cX5_opens 64 = .ok (.getfield 40, 3) := by decide +kernel
theorem dX5_opens_67 : decode cX5_opens 67 = .ok (.aload_n 0, 1) := by decide +kernel
theorem dX5_opens_68 : decode cX5_opens 68 = .ok (.getfield 80, 3) := by decide +kernel
theorem dX5_opens_71 : decode cX5_opens 71 = .ok (.iconst 0, 1) := by decide +kernel
theorem dX5_opens_72 : decode cX5_opens 72 = .ok (.iastore, 1) := by decide +kernel
theorem dX5_opens_73 : decode cX5_opens 73 = .ok (.aload_n 0, 1) := by decide +kernel
theorem dX5_opens_74 : decode cX5_opens 74 = .ok (.dup, 1) := by decide +kernel
theorem dX5_opens_75 : decode cX5_opens 75 = .ok (.getfield 80, 3) := by decide +kernel
theorem dX5_opens_78 : decode cX5_opens 78 = .ok (.iconst 1, 1) := by decide +kernel
theorem dX5_opens_79 : decode cX5_opens 79 = .ok (.iadd, 1) := by decide +kernel
theorem dX5_opens_80 : decode cX5_opens 80 = .ok (.putfield 80, 3) := by decide +kernel
theorem dX5_opens_83 : decode cX5_opens 83 = .ok (.aload_n 0, 1) := by decide +kernel
theorem dX5_opens_84 : decode cX5_opens 84 = .ok (.getfield 80, 3) := by decide +kernel
theorem dX5_opens_87 : decode cX5_opens 87 = .ok (.iconst 1, 1) := by decide +kernel
theorem dX5_opens_88 : decode cX5_opens 88 = .ok (.isub, 1) := by decide +kernel
theorem dX5_opens_89 : decode cX5_opens 89 = .ok (.ireturn, 1) := by decide +kernel
theorem dX5_adds_0 : decode cX5_adds 0 = .ok (.bipush 6, 2) := by decide +kernel
theorem dX5_adds_2 : decode cX5_adds 2 = .ok (.iload_n 1, 1) := by decide +kernel
theorem dX5_adds_3 : decode cX5_adds 3 = .ok (.imul, 1) := by decide +kernel
theorem dX5_adds_4 : decode cX5_adds 4 = .ok (.aload_n 0, 1) := by decide +kernel
theorem dX5_adds_5 : decode cX5_adds 5 = .ok (.getfield 25, 3) := by decide +kernel
theorem dX5_adds_8 : decode cX5_adds 8 = .ok (.iload_n 1, 1) := by decide +kernel
theorem dX5_adds_9 : decode cX5_adds 9 = .ok (.iaload, 1) := by decide +kernel
theorem dX5_adds_10 : decode cX5_adds 10 = .ok (.iadd, 1) := by decide +kernel
theorem dX5_adds_11 : decode cX5_adds 11 = .ok (.istore 4, 2) := by decide +kernel
theorem dX5_adds_13 : decode cX5_adds 13 = .ok (.aload_n 0, 1) := by decide +kernel
theorem dX5_adds_14 : decode cX5_adds 14 = .ok (.getfield 43, 3) := by decide +kernel
theorem dX5_adds_17 : decode cX5_adds 17 = .ok (.iload 4, 2) := by decide +kernel
theorem dX5_adds_19 : decode cX5_adds 19 = .ok (.iload_n 2, 1) := by decide +kernel
theorem dX5_adds_20 : decode cX5_adds 20 = .ok (.iastore, 1) := by decide +kernel
theorem dX5_adds_21 : decode cX5_adds 21 = .ok (.aload_n 0, 1) := by decide +kernel
theorem dX5_adds_22 : decode cX5_adds 22 = .ok (.getfield 46, 3) := by decide +kernel
theorem dX5_adds_25 : decode cX5_adds 25 = .ok (.iload 4, 2) := by decide +kernel
theorem dX5_adds_27 : decode cX5_adds 27 = .ok (.aload_n 0, 1) := by decide +kernel
theorem dX5_adds_28 : decode cX5_adds 28 = .ok (.getfield 7, 3) := by decide +kernel
theorem dX5_adds_31 : decode cX5_adds 31 = .ok (.iload_n 2, 1) := by decide +kernel
theorem dX5_adds_32 : decode cX5_adds 32 = .ok (.iaload, 1) := by decide +kernel
theorem dX5_adds_33 : decode cX5_adds 33 = .ok (.iastore, 1) := by decide +kernel
theorem dX5_adds_34 : decode cX5_adds 34 = .ok (.aload_n 0, 1) := by decide +kernel
theorem dX5_adds_35 : decode cX5_adds 35 = .ok (.getfield 49, 3) := by decide +kernel
theorem dX5_adds_38 : decode cX5_adds 38 = .ok (.iload 4, 2) := by decide +kernel
theorem dX5_adds_40 : decode cX5_adds 40 = .ok (.iload_n 3, 1) := by decide +kernel
theorem dX5_adds_41 : decode cX5_adds 41 = .ok (.iastore, 1) := by decide +kernel
theorem dX5_adds_42 : decode cX5_adds 42 = .ok (.aload_n 0, 1) := by decide +kernel
theorem dX5_adds_43 : decode cX5_adds 43 = .ok (.getfield 25, 3) := by decide +kernel
theorem dX5_adds_46 : decode cX5_adds 46 = .ok (.iload_n 1, 1) := by decide +kernel
theorem dX5_adds_47 : decode cX5_adds 47 = .ok (.dup2, 1) := by decide +kernel
theorem dX5_adds_48 : decode cX5_adds 48 = .ok (.iaload, 1) := by decide +kernel
theorem dX5_adds_49 : decode cX5_adds 49 = .ok (.iconst 1, 1) := by decide +kernel
theorem dX5_adds_50 : decode cX5_adds 50 = .ok (.iadd, 1) := by decide +kernel
theorem dX5_adds_51 : decode cX5_adds 51 = .ok (.iastore, 1) := by decide +kernel
theorem dX5_adds_52 : decode cX5_adds 52 = .ok (.aload_n 0, 1) := by decide +kernel
theorem dX5_adds_53 : decode cX5_adds 53 = .ok (.getfield 25, 3) := by decide +kernel
theorem dX5_adds_56 : decode cX5_adds 56 = .ok (.iload_n 1, 1) := by decide +kernel
theorem dX5_adds_57 : decode cX5_adds 57 = .ok (.iaload, 1) := by decide +kernel
theorem dX5_adds_58 : decode cX5_adds 58 = .ok (.iconst 1, 1) := by decide +kernel
theorem dX5_adds_59 : decode cX5_adds 59 = .ok (.isub, 1) := by decide +kernel
theorem dX5_adds_60 : decode cX5_adds 60 = .ok (.ireturn, 1) := by decide +kernel
set_option maxRecDepth 20000 in
theorem ggX5_pays_X5_goods : GoodIn wsX5_pays wsX5_goods := goodIn_r _ [8, 9, 10, 11, 12, 7, 13, 14, 15, 23, 24, 25, 26, 27, 28, 29, 30, 31, 32, 33, 34, 35, 36, 37, 38, 39, 40, 41, 42, 43, 44, 45, 46, 47] (by decide +kernel) (by decide +kernel)
set_option maxRecDepth 20000 in
theorem gX5_pays_X5_goods : GoodIn wsX5_pays (wsV RX5 97 RX5 yX5_goods wsX5_goods) := goodIn_app (goodIn_of _ (by decide +kernel)) ggX5_pays_X5_goods
set_option maxRecDepth 20000 in
theorem ggX5_pays_X5_net : GoodIn wsX5_pays wsX5_net := goodIn_r _ [18, 19, 20, 21, 22] (by decide +kernel) (by decide +kernel)
set_option maxRecDepth 20000 in
theorem gX5_pays_X5_net : GoodIn wsX5_pays (va_wsS RX5 101 yX5_net wsX5_net) := goodIn_app (goodIn_of _ (by decide +kernel)) ggX5_pays_X5_net
theorem dX5_pays_0 : decode cX5_pays 0 = .ok (.aload_n 0, 1) := by decide +kernel
theorem dX5_pays_1 : decode cX5_pays 1 = .ok (.getfield 28, 3) := by decide +kernel
theorem dX5_pays_4 : decode cX5_pays 4 = .ok (.iload_n 1, 1) := by decide +kernel
theorem dX5_pays_5 : decode cX5_pays 5 = .ok (.aload_n 0, 1) := by decide +kernel
theorem dX5_pays_6 : decode cX5_pays 6 = .ok (.getfield 94, 3) := by decide +kernel
theorem dX5_pays_9 : decode cX5_pays 9 = .ok (.iastore, 1) := by decide +kernel
theorem dX5_pays_10 : decode cX5_pays 10 = .ok (.aload_n 0, 1) := by decide +kernel
theorem dX5_pays_11 : decode cX5_pays 11 = .ok (.getfield 31, 3) := by decide +kernel
theorem dX5_pays_14 : decode cX5_pays 14 = .ok (.iload_n 1, 1) := by decide +kernel
theorem dX5_pays_15 : decode cX5_pays 15 = .ok (.aload_n 0, 1) := by decide +kernel
theorem dX5_pays_16 : decode cX5_pays 16 = .ok (.iload_n 1, 1) := by decide +kernel
theorem dX5_pays_17 : decode cX5_pays 17 = .ok (.invokevirtual 97, 3) := by decide +kernel
theorem dX5_pays_20 : decode cX5_pays 20 = .ok (.invokestatic 101, 3) := by decide +kernel
theorem dX5_pays_23 : decode cX5_pays 23 = .ok (.iastore, 1) := by decide +kernel
theorem dX5_pays_24 : decode cX5_pays 24 = .ok (.aload_n 0, 1) := by decide +kernel
theorem dX5_pays_25 : decode cX5_pays 25 = .ok (.getfield 31, 3) := by decide +kernel
theorem dX5_pays_28 : decode cX5_pays 28 = .ok (.iload_n 1, 1) := by decide +kernel
theorem dX5_pays_29 : decode cX5_pays 29 = .ok (.iaload, 1) := by decide +kernel
theorem dX5_pays_30 : decode cX5_pays 30 = .ok (.ireturn, 1) := by decide +kernel
set_option maxRecDepth 20000 in
theorem ggX5_open_X5_isTen : GoodIn wsX5_open wsX5_isTen := goodIn_r _ [5, 6, 7, 4, 8] (by decide +kernel) (by decide +kernel)
set_option maxRecDepth 20000 in
theorem gX5_open_X5_isTen : GoodIn wsX5_open (va_wsS RX5 87 yX5_isTen wsX5_isTen) := goodIn_app (goodIn_of _ (by decide +kernel)) ggX5_open_X5_isTen
set_option maxRecDepth 20000 in
theorem ggX5_open_X5_goes : GoodIn wsX5_open wsX5_goes := goodIn_r _ [12, 13, 25, 26, 27, 28, 29, 30, 31, 32, 33, 34, 35, 36, 37, 38, 39, 40, 41, 42, 43, 44, 45, 46, 47, 48, 49] (by decide +kernel) (by decide +kernel)
set_option maxRecDepth 20000 in
theorem gX5_open_X5_goes : GoodIn wsX5_open (wsV RX5 91 RX5 yX5_goes wsX5_goes) := goodIn_app (goodIn_of _ (by decide +kernel)) ggX5_open_X5_goes
set_option maxRecDepth 20000 in
theorem ggX5_open_X5_opens : GoodIn wsX5_open wsX5_opens := goodIn_r _ [17, 18, 1, 19, 20, 21, 22, 23, 24, 25, 26, 27, 28, 29, 30, 31, 32, 33, 34, 35, 36, 37, 38, 39, 40, 41, 42, 43, 44, 45, 46, 47, 48, 49] (by decide +kernel) (by decide +kernel)
set_option maxRecDepth 20000 in
theorem gX5_open_X5_opens : GoodIn wsX5_open (wsV RX5 104 RX5 yX5_opens wsX5_opens) := goodIn_app (goodIn_of _ (by decide +kernel)) ggX5_open_X5_opens
theorem dX5_open_0 : decode cX5_open 0 = .ok (.aload_n 0, 1) := by decide +kernel
theorem dX5_open_1 : decode cX5_open 1 = .ok (.iload_n 1, 1) := by decide +kernel
theorem dX5_open_2 : decode cX5_open 2 = .ok (.invokestatic 87, 3) := by decide +kernel
theorem dX5_open_5 : decode cX5_open 5 = .ok (.ifCond .ne 7, 3) := by decide +kernel
theorem dX5_open_8 : decode cX5_open 8 = .ok (.iconst 1, 1) := by decide +kernel
theorem dX5_open_9 : decode cX5_open 9 = .ok (.goto 17, 3) := by decide +kernel
theorem dX5_open_12 : decode cX5_open 12 = .ok (.aload_n 0, 1) := by decide +kernel
theorem dX5_open_13 : decode cX5_open 13 = .ok (.getfield 80, 3) := by decide +kernel
theorem dX5_open_16 : decode cX5_open 16 = .ok (.bipush 40, 2) := by decide +kernel
theorem dX5_open_18 : decode cX5_open 18 = .ok (.if_icmp .ne 7, 3) := by decide +kernel
theorem dX5_open_21 : decode cX5_open 21 = .ok (.iconst 2, 1) := by decide +kernel
theorem dX5_open_22 : decode cX5_open 22 = .ok (.goto 4, 3) := by decide +kernel
theorem dX5_open_25 : decode cX5_open 25 = .ok (.iconst 0, 1) := by decide +kernel
theorem dX5_open_26 : decode cX5_open 26 = .ok (.invokevirtual 91, 3) := by decide +kernel
theorem dX5_open_29 : decode cX5_open 29 = .ok (.ifCond .eq 11, 3) := by decide +kernel
theorem dX5_open_32 : decode cX5_open 32 = .ok (.aload_n 0, 1) := by decide +kernel
theorem dX5_open_33 : decode cX5_open 33 = .ok (.iload_n 1, 1) := by decide +kernel
theorem dX5_open_34 : decode cX5_open 34 = .ok (.invokevirtual 104, 3) := by decide +kernel
theorem dX5_open_37 : decode cX5_open 37 = .ok (.goto 4, 3) := by decide +kernel
theorem dX5_open_40 : decode cX5_open 40 = .ok (.iconst 0, 1) := by decide +kernel
theorem dX5_open_41 : decode cX5_open 41 = .ok (.ireturn, 1) := by decide +kernel
set_option maxRecDepth 20000 in
theorem ggX5_add_X5_isSale : GoodIn wsX5_add wsX5_isSale := goodIn_r _ [6, 7, 8, 9, 5, 10, 32, 33, 34, 35, 36, 37, 38, 39, 40, 41, 42, 43, 44, 45, 46, 47, 48, 49, 50, 51, 52, 53, 54, 55, 56] (by decide +kernel) (by decide +kernel)
set_option maxRecDepth 20000 in
theorem gX5_add_X5_isSale : GoodIn wsX5_add (wsV RX5 83 RX5 yX5_isSale wsX5_isSale) := goodIn_app (goodIn_of _ (by decide +kernel)) ggX5_add_X5_isSale
set_option maxRecDepth 20000 in
theorem ggX5_add_X5_isTen : GoodIn wsX5_add wsX5_isTen := goodIn_r _ [13, 8, 9, 5, 10] (by decide +kernel) (by decide +kernel)
set_option maxRecDepth 20000 in
theorem gX5_add_X5_isTen : GoodIn wsX5_add (va_wsS RX5 87 yX5_isTen wsX5_isTen) := goodIn_app (goodIn_of _ (by decide +kernel)) ggX5_add_X5_isTen
set_option maxRecDepth 20000 in
theorem ggX5_add_X5_isIn : GoodIn wsX5_add wsX5_isIn := goodIn_r _ [10] (by decide +kernel) (by decide +kernel)
set_option maxRecDepth 20000 in
theorem gX5_add_X5_isIn : GoodIn wsX5_add (va_wsS RX5 76 yX5_isIn wsX5_isIn) := goodIn_app (goodIn_of _ (by decide +kernel)) ggX5_add_X5_isIn
set_option maxRecDepth 20000 in
theorem ggX5_add_X5_isOpen : GoodIn wsX5_add wsX5_isOpen := goodIn_r _ [17, 18, 32, 33, 34, 35, 36, 37, 38, 39, 40, 41, 42, 43, 44, 45, 46, 47, 48, 49, 50, 51, 52, 53, 54, 55, 56] (by decide +kernel) (by decide +kernel)
set_option maxRecDepth 20000 in
theorem gX5_add_X5_isOpen : GoodIn wsX5_add (wsV RX5 107 RX5 yX5_isOpen wsX5_isOpen) := goodIn_app (goodIn_of _ (by decide +kernel)) ggX5_add_X5_isOpen
set_option maxRecDepth 20000 in
theorem ggX5_add_X5_goes : GoodIn wsX5_add wsX5_goes := goodIn_r _ [22, 23, 32, 33, 34, 35, 36, 37, 38, 39, 40, 41, 42, 43, 44, 45, 46, 47, 48, 49, 50, 51, 52, 53, 54, 55, 56] (by decide +kernel) (by decide +kernel)
set_option maxRecDepth 20000 in
theorem gX5_add_X5_goes : GoodIn wsX5_add (wsV RX5 91 RX5 yX5_goes wsX5_goes) := goodIn_app (goodIn_of _ (by decide +kernel)) ggX5_add_X5_goes
set_option maxRecDepth 20000 in
theorem ggX5_add_X5_adds : GoodIn wsX5_add wsX5_adds := goodIn_r _ [27, 1, 28, 29, 30, 31, 32, 33, 34, 35, 36, 37, 38, 39, 40, 41, 42, 43, 44, 45, 46, 47, 48, 49, 50, 51, 52, 53, 54, 55, 56] (by decide +kernel) (by decide +kernel)
set_option maxRecDepth 20000 in
theorem gX5_add_X5_adds : GoodIn wsX5_add (wsV RX5 110 RX5 yX5_adds wsX5_adds) := goodIn_app (goodIn_of _ (by decide +kernel)) ggX5_add_X5_adds
theorem dX5_add_0 : decode cX5_add 0 = .ok (.aload_n 0, 1) := by decide +kernel
theorem dX5_add_1 : decode cX5_add 1 = .ok (.iload_n 1, 1) := by decide +kernel
theorem dX5_add_2 : decode cX5_add 2 = .ok (.invokevirtual 83, 3) := by decide +kernel
theorem dX5_add_5 : decode cX5_add 5 = .ok (.ifCond .ne 7, 3) := by decide +kernel
theorem dX5_add_8 : decode cX5_add 8 = .ok (.iconst 1, 1) := by decide +kernel
theorem dX5_add_9 : decode cX5_add 9 = .ok (.goto 48, 3) := by decide +kernel
theorem dX5_add_12 : decode cX5_add 12 = .ok (.iload_n 2, 1) := by decide +kernel
theorem dX5_add_13 : decode cX5_add 13 = .ok (.invokestatic 87, 3) := by decide +kernel
theorem dX5_add_16 : decode cX5_add 16 = .ok (.ifCond .eq 13, 3) := by decide +kernel
theorem dX5_add_19 : decode cX5_add 19 = .ok (.iload_n 3, 1) := by decide +kernel
theorem dX5_add_20 : decode cX5_add 20 = .ok (.iconst 1, 1) := by decide +kernel
theorem dX5_add_21 : decode cX5_add 21 = .ok (.bipush 20, 2) := by decide +kernel
theorem dX5_add_23 : decode cX5_add 23 = .ok (.invokestatic 76, 3) := by decide +kernel
theorem dX5_add_26 : decode cX5_add 26 = .ok (.ifCond .ne 7, 3) := by decide +kernel
theorem dX5_add_29 : decode cX5_add 29 = .ok (.iconst 2, 1) := by decide +kernel
theorem dX5_add_30 : decode cX5_add 30 = .ok (.goto 27, 3) := by decide +kernel
theorem dX5_add_33 : decode cX5_add 33 = .ok (.aload_n 0, 1) := by decide +kernel
theorem dX5_add_34 : decode cX5_add 34 = .ok (.iload_n 1, 1) := by decide +kernel
theorem dX5_add_35 : decode cX5_add 35 = .ok (.invokevirtual 107, 3) := by decide +kernel
theorem dX5_add_38 : decode cX5_add 38 = .ok (.ifCond .eq 14, 3) := by decide +kernel
theorem dX5_add_41 : decode cX5_add 41 = .ok (.aload_n 0, 1) := by decide +kernel
theorem dX5_add_42 : decode cX5_add 42 = .ok (.getfield 25, 3) := by decide +kernel
theorem dX5_add_45 : decode cX5_add 45 = .ok (.iload_n 1, 1) := by decide +kernel
theorem dX5_add_46 : decode cX5_add 46 = .ok (.iaload, 1) := by decide +kernel
theorem dX5_add_47 : decode cX5_add 47 = .ok (.bipush 6, 2) := by decide +kernel
theorem dX5_add_49 : decode cX5_add 49 = .ok (.if_icmp .ne 7, 3) := by decide +kernel
theorem dX5_add_52 : decode cX5_add 52 = .ok (.iconst 3, 1) := by decide +kernel
theorem dX5_add_53 : decode cX5_add 53 = .ok (.goto 4, 3) := by decide +kernel
theorem dX5_add_56 : decode cX5_add 56 = .ok (.iconst 0, 1) := by decide +kernel
theorem dX5_add_57 : decode cX5_add 57 = .ok (.istore 4, 2) := by decide +kernel
theorem dX5_add_59 : decode cX5_add 59 = .ok (.aload_n 0, 1) := by decide +kernel
theorem dX5_add_60 : decode cX5_add 60 = .ok (.iload 4, 2) := by decide +kernel
theorem dX5_add_62 : decode cX5_add 62 = .ok (.invokevirtual 91, 3) := by decide +kernel
theorem dX5_add_65 : decode cX5_add 65 = .ok (.ifCond .eq 13, 3) := by decide +kernel
theorem dX5_add_68 : decode cX5_add 68 = .ok (.aload_n 0, 1) := by decide +kernel
theorem dX5_add_69 : decode cX5_add 69 = .ok (.iload_n 1, 1) := by decide +kernel
theorem dX5_add_70 : decode cX5_add 70 = .ok (.iload_n 2, 1) := by decide +kernel
theorem dX5_add_71 : decode cX5_add 71 = .ok (.iload_n 3, 1) := by decide +kernel
theorem dX5_add_72 : decode cX5_add 72 = .ok (.invokevirtual 110, 3) := by decide +kernel
theorem dX5_add_75 : decode cX5_add 75 = .ok (.goto 4, 3) := by decide +kernel
theorem dX5_add_78 : decode cX5_add 78 = .ok (.iconst 0, 1) := by decide +kernel
theorem dX5_add_79 : decode cX5_add 79 = .ok (.ireturn, 1) := by decide +kernel
set_option maxRecDepth 20000 in
theorem ggX5_pay_X5_isSale : GoodIn wsX5_pay wsX5_isSale := goodIn_r _ [6, 7, 8, 9, 5, 10, 44, 45, 46, 47, 48, 49, 50, 51, 52, 53, 54, 55, 56, 57, 58, 59, 60, 61, 62, 63, 64, 65, 66, 67, 68] (by decide +kernel) (by decide +kernel)
set_option maxRecDepth 20000 in
theorem gX5_pay_X5_isSale : GoodIn wsX5_pay (wsV RX5 83 RX5 yX5_isSale wsX5_isSale) := goodIn_app (goodIn_of _ (by decide +kernel)) ggX5_pay_X5_isSale
set_option maxRecDepth 20000 in
theorem ggX5_pay_X5_isOpen : GoodIn wsX5_pay wsX5_isOpen := goodIn_r _ [14, 15, 44, 45, 46, 47, 48, 49, 50, 51, 52, 53, 54, 55, 56, 57, 58, 59, 60, 61, 62, 63, 64, 65, 66, 67, 68] (by decide +kernel) (by decide +kernel)
set_option maxRecDepth 20000 in
theorem gX5_pay_X5_isOpen : GoodIn wsX5_pay (wsV RX5 107 RX5 yX5_isOpen wsX5_isOpen) := goodIn_app (goodIn_of _ (by decide +kernel)) ggX5_pay_X5_isOpen
set_option maxRecDepth 20000 in
theorem ggX5_pay_X5_goes : GoodIn wsX5_pay wsX5_goes := goodIn_r _ [19, 20, 44, 45, 46, 47, 48, 49, 50, 51, 52, 53, 54, 55, 56, 57, 58, 59, 60, 61, 62, 63, 64, 65, 66, 67, 68] (by decide +kernel) (by decide +kernel)
set_option maxRecDepth 20000 in
theorem gX5_pay_X5_goes : GoodIn wsX5_pay (wsV RX5 91 RX5 yX5_goes wsX5_goes) := goodIn_app (goodIn_of _ (by decide +kernel)) ggX5_pay_X5_goes
set_option maxRecDepth 20000 in
theorem ggX5_pay_X5_pays : GoodIn wsX5_pay wsX5_pays := goodIn_r _ [24, 15, 25, 26, 27, 28, 29, 5, 30, 1, 31, 32, 33, 34, 35, 36, 37, 38, 39, 40, 41, 42, 43, 44, 45, 46, 47, 48, 49, 50, 51, 52, 53, 54, 55, 56, 57, 58, 59, 60, 61, 62, 63, 64, 65, 66, 67, 68] (by decide +kernel) (by decide +kernel)
set_option maxRecDepth 20000 in
theorem gX5_pay_X5_pays : GoodIn wsX5_pay (wsV RX5 114 RX5 yX5_pays wsX5_pays) := goodIn_app (goodIn_of _ (by decide +kernel)) ggX5_pay_X5_pays
theorem dX5_pay_0 : decode cX5_pay 0 = .ok (.aload_n 0, 1) := by decide +kernel
theorem dX5_pay_1 : decode cX5_pay 1 = .ok (.aload_n 0, 1) := by decide +kernel
theorem dX5_pay_2 : decode cX5_pay 2 = .ok (.iload_n 1, 1) := by decide +kernel
theorem dX5_pay_3 : decode cX5_pay 3 = .ok (.invokevirtual 83, 3) := by decide +kernel
theorem dX5_pay_6 : decode cX5_pay 6 = .ok (.ifCond .ne 7, 3) := by decide +kernel
theorem dX5_pay_9 : decode cX5_pay 9 = .ok (.iconst 1, 1) := by decide +kernel
theorem dX5_pay_10 : decode cX5_pay 10 = .ok (.goto 25, 3) := by decide +kernel
theorem dX5_pay_13 : decode cX5_pay 13 = .ok (.aload_n 0, 1) := by decide +kernel
theorem dX5_pay_14 : decode cX5_pay 14 = .ok (.iload_n 1, 1) := by decide +kernel
theorem dX5_pay_15 : decode cX5_pay 15 = .ok (.invokevirtual 107, 3) := by decide +kernel
theorem dX5_pay_18 : decode cX5_pay 18 = .ok (.ifCond .eq 12, 3) := by decide +kernel
theorem dX5_pay_21 : decode cX5_pay 21 = .ok (.aload_n 0, 1) := by decide +kernel
theorem dX5_pay_22 : decode cX5_pay 22 = .ok (.getfield 25, 3) := by decide +kernel
theorem dX5_pay_25 : decode cX5_pay 25 = .ok (.iload_n 1, 1) := by decide +kernel
theorem dX5_pay_26 : decode cX5_pay 26 = .ok (.iaload, 1) := by decide +kernel
theorem dX5_pay_27 : decode cX5_pay 27 = .ok (.ifCond .ne 7, 3) := by decide +kernel
theorem dX5_pay_30 : decode cX5_pay 30 = .ok (.iconst 2, 1) := by decide +kernel
theorem dX5_pay_31 : decode cX5_pay 31 = .ok (.goto 4, 3) := by decide +kernel
theorem dX5_pay_34 : decode cX5_pay 34 = .ok (.iconst 0, 1) := by decide +kernel
theorem dX5_pay_35 : decode cX5_pay 35 = .ok (.invokevirtual 91, 3) := by decide +kernel
theorem dX5_pay_38 : decode cX5_pay 38 = .ok (.ifCond .eq 11, 3) := by decide +kernel
theorem dX5_pay_41 : decode cX5_pay 41 = .ok (.aload_n 0, 1) := by decide +kernel
theorem dX5_pay_42 : decode cX5_pay 42 = .ok (.iload_n 1, 1) := by decide +kernel
theorem dX5_pay_43 : decode cX5_pay 43 = .ok (.invokevirtual 114, 3) := by decide +kernel
theorem dX5_pay_46 : decode cX5_pay 46 = .ok (.goto 4, 3) := by decide +kernel
theorem dX5_pay_49 : decode cX5_pay 49 = .ok (.iconst 0, 1) := by decide +kernel
theorem dX5_pay_50 : decode cX5_pay 50 = .ok (.ireturn, 1) := by decide +kernel
theorem dX5_sales_0 : decode cX5_sales 0 = .ok (.aload_n 0, 1) := by decide +kernel
theorem dX5_sales_1 : decode cX5_sales 1 = .ok (.iconst 0, 1) := by decide +kernel
theorem dX5_sales_2 : decode cX5_sales 2 = .ok (.putfield 72, 3) := by decide +kernel
theorem dX5_sales_5 : decode cX5_sales 5 = .ok (.aload_n 0, 1) := by decide +kernel
theorem dX5_sales_6 : decode cX5_sales 6 = .ok (.getfield 80, 3) := by decide +kernel
theorem dX5_sales_9 : decode cX5_sales 9 = .ok (.ireturn, 1) := by decide +kernel
set_option maxRecDepth 20000 in
theorem ggX5_paid_X5_isSale : GoodIn wsX5_paid wsX5_isSale := goodIn_r _ [6, 7, 8, 9, 5, 10, 16, 17, 18, 19, 20, 21, 22, 23, 24, 25, 26, 27, 28, 29, 30, 31, 32, 33, 34, 35, 36, 37, 38, 39, 40] (by decide +kernel) (by decide +kernel)
set_option maxRecDepth 20000 in
theorem gX5_paid_X5_isSale : GoodIn wsX5_paid (wsV RX5 83 RX5 yX5_isSale wsX5_isSale) := goodIn_app (goodIn_of _ (by decide +kernel)) ggX5_paid_X5_isSale
set_option maxRecDepth 20000 in
theorem ggX5_paid_X5_goes : GoodIn wsX5_paid wsX5_goes := goodIn_r _ [14, 15, 16, 17, 18, 19, 20, 21, 22, 23, 24, 25, 26, 27, 28, 29, 30, 31, 32, 33, 34, 35, 36, 37, 38, 39, 40] (by decide +kernel) (by decide +kernel)
set_option maxRecDepth 20000 in
theorem gX5_paid_X5_goes : GoodIn wsX5_paid (wsV RX5 91 RX5 yX5_goes wsX5_goes) := goodIn_app (goodIn_of _ (by decide +kernel)) ggX5_paid_X5_goes
theorem dX5_paid_0 : decode cX5_paid 0 = .ok (.aload_n 0, 1) := by decide +kernel
theorem dX5_paid_1 : decode cX5_paid 1 = .ok (.aload_n 0, 1) := by decide +kernel
theorem dX5_paid_2 : decode cX5_paid 2 = .ok (.iload_n 1, 1) := by decide +kernel
theorem dX5_paid_3 : decode cX5_paid 3 = .ok (.invokevirtual 83, 3) := by decide +kernel
theorem dX5_paid_6 : decode cX5_paid 6 = .ok (.ifCond .eq 7, 3) := by decide +kernel
theorem dX5_paid_9 : decode cX5_paid 9 = .ok (.iconst 0, 1) := by decide +kernel
theorem dX5_paid_10 : decode cX5_paid 10 = .ok (.goto 4, 3) := by decide +kernel
theorem dX5_paid_13 : decode cX5_paid 13 = .ok (.iconst 1, 1) := by decide +kernel
theorem dX5_paid_14 : decode cX5_paid 14 = .ok (.invokevirtual 91, 3) := by decide +kernel
theorem dX5_paid_17 : decode cX5_paid 17 = .ok (.ifCond .eq 12, 3) := by decide +kernel
theorem dX5_paid_20 : decode cX5_paid 20 = .ok (.aload_n 0, 1) := by decide +kernel
theorem dX5_paid_21 : decode cX5_paid 21 = .ok (.getfield 31, 3) := by decide +kernel
theorem dX5_paid_24 : decode cX5_paid 24 = .ok (.iload_n 1, 1) := by decide +kernel
theorem dX5_paid_25 : decode cX5_paid 25 = .ok (.iaload, 1) := by decide +kernel
theorem dX5_paid_26 : decode cX5_paid 26 = .ok (.goto 4, 3) := by decide +kernel
theorem dX5_paid_29 : decode cX5_paid 29 = .ok (.iconst 0, 1) := by decide +kernel
theorem dX5_paid_30 : decode cX5_paid 30 = .ok (.ireturn, 1) := by decide +kernel
set_option maxRecDepth 20000 in
theorem ggX5_kept_X5_isLine : GoodIn wsX5_kept wsX5_isLine := goodIn_r _ [6, 7, 8, 9, 10, 5, 11, 12, 13, 14, 15, 26, 27, 28, 29, 30, 31, 32, 33, 34, 35, 36, 37, 38, 39, 40, 41, 42, 43, 44, 45, 46, 47, 48, 49, 50] (by decide +kernel) (by decide +kernel)
set_option maxRecDepth 20000 in
theorem gX5_kept_X5_isLine : GoodIn wsX5_kept (wsV RX5 117 RX5 yX5_isLine wsX5_isLine) := goodIn_app (goodIn_of _ (by decide +kernel)) ggX5_kept_X5_isLine
set_option maxRecDepth 20000 in
theorem ggX5_kept_X5_goes : GoodIn wsX5_kept wsX5_goes := goodIn_r _ [19, 20, 26, 27, 28, 29, 30, 31, 32, 33, 34, 35, 36, 37, 38, 39, 40, 41, 42, 43, 44, 45, 46, 47, 48, 49, 50] (by decide +kernel) (by decide +kernel)
set_option maxRecDepth 20000 in
theorem gX5_kept_X5_goes : GoodIn wsX5_kept (wsV RX5 91 RX5 yX5_goes wsX5_goes) := goodIn_app (goodIn_of _ (by decide +kernel)) ggX5_kept_X5_goes
set_option maxRecDepth 20000 in
theorem ggX5_kept_X5_isOpen : GoodIn wsX5_kept wsX5_isOpen := goodIn_r _ [24, 25, 26, 27, 28, 29, 30, 31, 32, 33, 34, 35, 36, 37, 38, 39, 40, 41, 42, 43, 44, 45, 46, 47, 48, 49, 50] (by decide +kernel) (by decide +kernel)
set_option maxRecDepth 20000 in
theorem gX5_kept_X5_isOpen : GoodIn wsX5_kept (wsV RX5 107 RX5 yX5_isOpen wsX5_isOpen) := goodIn_app (goodIn_of _ (by decide +kernel)) ggX5_kept_X5_isOpen
theorem dX5_kept_0 : decode cX5_kept 0 = .ok (.aload_n 0, 1) := by decide +kernel
theorem dX5_kept_1 : decode cX5_kept 1 = .ok (.aload_n 0, 1) := by decide +kernel
theorem dX5_kept_2 : decode cX5_kept 2 = .ok (.iload_n 1, 1) := by decide +kernel
theorem dX5_kept_3 : decode cX5_kept 3 = .ok (.iload_n 2, 1) := by decide +kernel
theorem dX5_kept_4 : decode cX5_kept 4 = .ok (.invokevirtual 117, 3) := by decide +kernel
theorem dX5_kept_7 : decode cX5_kept 7 = .ok (.ifCond .eq 7, 3) := by decide +kernel
theorem dX5_kept_10 : decode cX5_kept 10 = .ok (.iconst 0, 1) := by decide +kernel
theorem dX5_kept_11 : decode cX5_kept 11 = .ok (.goto 4, 3) := by decide +kernel
theorem dX5_kept_14 : decode cX5_kept 14 = .ok (.iconst 1, 1) := by decide +kernel
theorem dX5_kept_15 : decode cX5_kept 15 = .ok (.invokevirtual 91, 3) := by decide +kernel
theorem dX5_kept_18 : decode cX5_kept 18 = .ok (.ifCond .eq 25, 3) := by decide +kernel
theorem dX5_kept_21 : decode cX5_kept 21 = .ok (.aload_n 0, 1) := by decide +kernel
theorem dX5_kept_22 : decode cX5_kept 22 = .ok (.iload_n 1, 1) := by decide +kernel
theorem dX5_kept_23 : decode cX5_kept 23 = .ok (.invokevirtual 107, 3) := by decide +kernel
theorem dX5_kept_26 : decode cX5_kept 26 = .ok (.ifCond .ne 17, 3) := by decide +kernel
theorem dX5_kept_29 : decode cX5_kept 29 = .ok (.aload_n 0, 1) := by decide +kernel
theorem dX5_kept_30 : decode cX5_kept 30 = .ok (.getfield 49, 3) := by decide +kernel
theorem dX5_kept_33 : decode cX5_kept 33 = .ok (.bipush 6, 2) := by decide +kernel
theorem dX5_kept_35 : decode cX5_kept 35 = .ok (.iload_n 1, 1) := by decide +kernel
theorem dX5_kept_36 : decode cX5_kept 36 = .ok (.imul, 1) := by decide +kernel
theorem dX5_kept_37 : decode cX5_kept 37 = .ok (.iload_n 2, 1) := by decide +kernel
theorem dX5_kept_38 : decode cX5_kept 38 = .ok (.iadd, 1) := by decide +kernel
theorem dX5_kept_39 : decode cX5_kept 39 = .ok (.iaload, 1) := by decide +kernel
theorem dX5_kept_40 : decode cX5_kept 40 = .ok (.goto 4, 3) := by decide +kernel
theorem dX5_kept_43 : decode cX5_kept 43 = .ok (.iconst 0, 1) := by decide +kernel
theorem dX5_kept_44 : decode cX5_kept 44 = .ok (.ireturn, 1) := by decide +kernel
theorem dX5_goodsOf_0 : decode cX5_goodsOf 0 = .ok (.aload_n 0, 1) := by decide +kernel
theorem dX5_goodsOf_1 : decode cX5_goodsOf 1 = .ok (.getfield 46, 3) := by decide +kernel
theorem dX5_goodsOf_4 : decode cX5_goodsOf 4 = .ok (.bipush 6, 2) := by decide +kernel
theorem dX5_goodsOf_6 : decode cX5_goodsOf 6 = .ok (.iload_n 1, 1) := by decide +kernel
theorem dX5_goodsOf_7 : decode cX5_goodsOf 7 = .ok (.imul, 1) := by decide +kernel
theorem dX5_goodsOf_8 : decode cX5_goodsOf 8 = .ok (.iload_n 2, 1) := by decide +kernel
theorem dX5_goodsOf_9 : decode cX5_goodsOf 9 = .ok (.iadd, 1) := by decide +kernel
theorem dX5_goodsOf_10 : decode cX5_goodsOf 10 = .ok (.iaload, 1) := by decide +kernel
theorem dX5_goodsOf_11 : decode cX5_goodsOf 11 = .ok (.aload_n 0, 1) := by decide +kernel
theorem dX5_goodsOf_12 : decode cX5_goodsOf 12 = .ok (.getfield 49, 3) := by decide +kernel
theorem dX5_goodsOf_15 : decode cX5_goodsOf 15 = .ok (.bipush 6, 2) := by decide +kernel
theorem dX5_goodsOf_17 : decode cX5_goodsOf 17 = .ok (.iload_n 1, 1) := by decide +kernel
theorem dX5_goodsOf_18 : decode cX5_goodsOf 18 = .ok (.imul, 1) := by decide +kernel
theorem dX5_goodsOf_19 : decode cX5_goodsOf 19 = .ok (.iload_n 2, 1) := by decide +kernel
theorem dX5_goodsOf_20 : decode cX5_goodsOf 20 = .ok (.iadd, 1) := by decide +kernel
theorem dX5_goodsOf_21 : decode cX5_goodsOf 21 = .ok (.iaload, 1) := by decide +kernel
theorem dX5_goodsOf_22 : decode cX5_goodsOf 22 = .ok (.imul, 1) := by decide +kernel
theorem dX5_goodsOf_23 : decode cX5_goodsOf 23 = .ok (.ireturn, 1) := by decide +kernel
set_option maxRecDepth 20000 in
theorem ggX5_goods_X5_goodsOf : GoodIn wsX5_goods wsX5_goodsOf := goodIn_r _ [6, 7, 8, 9, 10, 11, 12, 13, 14, 15, 16, 17, 18, 19, 20, 21, 22, 23, 24, 25, 26, 27, 28, 29, 30, 31, 32, 33] (by decide +kernel) (by decide +kernel)
set_option maxRecDepth 20000 in
theorem gX5_goods_X5_goodsOf : GoodIn wsX5_goods (wsV RX5 121 RX5 yX5_goodsOf wsX5_goodsOf) := goodIn_app (goodIn_of _ (by decide +kernel)) ggX5_goods_X5_goodsOf
theorem dX5_goods_0 : decode cX5_goods 0 = .ok (.iconst 0, 1) := by decide +kernel
theorem dX5_goods_1 : decode cX5_goods 1 = .ok (.istore_n 2, 1) := by decide +kernel
theorem dX5_goods_2 : decode cX5_goods 2 = .ok (.iconst 0, 1) := by decide +kernel
theorem dX5_goods_3 : decode cX5_goods 3 = .ok (.istore_n 3, 1) := by decide +kernel
theorem dX5_goods_4 : decode cX5_goods 4 = .ok (.iload_n 3, 1) := by decide +kernel
theorem dX5_goods_5 : decode cX5_goods 5 = .ok (.aload_n 0, 1) := by decide +kernel
theorem dX5_goods_6 : decode cX5_goods 6 = .ok (.getfield 25, 3) := by decide +kernel
theorem dX5_goods_9 : decode cX5_goods 9 = .ok (.iload_n 1, 1) := by decide +kernel
theorem dX5_goods_10 : decode cX5_goods 10 = .ok (.iaload, 1) := by decide +kernel
theorem dX5_goods_11 : decode cX5_goods 11 = .ok (.if_icmp .ge 18, 3) := by decide +kernel
theorem dX5_goods_14 : decode cX5_goods 14 = .ok (.iload_n 2, 1) := by decide +kernel
theorem dX5_goods_15 : decode cX5_goods 15 = .ok (.aload_n 0, 1) := by decide +kernel
theorem dX5_goods_16 : decode cX5_goods 16 = .ok (.iload_n 1, 1) := by decide +kernel
theorem dX5_goods_17 : decode cX5_goods 17 = .ok (.iload_n 3, 1) := by decide +kernel
theorem dX5_goods_18 : decode cX5_goods 18 = .ok (.invokevirtual 121, 3) := by decide +kernel
theorem dX5_goods_21 : decode cX5_goods 21 = .ok (.iadd, 1) := by decide +kernel
theorem dX5_goods_22 : decode cX5_goods 22 = .ok (.istore_n 2, 1) := by decide +kernel
theorem dX5_goods_23 : decode cX5_goods 23 = .ok (.iinc 3 1, 3) := by decide +kernel
theorem dX5_goods_26 : decode cX5_goods 26 = .ok (.goto (-22), 3) := by decide +kernel
theorem dX5_goods_29 : decode cX5_goods 29 = .ok (.iload_n 2, 1) := by decide +kernel
theorem dX5_goods_30 : decode cX5_goods 30 = .ok (.ireturn, 1) := by decide +kernel
theorem dX5_net_0 : decode cX5_net 0 = .ok (.iload_n 0, 1) := by decide +kernel
theorem dX5_net_1 : decode cX5_net 1 = .ok (.sipush 5000, 3) := by decide +kernel
end
section
theorem dX5_net_4 : decode cX5_net 4 = .ok (.if_icmp .ge 7, 3) := by decide +kernel
theorem dX5_net_7 : decode cX5_net 7 = .ok (.lconst 0, 1) := by decide +kernel
theorem dX5_net_8 : decode cX5_net 8 = .ok (.goto 32, 3) := by decide +kernel
theorem dX5_net_11 : decode cX5_net 11 = .ok (.iload_n 0, 1) := by decide +kernel
theorem dX5_net_12 : decode cX5_net 12 = .ok (.sipush 10000, 3) := by decide +kernel
theorem dX5_net_15 : decode cX5_net 15 = .ok (.if_icmp .ge 9, 3) := by decide +kernel
theorem dX5_net_18 : decode cX5_net 18 = .ok (.ldc2_w 125, 3) := by decide +kernel
theorem dX5_net_21 : decode cX5_net 21 = .ok (.goto 19, 3) := by decide +kernel
theorem dX5_net_24 : decode cX5_net 24 = .ok (.iload_n 0, 1) := by decide +kernel
theorem dX5_net_25 : decode cX5_net 25 = .ok (.sipush 20000, 3) := by decide +kernel
theorem dX5_net_28 : decode cX5_net 28 = .ok (.if_icmp .ge 9, 3) := by decide +kernel
theorem dX5_net_31 : decode cX5_net 31 = .ok (.ldc2_w 127, 3) := by decide +kernel
theorem dX5_net_34 : decode cX5_net 34 = .ok (.goto 6, 3) := by decide +kernel
theorem dX5_net_37 : decode cX5_net 37 = .ok (.ldc2_w 129, 3) := by decide +kernel
theorem dX5_net_40 : decode cX5_net 40 = .ok (.lstore_n 1, 1) := by decide +kernel
theorem dX5_net_41 : decode cX5_net 41 = .ok (.iload_n 0, 1) := by decide +kernel
theorem dX5_net_42 : decode cX5_net 42 = .ok (.i2l, 1) := by decide +kernel
theorem dX5_net_43 : decode cX5_net 43 = .ok (.iload_n 0, 1) := by decide +kernel
theorem dX5_net_44 : decode cX5_net 44 = .ok (.i2l, 1) := by decide +kernel
theorem dX5_net_45 : decode cX5_net 45 = .ok (.lload_n 1, 1) := by decide +kernel
theorem dX5_net_46 : decode cX5_net 46 = .ok (.lmul, 1) := by decide +kernel
theorem dX5_net_47 : decode cX5_net 47 = .ok (.ldc2_w 131, 3) := by decide +kernel
theorem dX5_net_50 : decode cX5_net 50 = .ok (.ldiv, 1) := by decide +kernel
theorem dX5_net_51 : decode cX5_net 51 = .ok (.lsub, 1) := by decide +kernel
theorem dX5_net_52 : decode cX5_net 52 = .ok (.l2i, 1) := by decide +kernel
theorem dX5_net_53 : decode cX5_net 53 = .ok (.ireturn, 1) := by decide +kernel
set_option maxRecDepth 20000 in
theorem ggX5_keptValue_X5_isSale : GoodIn wsX5_keptValue wsX5_isSale := goodIn_r _ [5, 6, 7, 8, 4, 9, 38, 39, 40, 41, 42, 43, 44, 45, 46, 47, 48, 49, 50, 51, 52, 53, 54, 55, 56, 57, 58, 59, 60, 61, 62] (by decide +kernel) (by decide +kernel)
set_option maxRecDepth 20000 in
theorem gX5_keptValue_X5_isSale : GoodIn wsX5_keptValue (wsV RX5 83 RX5 yX5_isSale wsX5_isSale) := goodIn_app (goodIn_of _ (by decide +kernel)) ggX5_keptValue_X5_isSale
set_option maxRecDepth 20000 in
theorem ggX5_keptValue_X5_goes : GoodIn wsX5_keptValue wsX5_goes := goodIn_r _ [13, 14, 38, 39, 40, 41, 42, 43, 44, 45, 46, 47, 48, 49, 50, 51, 52, 53, 54, 55, 56, 57, 58, 59, 60, 61, 62] (by decide +kernel) (by decide +kernel)
set_option maxRecDepth 20000 in
theorem gX5_keptValue_X5_goes : GoodIn wsX5_keptValue (wsV RX5 91 RX5 yX5_goes wsX5_goes) := goodIn_app (goodIn_of _ (by decide +kernel)) ggX5_keptValue_X5_goes
set_option maxRecDepth 20000 in
theorem ggX5_keptValue_X5_isOpen : GoodIn wsX5_keptValue wsX5_isOpen := goodIn_r _ [18, 19, 38, 39, 40, 41, 42, 43, 44, 45, 46, 47, 48, 49, 50, 51, 52, 53, 54, 55, 56, 57, 58, 59, 60, 61, 62] (by decide +kernel) (by decide +kernel)
set_option maxRecDepth 20000 in
theorem gX5_keptValue_X5_isOpen : GoodIn wsX5_keptValue (wsV RX5 107 RX5 yX5_isOpen wsX5_isOpen) := goodIn_app (goodIn_of _ (by decide +kernel)) ggX5_keptValue_X5_isOpen
set_option maxRecDepth 20000 in
theorem ggX5_keptValue_X5_goods : GoodIn wsX5_keptValue wsX5_goods := goodIn_r _ [23, 24, 25, 26, 27, 4, 28, 29, 30, 38, 39, 40, 41, 42, 43, 44, 45, 46, 47, 48, 49, 50, 51, 52, 53, 54, 55, 56, 57, 58, 59, 60, 61, 62] (by decide +kernel) (by decide +kernel)
set_option maxRecDepth 20000 in
theorem gX5_keptValue_X5_goods : GoodIn wsX5_keptValue (wsV RX5 97 RX5 yX5_goods wsX5_goods) := goodIn_app (goodIn_of _ (by decide +kernel)) ggX5_keptValue_X5_goods
set_option maxRecDepth 20000 in
theorem ggX5_keptValue_X5_net : GoodIn wsX5_keptValue wsX5_net := goodIn_r _ [33, 34, 35, 36, 37] (by decide +kernel) (by decide +kernel)
set_option maxRecDepth 20000 in
theorem gX5_keptValue_X5_net : GoodIn wsX5_keptValue (va_wsS RX5 101 yX5_net wsX5_net) := goodIn_app (goodIn_of _ (by decide +kernel)) ggX5_keptValue_X5_net
theorem dX5_keptValue_0 : decode cX5_keptValue 0 = .ok (.aload_n 0, 1) := by decide +kernel
theorem dX5_keptValue_1 : decode cX5_keptValue 1 = .ok (.aload_n 0, 1) := by decide +kernel
theorem dX5_keptValue_2 : decode cX5_keptValue 2 = .ok (.iload_n 1, 1) := by decide +kernel
theorem dX5_keptValue_3 : decode cX5_keptValue 3 = .ok (.invokevirtual 83, 3) := by decide +kernel
theorem dX5_keptValue_6 : decode cX5_keptValue 6 = .ok (.ifCond .eq 7, 3) := by decide +kernel
theorem dX5_keptValue_9 : decode cX5_keptValue 9 = .ok (.iconst 0, 1) := by decide +kernel
theorem dX5_keptValue_10 : decode cX5_keptValue 10 = .ok (.goto 4, 3) := by decide +kernel
theorem dX5_keptValue_13 : decode cX5_keptValue 13 = .ok (.iconst 1, 1) := by decide +kernel
theorem dX5_keptValue_14 : decode cX5_keptValue 14 = .ok (.invokevirtual 91, 3) := by decide +kernel
theorem dX5_keptValue_17 : decode cX5_keptValue 17 = .ok (.ifCond .eq 22, 3) := by decide +kernel
theorem dX5_keptValue_20 : decode cX5_keptValue 20 = .ok (.aload_n 0, 1) := by decide +kernel
theorem dX5_keptValue_21 : decode cX5_keptValue 21 = .ok (.iload_n 1, 1) := by decide +kernel
theorem dX5_keptValue_22 : decode cX5_keptValue 22 = .ok (.invokevirtual 107, 3) := by decide +kernel
theorem dX5_keptValue_25 : decode cX5_keptValue 25 = .ok (.ifCond .ne 14, 3) := by decide +kernel
theorem dX5_keptValue_28 : decode cX5_keptValue 28 = .ok (.aload_n 0, 1) := by decide +kernel
theorem dX5_keptValue_29 : decode cX5_keptValue 29 = .ok (.iload_n 1, 1) := by decide +kernel
theorem dX5_keptValue_30 : decode cX5_keptValue 30 = .ok (.invokevirtual 97, 3) := by decide +kernel
theorem dX5_keptValue_33 : decode cX5_keptValue 33 = .ok (.invokestatic 101, 3) := by decide +kernel
theorem dX5_keptValue_36 : decode cX5_keptValue 36 = .ok (.goto 4, 3) := by decide +kernel
theorem dX5_keptValue_39 : decode cX5_keptValue 39 = .ok (.iconst 0, 1) := by decide +kernel
theorem dX5_keptValue_40 : decode cX5_keptValue 40 = .ok (.ireturn, 1) := by decide +kernel
theorem dX5_next_0 : decode cX5_next 0 = .ok (.iconst 0, 1) := by decide +kernel
theorem dX5_next_1 : decode cX5_next 1 = .ok (.istore_n 2, 1) := by decide +kernel
theorem dX5_next_2 : decode cX5_next 2 = .ok (.iconst 1, 1) := by decide +kernel
theorem dX5_next_3 : decode cX5_next 3 = .ok (.istore_n 3, 1) := by decide +kernel
theorem dX5_next_4 : decode cX5_next 4 = .ok (.iload_n 3, 1) := by decide +kernel
theorem dX5_next_5 : decode cX5_next 5 = .ok (.aload_n 0, 1) := by decide +kernel
theorem dX5_next_6 : decode cX5_next 6 = .ok (.getfield 25, 3) := by decide +kernel
theorem dX5_next_9 : decode cX5_next 9 = .ok (.iload_n 1, 1) := by decide +kernel
theorem dX5_next_10 : decode cX5_next 10 = .ok (.iaload, 1) := by decide +kernel
theorem dX5_next_11 : decode cX5_next 11 = .ok (.if_icmp .ge 31, 3) := by decide +kernel
theorem dX5_next_14 : decode cX5_next 14 = .ok (.aload_n 0, 1) := by decide +kernel
theorem dX5_next_15 : decode cX5_next 15 = .ok (.getfield 65, 3) := by decide +kernel
theorem dX5_next_18 : decode cX5_next 18 = .ok (.iload_n 3, 1) := by decide +kernel
theorem dX5_next_19 : decode cX5_next 19 = .ok (.laload, 1) := by decide +kernel
theorem dX5_next_20 : decode cX5_next 20 = .ok (.aload_n 0, 1) := by decide +kernel
theorem dX5_next_21 : decode cX5_next 21 = .ok (.getfield 65, 3) := by decide +kernel
theorem dX5_next_24 : decode cX5_next 24 = .ok (.iload_n 2, 1) := by decide +kernel
theorem dX5_next_25 : decode cX5_next 25 = .ok (.laload, 1) := by decide +kernel
theorem dX5_next_26 : decode cX5_next 26 = .ok (.lcmp, 1) := by decide +kernel
theorem dX5_next_27 : decode cX5_next 27 = .ok (.ifCond .le 7, 3) := by decide +kernel
theorem dX5_next_30 : decode cX5_next 30 = .ok (.iload_n 3, 1) := by decide +kernel
theorem dX5_next_31 : decode cX5_next 31 = .ok (.goto 4, 3) := by decide +kernel
theorem dX5_next_34 : decode cX5_next 34 = .ok (.iload_n 2, 1) := by decide +kernel
theorem dX5_next_35 : decode cX5_next 35 = .ok (.istore_n 2, 1) := by decide +kernel
theorem dX5_next_36 : decode cX5_next 36 = .ok (.iinc 3 1, 3) := by decide +kernel
theorem dX5_next_39 : decode cX5_next 39 = .ok (.goto (-35), 3) := by decide +kernel
theorem dX5_next_42 : decode cX5_next 42 = .ok (.aload_n 0, 1) := by decide +kernel
theorem dX5_next_43 : decode cX5_next 43 = .ok (.getfield 65, 3) := by decide +kernel
theorem dX5_next_46 : decode cX5_next 46 = .ok (.iload_n 2, 1) := by decide +kernel
theorem dX5_next_47 : decode cX5_next 47 = .ok (.ldc2_w 133, 3) := by decide +kernel
theorem dX5_next_50 : decode cX5_next 50 = .ok (.lastore, 1) := by decide +kernel
theorem dX5_next_51 : decode cX5_next 51 = .ok (.iload_n 2, 1) := by decide +kernel
theorem dX5_next_52 : decode cX5_next 52 = .ok (.ireturn, 1) := by decide +kernel
set_option maxRecDepth 20000 in
theorem ggX5_splits_X5_goods : GoodIn wsX5_splits wsX5_goods := goodIn_r _ [8, 1, 9, 10, 11, 7, 12, 13, 14, 27, 28, 29, 30, 31, 32, 33, 34, 35, 36, 37, 38, 39, 40, 41, 42, 43, 44, 45, 46, 47, 48, 49, 50, 51] (by decide +kernel) (by decide +kernel)
set_option maxRecDepth 20000 in
theorem gX5_splits_X5_goods : GoodIn wsX5_splits (wsV RX5 97 RX5 yX5_goods wsX5_goods) := goodIn_app (goodIn_of _ (by decide +kernel)) ggX5_splits_X5_goods
set_option maxRecDepth 20000 in
theorem ggX5_splits_X5_net : GoodIn wsX5_splits wsX5_net := goodIn_r _ [17, 18, 19, 20, 21] (by decide +kernel) (by decide +kernel)
set_option maxRecDepth 20000 in
theorem gX5_splits_X5_net : GoodIn wsX5_splits (va_wsS RX5 101 yX5_net wsX5_net) := goodIn_app (goodIn_of _ (by decide +kernel)) ggX5_splits_X5_net
set_option maxRecDepth 20000 in
theorem ggX5_splits_X5_goodsOf : GoodIn wsX5_splits wsX5_goodsOf := goodIn_r _ [12, 13, 14, 27, 28, 29, 30, 31, 32, 33, 34, 35, 36, 37, 38, 39, 40, 41, 42, 43, 44, 45, 46, 47, 48, 49, 50, 51] (by decide +kernel) (by decide +kernel)
set_option maxRecDepth 20000 in
theorem gX5_splits_X5_goodsOf : GoodIn wsX5_splits (wsV RX5 121 RX5 yX5_goodsOf wsX5_goodsOf) := goodIn_app (goodIn_of _ (by decide +kernel)) ggX5_splits_X5_goodsOf
set_option maxRecDepth 20000 in
theorem ggX5_splits_X5_next : GoodIn wsX5_splits wsX5_next := goodIn_r _ [25, 1, 3, 26, 27, 28, 29, 30, 31, 32, 33, 34, 35, 36, 37, 38, 39, 40, 41, 42, 43, 44, 45, 46, 47, 48, 49, 50, 51] (by decide +kernel) (by decide +kernel)
set_option maxRecDepth 20000 in
theorem gX5_splits_X5_next : GoodIn wsX5_splits (wsV RX5 135 RX5 yX5_next wsX5_next) := goodIn_app (goodIn_of _ (by decide +kernel)) ggX5_splits_X5_next
theorem dX5_splits_0 : decode cX5_splits 0 = .ok (.aload_n 0, 1) := by decide +kernel
theorem dX5_splits_1 : decode cX5_splits 1 = .ok (.iload_n 1, 1) := by decide +kernel
theorem dX5_splits_2 : decode cX5_splits 2 = .ok (.invokevirtual 97, 3) := by decide +kernel
theorem dX5_splits_5 : decode cX5_splits 5 = .ok (.istore_n 2, 1) := by decide +kernel
theorem dX5_splits_6 : decode cX5_splits 6 = .ok (.iload_n 2, 1) := by decide +kernel
theorem dX5_splits_7 : decode cX5_splits 7 = .ok (.invokestatic 101, 3) := by decide +kernel
theorem dX5_splits_10 : decode cX5_splits 10 = .ok (.istore_n 3, 1) := by decide +kernel
theorem dX5_splits_11 : decode cX5_splits 11 = .ok (.iload_n 3, 1) := by decide +kernel
theorem dX5_splits_12 : decode cX5_splits 12 = .ok (.istore 4, 2) := by decide +kernel
theorem dX5_splits_14 : decode cX5_splits 14 = .ok (.iconst 0, 1) := by decide +kernel
theorem dX5_splits_15 : decode cX5_splits 15 = .ok (.istore 5, 2) := by decide +kernel
theorem dX5_splits_17 : decode cX5_splits 17 = .ok (.iload 5, 2) := by decide +kernel
theorem dX5_splits_19 : decode cX5_splits 19 = .ok (.aload_n 0, 1) := by decide +kernel
theorem dX5_splits_20 : decode cX5_splits 20 = .ok (.getfield 25, 3) := by decide +kernel
theorem dX5_splits_23 : decode cX5_splits 23 = .ok (.iload_n 1, 1) := by decide +kernel
theorem dX5_splits_24 : decode cX5_splits 24 = .ok (.iaload, 1) := by decide +kernel
theorem dX5_splits_25 : decode cX5_splits 25 = .ok (.if_icmp .ge 75, 3) := by decide +kernel
theorem dX5_splits_28 : decode cX5_splits 28 = .ok (.iload_n 3, 1) := by decide +kernel
theorem dX5_splits_29 : decode cX5_splits 29 = .ok (.i2l, 1) := by decide +kernel
theorem dX5_splits_30 : decode cX5_splits 30 = .ok (.aload_n 0, 1) := by decide +kernel
theorem dX5_splits_31 : decode cX5_splits 31 = .ok (.iload_n 1, 1) := by decide +kernel
theorem dX5_splits_32 : decode cX5_splits 32 = .ok (.iload 5, 2) := by decide +kernel
theorem dX5_splits_34 : decode cX5_splits 34 = .ok (.invokevirtual 121, 3) := by decide +kernel
theorem dX5_splits_37 : decode cX5_splits 37 = .ok (.i2l, 1) := by decide +kernel
theorem dX5_splits_38 : decode cX5_splits 38 = .ok (.lmul, 1) := by decide +kernel
theorem dX5_splits_39 : decode cX5_splits 39 = .ok (.lstore 6, 2) := by decide +kernel
theorem dX5_splits_41 : decode cX5_splits 41 = .ok (.aload_n 0, 1) := by decide +kernel
theorem dX5_splits_42 : decode cX5_splits 42 = .ok (.getfield 69, 3) := by decide +kernel
theorem dX5_splits_45 : decode cX5_splits 45 = .ok (.iload 5, 2) := by decide +kernel
theorem dX5_splits_47 : decode cX5_splits 47 = .ok (.iload_n 2, 1) := by decide +kernel
theorem dX5_splits_48 : decode cX5_splits 48 = .ok (.ifCond .ne 7, 3) := by decide +kernel
theorem dX5_splits_51 : decode cX5_splits 51 = .ok (.iconst 0, 1) := by decide +kernel
theorem dX5_splits_52 : decode cX5_splits 52 = .ok (.goto 9, 3) := by decide +kernel
theorem dX5_splits_55 : decode cX5_splits 55 = .ok (.lload 6, 2) := by decide +kernel
theorem dX5_splits_57 : decode cX5_splits 57 = .ok (.iload_n 2, 1) := by decide +kernel
theorem dX5_splits_58 : decode cX5_splits 58 = .ok (.i2l, 1) := by decide +kernel
theorem dX5_splits_59 : decode cX5_splits 59 = .ok (.ldiv, 1) := by decide +kernel
theorem dX5_splits_60 : decode cX5_splits 60 = .ok (.l2i, 1) := by decide +kernel
theorem dX5_splits_61 : decode cX5_splits 61 = .ok (.iastore, 1) := by decide +kernel
theorem dX5_splits_62 : decode cX5_splits 62 = .ok (.aload_n 0, 1) := by decide +kernel
theorem dX5_splits_63 : decode cX5_splits 63 = .ok (.getfield 65, 3) := by decide +kernel
theorem dX5_splits_66 : decode cX5_splits 66 = .ok (.iload 5, 2) := by decide +kernel
theorem dX5_splits_68 : decode cX5_splits 68 = .ok (.iload_n 2, 1) := by decide +kernel
theorem dX5_splits_69 : decode cX5_splits 69 = .ok (.ifCond .ne 7, 3) := by decide +kernel
theorem dX5_splits_72 : decode cX5_splits 72 = .ok (.lconst 0, 1) := by decide +kernel
theorem dX5_splits_73 : decode cX5_splits 73 = .ok (.goto 8, 3) := by decide +kernel
theorem dX5_splits_76 : decode cX5_splits 76 = .ok (.lload 6, 2) := by decide +kernel
theorem dX5_splits_78 : decode cX5_splits 78 = .ok (.iload_n 2, 1) := by decide +kernel
theorem dX5_splits_79 : decode cX5_splits 79 = .ok (.i2l, 1) := by decide +kernel
theorem dX5_splits_80 : decode cX5_splits 80 = .ok (.lrem, 1) := by decide +kernel
theorem dX5_splits_81 : decode cX5_splits 81 = .ok (.lastore, 1) := by decide +kernel
theorem dX5_splits_82 : decode cX5_splits 82 = .ok (.iload 4, 2) := by decide +kernel
theorem dX5_splits_84 : decode cX5_splits 84 = .ok (.aload_n 0, 1) := by decide +kernel
theorem dX5_splits_85 : decode cX5_splits 85 = .ok (.getfield 69, 3) := by decide +kernel
theorem dX5_splits_88 : decode cX5_splits 88 = .ok (.iload 5, 2) := by decide +kernel
theorem dX5_splits_90 : decode cX5_splits 90 = .ok (.iaload, 1) := by decide +kernel
theorem dX5_splits_91 : decode cX5_splits 91 = .ok (.isub, 1) := by decide +kernel
theorem dX5_splits_92 : decode cX5_splits 92 = .ok (.istore 4, 2) := by decide +kernel
theorem dX5_splits_94 : decode cX5_splits 94 = .ok (.iinc 5 1, 3) := by decide +kernel
theorem dX5_splits_97 : decode cX5_splits 97 = .ok (.goto (-80), 3) := by decide +kernel
theorem dX5_splits_100 : decode cX5_splits 100 = .ok (.iconst 0, 1) := by decide +kernel
theorem dX5_splits_101 : decode cX5_splits 101 = .ok (.istore 5, 2) := by decide +kernel
theorem dX5_splits_103 : decode cX5_splits 103 = .ok (.iload 5, 2) := by decide +kernel
theorem dX5_splits_105 : decode cX5_splits 105 = .ok (.iload 4, 2) := by decide +kernel
theorem dX5_splits_107 : decode cX5_splits 107 = .ok (.if_icmp .ge 23, 3) := by decide +kernel
theorem dX5_splits_110 : decode cX5_splits 110 = .ok (.aload_n 0, 1) := by decide +kernel
theorem dX5_splits_111 : decode cX5_splits 111 = .ok (.getfield 69, 3) := by decide +kernel
theorem dX5_splits_114 : decode cX5_splits 114 = .ok (.aload_n 0, 1) := by decide +kernel
theorem dX5_splits_115 : decode cX5_splits 115 = .ok (.iload_n 1, 1) := by decide +kernel
theorem dX5_splits_116 : decode cX5_splits 116 = .ok (.invokevirtual 135, 3) := by decide +kernel
theorem dX5_splits_119 : decode cX5_splits 119 = .ok (.dup2, 1) := by decide +kernel
theorem dX5_splits_120 : decode cX5_splits 120 = .ok (.iaload, 1) := by decide +kernel
theorem dX5_splits_121 : decode cX5_splits 121 = .ok (.iconst 1, 1) := by decide +kernel
theorem dX5_splits_122 : decode cX5_splits 122 = .ok (.iadd, 1) := by decide +kernel
theorem dX5_splits_123 : decode cX5_splits 123 = .ok (.iastore, 1) := by decide +kernel
theorem dX5_splits_124 : decode cX5_splits 124 = .ok (.iinc 5 1, 3) := by decide +kernel
theorem dX5_splits_127 : decode cX5_splits 127 = .ok (.goto (-24), 3) := by decide +kernel
theorem dX5_splits_130 : decode cX5_splits 130 = .ok (.return_, 1) := by decide +kernel
set_option maxRecDepth 20000 in
theorem ggX5_lineValue_X5_isLine : GoodIn wsX5_lineValue wsX5_isLine := goodIn_r _ [6, 7, 8, 9, 10, 5, 11, 12, 13, 14, 15, 53, 54, 55, 56, 57, 58, 59, 60, 61, 62, 63, 64, 65, 66, 67, 68, 69, 70, 71, 72, 73, 74, 75, 76, 77] (by decide +kernel) (by decide +kernel)
set_option maxRecDepth 20000 in
theorem gX5_lineValue_X5_isLine : GoodIn wsX5_lineValue (wsV RX5 117 RX5 yX5_isLine wsX5_isLine) := goodIn_app (goodIn_of _ (by decide +kernel)) ggX5_lineValue_X5_isLine
set_option maxRecDepth 20000 in
theorem ggX5_lineValue_X5_goes : GoodIn wsX5_lineValue wsX5_goes := goodIn_r _ [19, 20, 53, 54, 55, 56, 57, 58, 59, 60, 61, 62, 63, 64, 65, 66, 67, 68, 69, 70, 71, 72, 73, 74, 75, 76, 77] (by decide +kernel) (by decide +kernel)
set_option maxRecDepth 20000 in
theorem gX5_lineValue_X5_goes : GoodIn wsX5_lineValue (wsV RX5 91 RX5 yX5_goes wsX5_goes) := goodIn_app (goodIn_of _ (by decide +kernel)) ggX5_lineValue_X5_goes
set_option maxRecDepth 20000 in
theorem ggX5_lineValue_X5_isOpen : GoodIn wsX5_lineValue wsX5_isOpen := goodIn_r _ [24, 25, 53, 54, 55, 56, 57, 58, 59, 60, 61, 62, 63, 64, 65, 66, 67, 68, 69, 70, 71, 72, 73, 74, 75, 76, 77] (by decide +kernel) (by decide +kernel)
set_option maxRecDepth 20000 in
theorem gX5_lineValue_X5_isOpen : GoodIn wsX5_lineValue (wsV RX5 107 RX5 yX5_isOpen wsX5_isOpen) := goodIn_app (goodIn_of _ (by decide +kernel)) ggX5_lineValue_X5_isOpen
set_option maxRecDepth 20000 in
theorem ggX5_lineValue_X5_splits : GoodIn wsX5_lineValue wsX5_splits := goodIn_r _ [29, 7, 1, 30, 31, 32, 33, 5, 34, 35, 36, 37, 38, 39, 40, 41, 42, 43, 44, 45, 46, 47, 48, 49, 50, 51, 52, 53, 54, 55, 56, 57, 58, 59, 60, 61, 62, 63, 64, 65, 66, 67, 68, 69, 70, 71, 72, 73, 74, 75, 76, 77] (by decide +kernel) (by decide +kernel)
set_option maxRecDepth 20000 in
theorem gX5_lineValue_X5_splits : GoodIn wsX5_lineValue (wsV RX5 138 RX5 yX5_splits wsX5_splits) := goodIn_app (goodIn_of _ (by decide +kernel)) ggX5_lineValue_X5_splits
theorem dX5_lineValue_0 : decode cX5_lineValue 0 = .ok (.aload_n 0, 1) := by decide +kernel
theorem dX5_lineValue_1 : decode cX5_lineValue 1 = .ok (.aload_n 0, 1) := by decide +kernel
theorem dX5_lineValue_2 : decode cX5_lineValue 2 = .ok (.iload_n 1, 1) := by decide +kernel
theorem dX5_lineValue_3 : decode cX5_lineValue 3 = .ok (.iload_n 2, 1) := by decide +kernel
theorem dX5_lineValue_4 : decode cX5_lineValue 4 = .ok (.invokevirtual 117, 3) := by decide +kernel
theorem dX5_lineValue_7 : decode cX5_lineValue 7 = .ok (.ifCond .eq 7, 3) := by decide +kernel
theorem dX5_lineValue_10 : decode cX5_lineValue 10 = .ok (.iconst 0, 1) := by decide +kernel
theorem dX5_lineValue_11 : decode cX5_lineValue 11 = .ok (.goto 4, 3) := by decide +kernel
theorem dX5_lineValue_14 : decode cX5_lineValue 14 = .ok (.iconst 1, 1) := by decide +kernel
theorem dX5_lineValue_15 : decode cX5_lineValue 15 = .ok (.invokevirtual 91, 3) := by decide +kernel
theorem dX5_lineValue_18 : decode cX5_lineValue 18 = .ok (.ifCond .eq 11, 3) := by decide +kernel
theorem dX5_lineValue_21 : decode cX5_lineValue 21 = .ok (.aload_n 0, 1) := by decide +kernel
theorem dX5_lineValue_22 : decode cX5_lineValue 22 = .ok (.iload_n 1, 1) := by decide +kernel
theorem dX5_lineValue_23 : decode cX5_lineValue 23 = .ok (.invokevirtual 107, 3) := by decide +kernel
theorem dX5_lineValue_26 : decode cX5_lineValue 26 = .ok (.ifCond .eq 5, 3) := by decide +kernel
theorem dX5_lineValue_29 : decode cX5_lineValue 29 = .ok (.iconst 0, 1) := by decide +kernel
theorem dX5_lineValue_30 : decode cX5_lineValue 30 = .ok (.ireturn, 1) := by decide +kernel
theorem dX5_lineValue_31 : decode cX5_lineValue 31 = .ok (.aload_n 0, 1) := by decide +kernel
theorem dX5_lineValue_32 : decode cX5_lineValue 32 = .ok (.iload_n 1, 1) := by decide +kernel
theorem dX5_lineValue_33 : decode cX5_lineValue 33 = .ok (.invokevirtual 138, 3) := by decide +kernel
theorem dX5_lineValue_36 : decode cX5_lineValue 36 = .ok (.aload_n 0, 1) := by decide +kernel
theorem dX5_lineValue_37 : decode cX5_lineValue 37 = .ok (.getfield 69, 3) := by decide +kernel
theorem dX5_lineValue_40 : decode cX5_lineValue 40 = .ok (.iload_n 2, 1) := by decide +kernel
theorem dX5_lineValue_41 : decode cX5_lineValue 41 = .ok (.iaload, 1) := by decide +kernel
theorem dX5_lineValue_42 : decode cX5_lineValue 42 = .ok (.ireturn, 1) := by decide +kernel
theorem dX5_part_0 : decode cX5_part 0 = .ok (.iload_n 0, 1) := by decide +kernel
theorem dX5_part_1 : decode cX5_part 1 = .ok (.ifCond .lt 9, 3) := by decide +kernel
theorem dX5_part_4 : decode cX5_part 4 = .ok (.iload_n 0, 1) := by decide +kernel
theorem dX5_part_5 : decode cX5_part 5 = .ok (.iload_n 1, 1) := by decide +kernel
theorem dX5_part_6 : decode cX5_part 6 = .ok (.idiv, 1) := by decide +kernel
theorem dX5_part_7 : decode cX5_part 7 = .ok (.goto 11, 3) := by decide +kernel
theorem dX5_part_10 : decode cX5_part 10 = .ok (.iload_n 1, 1) := by decide +kernel
theorem dX5_part_11 : decode cX5_part 11 = .ok (.iconst 1, 1) := by decide +kernel
theorem dX5_part_12 : decode cX5_part 12 = .ok (.isub, 1) := by decide +kernel
theorem dX5_part_13 : decode cX5_part 13 = .ok (.iload_n 0, 1) := by decide +kernel
theorem dX5_part_14 : decode cX5_part 14 = .ok (.isub, 1) := by decide +kernel
theorem dX5_part_15 : decode cX5_part 15 = .ok (.iload_n 1, 1) := by decide +kernel
theorem dX5_part_16 : decode cX5_part 16 = .ok (.idiv, 1) := by decide +kernel
theorem dX5_part_17 : decode cX5_part 17 = .ok (.ineg, 1) := by decide +kernel
theorem dX5_part_18 : decode cX5_part 18 = .ok (.ireturn, 1) := by decide +kernel
set_option maxRecDepth 20000 in
theorem ggX5_worth_X5_part : GoodIn wsX5_worth wsX5_part := goodIn_r _ [8] (by decide +kernel) (by decide +kernel)
set_option maxRecDepth 20000 in
theorem gX5_worth_X5_part : GoodIn wsX5_worth (va_wsS RX5 143 yX5_part wsX5_part) := goodIn_app (goodIn_of _ (by decide +kernel)) ggX5_worth_X5_part
theorem dX5_worth_0 : decode cX5_worth 0 = .ok (.aload_n 0, 1) := by decide +kernel
theorem dX5_worth_1 : decode cX5_worth 1 = .ok (.getfield 7, 3) := by decide +kernel
theorem dX5_worth_4 : decode cX5_worth 4 = .ok (.iload_n 1, 1) := by decide +kernel
theorem dX5_worth_5 : decode cX5_worth 5 = .ok (.iaload, 1) := by decide +kernel
theorem dX5_worth_6 : decode cX5_worth 6 = .ok (.istore 4, 2) := by decide +kernel
theorem dX5_worth_8 : decode cX5_worth 8 = .ok (.bipush 80, 2) := by decide +kernel
theorem dX5_worth_10 : decode cX5_worth 10 = .ok (.iload 4, 2) := by decide +kernel
theorem dX5_worth_12 : decode cX5_worth 12 = .ok (.imul, 1) := by decide +kernel
theorem dX5_worth_13 : decode cX5_worth 13 = .ok (.bipush 100, 2) := by decide +kernel
theorem dX5_worth_15 : decode cX5_worth 15 = .ok (.aload_n 0, 1) := by decide +kernel
theorem dX5_worth_16 : decode cX5_worth 16 = .ok (.getfield 16, 3) := by decide +kernel
theorem dX5_worth_19 : decode cX5_worth 19 = .ok (.iload_n 1, 1) := by decide +kernel
theorem dX5_worth_20 : decode cX5_worth 20 = .ok (.iaload, 1) := by decide +kernel
theorem dX5_worth_21 : decode cX5_worth 21 = .ok (.imul, 1) := by decide +kernel
theorem dX5_worth_22 : decode cX5_worth 22 = .ok (.isub, 1) := by decide +kernel
theorem dX5_worth_23 : decode cX5_worth 23 = .ok (.istore 5, 2) := by decide +kernel
theorem dX5_worth_25 : decode cX5_worth 25 = .ok (.bipush 100, 2) := by decide +kernel
theorem dX5_worth_27 : decode cX5_worth 27 = .ok (.aload_n 0, 1) := by decide +kernel
theorem dX5_worth_28 : decode cX5_worth 28 = .ok (.getfield 13, 3) := by decide +kernel
theorem dX5_worth_31 : decode cX5_worth 31 = .ok (.iload_n 1, 1) := by decide +kernel
theorem dX5_worth_32 : decode cX5_worth 32 = .ok (.iaload, 1) := by decide +kernel
theorem dX5_worth_33 : decode cX5_worth 33 = .ok (.imul, 1) := by decide +kernel
theorem dX5_worth_34 : decode cX5_worth 34 = .ok (.istore 6, 2) := by decide +kernel
theorem dX5_worth_36 : decode cX5_worth 36 = .ok (.iload 5, 2) := by decide +kernel
theorem dX5_worth_38 : decode cX5_worth 38 = .ok (.iload 6, 2) := by decide +kernel
theorem dX5_worth_40 : decode cX5_worth 40 = .ok (.if_icmp .le 8, 3) := by decide +kernel
theorem dX5_worth_43 : decode cX5_worth 43 = .ok (.iload 5, 2) := by decide +kernel
theorem dX5_worth_45 : decode cX5_worth 45 = .ok (.goto 5, 3) := by decide +kernel
theorem dX5_worth_48 : decode cX5_worth 48 = .ok (.iload 6, 2) := by decide +kernel
theorem dX5_worth_50 : decode cX5_worth 50 = .ok (.istore 7, 2) := by decide +kernel
theorem dX5_worth_52 : decode cX5_worth 52 = .ok (.iload_n 2, 1) := by decide +kernel
theorem dX5_worth_53 : decode cX5_worth 53 = .ok (.ifCond .ne 18, 3) := by decide +kernel
theorem dX5_worth_56 : decode cX5_worth 56 = .ok (.iload_n 3, 1) := by decide +kernel
theorem dX5_worth_57 : decode cX5_worth 57 = .ok (.ifCond .ne 11, 3) := by decide +kernel
theorem dX5_worth_60 : decode cX5_worth 60 = .ok (.bipush 100, 2) := by decide +kernel
theorem dX5_worth_62 : decode cX5_worth 62 = .ok (.iload 4, 2) := by decide +kernel
theorem dX5_worth_64 : decode cX5_worth 64 = .ok (.imul, 1) := by decide +kernel
theorem dX5_worth_65 : decode cX5_worth 65 = .ok (.goto 5, 3) := by decide +kernel
theorem dX5_worth_68 : decode cX5_worth 68 = .ok (.ldc 142, 2) := by decide +kernel
theorem dX5_worth_70 : decode cX5_worth 70 = .ok (.ireturn, 1) := by decide +kernel
theorem dX5_worth_71 : decode cX5_worth 71 = .ok (.iload_n 2, 1) := by decide +kernel
theorem dX5_worth_72 : decode cX5_worth 72 = .ok (.iconst 1, 1) := by decide +kernel
theorem dX5_worth_73 : decode cX5_worth 73 = .ok (.if_icmp .ne 52, 3) := by decide +kernel
theorem dX5_worth_76 : decode cX5_worth 76 = .ok (.iload_n 3, 1) := by decide +kernel
theorem dX5_worth_77 : decode cX5_worth 77 = .ok (.ifCond .ne 11, 3) := by decide +kernel
theorem dX5_worth_80 : decode cX5_worth 80 = .ok (.bipush 46, 2) := by decide +kernel
theorem dX5_worth_82 : decode cX5_worth 82 = .ok (.iload 4, 2) := by decide +kernel
theorem dX5_worth_84 : decode cX5_worth 84 = .ok (.imul, 1) := by decide +kernel
theorem dX5_worth_85 : decode cX5_worth 85 = .ok (.goto 39, 3) := by decide +kernel
theorem dX5_worth_88 : decode cX5_worth 88 = .ok (.iload_n 3, 1) := by decide +kernel
theorem dX5_worth_89 : decode cX5_worth 89 = .ok (.iconst 1, 1) := by decide +kernel
theorem dX5_worth_90 : decode cX5_worth 90 = .ok (.if_icmp .ne 22, 3) := by decide +kernel
theorem dX5_worth_93 : decode cX5_worth 93 = .ok (.bipush 68, 2) := by decide +kernel
theorem dX5_worth_95 : decode cX5_worth 95 = .ok (.iload 4, 2) := by decide +kernel
theorem dX5_worth_97 : decode cX5_worth 97 = .ok (.imul, 1) := by decide +kernel
theorem dX5_worth_98 : decode cX5_worth 98 = .ok (.sipush 5000, 3) := by decide +kernel
theorem dX5_worth_101 : decode cX5_worth 101 = .ok (.isub, 1) := by decide +kernel
theorem dX5_worth_102 : decode cX5_worth 102 = .ok (.iload 7, 2) := by decide +kernel
theorem dX5_worth_104 : decode cX5_worth 104 = .ok (.iconst 5, 1) := by decide +kernel
theorem dX5_worth_105 : decode cX5_worth 105 = .ok (.invokestatic 143, 3) := by decide +kernel
theorem dX5_worth_108 : decode cX5_worth 108 = .ok (.iadd, 1) := by decide +kernel
theorem dX5_worth_109 : decode cX5_worth 109 = .ok (.goto 15, 3) := by decide +kernel
theorem dX5_worth_112 : decode cX5_worth 112 = .ok (.iload_n 3, 1) := by decide +kernel
theorem dX5_worth_113 : decode cX5_worth 113 = .ok (.iconst 3, 1) := by decide +kernel
theorem dX5_worth_114 : decode cX5_worth 114 = .ok (.if_icmp .ne 8, 3) := by decide +kernel
theorem dX5_worth_117 : decode cX5_worth 117 = .ok (.iload 6, 2) := by decide +kernel
theorem dX5_worth_119 : decode cX5_worth 119 = .ok (.goto 5, 3) := by decide +kernel
theorem dX5_worth_122 : decode cX5_worth 122 = .ok (.ldc 142, 2) := by decide +kernel
theorem dX5_worth_124 : decode cX5_worth 124 = .ok (.ireturn, 1) := by decide +kernel
theorem dX5_worth_125 : decode cX5_worth 125 = .ok (.iload_n 3, 1) := by decide +kernel
theorem dX5_worth_126 : decode cX5_worth 126 = .ok (.iconst 2, 1) := by decide +kernel
theorem dX5_worth_127 : decode cX5_worth 127 = .ok (.if_icmp .ne 8, 3) := by decide +kernel
theorem dX5_worth_130 : decode cX5_worth 130 = .ok (.iload 5, 2) := by decide +kernel
theorem dX5_worth_132 : decode cX5_worth 132 = .ok (.goto 33, 3) := by decide +kernel
theorem dX5_worth_135 : decode cX5_worth 135 = .ok (.iload_n 3, 1) := by decide +kernel
theorem dX5_worth_136 : decode cX5_worth 136 = .ok (.iconst 3, 1) := by decide +kernel
theorem dX5_worth_137 : decode cX5_worth 137 = .ok (.if_icmp .ne 8, 3) := by decide +kernel
theorem dX5_worth_140 : decode cX5_worth 140 = .ok (.iload 6, 2) := by decide +kernel
theorem dX5_worth_142 : decode cX5_worth 142 = .ok (.goto 23, 3) := by decide +kernel
theorem dX5_worth_145 : decode cX5_worth 145 = .ok (.iload_n 3, 1) := by decide +kernel
theorem dX5_worth_146 : decode cX5_worth 146 = .ok (.iconst 4, 1) := by decide +kernel
theorem dX5_worth_147 : decode cX5_worth 147 = .ok (.if_icmp .ne 16, 3) := by decide +kernel
theorem dX5_worth_150 : decode cX5_worth 150 = .ok (.iload_n 2, 1) := by decide +kernel
theorem dX5_worth_151 : decode cX5_worth 151 = .ok (.iconst 3, 1) := by decide +kernel
theorem dX5_worth_152 : decode cX5_worth 152 = .ok (.if_icmp .ne 11, 3) := by decide +kernel
theorem dX5_worth_155 : decode cX5_worth 155 = .ok (.bipush 60, 2) := by decide +kernel
theorem dX5_worth_157 : decode cX5_worth 157 = .ok (.iload 4, 2) := by decide +kernel
theorem dX5_worth_159 : decode cX5_worth 159 = .ok (.imul, 1) := by decide +kernel
theorem dX5_worth_160 : decode cX5_worth 160 = .ok (.goto 5, 3) := by decide +kernel
theorem dX5_worth_163 : decode cX5_worth 163 = .ok (.ldc 142, 2) := by decide +kernel
theorem dX5_worth_165 : decode cX5_worth 165 = .ok (.ireturn, 1) := by decide +kernel
set_option maxRecDepth 20000 in
theorem ggX5_best_X5_worth : GoodIn wsX5_best wsX5_worth := goodIn_r _ [5, 6, 7, 8, 9, 10, 11, 4, 12, 13, 14, 15, 16, 17, 18, 19, 20, 21, 22, 23, 24, 25, 26, 27, 28, 29, 30, 31, 32, 33, 34, 35, 36, 37] (by decide +kernel) (by decide +kernel)
set_option maxRecDepth 20000 in
theorem gX5_best_X5_worth : GoodIn wsX5_best (wsV RX5 146 RX5 yX5_worth wsX5_worth) := goodIn_app (goodIn_of _ (by decide +kernel)) ggX5_best_X5_worth
theorem dX5_best_0 : decode cX5_best 0 = .ok (.iconst 0, 1) := by decide +kernel
theorem dX5_best_1 : decode cX5_best 1 = .ok (.istore_n 3, 1) := by decide +kernel
theorem dX5_best_2 : decode cX5_best 2 = .ok (.iconst 1, 1) := by decide +kernel
theorem dX5_best_3 : decode cX5_best 3 = .ok (.istore 4, 2) := by decide +kernel
theorem dX5_best_5 : decode cX5_best 5 = .ok (.iload 4, 2) := by decide +kernel
theorem dX5_best_7 : decode cX5_best 7 = .ok (.iconst 4, 1) := by decide +kernel
theorem dX5_best_8 : decode cX5_best 8 = .ok (.if_icmp .gt 34, 3) := by decide +kernel
theorem dX5_best_11 : decode cX5_best 11 = .ok (.aload_n 0, 1) := by decide +kernel
theorem dX5_best_12 : decode cX5_best 12 = .ok (.iload_n 1, 1) := by decide +kernel
theorem dX5_best_13 : decode cX5_best 13 = .ok (.iload_n 2, 1) := by decide +kernel
theorem dX5_best_14 : decode cX5_best 14 = .ok (.iload 4, 2) := by decide +kernel
theorem dX5_best_16 : decode cX5_best 16 = .ok (.invokevirtual 146, 3) := by decide +kernel
theorem dX5_best_19 : decode cX5_best 19 = .ok (.aload_n 0, 1) := by decide +kernel
theorem dX5_best_20 : decode cX5_best 20 = .ok (.iload_n 1, 1) := by decide +kernel
theorem dX5_best_21 : decode cX5_best 21 = .ok (.iload_n 2, 1) := by decide +kernel
theorem dX5_best_22 : decode cX5_best 22 = .ok (.iload_n 3, 1) := by decide +kernel
theorem dX5_best_23 : decode cX5_best 23 = .ok (.invokevirtual 146, 3) := by decide +kernel
theorem dX5_best_26 : decode cX5_best 26 = .ok (.if_icmp .le 8, 3) := by decide +kernel
theorem dX5_best_29 : decode cX5_best 29 = .ok (.iload 4, 2) := by decide +kernel
theorem dX5_best_31 : decode cX5_best 31 = .ok (.goto 4, 3) := by decide +kernel
theorem dX5_best_34 : decode cX5_best 34 = .ok (.iload_n 3, 1) := by decide +kernel
theorem dX5_best_35 : decode cX5_best 35 = .ok (.istore_n 3, 1) := by decide +kernel
theorem dX5_best_36 : decode cX5_best 36 = .ok (.iinc 4 1, 3) := by decide +kernel
theorem dX5_best_39 : decode cX5_best 39 = .ok (.goto (-34), 3) := by decide +kernel
theorem dX5_best_42 : decode cX5_best 42 = .ok (.iload_n 3, 1) := by decide +kernel
theorem dX5_best_43 : decode cX5_best 43 = .ok (.ireturn, 1) := by decide +kernel
set_option maxRecDepth 20000 in
theorem ggX5_asksOption_X5_isTen : GoodIn wsX5_asksOption wsX5_isTen := goodIn_r _ [4, 5, 6, 3, 7] (by decide +kernel) (by decide +kernel)
set_option maxRecDepth 20000 in
theorem gX5_asksOption_X5_isTen : GoodIn wsX5_asksOption (va_wsS RX5 87 yX5_isTen wsX5_isTen) := goodIn_app (goodIn_of _ (by decide +kernel)) ggX5_asksOption_X5_isTen
set_option maxRecDepth 20000 in
theorem ggX5_asksOption_X5_isIn : GoodIn wsX5_asksOption wsX5_isIn := goodIn_r _ [7] (by decide +kernel) (by decide +kernel)
set_option maxRecDepth 20000 in
theorem gX5_asksOption_X5_isIn : GoodIn wsX5_asksOption (va_wsS RX5 76 yX5_isIn wsX5_isIn) := goodIn_app (goodIn_of _ (by decide +kernel)) ggX5_asksOption_X5_isIn
set_option maxRecDepth 20000 in
theorem ggX5_asksOption_X5_goes : GoodIn wsX5_asksOption wsX5_goes := goodIn_r _ [11, 12, 13, 14, 15, 16, 17, 18, 19, 20, 21, 22, 23, 24, 25, 26, 27, 28, 29, 30, 31, 32, 33, 34, 35, 36, 37] (by decide +kernel) (by decide +kernel)
set_option maxRecDepth 20000 in
theorem gX5_asksOption_X5_goes : GoodIn wsX5_asksOption (wsV RX5 91 RX5 yX5_goes wsX5_goes) := goodIn_app (goodIn_of _ (by decide +kernel)) ggX5_asksOption_X5_goes
theorem dX5_asksOption_0 : decode cX5_asksOption 0 = .ok (.aload_n 0, 1) := by decide +kernel
theorem dX5_asksOption_1 : decode cX5_asksOption 1 = .ok (.iload_n 1, 1) := by decide +kernel
theorem dX5_asksOption_2 : decode cX5_asksOption 2 = .ok (.invokestatic 87, 3) := by decide +kernel
theorem dX5_asksOption_5 : decode cX5_asksOption 5 = .ok (.ifCond .eq 16, 3) := by decide +kernel
theorem dX5_asksOption_8 : decode cX5_asksOption 8 = .ok (.iload_n 2, 1) := by decide +kernel
theorem dX5_asksOption_9 : decode cX5_asksOption 9 = .ok (.iconst 0, 1) := by decide +kernel
theorem dX5_asksOption_10 : decode cX5_asksOption 10 = .ok (.iconst 3, 1) := by decide +kernel
theorem dX5_asksOption_11 : decode cX5_asksOption 11 = .ok (.invokestatic 76, 3) := by decide +kernel
theorem dX5_asksOption_14 : decode cX5_asksOption 14 = .ok (.ifCond .eq 7, 3) := by decide +kernel
theorem dX5_asksOption_17 : decode cX5_asksOption 17 = .ok (.iconst 0, 1) := by decide +kernel
theorem dX5_asksOption_18 : decode cX5_asksOption 18 = .ok (.goto 4, 3) := by decide +kernel
theorem dX5_asksOption_21 : decode cX5_asksOption 21 = .ok (.iconst 1, 1) := by decide +kernel
theorem dX5_asksOption_22 : decode cX5_asksOption 22 = .ok (.invokevirtual 91, 3) := by decide +kernel
theorem dX5_asksOption_25 : decode cX5_asksOption 25 = .ok (.ireturn, 1) := by decide +kernel
set_option maxRecDepth 20000 in
theorem ggX5_bestOption_X5_asksOption : GoodIn wsX5_bestOption wsX5_asksOption := goodIn_r _ [5, 6, 7, 4, 8, 9, 10, 11, 12, 13, 14, 15, 16, 32, 33, 34, 35, 36, 37, 38, 39, 40, 41, 42, 43, 44, 45, 46, 47, 48, 49, 50, 51, 52, 53, 54, 55, 56] (by decide +kernel) (by decide +kernel)
set_option maxRecDepth 20000 in
theorem gX5_bestOption_X5_asksOption : GoodIn wsX5_bestOption (wsV RX5 149 RX5 yX5_asksOption wsX5_asksOption) := goodIn_app (goodIn_of _ (by decide +kernel)) ggX5_bestOption_X5_asksOption
set_option maxRecDepth 20000 in
theorem ggX5_bestOption_X5_best : GoodIn wsX5_bestOption wsX5_best := goodIn_r _ [20, 21, 22, 23, 4, 24, 25, 26, 27, 28, 29, 30, 31, 32, 33, 34, 35, 36, 37, 38, 39, 40, 41, 42, 43, 44, 45, 46, 47, 48, 49, 50, 51, 52, 53, 54, 55, 56] (by decide +kernel) (by decide +kernel)
set_option maxRecDepth 20000 in
theorem gX5_bestOption_X5_best : GoodIn wsX5_bestOption (wsV RX5 152 RX5 yX5_best wsX5_best) := goodIn_app (goodIn_of _ (by decide +kernel)) ggX5_bestOption_X5_best
theorem dX5_bestOption_0 : decode cX5_bestOption 0 = .ok (.aload_n 0, 1) := by decide +kernel
theorem dX5_bestOption_1 : decode cX5_bestOption 1 = .ok (.iload_n 1, 1) := by decide +kernel
theorem dX5_bestOption_2 : decode cX5_bestOption 2 = .ok (.iload_n 2, 1) := by decide +kernel
theorem dX5_bestOption_3 : decode cX5_bestOption 3 = .ok (.invokevirtual 149, 3) := by decide +kernel
theorem dX5_bestOption_6 : decode cX5_bestOption 6 = .ok (.ifCond .eq 12, 3) := by decide +kernel
theorem dX5_bestOption_9 : decode cX5_bestOption 9 = .ok (.aload_n 0, 1) := by decide +kernel
theorem dX5_bestOption_10 : decode cX5_bestOption 10 = .ok (.iload_n 1, 1) := by decide +kernel
theorem dX5_bestOption_11 : decode cX5_bestOption 11 = .ok (.iload_n 2, 1) := by decide +kernel
theorem dX5_bestOption_12 : decode cX5_bestOption 12 = .ok (.invokevirtual 152, 3) := by decide +kernel
theorem dX5_bestOption_15 : decode cX5_bestOption 15 = .ok (.goto 4, 3) := by decide +kernel
theorem dX5_bestOption_18 : decode cX5_bestOption 18 = .ok (.iconst 0, 1) := by decide +kernel
theorem dX5_bestOption_19 : decode cX5_bestOption 19 = .ok (.ireturn, 1) := by decide +kernel
set_option maxRecDepth 20000 in
theorem ggX5_bestWorth_X5_asksOption : GoodIn wsX5_bestWorth wsX5_asksOption := goodIn_r _ [5, 6, 7, 4, 8, 9, 10, 11, 12, 13, 14, 15, 16, 32, 33, 34, 35, 36, 37, 38, 39, 40, 41, 42, 43, 44, 45, 46, 47, 48, 49, 50, 51, 52, 53, 54, 55, 56] (by decide +kernel) (by decide +kernel)
set_option maxRecDepth 20000 in
theorem gX5_bestWorth_X5_asksOption : GoodIn wsX5_bestWorth (wsV RX5 149 RX5 yX5_asksOption wsX5_asksOption) := goodIn_app (goodIn_of _ (by decide +kernel)) ggX5_bestWorth_X5_asksOption
set_option maxRecDepth 20000 in
theorem ggX5_bestWorth_X5_best : GoodIn wsX5_bestWorth wsX5_best := goodIn_r _ [20, 21, 22, 23, 4, 24, 25, 26, 27, 28, 29, 30, 31, 32, 33, 34, 35, 36, 37, 38, 39, 40, 41, 42, 43, 44, 45, 46, 47, 48, 49, 50, 51, 52, 53, 54, 55, 56] (by decide +kernel) (by decide +kernel)
set_option maxRecDepth 20000 in
theorem gX5_bestWorth_X5_best : GoodIn wsX5_bestWorth (wsV RX5 152 RX5 yX5_best wsX5_best) := goodIn_app (goodIn_of _ (by decide +kernel)) ggX5_bestWorth_X5_best
set_option maxRecDepth 20000 in
theorem ggX5_bestWorth_X5_worth : GoodIn wsX5_bestWorth wsX5_worth := goodIn_r _ [24, 25, 26, 27, 28, 29, 30, 4, 31, 32, 33, 34, 35, 36, 37, 38, 39, 40, 41, 42, 43, 44, 45, 46, 47, 48, 49, 50, 51, 52, 53, 54, 55, 56] (by decide +kernel) (by decide +kernel)
set_option maxRecDepth 20000 in
theorem gX5_bestWorth_X5_worth : GoodIn wsX5_bestWorth (wsV RX5 146 RX5 yX5_worth wsX5_worth) := goodIn_app (goodIn_of _ (by decide +kernel)) ggX5_bestWorth_X5_worth
theorem dX5_bestWorth_0 : decode cX5_bestWorth 0 = .ok (.aload_n 0, 1) := by decide +kernel
theorem dX5_bestWorth_1 : decode cX5_bestWorth 1 = .ok (.iload_n 1, 1) := by decide +kernel
theorem dX5_bestWorth_2 : decode cX5_bestWorth 2 = .ok (.iload_n 2, 1) := by decide +kernel
theorem dX5_bestWorth_3 : decode cX5_bestWorth 3 = .ok (.invokevirtual 149, 3) := by decide +kernel
theorem dX5_bestWorth_6 : decode cX5_bestWorth 6 = .ok (.ifCond .eq 18, 3) := by decide +kernel
theorem dX5_bestWorth_9 : decode cX5_bestWorth 9 = .ok (.aload_n 0, 1) := by decide +kernel
theorem dX5_bestWorth_10 : decode cX5_bestWorth 10 = .ok (.iload_n 1, 1) := by decide +kernel
theorem dX5_bestWorth_11 : decode cX5_bestWorth 11 = .ok (.iload_n 2, 1) := by decide +kernel
theorem dX5_bestWorth_12 : decode cX5_bestWorth 12 = .ok (.aload_n 0, 1) := by decide +kernel
theorem dX5_bestWorth_13 : decode cX5_bestWorth 13 = .ok (.iload_n 1, 1) := by decide +kernel
theorem dX5_bestWorth_14 : decode cX5_bestWorth 14 = .ok (.iload_n 2, 1) := by decide +kernel
theorem dX5_bestWorth_15 : decode cX5_bestWorth 15 = .ok (.invokevirtual 152, 3) := by decide +kernel
theorem dX5_bestWorth_18 : decode cX5_bestWorth 18 = .ok (.invokevirtual 146, 3) := by decide +kernel
theorem dX5_bestWorth_21 : decode cX5_bestWorth 21 = .ok (.goto 4, 3) := by decide +kernel
theorem dX5_bestWorth_24 : decode cX5_bestWorth 24 = .ok (.iconst 0, 1) := by decide +kernel
theorem dX5_bestWorth_25 : decode cX5_bestWorth 25 = .ok (.ireturn, 1) := by decide +kernel
set_option maxRecDepth 20000 in
theorem ggX5_stock_X5_isTen : GoodIn wsX5_stock wsX5_isTen := goodIn_r _ [5, 6, 7, 4, 8] (by decide +kernel) (by decide +kernel)
set_option maxRecDepth 20000 in
theorem gX5_stock_X5_isTen : GoodIn wsX5_stock (va_wsS RX5 87 yX5_isTen wsX5_isTen) := goodIn_app (goodIn_of _ (by decide +kernel)) ggX5_stock_X5_isTen
set_option maxRecDepth 20000 in
theorem ggX5_stock_X5_isIn : GoodIn wsX5_stock wsX5_isIn := goodIn_r _ [8] (by decide +kernel) (by decide +kernel)
set_option maxRecDepth 20000 in
theorem gX5_stock_X5_isIn : GoodIn wsX5_stock (va_wsS RX5 76 yX5_isIn wsX5_isIn) := goodIn_app (goodIn_of _ (by decide +kernel)) ggX5_stock_X5_isIn
set_option maxRecDepth 20000 in
theorem ggX5_stock_X5_goes : GoodIn wsX5_stock wsX5_goes := goodIn_r _ [12, 13, 14, 15, 16, 17, 18, 19, 20, 21, 22, 23, 24, 25, 26, 27, 28, 29, 30, 31, 32, 33, 34, 35, 36, 37, 38] (by decide +kernel) (by decide +kernel)
set_option maxRecDepth 20000 in
theorem gX5_stock_X5_goes : GoodIn wsX5_stock (wsV RX5 91 RX5 yX5_goes wsX5_goes) := goodIn_app (goodIn_of _ (by decide +kernel)) ggX5_stock_X5_goes
theorem dX5_stock_0 : decode cX5_stock 0 = .ok (.aload_n 0, 1) := by decide +kernel
theorem dX5_stock_1 : decode cX5_stock 1 = .ok (.iload_n 1, 1) := by decide +kernel
theorem dX5_stock_2 : decode cX5_stock 2 = .ok (.invokestatic 87, 3) := by decide +kernel
theorem dX5_stock_5 : decode cX5_stock 5 = .ok (.ifCond .eq 16, 3) := by decide +kernel
theorem dX5_stock_8 : decode cX5_stock 8 = .ok (.iload_n 2, 1) := by decide +kernel
theorem dX5_stock_9 : decode cX5_stock 9 = .ok (.iconst 0, 1) := by decide +kernel
theorem dX5_stock_10 : decode cX5_stock 10 = .ok (.iconst 4, 1) := by decide +kernel
theorem dX5_stock_11 : decode cX5_stock 11 = .ok (.invokestatic 76, 3) := by decide +kernel
theorem dX5_stock_14 : decode cX5_stock 14 = .ok (.ifCond .eq 7, 3) := by decide +kernel
theorem dX5_stock_17 : decode cX5_stock 17 = .ok (.iconst 0, 1) := by decide +kernel
theorem dX5_stock_18 : decode cX5_stock 18 = .ok (.goto 4, 3) := by decide +kernel
theorem dX5_stock_21 : decode cX5_stock 21 = .ok (.iconst 1, 1) := by decide +kernel
theorem dX5_stock_22 : decode cX5_stock 22 = .ok (.invokevirtual 91, 3) := by decide +kernel
theorem dX5_stock_25 : decode cX5_stock 25 = .ok (.ifCond .eq 16, 3) := by decide +kernel
theorem dX5_stock_28 : decode cX5_stock 28 = .ok (.aload_n 0, 1) := by decide +kernel
theorem dX5_stock_29 : decode cX5_stock 29 = .ok (.getfield 19, 3) := by decide +kernel
theorem dX5_stock_32 : decode cX5_stock 32 = .ok (.iconst 5, 1) := by decide +kernel
theorem dX5_stock_33 : decode cX5_stock 33 = .ok (.iload_n 1, 1) := by decide +kernel
theorem dX5_stock_34 : decode cX5_stock 34 = .ok (.imul, 1) := by decide +kernel
theorem dX5_stock_35 : decode cX5_stock 35 = .ok (.iload_n 2, 1) := by decide +kernel
theorem dX5_stock_36 : decode cX5_stock 36 = .ok (.iadd, 1) := by decide +kernel
theorem dX5_stock_37 : decode cX5_stock 37 = .ok (.iaload, 1) := by decide +kernel
theorem dX5_stock_38 : decode cX5_stock 38 = .ok (.goto 4, 3) := by decide +kernel
theorem dX5_stock_41 : decode cX5_stock 41 = .ok (.iconst 0, 1) := by decide +kernel
theorem dX5_stock_42 : decode cX5_stock 42 = .ok (.ireturn, 1) := by decide +kernel
set_option maxRecDepth 20000 in
theorem ggX5_test_X5_isTen : GoodIn wsX5_test wsX5_isTen := goodIn_r _ [5, 6, 7, 4, 8] (by decide +kernel) (by decide +kernel)
set_option maxRecDepth 20000 in
theorem gX5_test_X5_isTen : GoodIn wsX5_test (va_wsS RX5 87 yX5_isTen wsX5_isTen) := goodIn_app (goodIn_of _ (by decide +kernel)) ggX5_test_X5_isTen
set_option maxRecDepth 20000 in
theorem ggX5_test_X5_goes : GoodIn wsX5_test wsX5_goes := goodIn_r _ [12, 13, 29, 30, 31, 32, 33, 34, 35, 36, 37, 38, 39, 40, 41, 42, 43, 44, 45, 46, 47, 48, 49, 50, 51, 52, 53] (by decide +kernel) (by decide +kernel)
set_option maxRecDepth 20000 in
theorem gX5_test_X5_goes : GoodIn wsX5_test (wsV RX5 91 RX5 yX5_goes wsX5_goes) := goodIn_app (goodIn_of _ (by decide +kernel)) ggX5_test_X5_goes
set_option maxRecDepth 20000 in
theorem ggX5_test_X5_best : GoodIn wsX5_test wsX5_best := goodIn_r _ [17, 18, 19, 20, 4, 21, 22, 23, 24, 25, 26, 27, 28, 29, 30, 31, 32, 33, 34, 35, 36, 37, 38, 39, 40, 41, 42, 43, 44, 45, 46, 47, 48, 49, 50, 51, 52, 53] (by decide +kernel) (by decide +kernel)
set_option maxRecDepth 20000 in
theorem gX5_test_X5_best : GoodIn wsX5_test (wsV RX5 152 RX5 yX5_best wsX5_best) := goodIn_app (goodIn_of _ (by decide +kernel)) ggX5_test_X5_best
theorem dX5_test_0 : decode cX5_test 0 = .ok (.aload_n 0, 1) := by decide +kernel
theorem dX5_test_1 : decode cX5_test 1 = .ok (.iload_n 1, 1) := by decide +kernel
theorem dX5_test_2 : decode cX5_test 2 = .ok (.invokestatic 87, 3) := by decide +kernel
theorem dX5_test_5 : decode cX5_test 5 = .ok (.ifCond .ne 7, 3) := by decide +kernel
theorem dX5_test_8 : decode cX5_test 8 = .ok (.iconst 1, 1) := by decide +kernel
theorem dX5_test_9 : decode cX5_test 9 = .ok (.goto 21, 3) := by decide +kernel
theorem dX5_test_12 : decode cX5_test 12 = .ok (.aload_n 0, 1) := by decide +kernel
theorem dX5_test_13 : decode cX5_test 13 = .ok (.getfield 19, 3) := by decide +kernel
theorem dX5_test_16 : decode cX5_test 16 = .ok (.iconst 5, 1) := by decide +kernel
theorem dX5_test_17 : decode cX5_test 17 = .ok (.iload_n 1, 1) := by decide +kernel
theorem dX5_test_18 : decode cX5_test 18 = .ok (.imul, 1) := by decide +kernel
theorem dX5_test_19 : decode cX5_test 19 = .ok (.iconst 1, 1) := by decide +kernel
theorem dX5_test_20 : decode cX5_test 20 = .ok (.iadd, 1) := by decide +kernel
theorem dX5_test_21 : decode cX5_test 21 = .ok (.iaload, 1) := by decide +kernel
theorem dX5_test_22 : decode cX5_test 22 = .ok (.ifCond .ne 7, 3) := by decide +kernel
theorem dX5_test_25 : decode cX5_test 25 = .ok (.iconst 2, 1) := by decide +kernel
theorem dX5_test_26 : decode cX5_test 26 = .ok (.goto 4, 3) := by decide +kernel
theorem dX5_test_29 : decode cX5_test 29 = .ok (.iconst 0, 1) := by decide +kernel
theorem dX5_test_30 : decode cX5_test 30 = .ok (.invokevirtual 91, 3) := by decide +kernel
theorem dX5_test_33 : decode cX5_test 33 = .ok (.ifCond .ne 5, 3) := by decide +kernel
theorem dX5_test_36 : decode cX5_test 36 = .ok (.iconst 0, 1) := by decide +kernel
theorem dX5_test_37 : decode cX5_test 37 = .ok (.ireturn, 1) := by decide +kernel
theorem dX5_test_38 : decode cX5_test 38 = .ok (.iload_n 2, 1) := by decide +kernel
theorem dX5_test_39 : decode cX5_test 39 = .ok (.ifCond .eq 7, 3) := by decide +kernel
theorem dX5_test_42 : decode cX5_test 42 = .ok (.iconst 0, 1) := by decide +kernel
theorem dX5_test_43 : decode cX5_test 43 = .ok (.goto 9, 3) := by decide +kernel
theorem dX5_test_46 : decode cX5_test 46 = .ok (.aload_n 0, 1) := by decide +kernel
theorem dX5_test_47 : decode cX5_test 47 = .ok (.iload_n 1, 1) := by decide +kernel
theorem dX5_test_48 : decode cX5_test 48 = .ok (.iconst 2, 1) := by decide +kernel
theorem dX5_test_49 : decode cX5_test 49 = .ok (.invokevirtual 152, 3) := by decide +kernel
theorem dX5_test_52 : decode cX5_test 52 = .ok (.istore_n 3, 1) := by decide +kernel
theorem dX5_test_53 : decode cX5_test 53 = .ok (.aload_n 0, 1) := by decide +kernel
theorem dX5_test_54 : decode cX5_test 54 = .ok (.getfield 19, 3) := by decide +kernel
theorem dX5_test_57 : decode cX5_test 57 = .ok (.iconst 5, 1) := by decide +kernel
theorem dX5_test_58 : decode cX5_test 58 = .ok (.iload_n 1, 1) := by decide +kernel
theorem dX5_test_59 : decode cX5_test 59 = .ok (.imul, 1) := by decide +kernel
theorem dX5_test_60 : decode cX5_test 60 = .ok (.iconst 1, 1) := by decide +kernel
theorem dX5_test_61 : decode cX5_test 61 = .ok (.iadd, 1) := by decide +kernel
theorem dX5_test_62 : decode cX5_test 62 = .ok (.dup2, 1) := by decide +kernel
theorem dX5_test_63 : decode cX5_test 63 = .ok (.iaload, 1) := by decide +kernel
theorem dX5_test_64 : decode cX5_test 64 = .ok (.iconst 1, 1) := by decide +kernel
theorem dX5_test_65 : decode cX5_test 65 = .ok (.isub, 1) := by decide +kernel
theorem dX5_test_66 : decode cX5_test 66 = .ok (.iastore, 1) := by decide +kernel
theorem dX5_test_67 : decode cX5_test 67 = .ok (.aload_n 0, 1) := by decide +kernel
theorem dX5_test_68 : decode cX5_test 68 = .ok (.getfield 19, 3) := by decide +kernel
theorem dX5_test_71 : decode cX5_test 71 = .ok (.iconst 5, 1) := by decide +kernel
theorem dX5_test_72 : decode cX5_test 72 = .ok (.iload_n 1, 1) := by decide +kernel
theorem dX5_test_73 : decode cX5_test 73 = .ok (.imul, 1) := by decide +kernel
theorem dX5_test_74 : decode cX5_test 74 = .ok (.iload_n 3, 1) := by decide +kernel
theorem dX5_test_75 : decode cX5_test 75 = .ok (.iadd, 1) := by decide +kernel
theorem dX5_test_76 : decode cX5_test 76 = .ok (.dup2, 1) := by decide +kernel
theorem dX5_test_77 : decode cX5_test 77 = .ok (.iaload, 1) := by decide +kernel
theorem dX5_test_78 : decode cX5_test 78 = .ok (.iconst 1, 1) := by decide +kernel
theorem dX5_test_79 : decode cX5_test 79 = .ok (.iadd, 1) := by decide +kernel
theorem dX5_test_80 : decode cX5_test 80 = .ok (.iastore, 1) := by decide +kernel
theorem dX5_test_81 : decode cX5_test 81 = .ok (.iload_n 3, 1) := by decide +kernel
theorem dX5_test_82 : decode cX5_test 82 = .ok (.ireturn, 1) := by decide +kernel
theorem dX5_scoreOf_0 : decode cX5_scoreOf 0 = .ok (.iconst 0, 1) := by decide +kernel
theorem dX5_scoreOf_1 : decode cX5_scoreOf 1 = .ok (.istore_n 2, 1) := by decide +kernel
theorem dX5_scoreOf_2 : decode cX5_scoreOf 2 = .ok (.iconst 0, 1) := by decide +kernel
theorem dX5_scoreOf_3 : decode cX5_scoreOf 3 = .ok (.istore_n 3, 1) := by decide +kernel
theorem dX5_scoreOf_4 : decode cX5_scoreOf 4 = .ok (.iload_n 3, 1) := by decide +kernel
theorem dX5_scoreOf_5 : decode cX5_scoreOf 5 = .ok (.aload_n 0, 1) := by decide +kernel
theorem dX5_scoreOf_6 : decode cX5_scoreOf 6 = .ok (.getfield 155, 3) := by decide +kernel
theorem dX5_scoreOf_9 : decode cX5_scoreOf 9 = .ok (.if_icmp .ge 117, 3) := by decide +kernel
theorem dX5_scoreOf_12 : decode cX5_scoreOf 12 = .ok (.aload_n 0, 1) := by decide +kernel
theorem dX5_scoreOf_13 : decode cX5_scoreOf 13 = .ok (.getfield 94, 3) := by decide +kernel
theorem dX5_scoreOf_16 : decode cX5_scoreOf 16 = .ok (.aload_n 0, 1) := by decide +kernel
theorem dX5_scoreOf_17 : decode cX5_scoreOf 17 = .ok (.getfield 55, 3) := by decide +kernel
theorem dX5_scoreOf_20 : decode cX5_scoreOf 20 = .ok (.iload_n 3, 1) := by decide +kernel
theorem dX5_scoreOf_21 : decode cX5_scoreOf 21 = .ok (.iaload, 1) := by decide +kernel
theorem dX5_scoreOf_22 : decode cX5_scoreOf 22 = .ok (.isub, 1) := by decide +kernel
theorem dX5_scoreOf_23 : decode cX5_scoreOf 23 = .ok (.istore 4, 2) := by decide +kernel
theorem dX5_scoreOf_25 : decode cX5_scoreOf 25 = .ok (.aload_n 0, 1) := by decide +kernel
theorem dX5_scoreOf_26 : decode cX5_scoreOf 26 = .ok (.getfield 52, 3) := by decide +kernel
theorem dX5_scoreOf_29 : decode cX5_scoreOf 29 = .ok (.iload_n 3, 1) := by decide +kernel
theorem dX5_scoreOf_30 : decode cX5_scoreOf 30 = .ok (.iaload, 1) := by decide +kernel
theorem dX5_scoreOf_31 : decode cX5_scoreOf 31 = .ok (.iload_n 1, 1) := by decide +kernel
theorem dX5_scoreOf_32 : decode cX5_scoreOf 32 = .ok (.if_icmp .ne 7, 3) := by decide +kernel
theorem dX5_scoreOf_35 : decode cX5_scoreOf 35 = .ok (.iconst 1, 1) := by decide +kernel
theorem dX5_scoreOf_36 : decode cX5_scoreOf 36 = .ok (.goto 4, 3) := by decide +kernel
theorem dX5_scoreOf_39 : decode cX5_scoreOf 39 = .ok (.iconst 0, 1) := by decide +kernel
theorem dX5_scoreOf_40 : decode cX5_scoreOf 40 = .ok (.istore 5, 2) := by decide +kernel
theorem dX5_scoreOf_42 : decode cX5_scoreOf 42 = .ok (.iload_n 2, 1) := by decide +kernel
theorem dX5_scoreOf_43 : decode cX5_scoreOf 43 = .ok (.iload 5, 2) := by decide +kernel
theorem dX5_scoreOf_45 : decode cX5_scoreOf 45 = .ok (.ifCond .eq 22, 3) := by decide +kernel
theorem dX5_scoreOf_48 : decode cX5_scoreOf 48 = .ok (.iload 4, 2) := by decide +kernel
theorem dX5_scoreOf_50 : decode cX5_scoreOf 50 = .ok (.bipush 30, 2) := by decide +kernel
theorem dX5_scoreOf_52 : decode cX5_scoreOf 52 = .ok (.if_icmp .ge 15, 3) := by decide +kernel
theorem dX5_scoreOf_55 : decode cX5_scoreOf 55 = .ok (.bipush 10, 2) := by decide +kernel
theorem dX5_scoreOf_57 : decode cX5_scoreOf 57 = .ok (.aload_n 0, 1) := by decide +kernel
theorem dX5_scoreOf_58 : decode cX5_scoreOf 58 = .ok (.getfield 58, 3) := by decide +kernel
theorem dX5_scoreOf_61 : decode cX5_scoreOf 61 = .ok (.iload_n 3, 1) := by decide +kernel
theorem dX5_scoreOf_62 : decode cX5_scoreOf 62 = .ok (.iaload, 1) := by decide +kernel
theorem dX5_scoreOf_63 : decode cX5_scoreOf 63 = .ok (.imul, 1) := by decide +kernel
theorem dX5_scoreOf_64 : decode cX5_scoreOf 64 = .ok (.goto 4, 3) := by decide +kernel
theorem dX5_scoreOf_67 : decode cX5_scoreOf 67 = .ok (.iconst 0, 1) := by decide +kernel
theorem dX5_scoreOf_68 : decode cX5_scoreOf 68 = .ok (.iadd, 1) := by decide +kernel
theorem dX5_scoreOf_69 : decode cX5_scoreOf 69 = .ok (.istore_n 2, 1) := by decide +kernel
theorem dX5_scoreOf_70 : decode cX5_scoreOf 70 = .ok (.iload_n 2, 1) := by decide +kernel
theorem dX5_scoreOf_71 : decode cX5_scoreOf 71 = .ok (.iload 5, 2) := by decide +kernel
theorem dX5_scoreOf_73 : decode cX5_scoreOf 73 = .ok (.ifCond .eq 14, 3) := by decide +kernel
theorem dX5_scoreOf_76 : decode cX5_scoreOf 76 = .ok (.iload 4, 2) := by decide +kernel
theorem dX5_scoreOf_78 : decode cX5_scoreOf 78 = .ok (.bipush 90, 2) := by decide +kernel
theorem dX5_scoreOf_80 : decode cX5_scoreOf 80 = .ok (.if_icmp .ge 7, 3) := by decide +kernel
theorem dX5_scoreOf_83 : decode cX5_scoreOf 83 = .ok (.iconst 5, 1) := by decide +kernel
theorem dX5_scoreOf_84 : decode cX5_scoreOf 84 = .ok (.goto 4, 3) := by decide +kernel
theorem dX5_scoreOf_87 : decode cX5_scoreOf 87 = .ok (.iconst 0, 1) := by decide +kernel
theorem dX5_scoreOf_88 : decode cX5_scoreOf 88 = .ok (.iadd, 1) := by decide +kernel
theorem dX5_scoreOf_89 : decode cX5_scoreOf 89 = .ok (.istore_n 2, 1) := by decide +kernel
theorem dX5_scoreOf_90 : decode cX5_scoreOf 90 = .ok (.iload_n 2, 1) := by decide +kernel
theorem dX5_scoreOf_91 : decode cX5_scoreOf 91 = .ok (.iload 5, 2) := by decide +kernel
theorem dX5_scoreOf_93 : decode cX5_scoreOf 93 = .ok (.ifCond .eq 24, 3) := by decide +kernel
theorem dX5_scoreOf_96 : decode cX5_scoreOf 96 = .ok (.iload 4, 2) := by decide +kernel
theorem dX5_scoreOf_98 : decode cX5_scoreOf 98 = .ok (.bipush 90, 2) := by decide +kernel
theorem dX5_scoreOf_100 : decode cX5_scoreOf 100 = .ok (.if_icmp .ge 17, 3) := by decide +kernel
theorem dX5_scoreOf_103 : decode cX5_scoreOf 103 = .ok (.aload_n 0, 1) := by decide +kernel
theorem dX5_scoreOf_104 : decode cX5_scoreOf 104 = .ok (.getfield 61, 3) := by decide +kernel
theorem dX5_scoreOf_107 : decode cX5_scoreOf 107 = .ok (.iload_n 3, 1) := by decide +kernel
theorem dX5_scoreOf_108 : decode cX5_scoreOf 108 = .ok (.baload, 1) := by decide +kernel
theorem dX5_scoreOf_109 : decode cX5_scoreOf 109 = .ok (.ifCond .eq 8, 3) := by decide +kernel
theorem dX5_scoreOf_112 : decode cX5_scoreOf 112 = .ok (.bipush 20, 2) := by decide +kernel
theorem dX5_scoreOf_114 : decode cX5_scoreOf 114 = .ok (.goto 4, 3) := by decide +kernel
theorem dX5_scoreOf_117 : decode cX5_scoreOf 117 = .ok (.iconst 0, 1) := by decide +kernel
theorem dX5_scoreOf_118 : decode cX5_scoreOf 118 = .ok (.iadd, 1) := by decide +kernel
theorem dX5_scoreOf_119 : decode cX5_scoreOf 119 = .ok (.istore_n 2, 1) := by decide +kernel
theorem dX5_scoreOf_120 : decode cX5_scoreOf 120 = .ok (.iinc 3 1, 3) := by decide +kernel
theorem dX5_scoreOf_123 : decode cX5_scoreOf 123 = .ok (.goto (-119), 3) := by decide +kernel
theorem dX5_scoreOf_126 : decode cX5_scoreOf 126 = .ok (.iload_n 2, 1) := by decide +kernel
theorem dX5_scoreOf_127 : decode cX5_scoreOf 127 = .ok (.ireturn, 1) := by decide +kernel
set_option maxRecDepth 20000 in
theorem ggX5_score_X5_isTen : GoodIn wsX5_score wsX5_isTen := goodIn_r _ [4, 5, 6, 3, 7] (by decide +kernel) (by decide +kernel)
set_option maxRecDepth 20000 in
theorem gX5_score_X5_isTen : GoodIn wsX5_score (va_wsS RX5 87 yX5_isTen wsX5_isTen) := goodIn_app (goodIn_of _ (by decide +kernel)) ggX5_score_X5_isTen
set_option maxRecDepth 20000 in
theorem ggX5_score_X5_goes : GoodIn wsX5_score wsX5_goes := goodIn_r _ [11, 12, 23, 24, 25, 26, 27, 28, 29, 30, 31, 32, 33, 34, 35, 36, 37, 38, 39, 40, 41, 42, 43, 44, 45, 46, 47] (by decide +kernel) (by decide +kernel)
set_option maxRecDepth 20000 in
theorem gX5_score_X5_goes : GoodIn wsX5_score (wsV RX5 91 RX5 yX5_goes wsX5_goes) := goodIn_app (goodIn_of _ (by decide +kernel)) ggX5_score_X5_goes
set_option maxRecDepth 20000 in
theorem ggX5_score_X5_scoreOf : GoodIn wsX5_score wsX5_scoreOf := goodIn_r _ [16, 17, 18, 19, 20, 21, 22, 23, 24, 25, 26, 27, 28, 29, 30, 31, 32, 33, 34, 35, 36, 37, 38, 39, 40, 41, 42, 43, 44, 45, 46, 47] (by decide +kernel) (by decide +kernel)
set_option maxRecDepth 20000 in
theorem gX5_score_X5_scoreOf : GoodIn wsX5_score (wsV RX5 158 RX5 yX5_scoreOf wsX5_scoreOf) := goodIn_app (goodIn_of _ (by decide +kernel)) ggX5_score_X5_scoreOf
theorem dX5_score_0 : decode cX5_score 0 = .ok (.aload_n 0, 1) := by decide +kernel
theorem dX5_score_1 : decode cX5_score 1 = .ok (.iload_n 1, 1) := by decide +kernel
theorem dX5_score_2 : decode cX5_score 2 = .ok (.invokestatic 87, 3) := by decide +kernel
theorem dX5_score_5 : decode cX5_score 5 = .ok (.ifCond .eq 7, 3) := by decide +kernel
theorem dX5_score_8 : decode cX5_score 8 = .ok (.iconst 0, 1) := by decide +kernel
theorem dX5_score_9 : decode cX5_score 9 = .ok (.goto 4, 3) := by decide +kernel
theorem dX5_score_12 : decode cX5_score 12 = .ok (.iconst 1, 1) := by decide +kernel
theorem dX5_score_13 : decode cX5_score 13 = .ok (.invokevirtual 91, 3) := by decide +kernel
theorem dX5_score_16 : decode cX5_score 16 = .ok (.ifCond .eq 11, 3) := by decide +kernel
theorem dX5_score_19 : decode cX5_score 19 = .ok (.aload_n 0, 1) := by decide +kernel
theorem dX5_score_20 : decode cX5_score 20 = .ok (.iload_n 1, 1) := by decide +kernel
theorem dX5_score_21 : decode cX5_score 21 = .ok (.invokevirtual 158, 3) := by decide +kernel
theorem dX5_score_24 : decode cX5_score 24 = .ok (.goto 4, 3) := by decide +kernel
theorem dX5_score_27 : decode cX5_score 27 = .ok (.iconst 0, 1) := by decide +kernel
theorem dX5_score_28 : decode cX5_score 28 = .ok (.ireturn, 1) := by decide +kernel
theorem dX5_age_0 : decode cX5_age 0 = .ok (.aload_n 0, 1) := by decide +kernel
theorem dX5_age_1 : decode cX5_age 1 = .ok (.getfield 94, 3) := by decide +kernel
theorem dX5_age_4 : decode cX5_age 4 = .ok (.aload_n 0, 1) := by decide +kernel
theorem dX5_age_5 : decode cX5_age 5 = .ok (.getfield 28, 3) := by decide +kernel
theorem dX5_age_8 : decode cX5_age 8 = .ok (.aload_n 0, 1) := by decide +kernel
theorem dX5_age_9 : decode cX5_age 9 = .ok (.getfield 37, 3) := by decide +kernel
theorem dX5_age_12 : decode cX5_age 12 = .ok (.iload_n 1, 1) := by decide +kernel
theorem dX5_age_13 : decode cX5_age 13 = .ok (.iaload, 1) := by decide +kernel
theorem dX5_age_14 : decode cX5_age 14 = .ok (.iaload, 1) := by decide +kernel
theorem dX5_age_15 : decode cX5_age 15 = .ok (.isub, 1) := by decide +kernel
theorem dX5_age_16 : decode cX5_age 16 = .ok (.ireturn, 1) := by decide +kernel
set_option maxRecDepth 20000 in
theorem ggX5_wrong_X5_isLine : GoodIn wsX5_wrong wsX5_isLine := goodIn_r _ [6, 7, 8, 9, 10, 5, 11, 12, 13, 14, 15, 27, 28, 29, 30, 31, 32, 33, 34, 35, 36, 37, 38, 39, 40, 41, 42, 43, 44, 45, 46, 47, 48, 49, 50, 51] (by decide +kernel) (by decide +kernel)
set_option maxRecDepth 20000 in
theorem gX5_wrong_X5_isLine : GoodIn wsX5_wrong (wsV RX5 117 RX5 yX5_isLine wsX5_isLine) := goodIn_app (goodIn_of _ (by decide +kernel)) ggX5_wrong_X5_isLine
set_option maxRecDepth 20000 in
theorem ggX5_wrong_X5_isIn : GoodIn wsX5_wrong wsX5_isIn := goodIn_r _ [15] (by decide +kernel) (by decide +kernel)
set_option maxRecDepth 20000 in
theorem gX5_wrong_X5_isIn : GoodIn wsX5_wrong (va_wsS RX5 76 yX5_isIn wsX5_isIn) := goodIn_app (goodIn_of _ (by decide +kernel)) ggX5_wrong_X5_isIn
set_option maxRecDepth 20000 in
theorem ggX5_wrong_X5_isOpen : GoodIn wsX5_wrong wsX5_isOpen := goodIn_r _ [19, 20, 27, 28, 29, 30, 31, 32, 33, 34, 35, 36, 37, 38, 39, 40, 41, 42, 43, 44, 45, 46, 47, 48, 49, 50, 51] (by decide +kernel) (by decide +kernel)
set_option maxRecDepth 20000 in
theorem gX5_wrong_X5_isOpen : GoodIn wsX5_wrong (wsV RX5 107 RX5 yX5_isOpen wsX5_isOpen) := goodIn_app (goodIn_of _ (by decide +kernel)) ggX5_wrong_X5_isOpen
set_option maxRecDepth 20000 in
theorem ggX5_wrong_X5_age : GoodIn wsX5_wrong wsX5_age := goodIn_r _ [24, 25, 20, 26, 27, 28, 29, 30, 31, 32, 33, 34, 35, 36, 37, 38, 39, 40, 41, 42, 43, 44, 45, 46, 47, 48, 49, 50, 51] (by decide +kernel) (by decide +kernel)
set_option maxRecDepth 20000 in
theorem gX5_wrong_X5_age : GoodIn wsX5_wrong (wsV RX5 161 RX5 yX5_age wsX5_age) := goodIn_app (goodIn_of _ (by decide +kernel)) ggX5_wrong_X5_age
theorem dX5_wrong_0 : decode cX5_wrong 0 = .ok (.aload_n 0, 1) := by decide +kernel
theorem dX5_wrong_1 : decode cX5_wrong 1 = .ok (.iload_n 1, 1) := by decide +kernel
theorem dX5_wrong_2 : decode cX5_wrong 2 = .ok (.iload_n 2, 1) := by decide +kernel
theorem dX5_wrong_3 : decode cX5_wrong 3 = .ok (.invokevirtual 117, 3) := by decide +kernel
theorem dX5_wrong_6 : decode cX5_wrong 6 = .ok (.ifCond .ne 5, 3) := by decide +kernel
theorem dX5_wrong_9 : decode cX5_wrong 9 = .ok (.iconst 1, 1) := by decide +kernel
theorem dX5_wrong_10 : decode cX5_wrong 10 = .ok (.ireturn, 1) := by decide +kernel
theorem dX5_wrong_11 : decode cX5_wrong 11 = .ok (.iload_n 3, 1) := by decide +kernel
theorem dX5_wrong_12 : decode cX5_wrong 12 = .ok (.iconst 1, 1) := by decide +kernel
theorem dX5_wrong_13 : decode cX5_wrong 13 = .ok (.bipush 20, 2) := by decide +kernel
theorem dX5_wrong_15 : decode cX5_wrong 15 = .ok (.invokestatic 76, 3) := by decide +kernel
theorem dX5_wrong_18 : decode cX5_wrong 18 = .ok (.ifCond .eq 13, 3) := by decide +kernel
theorem dX5_wrong_21 : decode cX5_wrong 21 = .ok (.iload 4, 2) := by decide +kernel
theorem dX5_wrong_23 : decode cX5_wrong 23 = .ok (.iconst 0, 1) := by decide +kernel
theorem dX5_wrong_24 : decode cX5_wrong 24 = .ok (.iconst 3, 1) := by decide +kernel
theorem dX5_wrong_25 : decode cX5_wrong 25 = .ok (.invokestatic 76, 3) := by decide +kernel
theorem dX5_wrong_28 : decode cX5_wrong 28 = .ok (.ifCond .ne 5, 3) := by decide +kernel
theorem dX5_wrong_31 : decode cX5_wrong 31 = .ok (.iconst 2, 1) := by decide +kernel
theorem dX5_wrong_32 : decode cX5_wrong 32 = .ok (.ireturn, 1) := by decide +kernel
theorem dX5_wrong_33 : decode cX5_wrong 33 = .ok (.aload_n 0, 1) := by decide +kernel
theorem dX5_wrong_34 : decode cX5_wrong 34 = .ok (.iload_n 1, 1) := by decide +kernel
theorem dX5_wrong_35 : decode cX5_wrong 35 = .ok (.invokevirtual 107, 3) := by decide +kernel
theorem dX5_wrong_38 : decode cX5_wrong 38 = .ok (.ifCond .ne 28, 3) := by decide +kernel
theorem dX5_wrong_41 : decode cX5_wrong 41 = .ok (.aload_n 0, 1) := by decide +kernel
theorem dX5_wrong_42 : decode cX5_wrong 42 = .ok (.iload_n 1, 1) := by decide +kernel
theorem dX5_wrong_43 : decode cX5_wrong 43 = .ok (.invokevirtual 161, 3) := by decide +kernel
theorem dX5_wrong_46 : decode cX5_wrong 46 = .ok (.bipush 60, 2) := by decide +kernel
theorem dX5_wrong_48 : decode cX5_wrong 48 = .ok (.if_icmp .gt 18, 3) := by decide +kernel
theorem dX5_wrong_51 : decode cX5_wrong 51 = .ok (.aload_n 0, 1) := by decide +kernel
theorem dX5_wrong_52 : decode cX5_wrong 52 = .ok (.getfield 49, 3) := by decide +kernel
theorem dX5_wrong_55 : decode cX5_wrong 55 = .ok (.bipush 6, 2) := by decide +kernel
theorem dX5_wrong_57 : decode cX5_wrong 57 = .ok (.iload_n 1, 1) := by decide +kernel
theorem dX5_wrong_58 : decode cX5_wrong 58 = .ok (.imul, 1) := by decide +kernel
theorem dX5_wrong_59 : decode cX5_wrong 59 = .ok (.iload_n 2, 1) := by decide +kernel
theorem dX5_wrong_60 : decode cX5_wrong 60 = .ok (.iadd, 1) := by decide +kernel
theorem dX5_wrong_61 : decode cX5_wrong 61 = .ok (.iaload, 1) := by decide +kernel
theorem dX5_wrong_62 : decode cX5_wrong 62 = .ok (.iload_n 3, 1) := by decide +kernel
theorem dX5_wrong_63 : decode cX5_wrong 63 = .ok (.if_icmp .ge 7, 3) := by decide +kernel
theorem dX5_wrong_66 : decode cX5_wrong 66 = .ok (.iconst 3, 1) := by decide +kernel
theorem dX5_wrong_67 : decode cX5_wrong 67 = .ok (.goto 4, 3) := by decide +kernel
theorem dX5_wrong_70 : decode cX5_wrong 70 = .ok (.iconst 0, 1) := by decide +kernel
theorem dX5_wrong_71 : decode cX5_wrong 71 = .ok (.ireturn, 1) := by decide +kernel
set_option maxRecDepth 20000 in
theorem ggX5_release_X5_goods : GoodIn wsX5_release wsX5_goods := goodIn_r _ [8, 9, 10, 11, 12, 7, 13, 3, 14, 22, 23, 24, 25, 26, 27, 28, 29, 30, 31, 32, 33, 34, 35, 36, 37, 38, 39, 40, 41, 42, 43, 44, 45, 46] (by decide +kernel) (by decide +kernel)
set_option maxRecDepth 20000 in
theorem gX5_release_X5_goods : GoodIn wsX5_release (wsV RX5 97 RX5 yX5_goods wsX5_goods) := goodIn_app (goodIn_of _ (by decide +kernel)) ggX5_release_X5_goods
set_option maxRecDepth 20000 in
theorem ggX5_release_X5_net : GoodIn wsX5_release wsX5_net := goodIn_r _ [17, 18, 19, 20, 21] (by decide +kernel) (by decide +kernel)
set_option maxRecDepth 20000 in
theorem gX5_release_X5_net : GoodIn wsX5_release (va_wsS RX5 101 yX5_net wsX5_net) := goodIn_app (goodIn_of _ (by decide +kernel)) ggX5_release_X5_net
theorem dX5_release_0 : decode cX5_release 0 = .ok (.aload_n 0, 1) := by decide +kernel
theorem dX5_release_1 : decode cX5_release 1 = .ok (.getfield 31, 3) := by decide +kernel
theorem dX5_release_4 : decode cX5_release 4 = .ok (.iload_n 1, 1) := by decide +kernel
theorem dX5_release_5 : decode cX5_release 5 = .ok (.iaload, 1) := by decide +kernel
theorem dX5_release_6 : decode cX5_release 6 = .ok (.aload_n 0, 1) := by decide +kernel
theorem dX5_release_7 : decode cX5_release 7 = .ok (.getfield 34, 3) := by decide +kernel
theorem dX5_release_10 : decode cX5_release 10 = .ok (.iload_n 1, 1) := by decide +kernel
theorem dX5_release_11 : decode cX5_release 11 = .ok (.iaload, 1) := by decide +kernel
theorem dX5_release_12 : decode cX5_release 12 = .ok (.isub, 1) := by decide +kernel
theorem dX5_release_13 : decode cX5_release 13 = .ok (.aload_n 0, 1) := by decide +kernel
theorem dX5_release_14 : decode cX5_release 14 = .ok (.iload_n 1, 1) := by decide +kernel
theorem dX5_release_15 : decode cX5_release 15 = .ok (.invokevirtual 97, 3) := by decide +kernel
theorem dX5_release_18 : decode cX5_release 18 = .ok (.iload_n 3, 1) := by decide +kernel
theorem dX5_release_19 : decode cX5_release 19 = .ok (.aload_n 0, 1) := by decide +kernel
theorem dX5_release_20 : decode cX5_release 20 = .ok (.getfield 46, 3) := by decide +kernel
theorem dX5_release_23 : decode cX5_release 23 = .ok (.bipush 6, 2) := by decide +kernel
theorem dX5_release_25 : decode cX5_release 25 = .ok (.iload_n 1, 1) := by decide +kernel
theorem dX5_release_26 : decode cX5_release 26 = .ok (.imul, 1) := by decide +kernel
theorem dX5_release_27 : decode cX5_release 27 = .ok (.iload_n 2, 1) := by decide +kernel
theorem dX5_release_28 : decode cX5_release 28 = .ok (.iadd, 1) := by decide +kernel
theorem dX5_release_29 : decode cX5_release 29 = .ok (.iaload, 1) := by decide +kernel
theorem dX5_release_30 : decode cX5_release 30 = .ok (.imul, 1) := by decide +kernel
theorem dX5_release_31 : decode cX5_release 31 = .ok (.isub, 1) := by decide +kernel
theorem dX5_release_32 : decode cX5_release 32 = .ok (.invokestatic 101, 3) := by decide +kernel
theorem dX5_release_35 : decode cX5_release 35 = .ok (.isub, 1) := by decide +kernel
theorem dX5_release_36 : decode cX5_release 36 = .ok (.istore 4, 2) := by decide +kernel
theorem dX5_release_38 : decode cX5_release 38 = .ok (.iload 4, 2) := by decide +kernel
theorem dX5_release_40 : decode cX5_release 40 = .ok (.ifCond .le 8, 3) := by decide +kernel
theorem dX5_release_43 : decode cX5_release 43 = .ok (.iload 4, 2) := by decide +kernel
theorem dX5_release_45 : decode cX5_release 45 = .ok (.goto 4, 3) := by decide +kernel
theorem dX5_release_48 : decode cX5_release 48 = .ok (.iconst 0, 1) := by decide +kernel
theorem dX5_release_49 : decode cX5_release 49 = .ok (.ireturn, 1) := by decide +kernel
set_option maxRecDepth 20000 in
theorem ggX5_fee_X5_age : GoodIn wsX5_fee wsX5_age := goodIn_r _ [6, 7, 8, 9, 10, 11, 12, 13, 14, 15, 16, 17, 18, 19, 20, 21, 22, 23, 24, 25, 26, 27, 28, 29, 30, 31, 32, 33, 34] (by decide +kernel) (by decide +kernel)
set_option maxRecDepth 20000 in
theorem gX5_fee_X5_age : GoodIn wsX5_fee (wsV RX5 161 RX5 yX5_age wsX5_age) := goodIn_app (goodIn_of _ (by decide +kernel)) ggX5_fee_X5_age
theorem dX5_fee_0 : decode cX5_fee 0 = .ok (.iload_n 3, 1) := by decide +kernel
theorem dX5_fee_1 : decode cX5_fee 1 = .ok (.iconst 3, 1) := by decide +kernel
theorem dX5_fee_2 : decode cX5_fee 2 = .ok (.if_icmp .eq 13, 3) := by decide +kernel
theorem dX5_fee_5 : decode cX5_fee 5 = .ok (.aload_n 0, 1) := by decide +kernel
theorem dX5_fee_6 : decode cX5_fee 6 = .ok (.iload_n 1, 1) := by decide +kernel
theorem dX5_fee_7 : decode cX5_fee 7 = .ok (.invokevirtual 161, 3) := by decide +kernel
theorem dX5_fee_10 : decode cX5_fee 10 = .ok (.bipush 14, 2) := by decide +kernel
theorem dX5_fee_12 : decode cX5_fee 12 = .ok (.if_icmp .gt 7, 3) := by decide +kernel
theorem dX5_fee_15 : decode cX5_fee 15 = .ok (.iconst 0, 1) := by decide +kernel
theorem dX5_fee_16 : decode cX5_fee 16 = .ok (.goto 20, 3) := by decide +kernel
theorem dX5_fee_19 : decode cX5_fee 19 = .ok (.aload_n 0, 1) := by decide +kernel
theorem dX5_fee_20 : decode cX5_fee 20 = .ok (.iload_n 1, 1) := by decide +kernel
theorem dX5_fee_21 : decode cX5_fee 21 = .ok (.invokevirtual 161, 3) := by decide +kernel
theorem dX5_fee_24 : decode cX5_fee 24 = .ok (.bipush 30, 2) := by decide +kernel
theorem dX5_fee_26 : decode cX5_fee 26 = .ok (.if_icmp .gt 8, 3) := by decide +kernel
theorem dX5_fee_29 : decode cX5_fee 29 = .ok (.bipush 15, 2) := by decide +kernel
theorem dX5_fee_31 : decode cX5_fee 31 = .ok (.goto 5, 3) := by decide +kernel
theorem dX5_fee_34 : decode cX5_fee 34 = .ok (.bipush 50, 2) := by decide +kernel
theorem dX5_fee_36 : decode cX5_fee 36 = .ok (.istore 4, 2) := by decide +kernel
theorem dX5_fee_38 : decode cX5_fee 38 = .ok (.iload_n 2, 1) := by decide +kernel
theorem dX5_fee_39 : decode cX5_fee 39 = .ok (.i2l, 1) := by decide +kernel
theorem dX5_fee_40 : decode cX5_fee 40 = .ok (.iload 4, 2) := by decide +kernel
theorem dX5_fee_42 : decode cX5_fee 42 = .ok (.i2l, 1) := by decide +kernel
theorem dX5_fee_43 : decode cX5_fee 43 = .ok (.lmul, 1) := by decide +kernel
theorem dX5_fee_44 : decode cX5_fee 44 = .ok (.ldc2_w 131, 3) := by decide +kernel
theorem dX5_fee_47 : decode cX5_fee 47 = .ok (.ldiv, 1) := by decide +kernel
theorem dX5_fee_48 : decode cX5_fee 48 = .ok (.l2i, 1) := by decide +kernel
theorem dX5_fee_49 : decode cX5_fee 49 = .ok (.ireturn, 1) := by decide +kernel
set_option maxRecDepth 20000 in
theorem ggX5_comesBack_X5_release : GoodIn wsX5_comesBack wsX5_release := goodIn_r _ [17, 18, 3, 19, 20, 21, 22, 16, 23, 24, 25, 26, 27, 28, 2, 29, 30, 31, 32, 33, 34, 35, 51, 52, 53, 54, 55, 56, 57, 58, 59, 60, 61, 62, 63, 64, 65, 66, 67, 68, 69, 70, 71, 72, 73, 74, 75] (by decide +kernel) (by decide +kernel)
set_option maxRecDepth 20000 in
theorem gX5_comesBack_X5_release : GoodIn wsX5_comesBack (wsV RX5 164 RX5 yX5_release wsX5_release) := goodIn_app (goodIn_of _ (by decide +kernel)) ggX5_comesBack_X5_release
set_option maxRecDepth 20000 in
theorem ggX5_comesBack_X5_best : GoodIn wsX5_comesBack wsX5_best := goodIn_r _ [39, 40, 41, 42, 16, 43, 44, 45, 46, 47, 48, 49, 50, 51, 52, 53, 54, 55, 56, 57, 58, 59, 60, 61, 62, 63, 64, 65, 66, 67, 68, 69, 70, 71, 72, 73, 74, 75] (by decide +kernel) (by decide +kernel)
set_option maxRecDepth 20000 in
theorem gX5_comesBack_X5_best : GoodIn wsX5_comesBack (wsV RX5 152 RX5 yX5_best wsX5_best) := goodIn_app (goodIn_of _ (by decide +kernel)) ggX5_comesBack_X5_best
theorem dX5_comesBack_0 : decode cX5_comesBack 0 = .ok (.aload_n 0, 1) := by decide +kernel
theorem dX5_comesBack_1 : decode cX5_comesBack 1 = .ok (.iload_n 1, 1) := by decide +kernel
theorem dX5_comesBack_2 : decode cX5_comesBack 2 = .ok (.iload_n 2, 1) := by decide +kernel
theorem dX5_comesBack_3 : decode cX5_comesBack 3 = .ok (.iload_n 3, 1) := by decide +kernel
theorem dX5_comesBack_4 : decode cX5_comesBack 4 = .ok (.invokevirtual 164, 3) := by decide +kernel
theorem dX5_comesBack_7 : decode cX5_comesBack 7 = .ok (.istore 6, 2) := by decide +kernel
theorem dX5_comesBack_9 : decode cX5_comesBack 9 = .ok (.aload_n 0, 1) := by decide +kernel
theorem dX5_comesBack_10 : decode cX5_comesBack 10 = .ok (.getfield 43, 3) := by decide +kernel
theorem dX5_comesBack_13 : decode cX5_comesBack 13 = .ok (.bipush 6, 2) := by decide +kernel
theorem dX5_comesBack_15 : decode cX5_comesBack 15 = .ok (.iload_n 1, 1) := by decide +kernel
theorem dX5_comesBack_16 : decode cX5_comesBack 16 = .ok (.imul, 1) := by decide +kernel
theorem dX5_comesBack_17 : decode cX5_comesBack 17 = .ok (.iload_n 2, 1) := by decide +kernel
theorem dX5_comesBack_18 : decode cX5_comesBack 18 = .ok (.iadd, 1) := by decide +kernel
theorem dX5_comesBack_19 : decode cX5_comesBack 19 = .ok (.iaload, 1) := by decide +kernel
theorem dX5_comesBack_20 : decode cX5_comesBack 20 = .ok (.istore 7, 2) := by decide +kernel
theorem dX5_comesBack_22 : decode cX5_comesBack 22 = .ok (.aload_n 0, 1) := by decide +kernel
theorem dX5_comesBack_23 : decode cX5_comesBack 23 = .ok (.getfield 49, 3) := by decide +kernel
theorem dX5_comesBack_26 : decode cX5_comesBack 26 = .ok (.bipush 6, 2) := by decide +kernel
theorem dX5_comesBack_28 : decode cX5_comesBack 28 = .ok (.iload_n 1, 1) := by decide +kernel
theorem dX5_comesBack_29 : decode cX5_comesBack 29 = .ok (.imul, 1) := by decide +kernel
theorem dX5_comesBack_30 : decode cX5_comesBack 30 = .ok (.iload_n 2, 1) := by decide +kernel
theorem dX5_comesBack_31 : decode cX5_comesBack 31 = .ok (.iadd, 1) := by decide +kernel
theorem dX5_comesBack_32 : decode cX5_comesBack 32 = .ok (.dup2, 1) := by decide +kernel
theorem dX5_comesBack_33 : decode cX5_comesBack 33 = .ok (.iaload, 1) := by decide +kernel
theorem dX5_comesBack_34 : decode cX5_comesBack 34 = .ok (.iload_n 3, 1) := by decide +kernel
theorem dX5_comesBack_35 : decode cX5_comesBack 35 = .ok (.isub, 1) := by decide +kernel
theorem dX5_comesBack_36 : decode cX5_comesBack 36 = .ok (.iastore, 1) := by decide +kernel
theorem dX5_comesBack_37 : decode cX5_comesBack 37 = .ok (.aload_n 0, 1) := by decide +kernel
theorem dX5_comesBack_38 : decode cX5_comesBack 38 = .ok (.getfield 34, 3) := by decide +kernel
theorem dX5_comesBack_41 : decode cX5_comesBack 41 = .ok (.iload_n 1, 1) := by decide +kernel
theorem dX5_comesBack_42 : decode cX5_comesBack 42 = .ok (.dup2, 1) := by decide +kernel
theorem dX5_comesBack_43 : decode cX5_comesBack 43 = .ok (.iaload, 1) := by decide +kernel
theorem dX5_comesBack_44 : decode cX5_comesBack 44 = .ok (.iload 6, 2) := by decide +kernel
theorem dX5_comesBack_46 : decode cX5_comesBack 46 = .ok (.iadd, 1) := by decide +kernel
theorem dX5_comesBack_47 : decode cX5_comesBack 47 = .ok (.iastore, 1) := by decide +kernel
theorem dX5_comesBack_48 : decode cX5_comesBack 48 = .ok (.aload_n 0, 1) := by decide +kernel
theorem dX5_comesBack_49 : decode cX5_comesBack 49 = .ok (.getfield 19, 3) := by decide +kernel
theorem dX5_comesBack_52 : decode cX5_comesBack 52 = .ok (.iconst 5, 1) := by decide +kernel
theorem dX5_comesBack_53 : decode cX5_comesBack 53 = .ok (.iload 7, 2) := by decide +kernel
theorem dX5_comesBack_55 : decode cX5_comesBack 55 = .ok (.imul, 1) := by decide +kernel
theorem dX5_comesBack_56 : decode cX5_comesBack 56 = .ok (.aload_n 0, 1) := by decide +kernel
theorem dX5_comesBack_57 : decode cX5_comesBack 57 = .ok (.iload 7, 2) := by decide +kernel
theorem dX5_comesBack_59 : decode cX5_comesBack 59 = .ok (.iload 4, 2) := by decide +kernel
theorem dX5_comesBack_61 : decode cX5_comesBack 61 = .ok (.invokevirtual 152, 3) := by decide +kernel
theorem dX5_comesBack_64 : decode cX5_comesBack 64 = .ok (.iadd, 1) := by decide +kernel
theorem dX5_comesBack_65 : decode cX5_comesBack 65 = .ok (.dup2, 1) := by decide +kernel
theorem dX5_comesBack_66 : decode cX5_comesBack 66 = .ok (.iaload, 1) := by decide +kernel
theorem dX5_comesBack_67 : decode cX5_comesBack 67 = .ok (.iload_n 3, 1) := by decide +kernel
theorem dX5_comesBack_68 : decode cX5_comesBack 68 = .ok (.iadd, 1) := by decide +kernel
theorem dX5_comesBack_69 : decode cX5_comesBack 69 = .ok (.iastore, 1) := by decide +kernel
theorem dX5_comesBack_70 : decode cX5_comesBack 70 = .ok (.aload_n 0, 1) := by decide +kernel
theorem dX5_comesBack_71 : decode cX5_comesBack 71 = .ok (.getfield 52, 3) := by decide +kernel
theorem dX5_comesBack_74 : decode cX5_comesBack 74 = .ok (.aload_n 0, 1) := by decide +kernel
theorem dX5_comesBack_75 : decode cX5_comesBack 75 = .ok (.getfield 155, 3) := by decide +kernel
theorem dX5_comesBack_78 : decode cX5_comesBack 78 = .ok (.aload_n 0, 1) := by decide +kernel
theorem dX5_comesBack_79 : decode cX5_comesBack 79 = .ok (.getfield 22, 3) := by decide +kernel
theorem dX5_comesBack_82 : decode cX5_comesBack 82 = .ok (.iload_n 1, 1) := by decide +kernel
theorem dX5_comesBack_83 : decode cX5_comesBack 83 = .ok (.iaload, 1) := by decide +kernel
theorem dX5_comesBack_84 : decode cX5_comesBack 84 = .ok (.iastore, 1) := by decide +kernel
theorem dX5_comesBack_85 : decode cX5_comesBack 85 = .ok (.aload_n 0, 1) := by decide +kernel
theorem dX5_comesBack_86 : decode cX5_comesBack 86 = .ok (.getfield 55, 3) := by decide +kernel
theorem dX5_comesBack_89 : decode cX5_comesBack 89 = .ok (.aload_n 0, 1) := by decide +kernel
theorem dX5_comesBack_90 : decode cX5_comesBack 90 = .ok (.getfield 155, 3) := by decide +kernel
theorem dX5_comesBack_93 : decode cX5_comesBack 93 = .ok (.aload_n 0, 1) := by decide +kernel
theorem dX5_comesBack_94 : decode cX5_comesBack 94 = .ok (.getfield 94, 3) := by decide +kernel
theorem dX5_comesBack_97 : decode cX5_comesBack 97 = .ok (.iastore, 1) := by decide +kernel
theorem dX5_comesBack_98 : decode cX5_comesBack 98 = .ok (.aload_n 0, 1) := by decide +kernel
theorem dX5_comesBack_99 : decode cX5_comesBack 99 = .ok (.getfield 58, 3) := by decide +kernel
theorem dX5_comesBack_102 : decode cX5_comesBack 102 = .ok (.aload_n 0, 1) := by decide +kernel
theorem dX5_comesBack_103 : decode cX5_comesBack 103 = .ok (.getfield 155, 3) := by decide +kernel
theorem dX5_comesBack_106 : decode cX5_comesBack 106 = .ok (.iload_n 3, 1) := by decide +kernel
theorem dX5_comesBack_107 : decode cX5_comesBack 107 = .ok (.iastore, 1) := by decide +kernel
theorem dX5_comesBack_108 : decode cX5_comesBack 108 = .ok (.aload_n 0, 1) := by decide +kernel
theorem dX5_comesBack_109 : decode cX5_comesBack 109 = .ok (.getfield 61, 3) := by decide +kernel
theorem dX5_comesBack_112 : decode cX5_comesBack 112 = .ok (.aload_n 0, 1) := by decide +kernel
theorem dX5_comesBack_113 : decode cX5_comesBack 113 = .ok (.getfield 155, 3) := by decide +kernel
theorem dX5_comesBack_116 : decode cX5_comesBack 116 = .ok (.iload 5, 2) := by decide +kernel
theorem dX5_comesBack_118 : decode cX5_comesBack 118 = .ok (.ifCond .eq 16, 3) := by decide +kernel
theorem dX5_comesBack_121 : decode cX5_comesBack 121 = .ok (.aload_n 0, 1) := by decide +kernel
theorem dX5_comesBack_122 : decode cX5_comesBack 122 = .ok (.getfield 40, 3) := by decide +kernel
theorem dX5_comesBack_125 : decode cX5_comesBack 125 = .ok (.iload_n 1, 1) := by decide +kernel
theorem dX5_comesBack_126 : decode cX5_comesBack 126 = .ok (.iaload, 1) := by decide +kernel
theorem dX5_comesBack_127 : decode cX5_comesBack 127 = .ok (.ifCond .le 7, 3) := by decide +kernel
theorem dX5_comesBack_130 : decode cX5_comesBack 130 = .ok (.iconst 1, 1) := by decide +kernel
theorem dX5_comesBack_131 : decode cX5_comesBack 131 = .ok (.goto 4, 3) := by decide +kernel
theorem dX5_comesBack_134 : decode cX5_comesBack 134 = .ok (.iconst 0, 1) := by decide +kernel
theorem dX5_comesBack_135 : decode cX5_comesBack 135 = .ok (.bastore, 1) := by decide +kernel
theorem dX5_comesBack_136 : decode cX5_comesBack 136 = .ok (.aload_n 0, 1) := by decide +kernel
theorem dX5_comesBack_137 : decode cX5_comesBack 137 = .ok (.dup, 1) := by decide +kernel
theorem dX5_comesBack_138 : decode cX5_comesBack 138 = .ok (.getfield 155, 3) := by decide +kernel
theorem dX5_comesBack_141 : decode cX5_comesBack 141 = .ok (.iconst 1, 1) := by decide +kernel
theorem dX5_comesBack_142 : decode cX5_comesBack 142 = .ok (.iadd, 1) := by decide +kernel
theorem dX5_comesBack_143 : decode cX5_comesBack 143 = .ok (.putfield 155, 3) := by decide +kernel
theorem dX5_comesBack_146 : decode cX5_comesBack 146 = .ok (.iload 6, 2) := by decide +kernel
theorem dX5_comesBack_148 : decode cX5_comesBack 148 = .ok (.ireturn, 1) := by decide +kernel
set_option maxRecDepth 20000 in
theorem ggX5_barred_X5_scoreOf : GoodIn wsX5_barred wsX5_scoreOf := goodIn_r _ [6, 7, 8, 9, 10, 11, 12, 13, 14, 15, 16, 17, 18, 19, 20, 21, 22, 23, 24, 25, 26, 27, 28, 29, 30, 31, 32, 33, 34, 35, 36, 37] (by decide +kernel) (by decide +kernel)
set_option maxRecDepth 20000 in
theorem gX5_barred_X5_scoreOf : GoodIn wsX5_barred (wsV RX5 158 RX5 yX5_scoreOf wsX5_scoreOf) := goodIn_app (goodIn_of _ (by decide +kernel)) ggX5_barred_X5_scoreOf
theorem dX5_barred_0 : decode cX5_barred 0 = .ok (.iload_n 2, 1) := by decide +kernel
theorem dX5_barred_1 : decode cX5_barred 1 = .ok (.ifCond .le 7, 3) := by decide +kernel
theorem dX5_barred_4 : decode cX5_barred 4 = .ok (.iload_n 2, 1) := by decide +kernel
theorem dX5_barred_5 : decode cX5_barred 5 = .ok (.goto 23, 3) := by decide +kernel
theorem dX5_barred_8 : decode cX5_barred 8 = .ok (.aload_n 0, 1) := by decide +kernel
theorem dX5_barred_9 : decode cX5_barred 9 = .ok (.aload_n 0, 1) := by decide +kernel
theorem dX5_barred_10 : decode cX5_barred 10 = .ok (.getfield 22, 3) := by decide +kernel
theorem dX5_barred_13 : decode cX5_barred 13 = .ok (.iload_n 1, 1) := by decide +kernel
theorem dX5_barred_14 : decode cX5_barred 14 = .ok (.iaload, 1) := by decide +kernel
theorem dX5_barred_15 : decode cX5_barred 15 = .ok (.invokevirtual 158, 3) := by decide +kernel
theorem dX5_barred_18 : decode cX5_barred 18 = .ok (.bipush 100, 2) := by decide +kernel
theorem dX5_barred_20 : decode cX5_barred 20 = .ok (.if_icmp .lt 7, 3) := by decide +kernel
theorem dX5_barred_23 : decode cX5_barred 23 = .ok (.iconst 3, 1) := by decide +kernel
theorem dX5_barred_24 : decode cX5_barred 24 = .ok (.goto 4, 3) := by decide +kernel
theorem dX5_barred_27 : decode cX5_barred 27 = .ok (.iconst 0, 1) := by decide +kernel
theorem dX5_barred_28 : decode cX5_barred 28 = .ok (.ireturn, 1) := by decide +kernel
set_option maxRecDepth 20000 in
theorem ggX5_giveBack_X5_wrong : GoodIn wsX5_giveBack wsX5_wrong := goodIn_r _ [6, 7, 8, 9, 10, 5, 11, 12, 13, 14, 15, 16, 17, 18, 19, 20, 21, 22, 23, 24, 25, 26, 27, 28, 29, 30, 31, 99, 100, 101, 102, 103, 104, 105, 106, 107, 108, 109, 110, 111, 112, 113, 114, 115, 116, 117, 118, 119, 120, 121, 122, 123] (by decide +kernel) (by decide +kernel)
set_option maxRecDepth 20000 in
theorem gX5_giveBack_X5_wrong : GoodIn wsX5_giveBack (wsV RX5 167 RX5 yX5_wrong wsX5_wrong) := goodIn_app (goodIn_of _ (by decide +kernel)) ggX5_giveBack_X5_wrong
set_option maxRecDepth 20000 in
theorem ggX5_giveBack_X5_barred : GoodIn wsX5_giveBack wsX5_barred := goodIn_r _ [35, 36, 37, 38, 39, 5, 40, 41, 30, 42, 43, 44, 45, 99, 100, 101, 102, 103, 104, 105, 106, 107, 108, 109, 110, 111, 112, 113, 114, 115, 116, 117, 118, 119, 120, 121, 122, 123] (by decide +kernel) (by decide +kernel)
set_option maxRecDepth 20000 in
theorem gX5_giveBack_X5_barred : GoodIn wsX5_giveBack (wsV RX5 171 RX5 yX5_barred wsX5_barred) := goodIn_app (goodIn_of _ (by decide +kernel)) ggX5_giveBack_X5_barred
set_option maxRecDepth 20000 in
theorem ggX5_giveBack_X5_goes : GoodIn wsX5_giveBack wsX5_goes := goodIn_r _ [49, 50, 99, 100, 101, 102, 103, 104, 105, 106, 107, 108, 109, 110, 111, 112, 113, 114, 115, 116, 117, 118, 119, 120, 121, 122, 123] (by decide +kernel) (by decide +kernel)
set_option maxRecDepth 20000 in
theorem gX5_giveBack_X5_goes : GoodIn wsX5_giveBack (wsV RX5 91 RX5 yX5_goes wsX5_goes) := goodIn_app (goodIn_of _ (by decide +kernel)) ggX5_giveBack_X5_goes
set_option maxRecDepth 20000 in
theorem ggX5_giveBack_X5_comesBack : GoodIn wsX5_giveBack wsX5_comesBack := goodIn_r _ [54, 55, 7, 56, 57, 43, 41, 36, 42, 30, 44, 45, 58, 59, 60, 61, 5, 62, 63, 64, 65, 66, 67, 68, 12, 69, 70, 71, 72, 73, 74, 75, 76, 77, 78, 79, 80, 81, 82, 83, 84, 85, 86, 87, 88, 89, 90, 91, 92, 93, 94, 99, 100, 101, 102, 103, 104, 105, 106, 107, 108, 109, 110, 111, 112, 113, 114, 115, 116, 117, 118, 119, 120, 121, 122, 123] (by decide +kernel) (by decide +kernel)
set_option maxRecDepth 20000 in
theorem gX5_giveBack_X5_comesBack : GoodIn wsX5_giveBack (wsV RX5 174 RX5 yX5_comesBack wsX5_comesBack) := goodIn_app (goodIn_of _ (by decide +kernel)) ggX5_giveBack_X5_comesBack
set_option maxRecDepth 20000 in
theorem ggX5_giveBack_X5_fee : GoodIn wsX5_giveBack wsX5_fee := goodIn_r _ [98, 79, 26, 27, 28, 5, 29, 30, 25, 31, 99, 100, 101, 102, 103, 104, 105, 106, 107, 108, 109, 110, 111, 112, 113, 114, 115, 116, 117, 118, 119, 120, 121, 122, 123] (by decide +kernel) (by decide +kernel)
set_option maxRecDepth 20000 in
theorem gX5_giveBack_X5_fee : GoodIn wsX5_giveBack (wsV RX5 178 RX5 yX5_fee wsX5_fee) := goodIn_app (goodIn_of _ (by decide +kernel)) ggX5_giveBack_X5_fee
theorem dX5_giveBack_0 : decode cX5_giveBack 0 = .ok (.aload_n 0, 1) := by decide +kernel
theorem dX5_giveBack_1 : decode cX5_giveBack 1 = .ok (.aload_n 0, 1) := by decide +kernel
theorem dX5_giveBack_2 : decode cX5_giveBack 2 = .ok (.iload_n 1, 1) := by decide +kernel
theorem dX5_giveBack_3 : decode cX5_giveBack 3 = .ok (.aload_n 0, 1) := by decide +kernel
theorem dX5_giveBack_4 : decode cX5_giveBack 4 = .ok (.iload_n 1, 1) := by decide +kernel
theorem dX5_giveBack_5 : decode cX5_giveBack 5 = .ok (.iload_n 2, 1) := by decide +kernel
theorem dX5_giveBack_6 : decode cX5_giveBack 6 = .ok (.iload_n 3, 1) := by decide +kernel
theorem dX5_giveBack_7 : decode cX5_giveBack 7 = .ok (.iload 4, 2) := by decide +kernel
theorem dX5_giveBack_9 : decode cX5_giveBack 9 = .ok (.invokevirtual 167, 3) := by decide +kernel
theorem dX5_giveBack_12 : decode cX5_giveBack 12 = .ok (.invokevirtual 171, 3) := by decide +kernel
theorem dX5_giveBack_15 : decode cX5_giveBack 15 = .ok (.invokevirtual 91, 3) := by decide +kernel
theorem dX5_giveBack_18 : decode cX5_giveBack 18 = .ok (.ifCond .ne 5, 3) := by decide +kernel
theorem dX5_giveBack_21 : decode cX5_giveBack 21 = .ok (.iconst 0, 1) := by decide +kernel
theorem dX5_giveBack_22 : decode cX5_giveBack 22 = .ok (.ireturn, 1) := by decide +kernel
theorem dX5_giveBack_23 : decode cX5_giveBack 23 = .ok (.aload_n 0, 1) := by decide +kernel
theorem dX5_giveBack_24 : decode cX5_giveBack 24 = .ok (.iload_n 1, 1) := by decide +kernel
theorem dX5_giveBack_25 : decode cX5_giveBack 25 = .ok (.iload_n 2, 1) := by decide +kernel
theorem dX5_giveBack_26 : decode cX5_giveBack 26 = .ok (.iload_n 3, 1) := by decide +kernel
theorem dX5_giveBack_27 : decode cX5_giveBack 27 = .ok (.iload 4, 2) := by decide +kernel
theorem dX5_giveBack_29 : decode cX5_giveBack 29 = .ok (.iconst 0, 1) := by decide +kernel
theorem dX5_giveBack_30 : decode cX5_giveBack 30 = .ok (.invokevirtual 174, 3) := by decide +kernel
theorem dX5_giveBack_33 : decode cX5_giveBack 33 = .ok (.istore 5, 2) := by decide +kernel
theorem dX5_giveBack_35 : decode cX5_giveBack 35 = .ok (.aload_n 0, 1) := by decide +kernel
theorem dX5_giveBack_36 : decode cX5_giveBack 36 = .ok (.iload_n 1, 1) := by decide +kernel
theorem dX5_giveBack_37 : decode cX5_giveBack 37 = .ok (.iload 5, 2) := by decide +kernel
theorem dX5_giveBack_39 : decode cX5_giveBack 39 = .ok (.iload 4, 2) := by decide +kernel
theorem dX5_giveBack_41 : decode cX5_giveBack 41 = .ok (.invokevirtual 178, 3) := by decide +kernel
theorem dX5_giveBack_44 : decode cX5_giveBack 44 = .ok (.istore 6, 2) := by decide +kernel
theorem dX5_giveBack_46 : decode cX5_giveBack 46 = .ok (.aload_n 0, 1) := by decide +kernel
theorem dX5_giveBack_47 : decode cX5_giveBack 47 = .ok (.dup, 1) := by decide +kernel
theorem dX5_giveBack_48 : decode cX5_giveBack 48 = .ok (.getfield 181, 3) := by decide +kernel
theorem dX5_giveBack_51 : decode cX5_giveBack 51 = .ok (.iload 6, 2) := by decide +kernel
theorem dX5_giveBack_53 : decode cX5_giveBack 53 = .ok (.iadd, 1) := by decide +kernel
theorem dX5_giveBack_54 : decode cX5_giveBack 54 = .ok (.putfield 181, 3) := by decide +kernel
theorem dX5_giveBack_57 : decode cX5_giveBack 57 = .ok (.iload 5, 2) := by decide +kernel
theorem dX5_giveBack_59 : decode cX5_giveBack 59 = .ok (.iload 6, 2) := by decide +kernel
theorem dX5_giveBack_61 : decode cX5_giveBack 61 = .ok (.isub, 1) := by decide +kernel
theorem dX5_giveBack_62 : decode cX5_giveBack 62 = .ok (.ireturn, 1) := by decide +kernel
set_option maxRecDepth 20000 in
theorem ggX5_exchange_X5_wrong : GoodIn wsX5_exchange wsX5_wrong := goodIn_r _ [9, 10, 11, 12, 13, 8, 14, 15, 16, 17, 18, 19, 1, 20, 21, 22, 23, 24, 25, 26, 27, 28, 29, 30, 31, 32, 3, 109, 110, 111, 112, 113, 114, 115, 116, 117, 118, 119, 120, 121, 122, 123, 124, 125, 126, 127, 128, 129, 130, 131, 132, 133] (by decide +kernel) (by decide +kernel)
set_option maxRecDepth 20000 in
theorem gX5_exchange_X5_wrong : GoodIn wsX5_exchange (wsV RX5 167 RX5 yX5_wrong wsX5_wrong) := goodIn_app (goodIn_of _ (by decide +kernel)) ggX5_exchange_X5_wrong
set_option maxRecDepth 20000 in
theorem ggX5_exchange_X5_isTen : GoodIn wsX5_exchange wsX5_isTen := goodIn_r _ [35, 20, 21, 8, 22] (by decide +kernel) (by decide +kernel)
set_option maxRecDepth 20000 in
theorem gX5_exchange_X5_isTen : GoodIn wsX5_exchange (va_wsS RX5 87 yX5_isTen wsX5_isTen) := goodIn_app (goodIn_of _ (by decide +kernel)) ggX5_exchange_X5_isTen
set_option maxRecDepth 20000 in
theorem ggX5_exchange_X5_barred : GoodIn wsX5_exchange wsX5_barred := goodIn_r _ [39, 2, 40, 41, 42, 8, 43, 44, 32, 45, 46, 47, 48, 109, 110, 111, 112, 113, 114, 115, 116, 117, 118, 119, 120, 121, 122, 123, 124, 125, 126, 127, 128, 129, 130, 131, 132, 133] (by decide +kernel) (by decide +kernel)
set_option maxRecDepth 20000 in
theorem gX5_exchange_X5_barred : GoodIn wsX5_exchange (wsV RX5 171 RX5 yX5_barred wsX5_barred) := goodIn_app (goodIn_of _ (by decide +kernel)) ggX5_exchange_X5_barred
set_option maxRecDepth 20000 in
theorem ggX5_exchange_X5_goes : GoodIn wsX5_exchange wsX5_goes := goodIn_r _ [52, 53, 109, 110, 111, 112, 113, 114, 115, 116, 117, 118, 119, 120, 121, 122, 123, 124, 125, 126, 127, 128, 129, 130, 131, 132, 133] (by decide +kernel) (by decide +kernel)
set_option maxRecDepth 20000 in
theorem gX5_exchange_X5_goes : GoodIn wsX5_exchange (wsV RX5 91 RX5 yX5_goes wsX5_goes) := goodIn_app (goodIn_of _ (by decide +kernel)) ggX5_exchange_X5_goes
set_option maxRecDepth 20000 in
theorem ggX5_exchange_X5_comesBack : GoodIn wsX5_exchange wsX5_comesBack := goodIn_r _ [57, 58, 10, 59, 60, 46, 44, 2, 45, 32, 47, 48, 4, 61, 62, 63, 8, 64, 65, 66, 67, 68, 69, 70, 15, 71, 72, 73, 74, 75, 76, 77, 78, 79, 80, 81, 82, 83, 84, 85, 86, 87, 88, 89, 90, 91, 92, 93, 94, 95, 96, 109, 110, 111, 112, 113, 114, 115, 116, 117, 118, 119, 120, 121, 122, 123, 124, 125, 126, 127, 128, 129, 130, 131, 132, 133] (by decide +kernel) (by decide +kernel)
set_option maxRecDepth 20000 in
theorem gX5_exchange_X5_comesBack : GoodIn wsX5_exchange (wsV RX5 174 RX5 yX5_comesBack wsX5_comesBack) := goodIn_app (goodIn_of _ (by decide +kernel)) ggX5_exchange_X5_comesBack
set_option maxRecDepth 20000 in
theorem ggX5_exchange_X5_opens : GoodIn wsX5_exchange wsX5_opens := goodIn_r _ [100, 2, 1, 15, 27, 65, 59, 3, 4, 109, 110, 111, 112, 113, 114, 115, 116, 117, 118, 119, 120, 121, 122, 123, 124, 125, 126, 127, 128, 129, 130, 131, 132, 133] (by decide +kernel) (by decide +kernel)
set_option maxRecDepth 20000 in
theorem gX5_exchange_X5_opens : GoodIn wsX5_exchange (wsV RX5 104 RX5 yX5_opens wsX5_opens) := goodIn_app (goodIn_of _ (by decide +kernel)) ggX5_exchange_X5_opens
set_option maxRecDepth 20000 in
theorem ggX5_exchange_X5_adds : GoodIn wsX5_exchange wsX5_adds := goodIn_r _ [104, 15, 58, 66, 90, 10, 109, 110, 111, 112, 113, 114, 115, 116, 117, 118, 119, 120, 121, 122, 123, 124, 125, 126, 127, 128, 129, 130, 131, 132, 133] (by decide +kernel) (by decide +kernel)
set_option maxRecDepth 20000 in
theorem gX5_exchange_X5_adds : GoodIn wsX5_exchange (wsV RX5 110 RX5 yX5_adds wsX5_adds) := goodIn_app (goodIn_of _ (by decide +kernel)) ggX5_exchange_X5_adds
set_option maxRecDepth 20000 in
theorem ggX5_exchange_X5_pays : GoodIn wsX5_exchange wsX5_pays := goodIn_r _ [108, 27, 32, 65, 67, 68, 69, 8, 70, 15, 71, 72, 73, 74, 66, 10, 75, 76, 77, 78, 79, 80, 81, 109, 110, 111, 112, 113, 114, 115, 116, 117, 118, 119, 120, 121, 122, 123, 124, 125, 126, 127, 128, 129, 130, 131, 132, 133] (by decide +kernel) (by decide +kernel)
set_option maxRecDepth 20000 in
theorem gX5_exchange_X5_pays : GoodIn wsX5_exchange (wsV RX5 114 RX5 yX5_pays wsX5_pays) := goodIn_app (goodIn_of _ (by decide +kernel)) ggX5_exchange_X5_pays
theorem dX5_exchange_0 : decode cX5_exchange 0 = .ok (.aload_n 0, 1) := by decide +kernel
theorem dX5_exchange_1 : decode cX5_exchange 1 = .ok (.iload_n 1, 1) := by decide +kernel
theorem dX5_exchange_2 : decode cX5_exchange 2 = .ok (.iload_n 2, 1) := by decide +kernel
theorem dX5_exchange_3 : decode cX5_exchange 3 = .ok (.iload_n 3, 1) := by decide +kernel
theorem dX5_exchange_4 : decode cX5_exchange 4 = .ok (.iload 4, 2) := by decide +kernel
theorem dX5_exchange_6 : decode cX5_exchange 6 = .ok (.invokevirtual 167, 3) := by decide +kernel
theorem dX5_exchange_9 : decode cX5_exchange 9 = .ok (.istore 6, 2) := by decide +kernel
theorem dX5_exchange_11 : decode cX5_exchange 11 = .ok (.aload_n 0, 1) := by decide +kernel
theorem dX5_exchange_12 : decode cX5_exchange 12 = .ok (.iload 6, 2) := by decide +kernel
theorem dX5_exchange_14 : decode cX5_exchange 14 = .ok (.iconst 1, 1) := by decide +kernel
theorem dX5_exchange_15 : decode cX5_exchange 15 = .ok (.if_icmp .ne 7, 3) := by decide +kernel
theorem dX5_exchange_18 : decode cX5_exchange 18 = .ok (.iconst 1, 1) := by decide +kernel
theorem dX5_exchange_19 : decode cX5_exchange 19 = .ok (.goto 22, 3) := by decide +kernel
theorem dX5_exchange_22 : decode cX5_exchange 22 = .ok (.iload 5, 2) := by decide +kernel
theorem dX5_exchange_24 : decode cX5_exchange 24 = .ok (.invokestatic 87, 3) := by decide +kernel
theorem dX5_exchange_27 : decode cX5_exchange 27 = .ok (.ifCond .ne 7, 3) := by decide +kernel
theorem dX5_exchange_30 : decode cX5_exchange 30 = .ok (.iconst 2, 1) := by decide +kernel
theorem dX5_exchange_31 : decode cX5_exchange 31 = .ok (.goto 10, 3) := by decide +kernel
theorem dX5_exchange_34 : decode cX5_exchange 34 = .ok (.aload_n 0, 1) := by decide +kernel
theorem dX5_exchange_35 : decode cX5_exchange 35 = .ok (.iload_n 1, 1) := by decide +kernel
theorem dX5_exchange_36 : decode cX5_exchange 36 = .ok (.iload 6, 2) := by decide +kernel
theorem dX5_exchange_38 : decode cX5_exchange 38 = .ok (.invokevirtual 171, 3) := by decide +kernel
theorem dX5_exchange_41 : decode cX5_exchange 41 = .ok (.invokevirtual 91, 3) := by decide +kernel
theorem dX5_exchange_44 : decode cX5_exchange 44 = .ok (.ifCond .ne 5, 3) := by decide +kernel
theorem dX5_exchange_47 : decode cX5_exchange 47 = .ok (.iconst 0, 1) := by decide +kernel
theorem dX5_exchange_48 : decode cX5_exchange 48 = .ok (.ireturn, 1) := by decide +kernel
theorem dX5_exchange_49 : decode cX5_exchange 49 = .ok (.aload_n 0, 1) := by decide +kernel
theorem dX5_exchange_50 : decode cX5_exchange 50 = .ok (.aload_n 0, 1) := by decide +kernel
theorem dX5_exchange_51 : decode cX5_exchange 51 = .ok (.getfield 80, 3) := by decide +kernel
theorem dX5_exchange_54 : decode cX5_exchange 54 = .ok (.bipush 40, 2) := by decide +kernel
theorem dX5_exchange_56 : decode cX5_exchange 56 = .ok (.if_icmp .ne 7, 3) := by decide +kernel
theorem dX5_exchange_59 : decode cX5_exchange 59 = .ok (.iconst 3, 1) := by decide +kernel
theorem dX5_exchange_60 : decode cX5_exchange 60 = .ok (.goto 4, 3) := by decide +kernel
theorem dX5_exchange_63 : decode cX5_exchange 63 = .ok (.iconst 0, 1) := by decide +kernel
theorem dX5_exchange_64 : decode cX5_exchange 64 = .ok (.invokevirtual 91, 3) := by decide +kernel
theorem dX5_exchange_67 : decode cX5_exchange 67 = .ok (.ifCond .ne 5, 3) := by decide +kernel
theorem dX5_exchange_70 : decode cX5_exchange 70 = .ok (.iconst 0, 1) := by decide +kernel
theorem dX5_exchange_71 : decode cX5_exchange 71 = .ok (.ireturn, 1) := by decide +kernel
theorem dX5_exchange_72 : decode cX5_exchange 72 = .ok (.aload_n 0, 1) := by decide +kernel
theorem dX5_exchange_73 : decode cX5_exchange 73 = .ok (.iload_n 1, 1) := by decide +kernel
theorem dX5_exchange_74 : decode cX5_exchange 74 = .ok (.iload_n 2, 1) := by decide +kernel
theorem dX5_exchange_75 : decode cX5_exchange 75 = .ok (.iload_n 3, 1) := by decide +kernel
theorem dX5_exchange_76 : decode cX5_exchange 76 = .ok (.iload 4, 2) := by decide +kernel
theorem dX5_exchange_78 : decode cX5_exchange 78 = .ok (.iconst 1, 1) := by decide +kernel
theorem dX5_exchange_79 : decode cX5_exchange 79 = .ok (.invokevirtual 174, 3) := by decide +kernel
theorem dX5_exchange_82 : decode cX5_exchange 82 = .ok (.istore 7, 2) := by decide +kernel
theorem dX5_exchange_84 : decode cX5_exchange 84 = .ok (.aload_n 0, 1) := by decide +kernel
theorem dX5_exchange_85 : decode cX5_exchange 85 = .ok (.aload_n 0, 1) := by decide +kernel
theorem dX5_exchange_86 : decode cX5_exchange 86 = .ok (.getfield 22, 3) := by decide +kernel
theorem dX5_exchange_89 : decode cX5_exchange 89 = .ok (.iload_n 1, 1) := by decide +kernel
theorem dX5_exchange_90 : decode cX5_exchange 90 = .ok (.iaload, 1) := by decide +kernel
theorem dX5_exchange_91 : decode cX5_exchange 91 = .ok (.invokevirtual 104, 3) := by decide +kernel
theorem dX5_exchange_94 : decode cX5_exchange 94 = .ok (.istore 8, 2) := by decide +kernel
theorem dX5_exchange_96 : decode cX5_exchange 96 = .ok (.aload_n 0, 1) := by decide +kernel
theorem dX5_exchange_97 : decode cX5_exchange 97 = .ok (.getfield 37, 3) := by decide +kernel
theorem dX5_exchange_100 : decode cX5_exchange 100 = .ok (.iload 8, 2) := by decide +kernel
theorem dX5_exchange_102 : decode cX5_exchange 102 = .ok (.aload_n 0, 1) := by decide +kernel
theorem dX5_exchange_103 : decode cX5_exchange 103 = .ok (.getfield 37, 3) := by decide +kernel
theorem dX5_exchange_106 : decode cX5_exchange 106 = .ok (.iload_n 1, 1) := by decide +kernel
theorem dX5_exchange_107 : decode cX5_exchange 107 = .ok (.iaload, 1) := by decide +kernel
theorem dX5_exchange_108 : decode cX5_exchange 108 = .ok (.iastore, 1) := by decide +kernel
theorem dX5_exchange_109 : decode cX5_exchange 109 = .ok (.aload_n 0, 1) := by decide +kernel
theorem dX5_exchange_110 : decode cX5_exchange 110 = .ok (.getfield 40, 3) := by decide +kernel
theorem dX5_exchange_113 : decode cX5_exchange 113 = .ok (.iload 8, 2) := by decide +kernel
theorem dX5_exchange_115 : decode cX5_exchange 115 = .ok (.aload_n 0, 1) := by decide +kernel
theorem dX5_exchange_116 : decode cX5_exchange 116 = .ok (.getfield 40, 3) := by decide +kernel
theorem dX5_exchange_119 : decode cX5_exchange 119 = .ok (.iload_n 1, 1) := by decide +kernel
theorem dX5_exchange_120 : decode cX5_exchange 120 = .ok (.iaload, 1) := by decide +kernel
theorem dX5_exchange_121 : decode cX5_exchange 121 = .ok (.iconst 1, 1) := by decide +kernel
theorem dX5_exchange_122 : decode cX5_exchange 122 = .ok (.iadd, 1) := by decide +kernel
theorem dX5_exchange_123 : decode cX5_exchange 123 = .ok (.iastore, 1) := by decide +kernel
theorem dX5_exchange_124 : decode cX5_exchange 124 = .ok (.aload_n 0, 1) := by decide +kernel
theorem dX5_exchange_125 : decode cX5_exchange 125 = .ok (.iload 8, 2) := by decide +kernel
theorem dX5_exchange_127 : decode cX5_exchange 127 = .ok (.iload 5, 2) := by decide +kernel
theorem dX5_exchange_129 : decode cX5_exchange 129 = .ok (.iload_n 3, 1) := by decide +kernel
theorem dX5_exchange_130 : decode cX5_exchange 130 = .ok (.invokevirtual 110, 3) := by decide +kernel
theorem dX5_exchange_133 : decode cX5_exchange 133 = .ok (.istore 9, 2) := by decide +kernel
theorem dX5_exchange_135 : decode cX5_exchange 135 = .ok (.aload_n 0, 1) := by decide +kernel
theorem dX5_exchange_136 : decode cX5_exchange 136 = .ok (.iload 8, 2) := by decide +kernel
theorem dX5_exchange_138 : decode cX5_exchange 138 = .ok (.invokevirtual 114, 3) := by decide +kernel
theorem dX5_exchange_141 : decode cX5_exchange 141 = .ok (.iload 7, 2) := by decide +kernel
theorem dX5_exchange_143 : decode cX5_exchange 143 = .ok (.isub, 1) := by decide +kernel
theorem dX5_exchange_144 : decode cX5_exchange 144 = .ok (.ireturn, 1) := by decide +kernel
set_option maxRecDepth 20000 in
theorem ggX5_quote_X5_wrong : GoodIn wsX5_quote wsX5_wrong := goodIn_r _ [5, 6, 7, 8, 9, 4, 10, 11, 12, 13, 14, 15, 16, 17, 18, 19, 20, 21, 22, 23, 24, 25, 26, 27, 28, 29, 30, 62, 63, 64, 65, 66, 67, 68, 69, 70, 71, 72, 73, 74, 75, 76, 77, 78, 79, 80, 81, 82, 83, 84, 85, 86] (by decide +kernel) (by decide +kernel)
set_option maxRecDepth 20000 in
theorem gX5_quote_X5_wrong : GoodIn wsX5_quote (wsV RX5 167 RX5 yX5_wrong wsX5_wrong) := goodIn_app (goodIn_of _ (by decide +kernel)) ggX5_quote_X5_wrong
set_option maxRecDepth 20000 in
theorem ggX5_quote_X5_goes : GoodIn wsX5_quote wsX5_goes := goodIn_r _ [34, 35, 62, 63, 64, 65, 66, 67, 68, 69, 70, 71, 72, 73, 74, 75, 76, 77, 78, 79, 80, 81, 82, 83, 84, 85, 86] (by decide +kernel) (by decide +kernel)
set_option maxRecDepth 20000 in
theorem gX5_quote_X5_goes : GoodIn wsX5_quote (wsV RX5 91 RX5 yX5_goes wsX5_goes) := goodIn_app (goodIn_of _ (by decide +kernel)) ggX5_quote_X5_goes
set_option maxRecDepth 20000 in
theorem ggX5_quote_X5_release : GoodIn wsX5_quote wsX5_release := goodIn_r _ [39, 40, 41, 42, 43, 44, 45, 4, 46, 11, 47, 48, 49, 50, 6, 51, 52, 53, 54, 55, 56, 57, 62, 63, 64, 65, 66, 67, 68, 69, 70, 71, 72, 73, 74, 75, 76, 77, 78, 79, 80, 81, 82, 83, 84, 85, 86] (by decide +kernel) (by decide +kernel)
set_option maxRecDepth 20000 in
theorem gX5_quote_X5_release : GoodIn wsX5_quote (wsV RX5 164 RX5 yX5_release wsX5_release) := goodIn_app (goodIn_of _ (by decide +kernel)) ggX5_quote_X5_release
set_option maxRecDepth 20000 in
theorem ggX5_quote_X5_fee : GoodIn wsX5_quote wsX5_fee := goodIn_r _ [61, 57, 25, 26, 27, 4, 28, 29, 24, 30, 62, 63, 64, 65, 66, 67, 68, 69, 70, 71, 72, 73, 74, 75, 76, 77, 78, 79, 80, 81, 82, 83, 84, 85, 86] (by decide +kernel) (by decide +kernel)
set_option maxRecDepth 20000 in
theorem gX5_quote_X5_fee : GoodIn wsX5_quote (wsV RX5 178 RX5 yX5_fee wsX5_fee) := goodIn_app (goodIn_of _ (by decide +kernel)) ggX5_quote_X5_fee
theorem dX5_quote_0 : decode cX5_quote 0 = .ok (.aload_n 0, 1) := by decide +kernel
theorem dX5_quote_1 : decode cX5_quote 1 = .ok (.aload_n 0, 1) := by decide +kernel
theorem dX5_quote_2 : decode cX5_quote 2 = .ok (.iload_n 1, 1) := by decide +kernel
theorem dX5_quote_3 : decode cX5_quote 3 = .ok (.iload_n 2, 1) := by decide +kernel
theorem dX5_quote_4 : decode cX5_quote 4 = .ok (.iload_n 3, 1) := by decide +kernel
theorem dX5_quote_5 : decode cX5_quote 5 = .ok (.iload 4, 2) := by decide +kernel
theorem dX5_quote_7 : decode cX5_quote 7 = .ok (.invokevirtual 167, 3) := by decide +kernel
theorem dX5_quote_10 : decode cX5_quote 10 = .ok (.invokevirtual 91, 3) := by decide +kernel
theorem dX5_quote_13 : decode cX5_quote 13 = .ok (.ifCond .ne 5, 3) := by decide +kernel
theorem dX5_quote_16 : decode cX5_quote 16 = .ok (.iconst 0, 1) := by decide +kernel
theorem dX5_quote_17 : decode cX5_quote 17 = .ok (.ireturn, 1) := by decide +kernel
theorem dX5_quote_18 : decode cX5_quote 18 = .ok (.aload_n 0, 1) := by decide +kernel
theorem dX5_quote_19 : decode cX5_quote 19 = .ok (.iload_n 1, 1) := by decide +kernel
theorem dX5_quote_20 : decode cX5_quote 20 = .ok (.iload_n 2, 1) := by decide +kernel
theorem dX5_quote_21 : decode cX5_quote 21 = .ok (.iload_n 3, 1) := by decide +kernel
theorem dX5_quote_22 : decode cX5_quote 22 = .ok (.invokevirtual 164, 3) := by decide +kernel
theorem dX5_quote_25 : decode cX5_quote 25 = .ok (.istore 5, 2) := by decide +kernel
theorem dX5_quote_27 : decode cX5_quote 27 = .ok (.iload 5, 2) := by decide +kernel
theorem dX5_quote_29 : decode cX5_quote 29 = .ok (.aload_n 0, 1) := by decide +kernel
theorem dX5_quote_30 : decode cX5_quote 30 = .ok (.iload_n 1, 1) := by decide +kernel
theorem dX5_quote_31 : decode cX5_quote 31 = .ok (.iload 5, 2) := by decide +kernel
theorem dX5_quote_33 : decode cX5_quote 33 = .ok (.iload 4, 2) := by decide +kernel
theorem dX5_quote_35 : decode cX5_quote 35 = .ok (.invokevirtual 178, 3) := by decide +kernel
theorem dX5_quote_38 : decode cX5_quote 38 = .ok (.isub, 1) := by decide +kernel
theorem dX5_quote_39 : decode cX5_quote 39 = .ok (.ireturn, 1) := by decide +kernel
set_option maxRecDepth 20000 in
theorem ggX5_released_X5_isSale : GoodIn wsX5_released wsX5_isSale := goodIn_r _ [6, 7, 8, 9, 5, 10, 16, 17, 18, 19, 20, 21, 22, 23, 24, 25, 26, 27, 28, 29, 30, 31, 32, 33, 34, 35, 36, 37, 38, 39, 40] (by decide +kernel) (by decide +kernel)
set_option maxRecDepth 20000 in
theorem gX5_released_X5_isSale : GoodIn wsX5_released (wsV RX5 83 RX5 yX5_isSale wsX5_isSale) := goodIn_app (goodIn_of _ (by decide +kernel)) ggX5_released_X5_isSale
set_option maxRecDepth 20000 in
theorem ggX5_released_X5_goes : GoodIn wsX5_released wsX5_goes := goodIn_r _ [14, 15, 16, 17, 18, 19, 20, 21, 22, 23, 24, 25, 26, 27, 28, 29, 30, 31, 32, 33, 34, 35, 36, 37, 38, 39, 40] (by decide +kernel) (by decide +kernel)
set_option maxRecDepth 20000 in
theorem gX5_released_X5_goes : GoodIn wsX5_released (wsV RX5 91 RX5 yX5_goes wsX5_goes) := goodIn_app (goodIn_of _ (by decide +kernel)) ggX5_released_X5_goes
theorem dX5_released_0 : decode cX5_released 0 = .ok (.aload_n 0, 1) := by decide +kernel
theorem dX5_released_1 : decode cX5_released 1 = .ok (.aload_n 0, 1) := by decide +kernel
theorem dX5_released_2 : decode cX5_released 2 = .ok (.iload_n 1, 1) := by decide +kernel
theorem dX5_released_3 : decode cX5_released 3 = .ok (.invokevirtual 83, 3) := by decide +kernel
theorem dX5_released_6 : decode cX5_released 6 = .ok (.ifCond .eq 7, 3) := by decide +kernel
theorem dX5_released_9 : decode cX5_released 9 = .ok (.iconst 0, 1) := by decide +kernel
theorem dX5_released_10 : decode cX5_released 10 = .ok (.goto 4, 3) := by decide +kernel
theorem dX5_released_13 : decode cX5_released 13 = .ok (.iconst 1, 1) := by decide +kernel
theorem dX5_released_14 : decode cX5_released 14 = .ok (.invokevirtual 91, 3) := by decide +kernel
theorem dX5_released_17 : decode cX5_released 17 = .ok (.ifCond .eq 12, 3) := by decide +kernel
theorem dX5_released_20 : decode cX5_released 20 = .ok (.aload_n 0, 1) := by decide +kernel
theorem dX5_released_21 : decode cX5_released 21 = .ok (.getfield 34, 3) := by decide +kernel
theorem dX5_released_24 : decode cX5_released 24 = .ok (.iload_n 1, 1) := by decide +kernel
theorem dX5_released_25 : decode cX5_released 25 = .ok (.iaload, 1) := by decide +kernel
theorem dX5_released_26 : decode cX5_released 26 = .ok (.goto 4, 3) := by decide +kernel
theorem dX5_released_29 : decode cX5_released 29 = .ok (.iconst 0, 1) := by decide +kernel
theorem dX5_released_30 : decode cX5_released 30 = .ok (.ireturn, 1) := by decide +kernel
theorem dX5_fees_0 : decode cX5_fees 0 = .ok (.aload_n 0, 1) := by decide +kernel
theorem dX5_fees_1 : decode cX5_fees 1 = .ok (.iconst 0, 1) := by decide +kernel
theorem dX5_fees_2 : decode cX5_fees 2 = .ok (.putfield 72, 3) := by decide +kernel
theorem dX5_fees_5 : decode cX5_fees 5 = .ok (.aload_n 0, 1) := by decide +kernel
theorem dX5_fees_6 : decode cX5_fees 6 = .ok (.getfield 181, 3) := by decide +kernel
theorem dX5_fees_9 : decode cX5_fees 9 = .ok (.ireturn, 1) := by decide +kernel
set_option maxRecDepth 20000 in
theorem ggX5_firstSale_X5_isSale : GoodIn wsX5_firstSale wsX5_isSale := goodIn_r _ [6, 7, 8, 9, 5, 10, 16, 17, 18, 19, 20, 21, 22, 23, 24, 25, 26, 27, 28, 29, 30, 31, 32, 33, 34, 35, 36, 37, 38, 39, 40] (by decide +kernel) (by decide +kernel)
set_option maxRecDepth 20000 in
theorem gX5_firstSale_X5_isSale : GoodIn wsX5_firstSale (wsV RX5 83 RX5 yX5_isSale wsX5_isSale) := goodIn_app (goodIn_of _ (by decide +kernel)) ggX5_firstSale_X5_isSale
set_option maxRecDepth 20000 in
theorem ggX5_firstSale_X5_goes : GoodIn wsX5_firstSale wsX5_goes := goodIn_r _ [14, 15, 16, 17, 18, 19, 20, 21, 22, 23, 24, 25, 26, 27, 28, 29, 30, 31, 32, 33, 34, 35, 36, 37, 38, 39, 40] (by decide +kernel) (by decide +kernel)
set_option maxRecDepth 20000 in
theorem gX5_firstSale_X5_goes : GoodIn wsX5_firstSale (wsV RX5 91 RX5 yX5_goes wsX5_goes) := goodIn_app (goodIn_of _ (by decide +kernel)) ggX5_firstSale_X5_goes
theorem dX5_firstSale_0 : decode cX5_firstSale 0 = .ok (.aload_n 0, 1) := by decide +kernel
theorem dX5_firstSale_1 : decode cX5_firstSale 1 = .ok (.aload_n 0, 1) := by decide +kernel
theorem dX5_firstSale_2 : decode cX5_firstSale 2 = .ok (.iload_n 1, 1) := by decide +kernel
theorem dX5_firstSale_3 : decode cX5_firstSale 3 = .ok (.invokevirtual 83, 3) := by decide +kernel
theorem dX5_firstSale_6 : decode cX5_firstSale 6 = .ok (.ifCond .eq 7, 3) := by decide +kernel
theorem dX5_firstSale_9 : decode cX5_firstSale 9 = .ok (.iconst 0, 1) := by decide +kernel
theorem dX5_firstSale_10 : decode cX5_firstSale 10 = .ok (.goto 4, 3) := by decide +kernel
theorem dX5_firstSale_13 : decode cX5_firstSale 13 = .ok (.iconst 1, 1) := by decide +kernel
theorem dX5_firstSale_14 : decode cX5_firstSale 14 = .ok (.invokevirtual 91, 3) := by decide +kernel
theorem dX5_firstSale_17 : decode cX5_firstSale 17 = .ok (.ifCond .eq 12, 3) := by decide +kernel
theorem dX5_firstSale_20 : decode cX5_firstSale 20 = .ok (.aload_n 0, 1) := by decide +kernel
theorem dX5_firstSale_21 : decode cX5_firstSale 21 = .ok (.getfield 37, 3) := by decide +kernel
theorem dX5_firstSale_24 : decode cX5_firstSale 24 = .ok (.iload_n 1, 1) := by decide +kernel
theorem dX5_firstSale_25 : decode cX5_firstSale 25 = .ok (.iaload, 1) := by decide +kernel
theorem dX5_firstSale_26 : decode cX5_firstSale 26 = .ok (.goto 4, 3) := by decide +kernel
theorem dX5_firstSale_29 : decode cX5_firstSale 29 = .ok (.iconst 0, 1) := by decide +kernel
theorem dX5_firstSale_30 : decode cX5_firstSale 30 = .ok (.ireturn, 1) := by decide +kernel
set_option maxRecDepth 20000 in
theorem ggX5_exchanges_X5_isSale : GoodIn wsX5_exchanges wsX5_isSale := goodIn_r _ [6, 7, 8, 9, 5, 10, 16, 17, 18, 19, 20, 21, 22, 23, 24, 25, 26, 27, 28, 29, 30, 31, 32, 33, 34, 35, 36, 37, 38, 39, 40] (by decide +kernel) (by decide +kernel)
set_option maxRecDepth 20000 in
theorem gX5_exchanges_X5_isSale : GoodIn wsX5_exchanges (wsV RX5 83 RX5 yX5_isSale wsX5_isSale) := goodIn_app (goodIn_of _ (by decide +kernel)) ggX5_exchanges_X5_isSale
set_option maxRecDepth 20000 in
theorem ggX5_exchanges_X5_goes : GoodIn wsX5_exchanges wsX5_goes := goodIn_r _ [14, 15, 16, 17, 18, 19, 20, 21, 22, 23, 24, 25, 26, 27, 28, 29, 30, 31, 32, 33, 34, 35, 36, 37, 38, 39, 40] (by decide +kernel) (by decide +kernel)
set_option maxRecDepth 20000 in
theorem gX5_exchanges_X5_goes : GoodIn wsX5_exchanges (wsV RX5 91 RX5 yX5_goes wsX5_goes) := goodIn_app (goodIn_of _ (by decide +kernel)) ggX5_exchanges_X5_goes
theorem dX5_exchanges_0 : decode cX5_exchanges 0 = .ok (.aload_n 0, 1) := by decide +kernel
theorem dX5_exchanges_1 : decode cX5_exchanges 1 = .ok (.aload_n 0, 1) := by decide +kernel
theorem dX5_exchanges_2 : decode cX5_exchanges 2 = .ok (.iload_n 1, 1) := by decide +kernel
theorem dX5_exchanges_3 : decode cX5_exchanges 3 = .ok (.invokevirtual 83, 3) := by decide +kernel
theorem dX5_exchanges_6 : decode cX5_exchanges 6 = .ok (.ifCond .eq 7, 3) := by decide +kernel
theorem dX5_exchanges_9 : decode cX5_exchanges 9 = .ok (.iconst 0, 1) := by decide +kernel
theorem dX5_exchanges_10 : decode cX5_exchanges 10 = .ok (.goto 4, 3) := by decide +kernel
theorem dX5_exchanges_13 : decode cX5_exchanges 13 = .ok (.iconst 1, 1) := by decide +kernel
theorem dX5_exchanges_14 : decode cX5_exchanges 14 = .ok (.invokevirtual 91, 3) := by decide +kernel
theorem dX5_exchanges_17 : decode cX5_exchanges 17 = .ok (.ifCond .eq 12, 3) := by decide +kernel
theorem dX5_exchanges_20 : decode cX5_exchanges 20 = .ok (.aload_n 0, 1) := by decide +kernel
theorem dX5_exchanges_21 : decode cX5_exchanges 21 = .ok (.getfield 40, 3) := by decide +kernel
theorem dX5_exchanges_24 : decode cX5_exchanges 24 = .ok (.iload_n 1, 1) := by decide +kernel
theorem dX5_exchanges_25 : decode cX5_exchanges 25 = .ok (.iaload, 1) := by decide +kernel
theorem dX5_exchanges_26 : decode cX5_exchanges 26 = .ok (.goto 4, 3) := by decide +kernel
theorem dX5_exchanges_29 : decode cX5_exchanges 29 = .ok (.iconst 0, 1) := by decide +kernel
theorem dX5_exchanges_30 : decode cX5_exchanges 30 = .ok (.ireturn, 1) := by decide +kernel
theorem dJ9_floorDiv_7cf53_0 : decode cJ9_floorDiv_7cf53 0 = .ok (.iload_n 0, 1) := by decide +kernel
theorem dJ9_floorDiv_7cf53_1 : decode cJ9_floorDiv_7cf53 1 = .ok (.iload_n 1, 1) := by decide +kernel
theorem dJ9_floorDiv_7cf53_2 : decode cJ9_floorDiv_7cf53 2 = .ok (.idiv, 1) := by decide +kernel
theorem dJ9_floorDiv_7cf53_3 : decode cJ9_floorDiv_7cf53 3 = .ok (.istore_n 2, 1) := by decide +kernel
theorem dJ9_floorDiv_7cf53_4 : decode cJ9_floorDiv_7cf53 4 = .ok (.iload_n 0, 1) := by decide +kernel
theorem dJ9_floorDiv_7cf53_5 : decode cJ9_floorDiv_7cf53 5 = .ok (.iload_n 1, 1) := by decide +kernel
theorem dJ9_floorDiv_7cf53_6 : decode cJ9_floorDiv_7cf53 6 = .ok (.ixor, 1) := by decide +kernel
theorem dJ9_floorDiv_7cf53_7 : decode cJ9_floorDiv_7cf53 7 = .ok (.ifCond .ge 14, 3) := by decide +kernel
theorem dJ9_floorDiv_7cf53_10 : decode cJ9_floorDiv_7cf53 10 = .ok (.iload_n 2, 1) := by decide +kernel
theorem dJ9_floorDiv_7cf53_11 : decode cJ9_floorDiv_7cf53 11 = .ok (.iload_n 1, 1) := by decide +kernel
theorem dJ9_floorDiv_7cf53_12 : decode cJ9_floorDiv_7cf53 12 = .ok (.imul, 1) := by decide +kernel
theorem dJ9_floorDiv_7cf53_13 : decode cJ9_floorDiv_7cf53 13 = .ok (.iload_n 0, 1) := by decide +kernel
theorem dJ9_floorDiv_7cf53_14 : decode cJ9_floorDiv_7cf53 14 = .ok (.if_icmp .eq 7, 3) := by decide +kernel
theorem dJ9_floorDiv_7cf53_17 : decode cJ9_floorDiv_7cf53 17 = .ok (.iload_n 2, 1) := by decide +kernel
theorem dJ9_floorDiv_7cf53_18 : decode cJ9_floorDiv_7cf53 18 = .ok (.iconst 1, 1) := by decide +kernel
theorem dJ9_floorDiv_7cf53_19 : decode cJ9_floorDiv_7cf53 19 = .ok (.isub, 1) := by decide +kernel
theorem dJ9_floorDiv_7cf53_20 : decode cJ9_floorDiv_7cf53 20 = .ok (.ireturn, 1) := by decide +kernel
theorem dJ9_floorDiv_7cf53_21 : decode cJ9_floorDiv_7cf53 21 = .ok (.iload_n 2, 1) := by decide +kernel
theorem dJ9_floorDiv_7cf53_22 : decode cJ9_floorDiv_7cf53 22 = .ok (.ireturn, 1) := by decide +kernel
theorem dJ9_max_7cf53_0 : decode cJ9_max_7cf53 0 = .ok (.iload_n 0, 1) := by decide +kernel
theorem dJ9_max_7cf53_1 : decode cJ9_max_7cf53 1 = .ok (.iload_n 1, 1) := by decide +kernel
theorem dJ9_max_7cf53_2 : decode cJ9_max_7cf53 2 = .ok (.if_icmp .lt 7, 3) := by decide +kernel
theorem dJ9_max_7cf53_5 : decode cJ9_max_7cf53 5 = .ok (.iload_n 0, 1) := by decide +kernel
theorem dJ9_max_7cf53_6 : decode cJ9_max_7cf53 6 = .ok (.goto 4, 3) := by decide +kernel
theorem dJ9_max_7cf53_9 : decode cJ9_max_7cf53 9 = .ok (.iload_n 1, 1) := by decide +kernel
theorem dJ9_max_7cf53_10 : decode cJ9_max_7cf53 10 = .ok (.ireturn, 1) := by decide +kernel
set_option maxRecDepth 20000 in
theorem ggL_setProduct_X4_setProduct : GoodIn wsL_setProduct wsX4_setProduct := goodIn_ca (goodIn_r _ [6, 7, 8, 9, 10, 11, 12, 13, 14, 15, 5, 16, 17, 18, 19, 20, 21, 22, 23, 24, 25, 26, 27, 28, 29, 30] (by decide +kernel) (by decide +kernel)) (goodIn_sub (fun _ h => List.mem_cons_of_mem _ (List.mem_append_right _ h)) (by decide +kernel))
set_option maxRecDepth 20000 in
theorem gL_setProduct_X4_setProduct : GoodIn wsL_setProduct (wsV RL 7 RX4 yX4_setProduct wsX4_setProduct) := goodIn_app (goodIn_of _ (by decide +kernel)) ggL_setProduct_X4_setProduct
end
section
/-! THE LAYER: the world as one map from addresses to things; every contract speaks of the whole map, so a frame is an equation between maps. Cells at or above z0 (the heap's size at the law's entry) may be written, no others. -/
section HL
abbrev hM : Type := Nat → Option va_E
def hu (mm : hM) (a : Nat) (e : va_E) : hM := fun q => if q = a then some e else mm q
theorem hu_eq {mm : hM} {a : Nat} {e : va_E} : hu mm a e a = some e := if_pos rfl
theorem hu_ne {mm : hM} {a b : Nat} {e : va_E} {r : Option va_E} (h : b ≠ a) (hb : mm b = r) : hu mm a e b = r := (if_neg h).trans hb
theorem hu_hu {mm : hM} {a : Nat} {e e' : va_E} : hu (hu mm a e) a e' = hu mm a e' := by
  funext q; unfold hu; by_cases h : q = a <;> simp [h]
theorem hu_self {mm : hM} {a : Nat} {e : va_E} (h : mm a = some e) : hu mm a e = mm := by
  funext q; unfold hu; by_cases hq : q = a
  · subst hq; simp [h]
  · simp [hq]
theorem hu_comm {mm : hM} {a b : Nat} {e e' : va_E} (h : a ≠ b) : hu (hu mm a e) b e' = hu (hu mm b e') a e := by
  funext q; unfold hu; by_cases h1 : q = a
  · subst h1; simp [h]
  · by_cases h2 : q = b
    · subst h2; simp [Ne.symm h]
    · simp [h1, h2]
abbrev hG : Type := va_G × (Nat → ClassId)
abbrev hT (Y : Nat → ClassId) : List (ClassId × FieldType) := [(Y 0, .int), (Y 1, .long), (Y 2, .boolean), (Y 3, .object RX0), (Y 4, .object RX1), (Y 5, .object RX2), (Y 6, .object RX3)]
abbrev eI (G : hG) (n : Nat) (f : Nat → Int32) : va_E := .inl (G.2 0, n, .inl f)
abbrev eJ (G : hG) (n : Nat) (f : Nat → Int64) : va_E := .inl (G.2 1, n, .inr (.inl f))
abbrev eZ (G : hG) (n : Nat) (f : Nat → Int32) : va_E := .inl (G.2 2, n, .inl f)
abbrev eR (G : hG) (k n : Nat) (f : Nat → Option Nat) : va_E := .inl (G.2 k, n, .inr (.inr (.inr (.inr f))))
abbrev eO (ci : Nat) (fs : List Value) : va_E := .inr (ci, fs)
def hX_A : String := "java/lang/IllegalArgumentException"
def hX_S : String := "java/lang/IllegalStateException"
def hX_B : String := "java/lang/IndexOutOfBoundsException"
abbrev hX_N : List String := ["java/lang/RuntimeException", "java/lang/Exception"]
abbrev h_ge (z0 : Nat) : Nat → Prop := fun q => z0 ≤ q
/-- what holds of every state from the law's entry on: the tables' words that aren't good words, the statics of Throwable, the texts -/
def henv (z0 : Nat) (U : State) : Prop :=
  (va_AO RX0 U ∧ va_AO RX1 U ∧ va_AO RX2 U ∧ va_AO RX3 U) ∧
  (va_Nw (.methodLinkNest RX4 15 yX2_init RX4) U ∧ va_Nw (.methodLinkNest RX4 22 yX0_init RX4) U ∧ va_Nw (.methodLinkNest RX3 48 yX4_netOf RX4) U) ∧
  (vx_Zq Bundle.tN "UNASSIGNED_STACK" Bundle.steD (h_ge z0) U U.heap ∧ vx_Zq Bundle.tN "SUPPRESSED_SENTINEL" Bundle.listD (h_ge z0) U U.heap) ∧
  (∀ q : Nat × String, q ∈ [(40, "an argument is out of range"), (55, "days is out of range"), (62, "the day would be above 100000"), (69, "customer is out of range"), (75, "there are 40 sales"), (227, "there is no such sale"), (94, "product or quantity is out of range"), (103, "the sale is paid, or has 6 lines"), (114, "the sale is paid, or has no line"), (144, "there is no such line"), (153, "units or condition is out of range"), (167, "the units can not be returned"), (183, "units, condition or product is out of range"), (185, "the units can not be exchanged"), (213, "product is out of range"), (215, "there is no unit to test")] → ∃ a, vk_R RX4 q.1 q.2 a U) ∧
  ((∀ x : String, x ∈ [hX_A, hX_S, hX_B] → va_Nw (.castable x x) U) ∧ (∀ x : String, x ∈ ["java/lang/RuntimeException", "java/lang/Exception", Bundle.tN] → va_Nw (.declares (Bundle.initS x)) U)) ∧
  (∀ x : String × String, x ∈ [(hX_A, hX_S), (hX_A, hX_B), (hX_S, hX_A), (hX_S, hX_B), (hX_B, hX_A), (hX_B, hX_S)] → va_Nc x.1 x.2 U)
theorem henv.mv {z0 : Nat} {s U : State} (hW : s.WarmedH U.vm) (hk : ∀ a : Nat, a < s.heap.size → ¬ h_ge z0 a → U.heap[a]? = s.heap[a]?) (h : henv z0 s) : henv z0 U := by
  obtain ⟨⟨a1, a2, a3, a4⟩, ⟨b1, b2, b3⟩, ⟨c1, c2⟩, d, ⟨e, e2⟩, f⟩ := h
  exact ⟨⟨a1.moved hW.alike, a2.moved hW.alike, a3.moved hW.alike, a4.moved hW.alike⟩, ⟨b1.warmM hW, b2.warmM hW, b3.warmM hW⟩,
    ⟨(c1.kept hk).moved hW.alike, (c2.kept hk).moved hW.alike⟩, fun q hq => (d q hq).imp fun a ha => ha.warm hW, ⟨fun x hx => (e x hx).warmC hW, fun x hx => (e2 x hx).warmD hW⟩, fun x hx => (f x hx).moved hW.alike⟩
/-- the map, in a heap -/
def hs1 (G : hG) (z0 : Nat) (mm : hM) (H : Heap) : Prop := ∀ (a : Nat) (e : va_E), mm a = some e → z0 ≤ a ∧ va_at G.1 vwCl (a, e) H
/-- a method's start -/
def hs0 (G : hG) (z0 : Nat) (mm : hM) (U : State) : Prop := z0 ≤ U.heap.size ∧ hs1 G z0 mm U.heap ∧ va_K G.1 vwCl (hT G.2) U ∧ henv z0 U
/-- within a method that began at s: the heap H holds mm -/
def hs (G : hG) (z0 : Nat) (mm : hM) (s : State) (H : Heap) (locs : List Loc) : Prop := z0 ≤ s.heap.size ∧ va_S (h_ge z0) s.heap H locs ∧ hs1 G z0 mm H ∧ va_K G.1 vwCl (hT G.2) s ∧ henv z0 s
theorem hs_start {G : hG} {z0 : Nat} {mm : hM} {s : State} (h : hs0 G z0 mm s) : hs G z0 mm s s.heap [] := ⟨h.1, va_S.rf, h.2.1, h.2.2.1, h.2.2.2⟩
theorem hs_call {G : hG} {z0 : Nat} {mm : hM} {s : State} {H : Heap} {locs : List Loc} (h : hs G z0 mm s H locs) {U : State} (hU : U.heap = H) (hW : s.WarmedH U.vm) : hs0 G z0 mm U := by
  obtain ⟨h1, h2, h3, h4, h5⟩ := h
  exact ⟨by rw [hU]; exact Nat.le_trans h1 h2.1, by rw [hU]; exact h3, va_K.moved hW.alike h4, h5.mv hW (by rw [hU]; exact h2.2.1)⟩
theorem hs_blind {G : hG} {z0 : Nat} {mm : hM} {U : State} {g : JFrame} {mk : MethodId} {a : Array Value} (h : hs0 G z0 mm U) : hs0 G z0 mm (U.calling g mk a) := by
  have hW : U.WarmedH (U.calling g mk a).vm := State.WarmedH.refl U
  exact ⟨h.1, h.2.1, va_K.moved hW.alike h.2.2.1, h.2.2.2.mv hW (fun _ _ _ => rfl)⟩
theorem hs_at {G : hG} {z0 : Nat} {mm : hM} {s : State} {H : Heap} {locs : List Loc} (h : hs G z0 mm s H locs) {a : Nat} {e : va_E} (ha : mm a = some e) : va_P G.1 vwCl [(a, e)] H := by
  intro k q hk
  match k, hk with
  | 0, hk => cases hk; exact (h.2.2.1 a e ha).2
  | k + 1, hk => simp at hk
theorem hs_D {G : hG} {z0 : Nat} {mm : hM} {s : State} {H : Heap} {locs : List Loc} (h : hs G z0 mm s H locs) {a : Nat} {e : va_E} (ha : mm a = some e) : va_D (h_ge z0) [(a, e)] := by
  refine ⟨fun i j p q hi hj _ => ?_, fun k q hk => ?_⟩
  · match i, j, hi, hj with
    | 0, 0, _, _ => rfl
    | 0, j + 1, _, hj => simp at hj
    | i + 1, _, hi, _ => simp at hi
  · match k, hk with
    | 0, hk => cases hk; exact (h.2.2.1 a e ha).1
    | k + 1, hk => simp at hk
/-- one cell is written -/
theorem hs_put {G : hG} {z0 : Nat} {mm : hM} {s : State} {H H1 : Heap} {locs : List Loc} (h : hs G z0 mm s H locs) {a k : Nat} {e0 e : va_E} (ha : mm a = some e0) (he : va_at G.1 vwCl (a, e) H1) (z : H1.size = H.size) (oq : ∀ q : Nat, q ≠ a → H1[q]? = H[q]?) : hs G z0 (hu mm a e) s H1 (locs ++ [⟨a, k⟩]) := by
  obtain ⟨h1, h2, h3, h4, h5⟩ := h
  refine ⟨h1, h2.put z oq (h3 a e0 ha).1, fun b e' hb => ?_, h4, h5⟩
  by_cases hba : b = a
  · subst hba
    rw [hu_eq] at hb
    cases hb
    exact ⟨(h3 b e0 ha).1, he⟩
  · have hb' : mm b = some e' := by rw [← hb]; exact (hu_ne hba rfl).symm
    exact ⟨(h3 b e' hb').1, (h3 b e' hb').2.kept (oq b hba)⟩
/-- one cell comes -/
theorem hs_new {G : hG} {z0 : Nat} {mm : hM} {s : State} {H H1 : Heap} {locs : List Loc} (h : hs G z0 mm s H locs) {e : va_E} (he : va_at G.1 vwCl (H.size, e) H1) (z : H1.size = H.size + 1) (o1 : ∀ q : Nat, q < H.size → H1[q]? = H[q]?) : mm H.size = none ∧ hs G z0 (hu mm H.size e) s H1 locs := by
  obtain ⟨h1, h2, h3, h4, h5⟩ := h
  refine ⟨?_, h1, ⟨Nat.le_trans h2.1 (by omega), fun x hx hA => (o1 x (Nat.lt_of_lt_of_le hx h2.1)).trans (h2.2.1 x hx hA), h2.2.2⟩, fun b e' hb => ?_, h4, h5⟩
  · cases hm : mm H.size with
    | none => rfl
    | some e0 => exact absurd (h3 _ _ hm).2.lt (Nat.lt_irrefl _)
  · by_cases hba : b = H.size
    · subst hba
      rw [hu_eq] at hb
      cases hb
      exact ⟨Nat.le_trans h1 h2.1, he⟩
    · have hb' : mm b = some e' := by rw [← hb]; exact (hu_ne hba rfl).symm
      exact ⟨(h3 b e' hb').1, (h3 b e' hb').2.kept (o1 b (h3 b e' hb').2.lt)⟩
/-- behind a call -/
theorem hs_back {G : hG} {z0 : Nat} {mm m' : hM} {s t : State} {H H1 : Heap} {locs locs1 : List Loc} (h : hs G z0 mm s H locs) (ht : t.heap = H1) (hB : hs1 G z0 m' t.heap) (hS : va_S (h_ge z0) s.heap H1 locs1) : hs G z0 m' s H1 locs1 := ⟨h.1, hS, by rw [← ht]; exact hB, h.2.2.2.1, h.2.2.2.2⟩
abbrev hPre (G : hG) (z0 : Nat) (mm : hM) (av : List Value) : Array Value → State → Prop := va_Pc av (hs0 G z0 mm)
abbrev hB1 (G : hG) (z0 : Nat) : hM → State → Prop := fun m' t => hs1 G z0 m' t.heap
abbrev hQi (G : hG) (z0 : Nat) (post : Int32 → hM → Prop) : Array Value → State → Outcome → State → Prop := va_Qi post (hB1 G z0) (h_ge z0)
abbrev hQl (G : hG) (z0 : Nat) (post : Int64 → hM → Prop) : Array Value → State → Outcome → State → Prop := va_Ql post (hB1 G z0) (h_ge z0)
abbrev hQv (G : hG) (z0 : Nat) (post : hM → Prop) : Array Value → State → Outcome → State → Prop := va_Qv post (hB1 G z0) (h_ge z0)
abbrev hQq (G : hG) (z0 : Nat) (post : Option Nat → hM → Prop) : Array Value → State → Outcome → State → Prop := va_Qq post (hB1 G z0) (h_ge z0)
/-- what is thrown, and the map then -/
abbrev hXC (G : hG) (z0 : Nat) (px : String → hM → Prop) : String → State → State → Prop := vx_X (S := hM) (fun _ => True) (fun E m' t => px E m' ∧ hs1 G z0 m' t.heap) (h_ge z0)
theorem hpre_blind {G : hG} {z0 : Nat} {mm : hM} {av : List Value} : FrameBlind (hPre G z0 mm av) := fun _ _ _ _ h => ⟨h.1, hs_blind h.2⟩
theorem hs_recv {G : hG} {z0 : Nat} {mm : hM} {s : State} {H : Heap} {locs : List Loc} (h : hs G z0 mm s H locs) {b ci : Nat} {fs : List Value} {q : vw_C} (hb : mm b = some (.inr (ci, fs))) (hc : vwCl[ci]? = some q) : ∃ cellB : Cell, H[b]? = some cellB ∧ cellB.vm.isStatics = false ∧ s.vm.findClass q.1 = some cellB.cls := va_recv h.2.2.2.1 (hs_at h hb) (q0 := 0) hc rfl
theorem hs_preV {G : hG} {z0 : Nat} {mm : hM} {s : State} {H : Heap} {locs : List Loc} (h : hs G z0 mm s H locs) {b ci : Nat} {fs : List Value} {q : vw_C} {As : List Value} (hb : mm b = some (.inr (ci, fs))) (hc : vwCl[ci]? = some q) : PreV s H q.1 b (hPre G z0 mm (.ref b :: As)) As := ⟨hpre_blind, hs_recv h hb hc, fun _ hU hW => ⟨rfl, hs_call h hU hW⟩⟩
theorem hs_preS {G : hG} {z0 : Nat} {mm : hM} {s : State} {H : Heap} {locs : List Loc} (h : hs G z0 mm s H locs) {As : List Value} : PreS s H (hPre G z0 mm As) As := ⟨hpre_blind, fun _ hU hW => ⟨rfl, hs_call h hU hW⟩⟩
end HL
end
section
/-! ROWS over the map: starts and ends of methods, fields, arrays, new things, calls. -/
section HR0
variable {l : Launch}
/-- a body that throws nothing -/
theorem hm_of {y : MethodName} {ws ws' : List Cond} {rm : Room} {G : hG} {z0 : Nat} {mm : hM} {av : List Value} {Qc : Array Value → State → Outcome → State → Prop} {mc ms : Nat} {cc : ByteArray} {maxL : Nat} {ret : Option FieldType}
    (hy : plainName y.cls = true) (hw : ws = Cond.code y cc maxL ret :: ws') (hlen : (lg_sl av).length ≤ maxL)
    (body : ∀ (p : Program) (e : Env) (s : State) (m : MethodId) (below : List Frame) (meth : Method) (c : Code) (ls : Array Slot), p.tables.exec = Jvm.exec → c.code = cc → meth.sig.returnType = ret → (∀ w ∈ ws, w.before av.toArray s = true) → s.vm.findClass y.cls = some m.cls → meth.locks = false → c.maxLocals = maxL → meth.name = y.name → hs G z0 mm s s.heap [] → lv_has ls maxL (lv_args 0 av) →
      W p l e rm s m av.toArray below meth c s.heap [] 0 0 (MQ below Qc av.toArray s mc ms (h_ge z0)) (F0 m 0 ls [])) : Met l y ws rm (hPre G z0 mm av) Qc mc ms (h_ge z0) := by
  refine Met.ofW (cc := cc) (maxL := maxL) (ret := ret) hy hw ?_
  intro p e s m args below meth c s₁ B hml hv
  obtain ⟨rfl, h0⟩ := hv
  rw [lg_entry_eq]
  exact body p e s m below meth c _ B.exec B.bytes B.returns (atoms_spec (ws := ws) B.pre) (findClass_of_methodNamed B.named) B.notSynchronized hml (name_of_methodNamed B.named B.method).1 (hs_start h0) (lv_entry av (n := maxL) hlen)
/-- a body that may throw -/
theorem hm_ofX {y : MethodName} {ws ws' : List Cond} {rm : Room} {G : hG} {z0 : Nat} {mm : hM} {av : List Value} {Qc : Array Value → State → Outcome → State → Prop} {XC : String → State → State → Prop} {mc ms : Nat} {cc : ByteArray} {maxL : Nat} {ret : Option FieldType}
    (hy : plainName y.cls = true) (hw : ws = Cond.code y cc maxL ret :: ws') (hlen : (lg_sl av).length ≤ maxL)
    (body : ∀ (p : Program) (e : Env) (s : State) (m : MethodId) (below : List Frame) (meth : Method) (c : Code) (ls : Array Slot), p.tables.exec = Jvm.exec → c.code = cc → meth.sig.returnType = ret → (∀ w ∈ ws, w.before av.toArray s = true) → s.vm.findClass y.cls = some m.cls → meth.locks = false → c.maxLocals = maxL → meth.name = y.name → (∀ x ∈ c.exceptionTable.toList, False) → hs G z0 mm s s.heap [] → lv_has ls maxL (lv_args 0 av) →
      W p l e rm s m av.toArray below meth c s.heap [] 0 0 (vx_MQ below Qc XC av.toArray s mc ms (h_ge z0)) (F0 m 0 ls [])) : vx_Met l y ws rm (hPre G z0 mm av) Qc XC mc ms (h_ge z0) := by
  refine vx_ofW (cc := cc) (maxL := maxL) (ret := ret) hy hw ?_
  intro p e s m args below meth c s₁ B hml htb hv
  obtain ⟨rfl, h0⟩ := hv
  rw [lg_entry_eq]
  exact body p e s m below meth c _ B.exec B.bytes B.returns (atoms_spec (ws := ws) B.pre) (findClass_of_methodNamed B.named) B.notSynchronized hml (name_of_methodNamed B.named B.method).1 htb (hs_start h0) (lv_entry av (n := maxL) hlen)
end HR0
section HR1
variable {p : Program} {l : Launch} {e : Env} {R : Room} {s : State} {m : MethodId} {args : Array Value} {below : List Frame} {meth : Method} {c : Code} {H : Heap} {locs : List Loc} {cells slots : Nat} {Q : State → Prop}
variable {cc : ByteArray} {pc : Nat} {ls : Array Slot} {rest : List Value} {a : Nat} {G : hG} {z0 : Nat} {mm : hM} {Ts : List Cond} {own ref C : String} {T : u_T} {N ci index : Nat} {a' : Array Value}
/-- ends -/
theorem hr_i {post : Int32 → hM → Prop} {v : Int32} (hx : p.tables.exec = Jvm.exec) (hb : c.code = cc) (hr : meth.sig.returnType = some .int) (hlocks : meth.locks = false) (hh : hs G z0 mm s H locs) (hdg : decode cc pc = .ok (.ireturn, 1)) (hp : post v mm) :
    W p l e R s m args below meth c H locs cells slots (MQ below (hQi G z0 post) args s cells slots (h_ge z0)) (F0 m pc ls [.int v]) :=
  W.iret hx hb hr (fun _ ht _ => ⟨⟨v, mm, rfl, hp, by rw [← ht] at hh; exact hh.2.2.1⟩, hh.2.1.F ht⟩) hh.2.1.2.2 hdg hlocks
theorem hr_z {post : Int32 → hM → Prop} {v : Int32} (hx : p.tables.exec = Jvm.exec) (hb : c.code = cc) (hr : meth.sig.returnType = some .boolean) (hlocks : meth.locks = false) (hh : hs G z0 mm s H locs) (hn : narrow .boolean (.int v) = .int v) (hdg : decode cc pc = .ok (.ireturn, 1)) (hp : post v mm) :
    W p l e R s m args below meth c H locs cells slots (MQ below (hQi G z0 post) args s cells slots (h_ge z0)) (F0 m pc ls [.int v]) :=
  W.zret hx hb hr hn (fun _ ht _ => ⟨⟨v, mm, rfl, hp, by rw [← ht] at hh; exact hh.2.2.1⟩, hh.2.1.F ht⟩) hh.2.1.2.2 hdg hlocks
theorem hr_l {post : Int64 → hM → Prop} {v : Int64} (hx : p.tables.exec = Jvm.exec) (hb : c.code = cc) (hr : meth.sig.returnType = some .long) (hlocks : meth.locks = false) (hh : hs G z0 mm s H locs) (hdg : decode cc pc = .ok (.lreturn, 1)) (hp : post v mm) :
    W p l e R s m args below meth c H locs cells slots (MQ below (hQl G z0 post) args s cells slots (h_ge z0)) (F0 m pc ls [.long v]) :=
  W.lret hx hb hr (fun _ ht _ => ⟨⟨v, mm, rfl, hp, by rw [← ht] at hh; exact hh.2.2.1⟩, hh.2.1.F ht⟩) hh.2.1.2.2 hdg hlocks
theorem hr_v {post : hM → Prop} (hx : p.tables.exec = Jvm.exec) (hb : c.code = cc) (hr : meth.sig.returnType = none) (hlocks : meth.locks = false) (hh : hs G z0 mm s H locs) (hdg : decode cc pc = .ok (.return_, 1)) (hp : post mm) :
    W p l e R s m args below meth c H locs cells slots (MQ below (hQv G z0 post) args s cells slots (h_ge z0)) (F0 m pc ls []) :=
  W.vret hx hb hr (fun _ ht _ => ⟨⟨mm, rfl, hp, by rw [← ht] at hh; exact hh.2.2.1⟩, hh.2.1.F ht⟩) hh.2.1.2.2 hdg hlocks
theorem hr_q {post : Option Nat → hM → Prop} {v : Option Nat} {rt : String} (hx : p.tables.exec = Jvm.exec) (hb : c.code = cc) (hr : meth.sig.returnType = some (.object rt)) (hlocks : meth.locks = false) (hh : hs G z0 mm s H locs) (hdg : decode cc pc = .ok (.areturn, 1)) (hp : post v mm) :
    W p l e R s m args below meth c H locs cells slots (MQ below (hQq G z0 post) args s cells slots (h_ge z0)) (F0 m pc ls [va_rf v]) :=
  W.aret hx hb hr (Or.inl ⟨rt, rfl⟩) (by cases v; exact Or.inl rfl; exact Or.inr ⟨_, rfl⟩) (fun _ ht _ => ⟨⟨v, mm, rfl, hp, by rw [← ht] at hh; exact hh.2.2.1⟩, hh.2.1.F ht⟩) hh.2.1.2.2 hdg hlocks
/-- fields -/
theorem hg_get (hx : p.tables.exec = Jvm.exec) (hb : c.code = cc) (hts : ∀ w ∈ Ts, w.before args s = true) (hin : ∀ w ∈ u_ws C T N, w ∈ Ts) (hown : s.vm.findClass own = some m.cls) (hh : hs G z0 mm s H locs) {fs : List Value} (he : mm a = some (.inr (ci, fs))) (hc : vwCl[ci]? = some (C, T, N)) (k : Nat) (hk : k < N) (hlink : (Cond.fieldLink own index (T k).1 (T k).2.1 (T k).2.2.1).before args s = true) {v : Value} (hv : fs[k]? = some v) (hdg : decode cc pc = .ok (.getfield index, 3))
    (kk : W p l e R s m args below meth c H locs cells slots Q (F0 m (pc + 3) ls (v :: rest))) : W p l e R s m args below meth c H locs cells slots Q (F0 m pc ls (.ref a :: rest)) :=
  va_get hx hb hts hin hown hh.2.2.2.1 (hs_at hh he) 0 rfl hc k hk hlink (fun _ h => h) hv hdg kk
theorem hg_put (hx : p.tables.exec = Jvm.exec) (hb : c.code = cc) (hts : ∀ w ∈ Ts, w.before args s = true) (hin : ∀ w ∈ u_ws C T N, w ∈ Ts) (ty0 : Nat → FieldType) (hty : ∀ k, k < N → parseFieldDescriptor (T k).2.2.1 = some (ty0 k)) (hnm : ∀ a, a < N → ∀ b, b < N → a ≠ b → (T a).2.1 ≠ (T b).2.1) (hown : s.vm.findClass own = some m.cls) (hh : hs G z0 mm s H locs) {fs fs' : List Value} (he : mm a = some (.inr (ci, fs))) (hc : vwCl[ci]? = some (C, T, N)) (k : Nat) (hk : k < N) (hlink : (Cond.fieldLink own index (T k).1 (T k).2.1 (T k).2.2.1).before args s = true) (hfin : (T k).2.2.2 = false) {v : Value} (hn : narrow (ty0 k) v = v) (hfit : fits (ty0 k) v = true) (hl : k < fs.length) (hset : fs.set k v = fs')
    (hdg : decode cc pc = .ok (.putfield index, 3)) (kk : ∀ (H1 : Heap) (locs1 : List Loc), H1.size = H.size → hs G z0 (hu mm a (.inr (ci, fs'))) s H1 locs1 → W p l e R s m args below meth c H1 locs1 cells slots Q (F0 m (pc + 3) ls rest)) : W p l e R s m args below meth c H locs cells slots Q (F0 m pc ls (v :: .ref a :: rest)) := by
  subst hset
  have hap := va_apart (own := own) hts hin ty0 hty hnm hh.2.2.2.1 hc
  obtain ⟨r, h1, cell, q1, q2, q3, q4⟩ := (hh.2.2.1 a _ he).2
  have hr : r = (C, T, N) := Option.some.inj (h1.symm.trans hc)
  subst hr
  obtain ⟨hS, hfc, kC, hkC, hkind⟩ := hh.2.2.2.1.1 ci _ hc
  obtain ⟨cf, kf, fi, f, hi, hsl⟩ := hS k hk
  have hlay := hts _ (hin _ (u_in_lay hk))
  unfold u_lay at hlay
  rw [if_neg (by rw [hfin]; decide)] at hlay
  have hst := (u_facts hfc hkC (u_lays hts hin hk) hi).1
  have h6 := u_store hfc hkC hkind hlay hi (hty k hk) hn hfit
  refine W.putK hx hb (f := f) ⟨hown, hlink, ⟨_, _, _, hi⟩, hst⟩ (by rw [q2]; exact h6) q1 q3 (by rw [hsl]; exact k2_hasslot (q4 k hk)) rfl rfl hdg fun H' e1 e2 e3 => ?_
  rw [hsl] at e1 ⊢
  exact kk H' _ e2 (hs_put hh he ⟨_, hc, t_OB.to (V := updV (vp_V fs) k v) ⟨_, e1, q2, q3, t_set q4 hap hk v⟩ (fun j _ => vp_updV_set hl v j)⟩ e2 e3)
theorem hg_putF (hx : p.tables.exec = Jvm.exec) (hb : c.code = cc) (hts : ∀ w ∈ Ts, w.before args s = true) (hin : ∀ w ∈ u_ws C T N, w ∈ Ts) (ty0 : Nat → FieldType) (hty : ∀ k, k < N → parseFieldDescriptor (T k).2.2.1 = some (ty0 k)) (hnm : ∀ a, a < N → ∀ b, b < N → a ≠ b → (T a).2.1 ≠ (T b).2.1) (hown : s.vm.findClass own = some m.cls) (hh : hs G z0 mm s H locs) {fs fs' : List Value} (he : mm a = some (.inr (ci, fs))) (hc : vwCl[ci]? = some (C, T, N)) (k : Nat) (hk : k < N) (hlink : (Cond.fieldLink own index (T k).1 (T k).2.1 (T k).2.2.1).before args s = true) (hfin : (T k).2.2.2 = true) (hin2 : meth.name = "<init>") (hdecl : (T k).1 = own) {v : Value} (hn : narrow (ty0 k) v = v) (hfit : fits (ty0 k) v = true) (hl : k < fs.length) (hset : fs.set k v = fs')
    (hdg : decode cc pc = .ok (.putfield index, 3)) (kk : ∀ (H1 : Heap) (locs1 : List Loc), H1.size = H.size → hs G z0 (hu mm a (.inr (ci, fs'))) s H1 locs1 → W p l e R s m args below meth c H1 locs1 cells slots Q (F0 m (pc + 3) ls rest)) : W p l e R s m args below meth c H locs cells slots Q (F0 m pc ls (v :: .ref a :: rest)) := by
  subst hset
  have hap := va_apart (own := own) hts hin ty0 hty hnm hh.2.2.2.1 hc
  obtain ⟨r, h1, cell, q1, q2, q3, q4⟩ := (hh.2.2.1 a _ he).2
  have hr : r = (C, T, N) := Option.some.inj (h1.symm.trans hc)
  subst hr
  obtain ⟨hS, hfc, kC, hkC, hkind⟩ := hh.2.2.2.1.1 ci _ hc
  obtain ⟨cf, kf, fi, f, hi, hsl⟩ := hS k hk
  have hlay := hts _ (hin _ (u_in_lay hk))
  unfold u_lay at hlay
  rw [if_pos hfin] at hlay
  have hst := (u_facts hfc hkC (u_lays hts hin hk) hi).1
  have hcf : m.cls = cf := by
    obtain ⟨_, _, c', _, _, _, -, -, hf', -, -, -, hown2, -⟩ := Cond.laysFinal_spec hlay
    have e1 : c' = cf := by have := hi.symm.trans hf'; simp at this; exact this.1.symm
    rw [hdecl] at hown2
    rw [← e1]; exact Option.some.inj (hown.symm.trans hown2)
  have h6 := u_fits hfc hkC hkind (Or.inr hlay) hi (hty k hk) hn hfit
  refine W.putFinK hx hb hown hlink hi hst hcf hin2 (by rw [q2]; exact h6) q1 q3 (by rw [hsl]; exact k2_hasslot (q4 k hk)) rfl rfl hdg fun H' e1 e2 e3 => ?_
  rw [hsl] at e1 ⊢
  exact kk H' _ e2 (hs_put hh he ⟨_, hc, t_OB.to (V := updV (vp_V fs) k v) ⟨_, e1, q2, q3, t_set q4 hap hk v⟩ (fun j _ => vp_updV_set hl v j)⟩ e2 e3)
/-- arrays: read -/
theorem hg_iald (hx : p.tables.exec = Jvm.exec) (hb : c.code = cc) (hh : hs G z0 mm s H locs) {n : Nat} {f : Nat → Int32} (he : mm a = some (eI G n f)) {i : Int32} (hin : vp_in i n) (hdg : decode cc pc = .ok (.iaload, 1))
    (kk : W p l e R s m args below meth c H locs cells slots Q (F0 m (pc + 1) ls (.int (f i.toNatClampNeg) :: rest))) : W p l e R s m args below meth c H locs cells slots Q (F0 m pc ls (.int i :: .ref a :: rest)) := va_iald hx hb hh.2.2.2.1 (hs_at hh he) 0 0 rfl rfl hin hdg kk
theorem hg_zald (hx : p.tables.exec = Jvm.exec) (hb : c.code = cc) (hh : hs G z0 mm s H locs) {n : Nat} {f : Nat → Int32} (he : mm a = some (eZ G n f)) {i : Int32} (hin : vp_in i n) (hdg : decode cc pc = .ok (.baload, 1))
    (kk : W p l e R s m args below meth c H locs cells slots Q (F0 m (pc + 1) ls (.int (f i.toNatClampNeg) :: rest))) : W p l e R s m args below meth c H locs cells slots Q (F0 m pc ls (.int i :: .ref a :: rest)) := va_zald hx hb hh.2.2.2.1 (hs_at hh he) 0 2 rfl rfl hin hdg kk
theorem hg_lald (hx : p.tables.exec = Jvm.exec) (hb : c.code = cc) (hh : hs G z0 mm s H locs) {n : Nat} {f : Nat → Int64} (he : mm a = some (eJ G n f)) {i : Int32} (hin : vp_in i n) (hdg : decode cc pc = .ok (.laload, 1))
    (kk : W p l e R s m args below meth c H locs cells slots Q (F0 m (pc + 1) ls (.long (f i.toNatClampNeg) :: rest))) : W p l e R s m args below meth c H locs cells slots Q (F0 m pc ls (.int i :: .ref a :: rest)) := va_lald hx hb hh.2.2.2.1 (hs_at hh he) 0 1 rfl rfl hin hdg kk
theorem hg_aald (hx : p.tables.exec = Jvm.exec) (hb : c.code = cc) (hh : hs G z0 mm s H locs) {n : Nat} {f : Nat → Option Nat} (t0 : Nat) {tc : ClassId} (he : mm a = some (.inl (tc, n, .inr (.inr (.inr (.inr f)))))) {tn : String} (ht : (hT G.2)[t0]? = some (tc, .object tn)) {i : Int32} (hin : vp_in i n) (hdg : decode cc pc = .ok (.aaload, 1))
    (kk : W p l e R s m args below meth c H locs cells slots Q (F0 m (pc + 1) ls (va_rf (f i.toNatClampNeg) :: rest))) : W p l e R s m args below meth c H locs cells slots Q (F0 m pc ls (.int i :: .ref a :: rest)) := va_aldq hx hb hh.2.2.2.1 (hs_at hh he) 0 t0 rfl ht hin hdg kk
theorem hg_alen (hx : p.tables.exec = Jvm.exec) (hb : c.code = cc) (hh : hs G z0 mm s H locs) {tc : ClassId} {x : vp_A} (t0 : Nat) (he : mm a = some (.inl (tc, x))) {ty : FieldType} (ht : (hT G.2)[t0]? = some (tc, ty)) {v : Int32} (hv : Int32.ofNat x.1 = v) (hdg : decode cc pc = .ok (.arraylength, 1))
    (kk : W p l e R s m args below meth c H locs cells slots Q (F0 m (pc + 1) ls (.int v :: rest))) : W p l e R s m args below meth c H locs cells slots Q (F0 m pc ls (.ref a :: rest)) := va_alen hx hb hh.2.2.2.1 (hs_at hh he) 0 t0 rfl ht hv hdg kk
/-- arrays: written -/
theorem hg_iast (hx : p.tables.exec = Jvm.exec) (hb : c.code = cc) (hh : hs G z0 mm s H locs) {n : Nat} {f : Nat → Int32} (he : mm a = some (eI G n f)) {i x : Int32} (hin : vp_in i n) (hdg : decode cc pc = .ok (.iastore, 1))
    (kk : ∀ (H1 : Heap) (locs1 : List Loc), hs G z0 (hu mm a (eI G n (upd f i.toNatClampNeg x))) s H1 locs1 → W p l e R s m args below meth c H1 locs1 cells slots Q (F0 m (pc + 1) ls rest)) : W p l e R s m args below meth c H locs cells slots Q (F0 m pc ls (.int x :: .int i :: .ref a :: rest)) := by
  refine W.iast hx hb (hs_at hh he 0 _ rfl) ((hh.2.2.2.1.2 0 _ rfl).1 n (fun j => .int (f j))) (fun q => by cases q) (by show ¬ (i < 0 ∨ (arrV _ _ _).slots.size ≤ _); rw [arrV_size]; exact hin) rfl rfl hdg fun H1 e z oq => ?_
  refine kk H1 _ (hs_put hh he ?_ z oq)
  show H1[a]? = some (vp_cell _ _)
  rw [e]
  rw [vp_cell_i, vp_cell_i, arrV_store]
  congr 2
  funext q
  by_cases hq : q = i.toNatClampNeg
  · subst hq; simp [updV, upd]
  · simp [updV, upd, hq]
theorem hg_zast (hx : p.tables.exec = Jvm.exec) (hb : c.code = cc) (hh : hs G z0 mm s H locs) {n : Nat} {f : Nat → Int32} (he : mm a = some (eZ G n f)) {i x : Int32} (hx1 : narrow .boolean (.int x) = .int x) (hin : vp_in i n) (hdg : decode cc pc = .ok (.bastore, 1))
    (kk : ∀ (H1 : Heap) (locs1 : List Loc), hs G z0 (hu mm a (eZ G n (upd f i.toNatClampNeg x))) s H1 locs1 → W p l e R s m args below meth c H1 locs1 cells slots Q (F0 m (pc + 1) ls rest)) : W p l e R s m args below meth c H locs cells slots Q (F0 m pc ls (.int x :: .int i :: .ref a :: rest)) := by
  refine W.zast hx hb (hs_at hh he 0 _ rfl) ((hh.2.2.2.1.2 2 _ rfl).1 n (fun j => .int (f j))) (fun q => by cases q) (by show ¬ (i < 0 ∨ (arrV _ _ _).slots.size ≤ _); rw [arrV_size]; exact hin) rfl rfl hdg fun H1 e z oq => ?_
  refine kk H1 _ (hs_put hh he ?_ z oq)
  show H1[a]? = some (vp_cell _ _)
  rw [e]
  dsimp only
  rw [hx1]
  rw [vp_cell_i, vp_cell_i, arrV_store]
  congr 2
  funext q
  by_cases hq : q = i.toNatClampNeg
  · subst hq; simp [updV, upd]
  · simp [updV, upd, hq]
theorem hg_last (hx : p.tables.exec = Jvm.exec) (hb : c.code = cc) (hh : hs G z0 mm s H locs) {n : Nat} {f : Nat → Int64} (he : mm a = some (eJ G n f)) {i : Int32} {x : Int64} (hin : vp_in i n) (hdg : decode cc pc = .ok (.lastore, 1))
    (kk : ∀ (H1 : Heap) (locs1 : List Loc), hs G z0 (hu mm a (eJ G n (vp_updL f i.toNatClampNeg x))) s H1 locs1 → W p l e R s m args below meth c H1 locs1 cells slots Q (F0 m (pc + 1) ls rest)) : W p l e R s m args below meth c H locs cells slots Q (F0 m pc ls (.long x :: .int i :: .ref a :: rest)) := by
  refine W.last hx hb (hs_at hh he 0 _ rfl) ((hh.2.2.2.1.2 1 _ rfl).1 n (fun j => .long (f j))) (fun q => by cases q) (by show ¬ (i < 0 ∨ (arrV _ _ _).slots.size ≤ _); rw [arrV_size]; exact hin) rfl rfl hdg fun H1 e z oq => ?_
  refine kk H1 _ (hs_put hh he ?_ z oq)
  show H1[a]? = some (vp_cell _ _)
  rw [e]
  rw [vp_cell_l, vp_cell_l, arrV_store]
  congr 2
  funext q
  by_cases hq : q = i.toNatClampNeg
  · subst hq; simp [updV, vp_updL]
  · simp [updV, vp_updL, hq]
theorem hg_aast (hx : p.tables.exec = Jvm.exec) (hb : c.code = cc) (hh : hs G z0 mm s H locs) {n v : Nat} {f : Nat → Option Nat} (t0 : Nat) {tc : ClassId} (he : mm a = some (.inl (tc, n, .inr (.inr (.inr (.inr f)))))) {r : vw_C} (ht : (hT G.2)[t0]? = some (tc, .object r.1)) {vs : List Value} (hv : mm v = some (.inr (ci, vs))) (hc : vwCl[ci]? = some r) {i : Int32} (hin : vp_in i n) (hdg : decode cc pc = .ok (.aastore, 1))
    (kk : ∀ (H1 : Heap) (locs1 : List Loc), hs G z0 (hu mm a (.inl (tc, n, .inr (.inr (.inr (.inr (va_up f i.toNatClampNeg (some v)))))))) s H1 locs1 → W p l e R s m args below meth c H1 locs1 cells slots Q (F0 m (pc + 1) ls rest)) : W p l e R s m args below meth c H locs cells slots Q (F0 m pc ls (.ref v :: .int i :: .ref a :: rest)) := by
  have hlt : i.toNatClampNeg < n := Nat.not_le.mp fun q => hin (Or.inr q)
  have h0 : ¬ i < 0 := fun q => hin (Or.inl q)
  obtain ⟨r', hr', cellV, g1, g2, g3, -⟩ := (hh.2.2.1 v _ hv).2
  have hcls := (hh.2.2.2.1.1 ci r hc).2
  obtain ⟨kA, comp, k1, k2, k3, -⟩ := (hh.2.2.2.1.2 t0 _ ht).2
  have hcomp : comp = G.1.1 ci := Option.some.inj (k3.symm.trans hcls.1)
  subst hcomp
  obtain ⟨kC, hkC, -⟩ := hcls.2
  refine W.aast hx hb (hs_at hh he 0 _ rfl) (fun q h => by cases h) (fun h => by cases h) k1 k2 rfl hkC ⟨h0, by show _ < (arrV _ _ _).slots.size; rw [arrV_size]; exact hlt⟩ g1 (fun q h => by rw [g3] at h; cases h) (by rw [g2]; exact hkC) (by rw [g2]; exact va_assign hcls) rfl rfl hdg fun H1 e z oq => ?_
  refine kk H1 _ (hs_put hh he ?_ z oq)
  show H1[a]? = some (vp_cell _ _)
  rw [e]
  rw [vp_cell_q, vp_cell_q, arrV_store]
  congr 2
  funext q
  by_cases hq : q = i.toNatClampNeg
  · subst hq
    simp [updV, va_up, va_rf]
  · simp [updV, va_up, hq]
/-- new things: at the heap's end -/
theorem hg_new (hx : p.tables.exec = Jvm.exec) (hb : c.code = cc) (hts : ∀ w ∈ Ts, w.before args s = true) (hin : ∀ w ∈ u_ws C T N, w ∈ Ts) (ty : Nat → FieldType) (hty : ∀ k, k < N → parseFieldDescriptor (T k).2.2.1 = some (ty k)) (hown : s.vm.findClass own = some m.cls) (hcl : (Cond.classLink own index C).before args s = true) (hinst : (Cond.instantiable C N).before args s = true) (hini : (Cond.initialized C).before args s = true)
    (hh : hs G z0 mm s H locs) (hc : vwCl[ci]? = some (C, T, N)) {fs : List Value} (hfs : ∀ j, j < N → defaultValue (ty j) = vp_V fs j) (hcells : cells + 1 ≤ R.cells) (hslots : slots + N ≤ R.slots) (hdg : decode cc pc = .ok (.new index, 3))
    (kk : ∀ (q : Nat) (H1 : Heap), q = H.size → H1.size = q + 1 → mm q = none → hs G z0 (hu mm q (.inr (ci, fs))) s H1 locs →
      W p l e R s m args below meth c H1 locs (cells + 1) (slots + N) Q (F0 m (pc + 3) ls (.ref q :: rest))) : W p l e R s m args below meth c H locs cells slots Q (F0 m pc ls rest) := by
  have hKn := hh.2.2.2.1.1 ci _ hc
  refine W.newcK hx hb hown hcl hinst hini rfl hdg hcells hslots hKn.2.1 rfl fun H1 kC hkC e1 z1 o1 => ?_
  obtain ⟨hnone, hh1⟩ := hs_new hh (e := .inr (ci, fs)) ⟨_, hc, (u_born ty hts hin hKn hkC e1 hty).to hfs⟩ z1 o1
  exact kk H.size H1 rfl z1 hnone hh1
theorem hg_newa (hx : p.tables.exec = Jvm.exec) (hb : c.code = cc) {atype : ArrayType} (harr : (Cond.arrayClass (newarray.typeOf atype)).before args s = true) {ty : FieldType} (hty : newarray.typeOf atype = ty) (t0 : Nat) {tc : ClassId} (ht : (hT G.2)[t0]? = some (tc, ty)) (hnm : va_RA s tc ty → s.vm.findClass ("[" ++ ty.toString) = some tc) (hh : hs G z0 mm s H locs)
    {n : Int32} {N' : Nat} {a0 : vp_A} (ha : ∀ cA : ClassId, vp_cell cA a0 = arrV cA N' (fun _ => defaultValue ty)) (hn : ¬ n < 0) (hN : n.toNatClampNeg = N') (hbytes : N' * componentBytes ty ≤ 536870912) (hcells : cells + 1 ≤ R.cells) (hslots : slots + N' ≤ R.slots) (hdg : decode cc pc = .ok (.newarray atype, 2))
    (kk : ∀ (q : Nat) (H1 : Heap), q = H.size → H1.size = q + 1 → mm q = none → hs G z0 (hu mm q (.inl (tc, a0))) s H1 locs →
      W p l e R s m args below meth c H1 locs (cells + 1) (slots + N') Q (F0 m (pc + 2) ls (.ref q :: rest))) : W p l e R s m args below meth c H locs cells slots Q (F0 m pc ls (.int n :: rest)) := by
  subst hty
  refine va_newaK hx hb harr rfl hdg rfl hn hN hbytes hcells hslots rfl fun H1 cA e1 z1 o1 hAr hNm => ?_
  have hid : cA = tc := Option.some.inj (hNm.symm.trans (hnm (hh.2.2.2.1.2 t0 _ ht).2))
  subst hid
  obtain ⟨hnone, hh1⟩ := hs_new hh (e := .inl (cA, a0)) (by show H1[H.size]? = some (vp_cell _ _); rw [ha]; exact e1) z1 o1
  exact kk H.size H1 rfl z1 hnone hh1
theorem hg_anew (hx : p.tables.exec = Jvm.exec) (hb : c.code = cc) (hown : s.vm.findClass own = some m.cls) (hclink : (Cond.classLink own index C).before args s = true) (hover : va_AO C s) (t0 : Nat) {tc : ClassId} (ht : (hT G.2)[t0]? = some (tc, .object C)) (hh : hs G z0 mm s H locs)
    {n : Int32} {N' : Nat} (hn : ¬ n < 0) (hN : n.toNatClampNeg = N') (hbytes : N' * 4 ≤ 536870912) (hcells : cells + 1 ≤ R.cells) (hslots : slots + N' ≤ R.slots) (hdg : decode cc pc = .ok (.anewarray index, 3))
    (kk : ∀ (q : Nat) (H1 : Heap), q = H.size → H1.size = q + 1 → mm q = none → hs G z0 (hu mm q (.inl (tc, N', .inr (.inr (.inr (.inr (fun _ => none))))))) s H1 locs →
      W p l e R s m args below meth c H1 locs (cells + 1) (slots + N') Q (F0 m (pc + 3) ls (.ref q :: rest))) : W p l e R s m args below meth c H locs cells slots Q (F0 m pc ls (.int n :: rest)) := by
  subst hN
  refine W.anew hx hb hown hclink (va_AO.use hover) rfl hdg rfl hn hbytes hcells hslots fun cA kA comp f1 f2 f3 f4 => ?_
  obtain ⟨kA', comp', k1, k2, k3, k4⟩ := (hh.2.2.2.1.2 t0 _ ht).2
  have hid : cA = tc := Option.some.inj (f1.symm.trans k4)
  subst hid
  generalize hH1 : H.push ({ cls := cA, slots := Array.replicate n.toNatClampNeg .null, vm := .none } : Cell) = H1
  have z1 : H1.size = H.size + 1 := by rw [← hH1, Array.size_push]
  have e1 : H1[H.size]? = some (arrV cA n.toNatClampNeg (fun _ => .null)) := by rw [← hH1, Array.getElem?_push_size, ← arrV_new]
  have o1 : ∀ q : Nat, q < H.size → H1[q]? = H[q]? := fun q hq => by rw [← hH1, Array.getElem?_push, if_neg (Nat.ne_of_lt hq)]
  obtain ⟨hnone, hh1⟩ := hs_new hh (e := .inl (cA, n.toNatClampNeg, .inr (.inr (.inr (.inr (fun _ => none)))))) (by show H1[H.size]? = some (vp_cell _ _); rw [vp_cell_q]; exact e1) z1 o1
  exact kk H.size H1 rfl z1 hnone hh1
end HR1
end
section
/-! CALLS and throws over the map. -/
section HC1
variable {p : Program} {l : Launch} {e : Env} {R : Room} {s : State} {m : MethodId} {args : Array Value} {below : List Frame} {meth : Method} {c : Code} {H : Heap} {locs : List Loc} {cells slots : Nat} {Q : State → Prop}
variable {cc : ByteArray} {pc : Nat} {ls : Array Slot} {rest st0 : List Value} {G : hG} {z0 : Nat} {mm : hM} {mc ms : Nat} {av : Array Value}
theorem hk_i {post : Int32 → hM → Prop} (hh : hs G z0 mm s H locs) (hr : va_Run p l e R s m args below meth c H locs cells slots mc ms (F0 m pc ls st0) rest (hQi G z0 post av) (h_ge z0))
    (kk : ∀ (r : Int32) (m' : hM) (H1 : Heap) (locs1 : List Loc), post r m' → hs G z0 m' s H1 locs1 → W p l e R s m args below meth c H1 locs1 (cells + mc) (slots + ms) Q (F0 m (pc + 3) ls (.int r :: rest))) : W p l e R s m args below meth c H locs cells slots Q (F0 m pc ls st0) :=
  va_calli hr hh.2.1 (fun _ _ h => h) (fun _ h => h) fun r u _ H1 locs1 ht _ hw hB _ _ hS => kk r u H1 locs1 hw (hs_back hh ht hB hS)
theorem hk_l {post : Int64 → hM → Prop} (hh : hs G z0 mm s H locs) (hr : va_Run p l e R s m args below meth c H locs cells slots mc ms (F0 m pc ls st0) rest (hQl G z0 post av) (h_ge z0))
    (kk : ∀ (r : Int64) (m' : hM) (H1 : Heap) (locs1 : List Loc), post r m' → hs G z0 m' s H1 locs1 → W p l e R s m args below meth c H1 locs1 (cells + mc) (slots + ms) Q (F0 m (pc + 3) ls (.long r :: rest))) : W p l e R s m args below meth c H locs cells slots Q (F0 m pc ls st0) :=
  va_calll hr hh.2.1 (fun _ _ h => h) (fun _ h => h) fun r u _ H1 locs1 ht _ hw hB _ _ hS => kk r u H1 locs1 hw (hs_back hh ht hB hS)
theorem hk_v {post : hM → Prop} (hh : hs G z0 mm s H locs) (hr : va_Run p l e R s m args below meth c H locs cells slots mc ms (F0 m pc ls st0) rest (hQv G z0 post av) (h_ge z0))
    (kk : ∀ (m' : hM) (H1 : Heap) (locs1 : List Loc), post m' → hs G z0 m' s H1 locs1 → W p l e R s m args below meth c H1 locs1 (cells + mc) (slots + ms) Q (F0 m (pc + 3) ls rest)) : W p l e R s m args below meth c H locs cells slots Q (F0 m pc ls st0) :=
  va_callv hr hh.2.1 (fun _ _ h => h) (fun _ h => h) fun u _ H1 locs1 ht _ hw hB _ _ hS => kk u H1 locs1 hw (hs_back hh ht hB hS)
theorem hk_q {post : Option Nat → hM → Prop} (hh : hs G z0 mm s H locs) (hr : va_Run p l e R s m args below meth c H locs cells slots mc ms (F0 m pc ls st0) rest (hQq G z0 post av) (h_ge z0))
    (kk : ∀ (r : Option Nat) (m' : hM) (H1 : Heap) (locs1 : List Loc), post r m' → hs G z0 m' s H1 locs1 → W p l e R s m args below meth c H1 locs1 (cells + mc) (slots + ms) Q (F0 m (pc + 3) ls (va_rf r :: rest))) : W p l e R s m args below meth c H locs cells slots Q (F0 m pc ls st0) :=
  va_callq hr hh.2.1 (fun _ _ h => h) (fun _ h => h) fun r u _ H1 locs1 ht _ hw hB _ _ hS => kk r u H1 locs1 hw (hs_back hh ht hB hS)
/-- callees that may throw -/
theorem hk_xi {post : Int32 → hM → Prop} {px : String → hM → Prop} (hh : hs G z0 mm s H locs) (hr : vx_Run p l e R s m args below meth c H locs cells slots mc ms (F0 m pc ls st0) rest (hQi G z0 post av) (hXC G z0 px) (h_ge z0))
    (kx : ∀ (E : String) (ce : Cell) (q9 : Addr) (m' : hM) (H1 : Heap) (locs1 : List Loc), px E m' → hs G z0 m' s H1 locs1 → H1[q9]? = some ce → ce.vm = .none → s.vm.findClass E = some ce.cls → vx_W p l e R s m args below meth c H1 locs1 (cells + mc) (slots + ms) Q (F0 m pc ls rest) q9)
    (kk : ∀ (r : Int32) (m' : hM) (H1 : Heap) (locs1 : List Loc), post r m' → hs G z0 m' s H1 locs1 → W p l e R s m args below meth c H1 locs1 (cells + mc) (slots + ms) Q (F0 m (pc + 3) ls (.int r :: rest))) : W p l e R s m args below meth c H locs cells slots Q (F0 m pc ls st0) :=
  vx_calli hr hh.2.1 (fun _ _ h => h) (fun _ h => h) (fun _ _ h => h) (fun E ce q9 u _ H1 locs1 ht _ _ hB _ _ hS h1 h2 h3 => kx E ce q9 u H1 locs1 hB.1 (hs_back hh ht hB.2 hS) h1 h2 h3) fun r u _ H1 locs1 ht _ hw hB _ _ hS => kk r u H1 locs1 hw (hs_back hh ht hB hS)
theorem hk_xq {post : Option Nat → hM → Prop} {px : String → hM → Prop} (hh : hs G z0 mm s H locs) (hr : vx_Run p l e R s m args below meth c H locs cells slots mc ms (F0 m pc ls st0) rest (hQq G z0 post av) (hXC G z0 px) (h_ge z0))
    (kx : ∀ (E : String) (ce : Cell) (q9 : Addr) (m' : hM) (H1 : Heap) (locs1 : List Loc), px E m' → hs G z0 m' s H1 locs1 → H1[q9]? = some ce → ce.vm = .none → s.vm.findClass E = some ce.cls → vx_W p l e R s m args below meth c H1 locs1 (cells + mc) (slots + ms) Q (F0 m pc ls rest) q9)
    (kk : ∀ (r : Option Nat) (m' : hM) (H1 : Heap) (locs1 : List Loc), post r m' → hs G z0 m' s H1 locs1 → W p l e R s m args below meth c H1 locs1 (cells + mc) (slots + ms) Q (F0 m (pc + 3) ls (va_rf r :: rest))) : W p l e R s m args below meth c H locs cells slots Q (F0 m pc ls st0) := by
  intro T hT X
  rcases hr T hT X with ⟨v, st₀, t, T', L, h0, X', hL, e1, e2, ⟨⟨r, u, hv, hp, hb⟩, hF⟩, st⟩ | ⟨q, st₀, t, T', L, E, ce, h0, X', hL, e1, e2, ⟨u, -, hb, hF⟩, hce, hcv, hcl, st⟩
  · cases hv
    obtain ⟨k1, k2, k3⟩ := vx_keep h0 e1 hh.2.1 (fun _ _ h => h) (fun _ h => h) hL hF
    obtain ⟨t2, a1, b1⟩ := kk r u T'.heap (locs ++ L) hp (hs_back hh e1.symm hb k3) T' rfl X'
    exact ⟨t2, st t2 a1, b1⟩
  · obtain ⟨k1, k2, k3⟩ := vx_keep h0 e1 hh.2.1 (fun _ _ h => h) (fun _ h => h) hL hF
    obtain ⟨t2, a1, b1⟩ := kx E ce q u T'.heap (locs ++ L) hb.1 (hs_back hh e1.symm hb.2 k3) (by rw [e1]; exact hce) hcv hcl T' rfl X'
    exact ⟨t2, st.trans a1, b1⟩
/-- not caught here -/
theorem hk_out {px : String → hM → Prop} {Qc : Array Value → State → Outcome → State → Prop} {E : String} {ce : Cell} {q : Addr} (hh : hs G z0 mm s H locs) (htb : ∀ x ∈ c.exceptionTable.toList, False) (hlocks : meth.locks = false) (hcell : H[q]? = some ce) (hv : ce.vm = .none) (hcl : s.vm.findClass E = some ce.cls) (hp : px E mm) (hc : cells ≤ mc) (hs' : slots ≤ ms) :
    vx_W p l e R s m args below meth c H locs cells slots (vx_MQ below Qc (hXC G z0 px) args s mc ms (h_ge z0)) (F0 m pc ls rest) q :=
  vx_out (fun x hx => (htb x hx).elim) hlocks hcell hv hcl (fun t ht _ => ⟨mm, trivial, ⟨hp, by rw [ht]; exact hh.2.2.1⟩, hh.2.1.F ht⟩) hh.2.1.2.2 hc hs'
/-- throw new E("text") in BackhaulReturns -/
theorem hk_throw {px : String → hM → Prop} {Qc : Array Value → State → Outcome → State → Prop} {cls text : String} {ik is ic : Nat} (hx : p.tables.exec = Jvm.exec) (hb : c.code = cc) (hl : l.stackTraces = false) (hown : s.vm.findClass RX4 = some m.cls) (hcx : cls ∈ [hX_A, hX_S, hX_B]) (hfit : Bundle.fit cls = true)
    (hk : (Cond.classLink RX4 ik cls).before args s = true) (hini : (Cond.initialized cls).before args s = true) (hstr : ∃ a, vk_R RX4 is text a s) (hat : ∀ w ∈ (vx_atS RX4 ic cls hX_N).filter goodWord, w.before args s = true) (hbad : ∀ w ∈ (vx_atS RX4 ic cls hX_N).filter (fun w => !goodWord w), w ∈ [Cond.castable cls cls, .declares (Bundle.initS "java/lang/RuntimeException"), .declares (Bundle.initS "java/lang/Exception"), .declares (Bundle.initS Bundle.tN)])
    (hgood : ∀ w ∈ Cond.classLink RX4 ik cls :: Cond.initialized cls :: vx_atS RX4 ic cls hX_N, vx_ot w = true) (hh : hs G z0 mm s H locs) (htb : ∀ x ∈ c.exceptionTable.toList, False) (hlocks : meth.locks = false) (hsize : ls.size = c.maxLocals)
    (d0 : decode cc pc = .ok (.new ik, 3)) (d3 : decode cc (pc + 3) = .ok (.dup, 1)) (d4 : decode cc (pc + 4) = .ok (.ldc is, 2)) (d6 : decode cc (pc + 6) = .ok (.invokespecial ic, 3)) (d9 : decode cc (pc + 9) = .ok (.athrow, 1))
    (hRf : 5 < R.frames) (hRl : (rest.map fun v => v.category).sum + 82 ≤ R.locals) (hRc : cells + 1 ≤ R.cells) (hRs : slots + 6 ≤ R.slots) (hp : px cls mm) (hc : cells + 1 ≤ mc) (hs' : slots + 6 ≤ ms) :
    W p l e R s m args below meth c H locs cells slots (vx_MQ below Qc (hXC G z0 px) args s mc ms (h_ge z0)) (F0 m pc ls rest) := by
  obtain ⟨sa, hsa⟩ := hstr
  have hE := hh.2.2.2.2
  refine vx_throwS (names := hX_N) hx hb hl hown hfit (by decide) hk hini hsa (vx_hat hat hbad (vx_c (va_Nw.use rfl (hE.2.2.2.2.1.1 cls hcx)) (vx_c (va_Nw.use rfl (hE.2.2.2.2.1.2 _ (by simp))) (vx_c (va_Nw.use rfl (hE.2.2.2.2.1.2 _ (by simp))) (vx_c (va_Nw.use rfl (hE.2.2.2.2.1.2 _ (by simp))) vx_n))))) hgood hE.2.2.1.1 hE.2.2.1.2 hh.2.1 hsize d0 d3 d4 d6 d9 (fun x hx => (htb x hx).elim) hRf hRl hRc hRs hlocks (fun t _ hz hkp => ⟨mm, trivial, ⟨hp, fun a e ha => ⟨(hh.2.2.1 a e ha).1, (hh.2.2.1 a e ha).2.kept (hkp a (hh.2.2.1 a e ha).2.lt)⟩⟩, ?_⟩) hh.2.1.2.2 hc hs'
  exact ⟨Nat.le_trans hh.2.1.1 hz, fun q h1 h2 => (hkp q (Nat.lt_of_lt_of_le h1 hh.2.1.1)).trans (hh.2.1.2.1 q h1 h2)⟩
end HC1
theorem hx_badA : ∀ w ∈ (vx_atS RX4 42 hX_A hX_N).filter (fun w => !goodWord w), w ∈ [Cond.castable hX_A hX_A, .declares (Bundle.initS "java/lang/RuntimeException"), .declares (Bundle.initS "java/lang/Exception"), .declares (Bundle.initS Bundle.tN)] := by decide +kernel
theorem hx_badS : ∀ w ∈ (vx_atS RX4 64 hX_S hX_N).filter (fun w => !goodWord w), w ∈ [Cond.castable hX_S hX_S, .declares (Bundle.initS "java/lang/RuntimeException"), .declares (Bundle.initS "java/lang/Exception"), .declares (Bundle.initS Bundle.tN)] := by decide +kernel
theorem hx_badB : ∀ w ∈ (vx_atS RX4 146 hX_B hX_N).filter (fun w => !goodWord w), w ∈ [Cond.castable hX_B hX_B, .declares (Bundle.initS "java/lang/RuntimeException"), .declares (Bundle.initS "java/lang/Exception"), .declares (Bundle.initS Bundle.tN)] := by decide +kernel
theorem hx_goodA : ∀ w ∈ Cond.classLink RX4 38 hX_A :: Cond.initialized hX_A :: vx_atS RX4 42 hX_A hX_N, vx_ot w = true := by decide +kernel
theorem hx_goodS : ∀ w ∈ Cond.classLink RX4 60 hX_S :: Cond.initialized hX_S :: vx_atS RX4 64 hX_S hX_N, vx_ot w = true := by decide +kernel
theorem hx_goodB : ∀ w ∈ Cond.classLink RX4 142 hX_B :: Cond.initialized hX_B :: vx_atS RX4 146 hX_B hX_N, vx_ot w = true := by decide +kernel
theorem hx_fitA : Bundle.fit hX_A = true := by decide +kernel
theorem hx_fitS : Bundle.fit hX_S = true := by decide +kernel
theorem hx_fitB : Bundle.fit hX_B = true := by decide +kernel
theorem hM_ne {mm : hM} {a b : Nat} {e e' : va_E} (ha : mm a = some e) (hb : mm b = some e') (h : e ≠ e') : a ≠ b := fun q => h (by subst q; exact Option.some.inj (ha.symm.trans hb))
theorem hM_nn {mm : hM} {a q : Nat} {e : va_E} (ha : mm a = some e) (hn : mm q = none) : a ≠ q := fun h => by subst h; rw [ha] at hn; cases hn
theorem hp_in {i k : Int32} {n : Nat} (h0 : ¬ i < 0) (h1 : ¬ k ≤ i) (hk : k.toInt = n) : vp_in i n := by
  rw [Int32.lt_iff_toInt_lt] at h0
  rw [Int32.le_iff_toInt_le, hk] at h1
  rw [Int32.toInt_zero] at h0
  exact vp_in_iff.mpr ⟨by omega, by omega⟩
/-- a body that throws nothing, of a class some of whose other methods are the machine's own (java.lang.Math) -/
theorem hm_ofP {l : Launch} {y : MethodName} {ws ws' : List Cond} {rm : Room} {G : hG} {z0 : Nat} {mm : hM} {av : List Value} {Qc : Array Value → State → Outcome → State → Prop} {mc ms : Nat} {cc : ByteArray} {maxL : Nat} {ret : Option FieldType}
    (hy : plainFor y = true) (hw : ws = Cond.code y cc maxL ret :: ws') (hlen : (lg_sl av).length ≤ maxL)
    (body : ∀ (p : Program) (e : Env) (s : State) (m : MethodId) (below : List Frame) (meth : Method) (c : Code) (ls : Array Slot), p.tables.exec = Jvm.exec → c.code = cc → meth.sig.returnType = ret → (∀ w ∈ ws, w.before av.toArray s = true) → s.vm.findClass y.cls = some m.cls → meth.locks = false → c.maxLocals = maxL → meth.name = y.name → hs G z0 mm s s.heap [] → lv_has ls maxL (lv_args 0 av) →
      W p l e rm s m av.toArray below meth c s.heap [] 0 0 (MQ below Qc av.toArray s mc ms (h_ge z0)) (F0 m 0 ls [])) : Met l y ws rm (hPre G z0 mm av) Qc mc ms (h_ge z0) := by
  refine MetFree.of_bodyRF (code := cc) (maxLocals := maxL) (ret := ret) hy ?_ ?_
  · intro args s m h hn
    obtain ⟨meth, c, h1, h2, h3, h4, h5, h6, -, -⟩ := Cond.code_spec hn (atoms_spec (ws := ws) h _ (by rw [hw]; exact List.mem_cons_self))
    exact ⟨meth, c, h1, h2, h3, h4, h5, h6⟩
  · intro p e s m args below meth c s₁ B hml hP _ hst
    have hh0 : s₁.heap = s.heap := by rw [B.state]; rfl
    obtain ⟨rfl, h0⟩ := hP
    have hb := body p e s m below meth c _ B.exec B.bytes B.returns (atoms_spec (ws := ws) B.pre) (findClass_of_methodNamed B.named) B.notSynchronized hml (name_of_methodNamed B.named B.method).1 (hs_start h0) (lv_entry av (n := maxL) hlen)
    rw [← lg_entry_eq] at hb
    obtain ⟨t, a1, o, b1, b2, b3⟩ := hb s₁ hh0 (Stand.of_body B)
    exact ⟨t, o, hst.trans a1, b1, b2, ⟨b3.1, b3.2⟩⟩
end
section
def f_J9_floorDiv_7cf53 (a : Int32) (b : Int32) : Int32 := if 0 ≤ (a ^^^ b) then (a / b) else (if ((a / b) * b) = a then (a / b) else ((a / b) - 1))
set_option maxHeartbeats 4000000 in
set_option maxRecDepth 100000 in
theorem c_J9_floorDiv_7cf53 (l : Launch) (G : hG) (z0 : Nat) (mm : hM) (a : Int32) (b : Int32) (hb0 : ¬ b = 0) : Met l yJ9_floorDiv_7cf53 wsJ9_floorDiv_7cf53 ({ frames := 0, cells := 0, slots := 0, locals := 0 }) (hPre G z0 mm [.int a, .int b]) (hQi G z0 (fun r m' => r = f_J9_floorDiv_7cf53 a b ∧ m' = mm)) 0 0 (h_ge z0) := by
  refine hm_ofP (cc := cJ9_floorDiv_7cf53) (maxL := 3) (ret := (some .int)) (by decide +kernel) rfl (Nat.le_of_ble_eq_true rfl) ?_
  intro p e s m below meth c ls hx hb hr hts hown hlocks hml hin hh hl
  have hl : lv_has ls 3 [(0, .int a), (1, .int b)] := hl
  refine lv_iload_n hx hb dJ9_floorDiv_7cf53_0 rfl (lv_at hl 0 rfl) ?_
  refine lv_iload_n hx hb dJ9_floorDiv_7cf53_1 rfl (lv_at hl 1 rfl) ?_
  refine lv_idiv hx hb dJ9_floorDiv_7cf53_2 (by first | assumption | decide) ?_
  refine lv_istore_n (lv' := [(2, .int (a / b)), (0, .int a), (1, .int b)]) hx hb dJ9_floorDiv_7cf53_3 rfl hl (by decide) rfl (fun ls hl => ?_)
  refine lv_iload_n hx hb dJ9_floorDiv_7cf53_4 rfl (lv_at hl 1 rfl) ?_
  refine lv_iload_n hx hb dJ9_floorDiv_7cf53_5 rfl (lv_at hl 2 rfl) ?_
  refine lv_ixor hx hb dJ9_floorDiv_7cf53_6 ?_
  refine lv_if_ge (tgt := 21) hx hb dJ9_floorDiv_7cf53_7 (by decide) (fun c_7_1 => ?_) (fun c_7_1 => ?_)
  ·
    refine lv_iload_n hx hb dJ9_floorDiv_7cf53_21 rfl (lv_at hl 0 rfl) ?_
    exact hr_i hx hb hr hlocks hh dJ9_floorDiv_7cf53_22 (⟨by rw [f_J9_floorDiv_7cf53, if_pos c_7_1], rfl⟩)
  ·
    refine lv_iload_n hx hb dJ9_floorDiv_7cf53_10 rfl (lv_at hl 0 rfl) ?_
    refine lv_iload_n hx hb dJ9_floorDiv_7cf53_11 rfl (lv_at hl 2 rfl) ?_
    refine lv_imul hx hb dJ9_floorDiv_7cf53_12 ?_
    refine lv_iload_n hx hb dJ9_floorDiv_7cf53_13 rfl (lv_at hl 1 rfl) ?_
    refine lv_icmp_eq (tgt := 21) hx hb dJ9_floorDiv_7cf53_14 (by decide) (fun c_14_2 => ?_) (fun c_14_2 => ?_)
    ·
      refine lv_iload_n hx hb dJ9_floorDiv_7cf53_21 rfl (lv_at hl 0 rfl) ?_
      exact hr_i hx hb hr hlocks hh dJ9_floorDiv_7cf53_22 (⟨by rw [f_J9_floorDiv_7cf53, if_neg c_7_1, if_pos c_14_2], rfl⟩)
    ·
      refine lv_iload_n hx hb dJ9_floorDiv_7cf53_17 rfl (lv_at hl 0 rfl) ?_
      refine lv_iconst (v := 1) hx hb dJ9_floorDiv_7cf53_18 (by decide) ?_
      refine lv_isub hx hb dJ9_floorDiv_7cf53_19 ?_
      exact hr_i hx hb hr hlocks hh dJ9_floorDiv_7cf53_20 (⟨by rw [f_J9_floorDiv_7cf53, if_neg c_7_1, if_neg c_14_2], rfl⟩)
def f_X4_isCost (a : Int32) : Int32 := if a < 0 then 0 else (if 100000 < a then 0 else 1)
set_option maxHeartbeats 4000000 in
set_option maxRecDepth 100000 in
theorem c_X4_isCost (l : Launch) (G : hG) (z0 : Nat) (mm : hM) (a : Int32) : Met l yX4_isCost wsX4_isCost ({ frames := 0, cells := 0, slots := 0, locals := 0 }) (hPre G z0 mm [.int a]) (hQi G z0 (fun r m' => r = f_X4_isCost a ∧ m' = mm)) 0 0 (h_ge z0) := by
  refine hm_of (cc := cX4_isCost) (maxL := 1) (ret := (some .boolean)) (by decide) rfl (Nat.le_of_ble_eq_true rfl) ?_
  intro p e s m below meth c ls hx hb hr hts hown hlocks hml hin hh hl
  have hl : lv_has ls 1 [(0, .int a)] := hl
  refine lv_iload_n hx hb dX4_isCost_0 rfl (lv_at hl 0 rfl) ?_
  refine lv_if_lt (tgt := 14) hx hb dX4_isCost_1 (by decide) (fun c_1_1 => ?_) (fun c_1_1 => ?_)
  ·
    refine lv_iconst (v := 0) hx hb dX4_isCost_14 (by decide) ?_
    exact hr_z hx hb hr hlocks hh rfl dX4_isCost_15 (⟨by rw [f_X4_isCost, if_pos c_1_1], rfl⟩)
  ·
    refine lv_iload_n hx hb dX4_isCost_4 rfl (lv_at hl 0 rfl) ?_
    refine lv_ldc (own := RX4) (index := 33) (v := 100000) hx hb hown (hts (.constant RX4 33 (100000)) (by decide +kernel)) dX4_isCost_5 ?_
    refine lv_icmp_gt (tgt := 14) hx hb dX4_isCost_7 (by decide) (fun c_7_2 => ?_) (fun c_7_2 => ?_)
    ·
      refine lv_iconst (v := 0) hx hb dX4_isCost_14 (by decide) ?_
      exact hr_z hx hb hr hlocks hh rfl dX4_isCost_15 (⟨by rw [f_X4_isCost, if_neg c_1_1, if_pos c_7_2], rfl⟩)
    ·
      refine lv_iconst (v := 1) hx hb dX4_isCost_10 (by decide) ?_
      refine lv_goto (tgt := 15) hx hb dX4_isCost_11 (by decide) ?_
      exact hr_z hx hb hr hlocks hh rfl dX4_isCost_15 (⟨by rw [f_X4_isCost, if_neg c_1_1, if_neg c_7_2], rfl⟩)
def f_X4_isUnits (a : Int32) : Int32 := if a < 1 then 0 else (if 20 < a then 0 else 1)
set_option maxHeartbeats 4000000 in
set_option maxRecDepth 100000 in
theorem c_X4_isUnits (l : Launch) (G : hG) (z0 : Nat) (mm : hM) (a : Int32) : Met l yX4_isUnits wsX4_isUnits ({ frames := 0, cells := 0, slots := 0, locals := 0 }) (hPre G z0 mm [.int a]) (hQi G z0 (fun r m' => r = f_X4_isUnits a ∧ m' = mm)) 0 0 (h_ge z0) := by
  refine hm_of (cc := cX4_isUnits) (maxL := 1) (ret := (some .boolean)) (by decide) rfl (Nat.le_of_ble_eq_true rfl) ?_
  intro p e s m below meth c ls hx hb hr hts hown hlocks hml hin hh hl
  have hl : lv_has ls 1 [(0, .int a)] := hl
  refine lv_iload_n hx hb dX4_isUnits_0 rfl (lv_at hl 0 rfl) ?_
  refine lv_iconst (v := 1) hx hb dX4_isUnits_1 (by decide) ?_
  refine lv_icmp_lt (tgt := 15) hx hb dX4_isUnits_2 (by decide) (fun c_2_1 => ?_) (fun c_2_1 => ?_)
  ·
    refine lv_iconst (v := 0) hx hb dX4_isUnits_15 (by decide) ?_
    exact hr_z hx hb hr hlocks hh rfl dX4_isUnits_16 (⟨by rw [f_X4_isUnits, if_pos c_2_1], rfl⟩)
  ·
    refine lv_iload_n hx hb dX4_isUnits_5 rfl (lv_at hl 0 rfl) ?_
    refine lv_bipush (v := 20) hx hb dX4_isUnits_6 (by decide) ?_
    refine lv_icmp_gt (tgt := 15) hx hb dX4_isUnits_8 (by decide) (fun c_8_2 => ?_) (fun c_8_2 => ?_)
    ·
      refine lv_iconst (v := 0) hx hb dX4_isUnits_15 (by decide) ?_
      exact hr_z hx hb hr hlocks hh rfl dX4_isUnits_16 (⟨by rw [f_X4_isUnits, if_neg c_2_1, if_pos c_8_2], rfl⟩)
    ·
      refine lv_iconst (v := 1) hx hb dX4_isUnits_11 (by decide) ?_
      refine lv_goto (tgt := 16) hx hb dX4_isUnits_12 (by decide) ?_
      exact hr_z hx hb hr hlocks hh rfl dX4_isUnits_16 (⟨by rw [f_X4_isUnits, if_neg c_2_1, if_neg c_8_2], rfl⟩)
def f_X4_isCondition (a : Int32) : Int32 := if a < 0 then 0 else (if 4 ≤ a then 0 else 1)
set_option maxHeartbeats 4000000 in
set_option maxRecDepth 100000 in
theorem c_X4_isCondition (l : Launch) (G : hG) (z0 : Nat) (mm : hM) (a : Int32) : Met l yX4_isCondition wsX4_isCondition ({ frames := 0, cells := 0, slots := 0, locals := 0 }) (hPre G z0 mm [.int a]) (hQi G z0 (fun r m' => r = f_X4_isCondition a ∧ m' = mm)) 0 0 (h_ge z0) := by
  refine hm_of (cc := cX4_isCondition) (maxL := 1) (ret := (some .boolean)) (by decide) rfl (Nat.le_of_ble_eq_true rfl) ?_
  intro p e s m below meth c ls hx hb hr hts hown hlocks hml hin hh hl
  have hl : lv_has ls 1 [(0, .int a)] := hl
  refine lv_iload_n hx hb dX4_isCondition_0 rfl (lv_at hl 0 rfl) ?_
  refine lv_if_lt (tgt := 13) hx hb dX4_isCondition_1 (by decide) (fun c_1_1 => ?_) (fun c_1_1 => ?_)
  ·
    refine lv_iconst (v := 0) hx hb dX4_isCondition_13 (by decide) ?_
    exact hr_z hx hb hr hlocks hh rfl dX4_isCondition_14 (⟨by rw [f_X4_isCondition, if_pos c_1_1], rfl⟩)
  ·
    refine lv_iload_n hx hb dX4_isCondition_4 rfl (lv_at hl 0 rfl) ?_
    refine lv_iconst (v := 4) hx hb dX4_isCondition_5 (by decide) ?_
    refine lv_icmp_ge (tgt := 13) hx hb dX4_isCondition_6 (by decide) (fun c_6_2 => ?_) (fun c_6_2 => ?_)
    ·
      refine lv_iconst (v := 0) hx hb dX4_isCondition_13 (by decide) ?_
      exact hr_z hx hb hr hlocks hh rfl dX4_isCondition_14 (⟨by rw [f_X4_isCondition, if_neg c_1_1, if_pos c_6_2], rfl⟩)
    ·
      refine lv_iconst (v := 1) hx hb dX4_isCondition_9 (by decide) ?_
      refine lv_goto (tgt := 14) hx hb dX4_isCondition_10 (by decide) ?_
      exact hr_z hx hb hr hlocks hh rfl dX4_isCondition_14 (⟨by rw [f_X4_isCondition, if_neg c_1_1, if_neg c_6_2], rfl⟩)
def f_X4_discountPercent (a : Int32) : Int32 := if 5000 ≤ a then (if 10000 ≤ a then (if 20000 ≤ a then 15 else 10) else 5) else 0
set_option maxHeartbeats 4000000 in
set_option maxRecDepth 100000 in
theorem c_X4_discountPercent (l : Launch) (G : hG) (z0 : Nat) (mm : hM) (a : Int32) : Met l yX4_discountPercent wsX4_discountPercent ({ frames := 0, cells := 0, slots := 0, locals := 0 }) (hPre G z0 mm [.int a]) (hQi G z0 (fun r m' => r = f_X4_discountPercent a ∧ m' = mm)) 0 0 (h_ge z0) := by
  refine hm_of (cc := cX4_discountPercent) (maxL := 1) (ret := (some .int)) (by decide) rfl (Nat.le_of_ble_eq_true rfl) ?_
  intro p e s m below meth c ls hx hb hr hts hown hlocks hml hin hh hl
  have hl : lv_has ls 1 [(0, .int a)] := hl
  refine lv_iload_n hx hb dX4_discountPercent_0 rfl (lv_at hl 0 rfl) ?_
  refine lv_sipush (v := 5000) hx hb dX4_discountPercent_1 (by decide) ?_
  refine lv_icmp_ge (tgt := 9) hx hb dX4_discountPercent_4 (by decide) (fun c_4_1 => ?_) (fun c_4_1 => ?_)
  ·
    refine lv_iload_n hx hb dX4_discountPercent_9 rfl (lv_at hl 0 rfl) ?_
    refine lv_sipush (v := 10000) hx hb dX4_discountPercent_10 (by decide) ?_
    refine lv_icmp_ge (tgt := 18) hx hb dX4_discountPercent_13 (by decide) (fun c_13_2 => ?_) (fun c_13_2 => ?_)
    ·
      refine lv_iload_n hx hb dX4_discountPercent_18 rfl (lv_at hl 0 rfl) ?_
      refine lv_sipush (v := 20000) hx hb dX4_discountPercent_19 (by decide) ?_
      refine lv_icmp_ge (tgt := 30) hx hb dX4_discountPercent_22 (by decide) (fun c_22_3 => ?_) (fun c_22_3 => ?_)
      ·
        refine lv_bipush (v := 15) hx hb dX4_discountPercent_30 (by decide) ?_
        exact hr_i hx hb hr hlocks hh dX4_discountPercent_32 (⟨by rw [f_X4_discountPercent, if_pos c_4_1, if_pos c_13_2, if_pos c_22_3], rfl⟩)
      ·
        refine lv_bipush (v := 10) hx hb dX4_discountPercent_25 (by decide) ?_
        refine lv_goto (tgt := 32) hx hb dX4_discountPercent_27 (by decide) ?_
        exact hr_i hx hb hr hlocks hh dX4_discountPercent_32 (⟨by rw [f_X4_discountPercent, if_pos c_4_1, if_pos c_13_2, if_neg c_22_3], rfl⟩)
    ·
      refine lv_iconst (v := 5) hx hb dX4_discountPercent_16 (by decide) ?_
      exact hr_i hx hb hr hlocks hh dX4_discountPercent_17 (⟨by rw [f_X4_discountPercent, if_pos c_4_1, if_neg c_13_2], rfl⟩)
  ·
    refine lv_iconst (v := 0) hx hb dX4_discountPercent_7 (by decide) ?_
    exact hr_i hx hb hr hlocks hh dX4_discountPercent_8 (⟨by rw [f_X4_discountPercent, if_neg c_4_1], rfl⟩)
def f_X4_netOf (a : Int32) : Int32 := (a - ((a * (f_X4_discountPercent a)) / 100))
set_option maxHeartbeats 4000000 in
set_option maxRecDepth 100000 in
theorem c_X4_netOf (l : Launch) (G : hG) (z0 : Nat) (mm : hM) (a : Int32) : Met l yX4_netOf wsX4_netOf ({ frames := 1, cells := 0, slots := 0, locals := 20 }) (hPre G z0 mm [.int a]) (hQi G z0 (fun r m' => r = f_X4_netOf a ∧ m' = mm)) 0 0 (h_ge z0) := by
  refine hm_of (cc := cX4_netOf) (maxL := 1) (ret := (some .int)) (by decide) rfl (Nat.le_of_ble_eq_true rfl) ?_
  intro p e s m below meth c ls hx hb hr hts hown hlocks hml hin hh hl
  have hl : lv_has ls 1 [(0, .int a)] := hl
  refine lv_iload_n hx hb dX4_netOf_0 rfl (lv_at hl 0 rfl) ?_
  refine lv_iload_n hx hb dX4_netOf_1 rfl (lv_at hl 0 rfl) ?_
  refine lv_iload_n hx hb dX4_netOf_2 rfl (lv_at hl 0 rfl) ?_
  refine hk_i hh (va_runS (As := [.int a]) (rest := [.int a, .int a]) ⟨hx, hb, hml, hown, hts⟩ (c_X4_discountPercent l G z0 mm a) (va_cwS 1 hts gX4_netOf_X4_discountPercent rfl rfl rfl (by decide +kernel) ⟨Nat.le_of_ble_eq_true rfl, Nat.le_of_ble_eq_true rfl⟩) (hs_preS hh) rfl rfl hl.1 rfl (lv_room (Nat.le_of_ble_eq_true rfl)) dX4_netOf_3 ⟨Nat.le_of_ble_eq_true rfl, Nat.le_of_ble_eq_true rfl⟩) (fun r_3 m_3 H locs hp hh => ?_)
  obtain ⟨hr9, hm9⟩ := hp; subst hr9; have hm9 := hm9.symm; subst hm9
  refine lv_imul hx hb dX4_netOf_6 ?_
  refine lv_bipush (v := 100) hx hb dX4_netOf_7 (by decide) ?_
  refine lv_idiv hx hb dX4_netOf_9 (by first | assumption | decide) ?_
  refine lv_isub hx hb dX4_netOf_10 ?_
  exact hr_i hx hb hr hlocks hh dX4_netOf_11 (⟨by rw [f_X4_netOf], rfl⟩)
def f_X4_feeOn (a : Int32) (b : Int32) (c_ : Int32) : Int32 := if c_ = 3 then 0 else (if 14 < b then (if 30 < b then ((a * 50) / 100) else ((a * 15) / 100)) else 0)
set_option maxHeartbeats 4000000 in
set_option maxRecDepth 100000 in
theorem c_X4_feeOn (l : Launch) (G : hG) (z0 : Nat) (mm : hM) (a : Int32) (b : Int32) (c_ : Int32) : Met l yX4_feeOn wsX4_feeOn ({ frames := 0, cells := 0, slots := 0, locals := 0 }) (hPre G z0 mm [.int a, .int b, .int c_]) (hQi G z0 (fun r m' => r = f_X4_feeOn a b c_ ∧ m' = mm)) 0 0 (h_ge z0) := by
  refine hm_of (cc := cX4_feeOn) (maxL := 3) (ret := (some .int)) (by decide) rfl (Nat.le_of_ble_eq_true rfl) ?_
  intro p e s m below meth c ls hx hb hr hts hown hlocks hml hin hh hl
  have hl : lv_has ls 3 [(0, .int a), (1, .int b), (2, .int c_)] := hl
  refine lv_iload_n hx hb dX4_feeOn_0 rfl (lv_at hl 2 rfl) ?_
  refine lv_iconst (v := 3) hx hb dX4_feeOn_1 (by decide) ?_
  refine lv_icmp_eq (tgt := 11) hx hb dX4_feeOn_2 (by decide) (fun c_2_1 => ?_) (fun c_2_1 => ?_)
  ·
    refine lv_iconst (v := 0) hx hb dX4_feeOn_11 (by decide) ?_
    exact hr_i hx hb hr hlocks hh dX4_feeOn_12 (⟨by rw [f_X4_feeOn, if_pos c_2_1], rfl⟩)
  ·
    refine lv_iload_n hx hb dX4_feeOn_5 rfl (lv_at hl 1 rfl) ?_
    refine lv_bipush (v := 14) hx hb dX4_feeOn_6 (by decide) ?_
    refine lv_icmp_gt (tgt := 13) hx hb dX4_feeOn_8 (by decide) (fun c_8_2 => ?_) (fun c_8_2 => ?_)
    ·
      refine lv_iload_n hx hb dX4_feeOn_13 rfl (lv_at hl 0 rfl) ?_
      refine lv_iload_n hx hb dX4_feeOn_14 rfl (lv_at hl 1 rfl) ?_
      refine lv_bipush (v := 30) hx hb dX4_feeOn_15 (by decide) ?_
      refine lv_icmp_gt (tgt := 25) hx hb dX4_feeOn_17 (by decide) (fun c_17_3 => ?_) (fun c_17_3 => ?_)
      ·
        refine lv_bipush (v := 50) hx hb dX4_feeOn_25 (by decide) ?_
        refine lv_imul hx hb dX4_feeOn_27 ?_
        refine lv_bipush (v := 100) hx hb dX4_feeOn_28 (by decide) ?_
        refine lv_idiv hx hb dX4_feeOn_30 (by first | assumption | decide) ?_
        exact hr_i hx hb hr hlocks hh dX4_feeOn_31 (⟨by rw [f_X4_feeOn, if_neg c_2_1, if_pos c_8_2, if_pos c_17_3], rfl⟩)
      ·
        refine lv_bipush (v := 15) hx hb dX4_feeOn_20 (by decide) ?_
        refine lv_goto (tgt := 27) hx hb dX4_feeOn_22 (by decide) ?_
        refine lv_imul hx hb dX4_feeOn_27 ?_
        refine lv_bipush (v := 100) hx hb dX4_feeOn_28 (by decide) ?_
        refine lv_idiv hx hb dX4_feeOn_30 (by first | assumption | decide) ?_
        exact hr_i hx hb hr hlocks hh dX4_feeOn_31 (⟨by rw [f_X4_feeOn, if_neg c_2_1, if_pos c_8_2, if_neg c_17_3], rfl⟩)
    ·
      refine lv_iconst (v := 0) hx hb dX4_feeOn_11 (by decide) ?_
      exact hr_i hx hb hr hlocks hh dX4_feeOn_12 (⟨by rw [f_X4_feeOn, if_neg c_2_1, if_neg c_8_2], rfl⟩)
def f_X5_isIn (v : Int32) (lo : Int32) (hi : Int32) : Int32 := if v < lo then 0 else (if hi < v then 0 else 1)
set_option maxHeartbeats 4000000 in
set_option maxRecDepth 100000 in
theorem c_X5_isIn (l : Launch) (G : hG) (z0 : Nat) (mm : hM) (v : Int32) (lo : Int32) (hi : Int32) : Met l yX5_isIn wsX5_isIn ({ frames := 0, cells := 0, slots := 0, locals := 0 }) (hPre G z0 mm [.int v, .int lo, .int hi]) (hQi G z0 (fun r m' => r = f_X5_isIn v lo hi ∧ m' = mm)) 0 0 (h_ge z0) := by
  refine hm_of (cc := cX5_isIn) (maxL := 3) (ret := (some .boolean)) (by decide) rfl (Nat.le_of_ble_eq_true rfl) ?_
  intro p e s m below meth c ls hx hb hr hts hown hlocks hml hin hh hl
  have hl : lv_has ls 3 [(0, .int v), (1, .int lo), (2, .int hi)] := hl
  refine lv_iload_n hx hb dX5_isIn_0 rfl (lv_at hl 0 rfl) ?_
  refine lv_iload_n hx hb dX5_isIn_1 rfl (lv_at hl 1 rfl) ?_
  refine lv_icmp_lt (tgt := 14) hx hb dX5_isIn_2 (by decide) (fun c_2_1 => ?_) (fun c_2_1 => ?_)
  ·
    refine lv_iconst (v := 0) hx hb dX5_isIn_14 (by decide) ?_
    exact hr_z hx hb hr hlocks hh rfl dX5_isIn_15 (⟨by rw [f_X5_isIn, if_pos c_2_1], rfl⟩)
  ·
    refine lv_iload_n hx hb dX5_isIn_5 rfl (lv_at hl 0 rfl) ?_
    refine lv_iload_n hx hb dX5_isIn_6 rfl (lv_at hl 2 rfl) ?_
    refine lv_icmp_gt (tgt := 14) hx hb dX5_isIn_7 (by decide) (fun c_7_2 => ?_) (fun c_7_2 => ?_)
    ·
      refine lv_iconst (v := 0) hx hb dX5_isIn_14 (by decide) ?_
      exact hr_z hx hb hr hlocks hh rfl dX5_isIn_15 (⟨by rw [f_X5_isIn, if_neg c_2_1, if_pos c_7_2], rfl⟩)
    ·
      refine lv_iconst (v := 1) hx hb dX5_isIn_10 (by decide) ?_
      refine lv_goto (tgt := 15) hx hb dX5_isIn_11 (by decide) ?_
      exact hr_z hx hb hr hlocks hh rfl dX5_isIn_15 (⟨by rw [f_X5_isIn, if_neg c_2_1, if_neg c_7_2], rfl⟩)
def f_X5_isTen (v : Int32) : Int32 := (f_X5_isIn v 0 9)
set_option maxHeartbeats 4000000 in
set_option maxRecDepth 100000 in
theorem c_X5_isTen (l : Launch) (G : hG) (z0 : Nat) (mm : hM) (v : Int32) : Met l yX5_isTen wsX5_isTen ({ frames := 1, cells := 0, slots := 0, locals := 22 }) (hPre G z0 mm [.int v]) (hQi G z0 (fun r m' => r = f_X5_isTen v ∧ m' = mm)) 0 0 (h_ge z0) := by
  refine hm_of (cc := cX5_isTen) (maxL := 1) (ret := (some .boolean)) (by decide) rfl (Nat.le_of_ble_eq_true rfl) ?_
  intro p e s m below meth c ls hx hb hr hts hown hlocks hml hin hh hl
  have hl : lv_has ls 1 [(0, .int v)] := hl
  refine lv_iload_n hx hb dX5_isTen_0 rfl (lv_at hl 0 rfl) ?_
  refine lv_iconst (v := 0) hx hb dX5_isTen_1 (by decide) ?_
  refine lv_bipush (v := 9) hx hb dX5_isTen_2 (by decide) ?_
  refine hk_i hh (va_runS (As := [.int v, .int 0, .int 9]) (rest := []) ⟨hx, hb, hml, hown, hts⟩ (c_X5_isIn l G z0 mm v 0 9) (va_cwS 3 hts gX5_isTen_X5_isIn rfl rfl rfl (by decide +kernel) ⟨Nat.le_of_ble_eq_true rfl, Nat.le_of_ble_eq_true rfl⟩) (hs_preS hh) rfl rfl hl.1 rfl (lv_room (Nat.le_of_ble_eq_true rfl)) dX5_isTen_4 ⟨Nat.le_of_ble_eq_true rfl, Nat.le_of_ble_eq_true rfl⟩) (fun r_4 m_4 H locs hp hh => ?_)
  obtain ⟨hr9, hm9⟩ := hp; subst hr9; have hm9 := hm9.symm; subst hm9
  exact hr_z hx hb hr hlocks hh (by unfold f_X5_isIn; (repeat' split) <;> rfl) dX5_isTen_7 (⟨by rw [f_X5_isTen], rfl⟩)
def f_X5_part (w : Int32) (n : Int32) : Int32 := if w < 0 then (-(((n - 1) - w) / n)) else (w / n)
set_option maxHeartbeats 4000000 in
set_option maxRecDepth 100000 in
theorem c_X5_part (l : Launch) (G : hG) (z0 : Nat) (mm : hM) (w : Int32) (n : Int32) (hn0 : ¬ n = 0) : Met l yX5_part wsX5_part ({ frames := 0, cells := 0, slots := 0, locals := 0 }) (hPre G z0 mm [.int w, .int n]) (hQi G z0 (fun r m' => r = f_X5_part w n ∧ m' = mm)) 0 0 (h_ge z0) := by
  refine hm_of (cc := cX5_part) (maxL := 2) (ret := (some .int)) (by decide) rfl (Nat.le_of_ble_eq_true rfl) ?_
  intro p e s m below meth c ls hx hb hr hts hown hlocks hml hin hh hl
  have hl : lv_has ls 2 [(0, .int w), (1, .int n)] := hl
  refine lv_iload_n hx hb dX5_part_0 rfl (lv_at hl 0 rfl) ?_
  refine lv_if_lt (tgt := 10) hx hb dX5_part_1 (by decide) (fun c_1_1 => ?_) (fun c_1_1 => ?_)
  ·
    refine lv_iload_n hx hb dX5_part_10 rfl (lv_at hl 1 rfl) ?_
    refine lv_iconst (v := 1) hx hb dX5_part_11 (by decide) ?_
    refine lv_isub hx hb dX5_part_12 ?_
    refine lv_iload_n hx hb dX5_part_13 rfl (lv_at hl 0 rfl) ?_
    refine lv_isub hx hb dX5_part_14 ?_
    refine lv_iload_n hx hb dX5_part_15 rfl (lv_at hl 1 rfl) ?_
    refine lv_idiv hx hb dX5_part_16 (by first | assumption | decide) ?_
    refine lv_ineg hx hb dX5_part_17 ?_
    exact hr_i hx hb hr hlocks hh dX5_part_18 (⟨by rw [f_X5_part, if_pos c_1_1], rfl⟩)
  ·
    refine lv_iload_n hx hb dX5_part_4 rfl (lv_at hl 0 rfl) ?_
    refine lv_iload_n hx hb dX5_part_5 rfl (lv_at hl 1 rfl) ?_
    refine lv_idiv hx hb dX5_part_6 (by first | assumption | decide) ?_
    refine lv_goto (tgt := 18) hx hb dX5_part_7 (by decide) ?_
    exact hr_i hx hb hr hlocks hh dX5_part_18 (⟨by rw [f_X5_part, if_neg c_1_1], rfl⟩)
def f_X5_net (goods : Int32) : Int32 := if 5000 ≤ goods then (if 10000 ≤ goods then (if 20000 ≤ goods then (((goods.toInt64) - (((goods.toInt64) * 15) / 100)).toInt32) else (((goods.toInt64) - (((goods.toInt64) * 10) / 100)).toInt32)) else (((goods.toInt64) - (((goods.toInt64) * 5) / 100)).toInt32)) else (((goods.toInt64) - (((goods.toInt64) * 0) / 100)).toInt32)
set_option maxHeartbeats 4000000 in
set_option maxRecDepth 100000 in
theorem c_X5_net (l : Launch) (G : hG) (z0 : Nat) (mm : hM) (goods : Int32) : Met l yX5_net wsX5_net ({ frames := 0, cells := 0, slots := 0, locals := 0 }) (hPre G z0 mm [.int goods]) (hQi G z0 (fun r m' => r = f_X5_net goods ∧ m' = mm)) 0 0 (h_ge z0) := by
  refine hm_of (cc := cX5_net) (maxL := 3) (ret := (some .int)) (by decide) rfl (Nat.le_of_ble_eq_true rfl) ?_
  intro p e s m below meth c ls hx hb hr hts hown hlocks hml hin hh hl
  have hl : lv_has ls 3 [(0, .int goods)] := hl
  refine lv_iload_n hx hb dX5_net_0 rfl (lv_at hl 0 rfl) ?_
  refine lv_sipush (v := 5000) hx hb dX5_net_1 (by decide) ?_
  refine lv_icmp_ge (tgt := 11) hx hb dX5_net_4 (by decide) (fun c_4_1 => ?_) (fun c_4_1 => ?_)
  ·
    refine lv_iload_n hx hb dX5_net_11 rfl (lv_at hl 0 rfl) ?_
    refine lv_sipush (v := 10000) hx hb dX5_net_12 (by decide) ?_
    refine lv_icmp_ge (tgt := 24) hx hb dX5_net_15 (by decide) (fun c_15_2 => ?_) (fun c_15_2 => ?_)
    ·
      refine lv_iload_n hx hb dX5_net_24 rfl (lv_at hl 0 rfl) ?_
      refine lv_sipush (v := 20000) hx hb dX5_net_25 (by decide) ?_
      refine lv_icmp_ge (tgt := 37) hx hb dX5_net_28 (by decide) (fun c_28_3 => ?_) (fun c_28_3 => ?_)
      ·
        refine lv_ldc2 (own := RX5) (index := 129) (v := 15) hx hb hown (hts (.constantLong RX5 129 (15)) (by decide +kernel)) dX5_net_37 ?_
        refine lv_lstore_n (lv' := [(1, .long 15), (0, .int goods)]) hx hb dX5_net_40 rfl hl (by decide) rfl (fun ls hl => ?_)
        refine lv_iload_n hx hb dX5_net_41 rfl (lv_at hl 1 rfl) ?_
        refine lv_i2l (v := goods.toInt64) hx hb dX5_net_42 rfl ?_
        refine lv_iload_n hx hb dX5_net_43 rfl (lv_at hl 1 rfl) ?_
        refine lv_i2l (v := goods.toInt64) hx hb dX5_net_44 rfl ?_
        refine lv_lload_n hx hb dX5_net_45 rfl (lv_at hl 0 rfl) ?_
        refine lv_lmul hx hb dX5_net_46 ?_
        refine lv_ldc2 (own := RX5) (index := 131) (v := 100) hx hb hown (hts (.constantLong RX5 131 (100)) (by decide +kernel)) dX5_net_47 ?_
        refine lv_ldiv hx hb dX5_net_50 (by first | assumption | decide) ?_
        refine lv_lsub hx hb dX5_net_51 ?_
        refine lv_l2i (v := ((goods.toInt64) - (((goods.toInt64) * 15) / 100)).toInt32) hx hb dX5_net_52 rfl ?_
        exact hr_i hx hb hr hlocks hh dX5_net_53 (⟨by rw [f_X5_net, if_pos c_4_1, if_pos c_15_2, if_pos c_28_3], rfl⟩)
      ·
        refine lv_ldc2 (own := RX5) (index := 127) (v := 10) hx hb hown (hts (.constantLong RX5 127 (10)) (by decide +kernel)) dX5_net_31 ?_
        refine lv_goto (tgt := 40) hx hb dX5_net_34 (by decide) ?_
        refine lv_lstore_n (lv' := [(1, .long 10), (0, .int goods)]) hx hb dX5_net_40 rfl hl (by decide) rfl (fun ls hl => ?_)
        refine lv_iload_n hx hb dX5_net_41 rfl (lv_at hl 1 rfl) ?_
        refine lv_i2l (v := goods.toInt64) hx hb dX5_net_42 rfl ?_
        refine lv_iload_n hx hb dX5_net_43 rfl (lv_at hl 1 rfl) ?_
        refine lv_i2l (v := goods.toInt64) hx hb dX5_net_44 rfl ?_
        refine lv_lload_n hx hb dX5_net_45 rfl (lv_at hl 0 rfl) ?_
        refine lv_lmul hx hb dX5_net_46 ?_
        refine lv_ldc2 (own := RX5) (index := 131) (v := 100) hx hb hown (hts (.constantLong RX5 131 (100)) (by decide +kernel)) dX5_net_47 ?_
        refine lv_ldiv hx hb dX5_net_50 (by first | assumption | decide) ?_
        refine lv_lsub hx hb dX5_net_51 ?_
        refine lv_l2i (v := ((goods.toInt64) - (((goods.toInt64) * 10) / 100)).toInt32) hx hb dX5_net_52 rfl ?_
        exact hr_i hx hb hr hlocks hh dX5_net_53 (⟨by rw [f_X5_net, if_pos c_4_1, if_pos c_15_2, if_neg c_28_3], rfl⟩)
    ·
      refine lv_ldc2 (own := RX5) (index := 125) (v := 5) hx hb hown (hts (.constantLong RX5 125 (5)) (by decide +kernel)) dX5_net_18 ?_
      refine lv_goto (tgt := 40) hx hb dX5_net_21 (by decide) ?_
      refine lv_lstore_n (lv' := [(1, .long 5), (0, .int goods)]) hx hb dX5_net_40 rfl hl (by decide) rfl (fun ls hl => ?_)
      refine lv_iload_n hx hb dX5_net_41 rfl (lv_at hl 1 rfl) ?_
      refine lv_i2l (v := goods.toInt64) hx hb dX5_net_42 rfl ?_
      refine lv_iload_n hx hb dX5_net_43 rfl (lv_at hl 1 rfl) ?_
      refine lv_i2l (v := goods.toInt64) hx hb dX5_net_44 rfl ?_
      refine lv_lload_n hx hb dX5_net_45 rfl (lv_at hl 0 rfl) ?_
      refine lv_lmul hx hb dX5_net_46 ?_
      refine lv_ldc2 (own := RX5) (index := 131) (v := 100) hx hb hown (hts (.constantLong RX5 131 (100)) (by decide +kernel)) dX5_net_47 ?_
      refine lv_ldiv hx hb dX5_net_50 (by first | assumption | decide) ?_
      refine lv_lsub hx hb dX5_net_51 ?_
      refine lv_l2i (v := ((goods.toInt64) - (((goods.toInt64) * 5) / 100)).toInt32) hx hb dX5_net_52 rfl ?_
      exact hr_i hx hb hr hlocks hh dX5_net_53 (⟨by rw [f_X5_net, if_pos c_4_1, if_neg c_15_2], rfl⟩)
  ·
    refine lv_lconst (v := 0) hx hb dX5_net_7 (by decide) ?_
    refine lv_goto (tgt := 40) hx hb dX5_net_8 (by decide) ?_
    refine lv_lstore_n (lv' := [(1, .long 0), (0, .int goods)]) hx hb dX5_net_40 rfl hl (by decide) rfl (fun ls hl => ?_)
    refine lv_iload_n hx hb dX5_net_41 rfl (lv_at hl 1 rfl) ?_
    refine lv_i2l (v := goods.toInt64) hx hb dX5_net_42 rfl ?_
    refine lv_iload_n hx hb dX5_net_43 rfl (lv_at hl 1 rfl) ?_
    refine lv_i2l (v := goods.toInt64) hx hb dX5_net_44 rfl ?_
    refine lv_lload_n hx hb dX5_net_45 rfl (lv_at hl 0 rfl) ?_
    refine lv_lmul hx hb dX5_net_46 ?_
    refine lv_ldc2 (own := RX5) (index := 131) (v := 100) hx hb hown (hts (.constantLong RX5 131 (100)) (by decide +kernel)) dX5_net_47 ?_
    refine lv_ldiv hx hb dX5_net_50 (by first | assumption | decide) ?_
    refine lv_lsub hx hb dX5_net_51 ?_
    refine lv_l2i (v := ((goods.toInt64) - (((goods.toInt64) * 0) / 100)).toInt32) hx hb dX5_net_52 rfl ?_
    exact hr_i hx hb hr hlocks hh dX5_net_53 (⟨by rw [f_X5_net, if_neg c_4_1], rfl⟩)
def f_X2_repairWorth (pr : Int32) (rc : Int32) : Int32 := ((80 * pr) - (100 * rc))
set_option maxHeartbeats 4000000 in
set_option maxRecDepth 100000 in
theorem c_X2_repairWorth (l : Launch) (G : hG) (z0 : Nat) (mm : hM) (h0 : Nat) (pr : Int32) (sv : Int32) (rc : Int32) (ua : Nat) (fh0 : mm h0 = some (.inr (2, [.int pr, .int sv, .int rc, .ref ua]))) : Met l yX2_repairWorth wsX2_repairWorth ({ frames := 0, cells := 0, slots := 0, locals := 0 }) (hPre G z0 mm [.ref h0]) (hQi G z0 (fun r m' => r = f_X2_repairWorth pr rc ∧ m' = mm)) 0 0 (h_ge z0) := by
  refine hm_of (cc := cX2_repairWorth) (maxL := 1) (ret := (some .int)) (by decide) rfl (Nat.le_of_ble_eq_true rfl) ?_
  intro p e s m below meth c ls hx hb hr hts hown hlocks hml hin hh hl
  have hl : lv_has ls 1 [(0, .ref h0)] := hl
  have hiX2 : ∀ w ∈ u_ws RX2 TX2 4, w ∈ wsX2_repairWorth := by decide +kernel
  refine lv_bipush (v := 80) hx hb dX2_repairWorth_0 (by decide) ?_
  refine lv_aload_n hx hb dX2_repairWorth_2 rfl (lv_at hl 0 rfl) ?_
  refine hg_get (C := RX2) (T := TX2) (N := 4) (ci := 2) (own := RX2) (index := 9) hx hb hts hiX2 hown hh fh0 rfl 0 (by decide) (hts (.fieldLink RX2 9 "BackhaulReturns$Product" "unitPrice" "I") (by decide +kernel)) rfl dX2_repairWorth_3 ?_
  refine lv_imul hx hb dX2_repairWorth_6 ?_
  refine lv_bipush (v := 100) hx hb dX2_repairWorth_7 (by decide) ?_
  refine lv_aload_n hx hb dX2_repairWorth_9 rfl (lv_at hl 0 rfl) ?_
  refine hg_get (C := RX2) (T := TX2) (N := 4) (ci := 2) (own := RX2) (index := 18) hx hb hts hiX2 hown hh fh0 rfl 2 (by decide) (hts (.fieldLink RX2 18 "BackhaulReturns$Product" "repairCost" "I") (by decide +kernel)) rfl dX2_repairWorth_10 ?_
  refine lv_imul hx hb dX2_repairWorth_13 ?_
  refine lv_isub hx hb dX2_repairWorth_14 ?_
  exact hr_i hx hb hr hlocks hh dX2_repairWorth_15 (⟨by rw [f_X2_repairWorth], rfl⟩)
def f_X2_salvageWorth (sv : Int32) : Int32 := (100 * sv)
set_option maxHeartbeats 4000000 in
set_option maxRecDepth 100000 in
theorem c_X2_salvageWorth (l : Launch) (G : hG) (z0 : Nat) (mm : hM) (h0 : Nat) (pr : Int32) (sv : Int32) (rc : Int32) (ua : Nat) (fh0 : mm h0 = some (.inr (2, [.int pr, .int sv, .int rc, .ref ua]))) : Met l yX2_salvageWorth wsX2_salvageWorth ({ frames := 0, cells := 0, slots := 0, locals := 0 }) (hPre G z0 mm [.ref h0]) (hQi G z0 (fun r m' => r = f_X2_salvageWorth sv ∧ m' = mm)) 0 0 (h_ge z0) := by
  refine hm_of (cc := cX2_salvageWorth) (maxL := 1) (ret := (some .int)) (by decide) rfl (Nat.le_of_ble_eq_true rfl) ?_
  intro p e s m below meth c ls hx hb hr hts hown hlocks hml hin hh hl
  have hl : lv_has ls 1 [(0, .ref h0)] := hl
  have hiX2 : ∀ w ∈ u_ws RX2 TX2 4, w ∈ wsX2_salvageWorth := by decide +kernel
  refine lv_bipush (v := 100) hx hb dX2_salvageWorth_0 (by decide) ?_
  refine lv_aload_n hx hb dX2_salvageWorth_2 rfl (lv_at hl 0 rfl) ?_
  refine hg_get (C := RX2) (T := TX2) (N := 4) (ci := 2) (own := RX2) (index := 15) hx hb hts hiX2 hown hh fh0 rfl 1 (by decide) (hts (.fieldLink RX2 15 "BackhaulReturns$Product" "salvageValue" "I") (by decide +kernel)) rfl dX2_salvageWorth_3 ?_
  refine lv_imul hx hb dX2_salvageWorth_6 ?_
  exact hr_i hx hb hr hlocks hh dX2_salvageWorth_7 (⟨by rw [f_X2_salvageWorth], rfl⟩)
def f_X2_isOffered (o_ : Int32) (cd : Int32) : Int32 := if cd = 0 then (if o_ = 0 then 1 else 0) else (if cd = 1 then (if o_ = 0 then 1 else (if o_ = 1 then 1 else (if o_ = 3 then 1 else 0))) else (if cd = 2 then (if o_ = 2 then 1 else (if o_ = 3 then 1 else 0)) else (if o_ = 2 then 1 else (if o_ = 3 then 1 else (if o_ = 4 then 1 else 0)))))
set_option maxHeartbeats 4000000 in
set_option maxRecDepth 100000 in
theorem c_X2_isOffered (l : Launch) (G : hG) (z0 : Nat) (mm : hM) (o_ : Int32) (cd : Int32) : Met l yX2_isOffered wsX2_isOffered ({ frames := 0, cells := 0, slots := 0, locals := 0 }) (hPre G z0 mm [.int o_, .int cd]) (hQi G z0 (fun r m' => r = f_X2_isOffered o_ cd ∧ m' = mm)) 0 0 (h_ge z0) := by
  refine hm_of (cc := cX2_isOffered) (maxL := 2) (ret := (some .boolean)) (by decide) rfl (Nat.le_of_ble_eq_true rfl) ?_
  intro p e s m below meth c ls hx hb hr hts hown hlocks hml hin hh hl
  have hl : lv_has ls 2 [(0, .int o_), (1, .int cd)] := hl
  refine lv_iload_n hx hb dX2_isOffered_0 rfl (lv_at hl 1 rfl) ?_
  by_cases c_1_1_0 : cd = 0
  ·
    refine lv_tableIn (off := 27) (tgt := 28) hx hb dX2_isOffered_1 (by rw [c_1_1_0]; decide) (by rw [c_1_1_0]; decide) (by rw [c_1_1_0]; rfl) (by decide) ?_
    refine lv_iload_n hx hb dX2_isOffered_28 rfl (lv_at hl 0 rfl) ?_
    refine lv_if_ne (tgt := 36) hx hb dX2_isOffered_29 (by decide) (fun c_29_2 => ?_) (fun c_29_2 => ?_)
    ·
      refine lv_iconst (v := 0) hx hb dX2_isOffered_36 (by decide) ?_
      exact hr_z hx hb hr hlocks hh rfl dX2_isOffered_37 (⟨by rw [f_X2_isOffered, if_pos c_1_1_0, if_neg c_29_2], rfl⟩)
    ·
      refine lv_iconst (v := 1) hx hb dX2_isOffered_32 (by decide) ?_
      refine lv_goto (tgt := 37) hx hb dX2_isOffered_33 (by decide) ?_
      exact hr_z hx hb hr hlocks hh rfl dX2_isOffered_37 (⟨by rw [f_X2_isOffered, if_pos c_1_1_0, if_pos c_29_2], rfl⟩)
  ·
    by_cases c_1_2_1 : cd = 1
    ·
      refine lv_tableIn (off := 37) (tgt := 38) hx hb dX2_isOffered_1 (by rw [c_1_2_1]; decide) (by rw [c_1_2_1]; decide) (by rw [c_1_2_1]; rfl) (by decide) ?_
      refine lv_iload_n hx hb dX2_isOffered_38 rfl (lv_at hl 0 rfl) ?_
      refine lv_if_eq (tgt := 52) hx hb dX2_isOffered_39 (by decide) (fun c_39_3 => ?_) (fun c_39_3 => ?_)
      ·
        refine lv_iconst (v := 1) hx hb dX2_isOffered_52 (by decide) ?_
        refine lv_goto (tgt := 57) hx hb dX2_isOffered_53 (by decide) ?_
        exact hr_z hx hb hr hlocks hh rfl dX2_isOffered_57 (⟨by rw [f_X2_isOffered, if_neg c_1_1_0, if_pos c_1_2_1, if_pos c_39_3], rfl⟩)
      ·
        refine lv_iload_n hx hb dX2_isOffered_42 rfl (lv_at hl 0 rfl) ?_
        refine lv_iconst (v := 1) hx hb dX2_isOffered_43 (by decide) ?_
        refine lv_icmp_eq (tgt := 52) hx hb dX2_isOffered_44 (by decide) (fun c_44_4 => ?_) (fun c_44_4 => ?_)
        ·
          refine lv_iconst (v := 1) hx hb dX2_isOffered_52 (by decide) ?_
          refine lv_goto (tgt := 57) hx hb dX2_isOffered_53 (by decide) ?_
          exact hr_z hx hb hr hlocks hh rfl dX2_isOffered_57 (⟨by rw [f_X2_isOffered, if_neg c_1_1_0, if_pos c_1_2_1, if_neg c_39_3, if_pos c_44_4], rfl⟩)
        ·
          refine lv_iload_n hx hb dX2_isOffered_47 rfl (lv_at hl 0 rfl) ?_
          refine lv_iconst (v := 3) hx hb dX2_isOffered_48 (by decide) ?_
          refine lv_icmp_ne (tgt := 56) hx hb dX2_isOffered_49 (by decide) (fun c_49_5 => ?_) (fun c_49_5 => ?_)
          ·
            refine lv_iconst (v := 0) hx hb dX2_isOffered_56 (by decide) ?_
            exact hr_z hx hb hr hlocks hh rfl dX2_isOffered_57 (⟨by rw [f_X2_isOffered, if_neg c_1_1_0, if_pos c_1_2_1, if_neg c_39_3, if_neg c_44_4, if_neg c_49_5], rfl⟩)
          ·
            refine lv_iconst (v := 1) hx hb dX2_isOffered_52 (by decide) ?_
            refine lv_goto (tgt := 57) hx hb dX2_isOffered_53 (by decide) ?_
            exact hr_z hx hb hr hlocks hh rfl dX2_isOffered_57 (⟨by rw [f_X2_isOffered, if_neg c_1_1_0, if_pos c_1_2_1, if_neg c_39_3, if_neg c_44_4, if_pos c_49_5], rfl⟩)
    ·
      by_cases c_1_5_2 : cd = 2
      ·
        refine lv_tableIn (off := 57) (tgt := 58) hx hb dX2_isOffered_1 (by rw [c_1_5_2]; decide) (by rw [c_1_5_2]; decide) (by rw [c_1_5_2]; rfl) (by decide) ?_
        refine lv_iload_n hx hb dX2_isOffered_58 rfl (lv_at hl 0 rfl) ?_
        refine lv_iconst (v := 2) hx hb dX2_isOffered_59 (by decide) ?_
        refine lv_icmp_eq (tgt := 68) hx hb dX2_isOffered_60 (by decide) (fun c_60_6 => ?_) (fun c_60_6 => ?_)
        ·
          refine lv_iconst (v := 1) hx hb dX2_isOffered_68 (by decide) ?_
          refine lv_goto (tgt := 73) hx hb dX2_isOffered_69 (by decide) ?_
          exact hr_z hx hb hr hlocks hh rfl dX2_isOffered_73 (⟨by rw [f_X2_isOffered, if_neg c_1_1_0, if_neg c_1_2_1, if_pos c_1_5_2, if_pos c_60_6], rfl⟩)
        ·
          refine lv_iload_n hx hb dX2_isOffered_63 rfl (lv_at hl 0 rfl) ?_
          refine lv_iconst (v := 3) hx hb dX2_isOffered_64 (by decide) ?_
          refine lv_icmp_ne (tgt := 72) hx hb dX2_isOffered_65 (by decide) (fun c_65_7 => ?_) (fun c_65_7 => ?_)
          ·
            refine lv_iconst (v := 0) hx hb dX2_isOffered_72 (by decide) ?_
            exact hr_z hx hb hr hlocks hh rfl dX2_isOffered_73 (⟨by rw [f_X2_isOffered, if_neg c_1_1_0, if_neg c_1_2_1, if_pos c_1_5_2, if_neg c_60_6, if_neg c_65_7], rfl⟩)
          ·
            refine lv_iconst (v := 1) hx hb dX2_isOffered_68 (by decide) ?_
            refine lv_goto (tgt := 73) hx hb dX2_isOffered_69 (by decide) ?_
            exact hr_z hx hb hr hlocks hh rfl dX2_isOffered_73 (⟨by rw [f_X2_isOffered, if_neg c_1_1_0, if_neg c_1_2_1, if_pos c_1_5_2, if_neg c_60_6, if_pos c_65_7], rfl⟩)
      ·
        refine lv_tableOut (tgt := 74) hx hb dX2_isOffered_1 (by have q0 := lv_neT c_1_1_0 (a := 0) (by decide); have q1 := lv_neT c_1_2_1 (a := 1) (by decide); have q2 := lv_neT c_1_5_2 (a := 2) (by decide); omega) (by decide) ?_
        refine lv_iload_n hx hb dX2_isOffered_74 rfl (lv_at hl 0 rfl) ?_
        refine lv_iconst (v := 2) hx hb dX2_isOffered_75 (by decide) ?_
        refine lv_icmp_eq (tgt := 89) hx hb dX2_isOffered_76 (by decide) (fun c_76_8 => ?_) (fun c_76_8 => ?_)
        ·
          refine lv_iconst (v := 1) hx hb dX2_isOffered_89 (by decide) ?_
          refine lv_goto (tgt := 94) hx hb dX2_isOffered_90 (by decide) ?_
          exact hr_z hx hb hr hlocks hh rfl dX2_isOffered_94 (⟨by rw [f_X2_isOffered, if_neg c_1_1_0, if_neg c_1_2_1, if_neg c_1_5_2, if_pos c_76_8], rfl⟩)
        ·
          refine lv_iload_n hx hb dX2_isOffered_79 rfl (lv_at hl 0 rfl) ?_
          refine lv_iconst (v := 3) hx hb dX2_isOffered_80 (by decide) ?_
          refine lv_icmp_eq (tgt := 89) hx hb dX2_isOffered_81 (by decide) (fun c_81_9 => ?_) (fun c_81_9 => ?_)
          ·
            refine lv_iconst (v := 1) hx hb dX2_isOffered_89 (by decide) ?_
            refine lv_goto (tgt := 94) hx hb dX2_isOffered_90 (by decide) ?_
            exact hr_z hx hb hr hlocks hh rfl dX2_isOffered_94 (⟨by rw [f_X2_isOffered, if_neg c_1_1_0, if_neg c_1_2_1, if_neg c_1_5_2, if_neg c_76_8, if_pos c_81_9], rfl⟩)
          ·
            refine lv_iload_n hx hb dX2_isOffered_84 rfl (lv_at hl 0 rfl) ?_
            refine lv_iconst (v := 4) hx hb dX2_isOffered_85 (by decide) ?_
            refine lv_icmp_ne (tgt := 93) hx hb dX2_isOffered_86 (by decide) (fun c_86_10 => ?_) (fun c_86_10 => ?_)
            ·
              refine lv_iconst (v := 0) hx hb dX2_isOffered_93 (by decide) ?_
              exact hr_z hx hb hr hlocks hh rfl dX2_isOffered_94 (⟨by rw [f_X2_isOffered, if_neg c_1_1_0, if_neg c_1_2_1, if_neg c_1_5_2, if_neg c_76_8, if_neg c_81_9, if_neg c_86_10], rfl⟩)
            ·
              refine lv_iconst (v := 1) hx hb dX2_isOffered_89 (by decide) ?_
              refine lv_goto (tgt := 94) hx hb dX2_isOffered_90 (by decide) ?_
              exact hr_z hx hb hr hlocks hh rfl dX2_isOffered_94 (⟨by rw [f_X2_isOffered, if_neg c_1_1_0, if_neg c_1_2_1, if_neg c_1_5_2, if_neg c_76_8, if_neg c_81_9, if_pos c_86_10], rfl⟩)
def f_X2_worthOf (pr : Int32) (sv : Int32) (rc : Int32) (o_ : Int32) (cd : Int32) : Int32 := if o_ = 0 then (if cd = 0 then (100 * pr) else (46 * pr)) else (if o_ = 1 then (((68 * pr) - 5000) + (f_J9_floorDiv_7cf53 (if (f_X2_repairWorth pr rc) < (f_X2_salvageWorth sv) then (f_X2_salvageWorth sv) else (f_X2_repairWorth pr rc)) 5)) else (if o_ = 2 then (f_X2_repairWorth pr rc) else (if o_ = 3 then (f_X2_salvageWorth sv) else (60 * pr))))
set_option maxHeartbeats 4000000 in
set_option maxRecDepth 100000 in
theorem c_X2_worthOf (l : Launch) (G : hG) (z0 : Nat) (mm : hM) (h0 : Nat) (pr : Int32) (sv : Int32) (rc : Int32) (ua : Nat) (o_ : Int32) (cd : Int32) (fh0 : mm h0 = some (.inr (2, [.int pr, .int sv, .int rc, .ref ua]))) : Met l yX2_worthOf wsX2_worthOf ({ frames := 1, cells := 0, slots := 0, locals := 22 }) (hPre G z0 mm [.ref h0, .int o_, .int cd]) (hQi G z0 (fun r m' => r = f_X2_worthOf pr sv rc o_ cd ∧ m' = mm)) 0 0 (h_ge z0) := by
  refine hm_of (cc := cX2_worthOf) (maxL := 3) (ret := (some .int)) (by decide) rfl (Nat.le_of_ble_eq_true rfl) ?_
  intro p e s m below meth c ls hx hb hr hts hown hlocks hml hin hh hl
  have hl : lv_has ls 3 [(0, .ref h0), (1, .int o_), (2, .int cd)] := hl
  have hiX2 : ∀ w ∈ u_ws RX2 TX2 4, w ∈ wsX2_worthOf := by decide +kernel
  refine lv_iload_n hx hb dX2_worthOf_0 rfl (lv_at hl 1 rfl) ?_
  by_cases c_1_1_0 : o_ = 0
  ·
    refine lv_tableIn (off := 31) (tgt := 32) hx hb dX2_worthOf_1 (by rw [c_1_1_0]; decide) (by rw [c_1_1_0]; decide) (by rw [c_1_1_0]; rfl) (by decide) ?_
    refine lv_iload_n hx hb dX2_worthOf_32 rfl (lv_at hl 2 rfl) ?_
    refine lv_if_ne (tgt := 41) hx hb dX2_worthOf_33 (by decide) (fun c_33_2 => ?_) (fun c_33_2 => ?_)
    ·
      refine lv_bipush (v := 46) hx hb dX2_worthOf_41 (by decide) ?_
      refine lv_aload_n hx hb dX2_worthOf_43 rfl (lv_at hl 0 rfl) ?_
      refine hg_get (C := RX2) (T := TX2) (N := 4) (ci := 2) (own := RX2) (index := 9) hx hb hts hiX2 hown hh fh0 rfl 0 (by decide) (hts (.fieldLink RX2 9 "BackhaulReturns$Product" "unitPrice" "I") (by decide +kernel)) rfl dX2_worthOf_44 ?_
      refine lv_imul hx hb dX2_worthOf_47 ?_
      exact hr_i hx hb hr hlocks hh dX2_worthOf_48 (⟨by rw [f_X2_worthOf, if_pos c_1_1_0, if_neg c_33_2], rfl⟩)
    ·
      refine lv_bipush (v := 100) hx hb dX2_worthOf_36 (by decide) ?_
      refine lv_goto (tgt := 43) hx hb dX2_worthOf_38 (by decide) ?_
      refine lv_aload_n hx hb dX2_worthOf_43 rfl (lv_at hl 0 rfl) ?_
      refine hg_get (C := RX2) (T := TX2) (N := 4) (ci := 2) (own := RX2) (index := 9) hx hb hts hiX2 hown hh fh0 rfl 0 (by decide) (hts (.fieldLink RX2 9 "BackhaulReturns$Product" "unitPrice" "I") (by decide +kernel)) rfl dX2_worthOf_44 ?_
      refine lv_imul hx hb dX2_worthOf_47 ?_
      exact hr_i hx hb hr hlocks hh dX2_worthOf_48 (⟨by rw [f_X2_worthOf, if_pos c_1_1_0, if_pos c_33_2], rfl⟩)
  ·
    by_cases c_1_2_1 : o_ = 1
    ·
      refine lv_tableIn (off := 48) (tgt := 49) hx hb dX2_worthOf_1 (by rw [c_1_2_1]; decide) (by rw [c_1_2_1]; decide) (by rw [c_1_2_1]; rfl) (by decide) ?_
      refine lv_bipush (v := 68) hx hb dX2_worthOf_49 (by decide) ?_
      refine lv_aload_n hx hb dX2_worthOf_51 rfl (lv_at hl 0 rfl) ?_
      refine hg_get (C := RX2) (T := TX2) (N := 4) (ci := 2) (own := RX2) (index := 9) hx hb hts hiX2 hown hh fh0 rfl 0 (by decide) (hts (.fieldLink RX2 9 "BackhaulReturns$Product" "unitPrice" "I") (by decide +kernel)) rfl dX2_worthOf_52 ?_
      refine lv_imul hx hb dX2_worthOf_55 ?_
      refine lv_sipush (v := 5000) hx hb dX2_worthOf_56 (by decide) ?_
      refine lv_isub hx hb dX2_worthOf_59 ?_
      refine lv_aload_n hx hb dX2_worthOf_60 rfl (lv_at hl 0 rfl) ?_
      refine hk_i hh (va_runV (As := []) (rest := [.int ((68 * pr) - 5000)]) ⟨hx, hb, hml, hown, hts⟩ (c_X2_repairWorth l G z0 mm h0 pr sv rc ua fh0) (cwV 0 hts gX2_worthOf_X2_repairWorth rfl rfl rfl (by decide +kernel) ⟨Nat.le_of_ble_eq_true rfl, Nat.le_of_ble_eq_true rfl⟩) (hs_preV hh fh0 rfl) rfl rfl hl.1 rfl (lv_room (Nat.le_of_ble_eq_true rfl)) dX2_worthOf_61 ⟨Nat.le_of_ble_eq_true rfl, Nat.le_of_ble_eq_true rfl⟩) (fun r_61 m_61 H locs hp hh => ?_)
      obtain ⟨hr9, hm9⟩ := hp; subst hr9; have hm9 := hm9.symm; subst hm9
      refine lv_aload_n hx hb dX2_worthOf_64 rfl (lv_at hl 0 rfl) ?_
      refine hk_i hh (va_runV (As := []) (rest := [.int (f_X2_repairWorth pr rc), .int ((68 * pr) - 5000)]) ⟨hx, hb, hml, hown, hts⟩ (c_X2_salvageWorth l G z0 mm h0 pr sv rc ua fh0) (cwV 0 hts gX2_worthOf_X2_salvageWorth rfl rfl rfl (by decide +kernel) ⟨Nat.le_of_ble_eq_true rfl, Nat.le_of_ble_eq_true rfl⟩) (hs_preV hh fh0 rfl) rfl rfl hl.1 rfl (lv_room (Nat.le_of_ble_eq_true rfl)) dX2_worthOf_65 ⟨Nat.le_of_ble_eq_true rfl, Nat.le_of_ble_eq_true rfl⟩) (fun r_65 m_65 H locs hp hh => ?_)
      obtain ⟨hr9, hm9⟩ := hp; subst hr9; have hm9 := hm9.symm; subst hm9
      refine va_mmax (own := RX2) (index := 40) hx hb (hml.trans hl.1.symm) hown (hts (.methodLink RX2 40 Lib.Math.max.name) (by decide +kernel)) (hts (.static Lib.Math.max.name) (by decide +kernel)) (hts (.initialized "java/lang/Math") (by decide +kernel)) (hts (.code Lib.Math.max.name Lib.Math.max.code 2 (some .int)) (by decide +kernel)) (Nat.le_of_ble_eq_true rfl) (Nat.le_of_ble_eq_true rfl) (Nat.zero_le _) (Nat.zero_le _) dX2_worthOf_68 ?_
      refine lv_iconst (v := 5) hx hb dX2_worthOf_71 (by decide) ?_
      refine hk_i hh (va_runS (As := [.int (if (f_X2_repairWorth pr rc) < (f_X2_salvageWorth sv) then (f_X2_salvageWorth sv) else (f_X2_repairWorth pr rc)), .int 5]) (rest := [.int ((68 * pr) - 5000)]) ⟨hx, hb, hml, hown, hts⟩ (c_J9_floorDiv_7cf53 l G z0 mm (if (f_X2_repairWorth pr rc) < (f_X2_salvageWorth sv) then (f_X2_salvageWorth sv) else (f_X2_repairWorth pr rc)) 5 (by decide)) (va_cwS 2 hts gX2_worthOf_J9_floorDiv_7cf53 rfl rfl rfl (by decide +kernel) ⟨Nat.le_of_ble_eq_true rfl, Nat.le_of_ble_eq_true rfl⟩) (hs_preS hh) rfl rfl hl.1 rfl (lv_room (Nat.le_of_ble_eq_true rfl)) dX2_worthOf_72 ⟨Nat.le_of_ble_eq_true rfl, Nat.le_of_ble_eq_true rfl⟩) (fun r_72 m_72 H locs hp hh => ?_)
      obtain ⟨hr9, hm9⟩ := hp; subst hr9; have hm9 := hm9.symm; subst hm9
      refine lv_iadd hx hb dX2_worthOf_75 ?_
      exact hr_i hx hb hr hlocks hh dX2_worthOf_76 (⟨by rw [f_X2_worthOf, if_neg c_1_1_0, if_pos c_1_2_1], rfl⟩)
    ·
      by_cases c_1_2_2 : o_ = 2
      ·
        refine lv_tableIn (off := 76) (tgt := 77) hx hb dX2_worthOf_1 (by rw [c_1_2_2]; decide) (by rw [c_1_2_2]; decide) (by rw [c_1_2_2]; rfl) (by decide) ?_
        refine lv_aload_n hx hb dX2_worthOf_77 rfl (lv_at hl 0 rfl) ?_
        refine hk_i hh (va_runV (As := []) (rest := []) ⟨hx, hb, hml, hown, hts⟩ (c_X2_repairWorth l G z0 mm h0 pr sv rc ua fh0) (cwV 0 hts gX2_worthOf_X2_repairWorth rfl rfl rfl (by decide +kernel) ⟨Nat.le_of_ble_eq_true rfl, Nat.le_of_ble_eq_true rfl⟩) (hs_preV hh fh0 rfl) rfl rfl hl.1 rfl (lv_room (Nat.le_of_ble_eq_true rfl)) dX2_worthOf_78 ⟨Nat.le_of_ble_eq_true rfl, Nat.le_of_ble_eq_true rfl⟩) (fun r_78 m_78 H locs hp hh => ?_)
        obtain ⟨hr9, hm9⟩ := hp; subst hr9; have hm9 := hm9.symm; subst hm9
        exact hr_i hx hb hr hlocks hh dX2_worthOf_81 (⟨by rw [f_X2_worthOf, if_neg c_1_1_0, if_neg c_1_2_1, if_pos c_1_2_2], rfl⟩)
      ·
        by_cases c_1_2_3 : o_ = 3
        ·
          refine lv_tableIn (off := 81) (tgt := 82) hx hb dX2_worthOf_1 (by rw [c_1_2_3]; decide) (by rw [c_1_2_3]; decide) (by rw [c_1_2_3]; rfl) (by decide) ?_
          refine lv_aload_n hx hb dX2_worthOf_82 rfl (lv_at hl 0 rfl) ?_
          refine hk_i hh (va_runV (As := []) (rest := []) ⟨hx, hb, hml, hown, hts⟩ (c_X2_salvageWorth l G z0 mm h0 pr sv rc ua fh0) (cwV 0 hts gX2_worthOf_X2_salvageWorth rfl rfl rfl (by decide +kernel) ⟨Nat.le_of_ble_eq_true rfl, Nat.le_of_ble_eq_true rfl⟩) (hs_preV hh fh0 rfl) rfl rfl hl.1 rfl (lv_room (Nat.le_of_ble_eq_true rfl)) dX2_worthOf_83 ⟨Nat.le_of_ble_eq_true rfl, Nat.le_of_ble_eq_true rfl⟩) (fun r_83 m_83 H locs hp hh => ?_)
          obtain ⟨hr9, hm9⟩ := hp; subst hr9; have hm9 := hm9.symm; subst hm9
          exact hr_i hx hb hr hlocks hh dX2_worthOf_86 (⟨by rw [f_X2_worthOf, if_neg c_1_1_0, if_neg c_1_2_1, if_neg c_1_2_2, if_pos c_1_2_3], rfl⟩)
        ·
          refine lv_tableOut (tgt := 87) hx hb dX2_worthOf_1 (by have q0 := lv_neT c_1_1_0 (a := 0) (by decide); have q1 := lv_neT c_1_2_1 (a := 1) (by decide); have q2 := lv_neT c_1_2_2 (a := 2) (by decide); have q3 := lv_neT c_1_2_3 (a := 3) (by decide); omega) (by decide) ?_
          refine lv_bipush (v := 60) hx hb dX2_worthOf_87 (by decide) ?_
          refine lv_aload_n hx hb dX2_worthOf_89 rfl (lv_at hl 0 rfl) ?_
          refine hg_get (C := RX2) (T := TX2) (N := 4) (ci := 2) (own := RX2) (index := 9) hx hb hts hiX2 hown hh fh0 rfl 0 (by decide) (hts (.fieldLink RX2 9 "BackhaulReturns$Product" "unitPrice" "I") (by decide +kernel)) rfl dX2_worthOf_90 ?_
          refine lv_imul hx hb dX2_worthOf_93 ?_
          exact hr_i hx hb hr hlocks hh dX2_worthOf_94 (⟨by rw [f_X2_worthOf, if_neg c_1_1_0, if_neg c_1_2_1, if_neg c_1_2_2, if_neg c_1_2_3], rfl⟩)
def f_X2_unitsAt (st : Nat → Int32) (pl : Int32) : Int32 := if pl < 0 then 0 else (if 5 ≤ pl then 0 else (st pl.toNatClampNeg))
set_option maxHeartbeats 4000000 in
set_option maxRecDepth 100000 in
theorem c_X2_unitsAt (l : Launch) (G : hG) (z0 : Nat) (mm : hM) (h0 : Nat) (pr : Int32) (sv : Int32) (rc : Int32) (ua : Nat) (st : Nat → Int32) (pl : Int32) (fh0 : mm h0 = some (.inr (2, [.int pr, .int sv, .int rc, .ref ua]))) (fua : mm ua = some (eI G 5 st)) : Met l yX2_unitsAt wsX2_unitsAt ({ frames := 0, cells := 0, slots := 0, locals := 0 }) (hPre G z0 mm [.ref h0, .int pl]) (hQi G z0 (fun r m' => r = f_X2_unitsAt st pl ∧ m' = mm)) 0 0 (h_ge z0) := by
  refine hm_of (cc := cX2_unitsAt) (maxL := 2) (ret := (some .int)) (by decide) rfl (Nat.le_of_ble_eq_true rfl) ?_
  intro p e s m below meth c ls hx hb hr hts hown hlocks hml hin hh hl
  have hl : lv_has ls 2 [(0, .ref h0), (1, .int pl)] := hl
  have hiX2 : ∀ w ∈ u_ws RX2 TX2 4, w ∈ wsX2_unitsAt := by decide +kernel
  refine lv_iload_n hx hb dX2_unitsAt_0 rfl (lv_at hl 1 rfl) ?_
  refine lv_if_lt (tgt := 22) hx hb dX2_unitsAt_1 (by decide) (fun c_1_1 => ?_) (fun c_1_1 => ?_)
  ·
    refine lv_iconst (v := 0) hx hb dX2_unitsAt_22 (by decide) ?_
    exact hr_i hx hb hr hlocks hh dX2_unitsAt_23 (⟨by rw [f_X2_unitsAt, if_pos c_1_1], rfl⟩)
  ·
    refine lv_iload_n hx hb dX2_unitsAt_4 rfl (lv_at hl 1 rfl) ?_
    refine lv_aload_n hx hb dX2_unitsAt_5 rfl (lv_at hl 0 rfl) ?_
    refine hg_get (C := RX2) (T := TX2) (N := 4) (ci := 2) (own := RX2) (index := 21) hx hb hts hiX2 hown hh fh0 rfl 3 (by decide) (hts (.fieldLink RX2 21 "BackhaulReturns$Product" "unitsByPlace" "[I") (by decide +kernel)) rfl dX2_unitsAt_6 ?_
    refine hg_alen (v := 5) hx hb hh 0 fua rfl rfl dX2_unitsAt_9 ?_
    refine lv_icmp_ge (tgt := 22) hx hb dX2_unitsAt_10 (by decide) (fun c_10_2 => ?_) (fun c_10_2 => ?_)
    ·
      refine lv_iconst (v := 0) hx hb dX2_unitsAt_22 (by decide) ?_
      exact hr_i hx hb hr hlocks hh dX2_unitsAt_23 (⟨by rw [f_X2_unitsAt, if_neg c_1_1, if_pos c_10_2], rfl⟩)
    ·
      refine lv_aload_n hx hb dX2_unitsAt_13 rfl (lv_at hl 0 rfl) ?_
      refine hg_get (C := RX2) (T := TX2) (N := 4) (ci := 2) (own := RX2) (index := 21) hx hb hts hiX2 hown hh fh0 rfl 3 (by decide) (hts (.fieldLink RX2 21 "BackhaulReturns$Product" "unitsByPlace" "[I") (by decide +kernel)) rfl dX2_unitsAt_14 ?_
      refine lv_iload_n hx hb dX2_unitsAt_17 rfl (lv_at hl 1 rfl) ?_
      refine hg_iald hx hb hh fua (hp_in (k := 5) (by assumption) (by assumption) (by decide)) dX2_unitsAt_18 ?_
      refine lv_goto (tgt := 23) hx hb dX2_unitsAt_19 (by decide) ?_
      exact hr_i hx hb hr hlocks hh dX2_unitsAt_23 (⟨by rw [f_X2_unitsAt, if_neg c_1_1, if_neg c_10_2], rfl⟩)
def f_X2_move (G : hG) (mm : hM) (ua : Nat) (st : Nat → Int32) (pl : Int32) (un : Int32) : hM := if pl < 0 then mm else (if 5 ≤ pl then mm else (hu mm ua (eI G 5 (upd st (pl.toNatClampNeg) ((st pl.toNatClampNeg) + un)))))
set_option maxHeartbeats 4000000 in
set_option maxRecDepth 100000 in
theorem c_X2_move (l : Launch) (G : hG) (z0 : Nat) (mm : hM) (h0 : Nat) (pr : Int32) (sv : Int32) (rc : Int32) (ua : Nat) (st : Nat → Int32) (pl : Int32) (un : Int32) (fh0 : mm h0 = some (.inr (2, [.int pr, .int sv, .int rc, .ref ua]))) (fua : mm ua = some (eI G 5 st)) : Met l yX2_move wsX2_move ({ frames := 0, cells := 0, slots := 0, locals := 0 }) (hPre G z0 mm [.ref h0, .int pl, .int un]) (hQv G z0 (fun m' => m' = f_X2_move G mm ua st pl un)) 0 0 (h_ge z0) := by
  refine hm_of (cc := cX2_move) (maxL := 3) (ret := none) (by decide) rfl (Nat.le_of_ble_eq_true rfl) ?_
  intro p e s m below meth c ls hx hb hr hts hown hlocks hml hin hh hl
  have hl : lv_has ls 3 [(0, .ref h0), (1, .int pl), (2, .int un)] := hl
  have hiX2 : ∀ w ∈ u_ws RX2 TX2 4, w ∈ wsX2_move := by decide +kernel
  refine lv_iload_n hx hb dX2_move_0 rfl (lv_at hl 1 rfl) ?_
  refine lv_if_lt (tgt := 23) hx hb dX2_move_1 (by decide) (fun c_1_1 => ?_) (fun c_1_1 => ?_)
  ·
    exact hr_v hx hb hr hlocks hh dX2_move_23 (by rw [f_X2_move, if_pos c_1_1])
  ·
    refine lv_iload_n hx hb dX2_move_4 rfl (lv_at hl 1 rfl) ?_
    refine lv_aload_n hx hb dX2_move_5 rfl (lv_at hl 0 rfl) ?_
    refine hg_get (C := RX2) (T := TX2) (N := 4) (ci := 2) (own := RX2) (index := 21) hx hb hts hiX2 hown hh fh0 rfl 3 (by decide) (hts (.fieldLink RX2 21 "BackhaulReturns$Product" "unitsByPlace" "[I") (by decide +kernel)) rfl dX2_move_6 ?_
    refine hg_alen (v := 5) hx hb hh 0 fua rfl rfl dX2_move_9 ?_
    refine lv_icmp_ge (tgt := 23) hx hb dX2_move_10 (by decide) (fun c_10_2 => ?_) (fun c_10_2 => ?_)
    ·
      exact hr_v hx hb hr hlocks hh dX2_move_23 (by rw [f_X2_move, if_neg c_1_1, if_pos c_10_2])
    ·
      refine lv_aload_n hx hb dX2_move_13 rfl (lv_at hl 0 rfl) ?_
      refine hg_get (C := RX2) (T := TX2) (N := 4) (ci := 2) (own := RX2) (index := 21) hx hb hts hiX2 hown hh fh0 rfl 3 (by decide) (hts (.fieldLink RX2 21 "BackhaulReturns$Product" "unitsByPlace" "[I") (by decide +kernel)) rfl dX2_move_14 ?_
      refine lv_iload_n hx hb dX2_move_17 rfl (lv_at hl 1 rfl) ?_
      refine lv_dup2_11 hx hb dX2_move_18 rfl rfl ?_
      refine hg_iald hx hb hh fua (hp_in (k := 5) (by assumption) (by assumption) (by decide)) dX2_move_19 ?_
      refine lv_iload_n hx hb dX2_move_20 rfl (lv_at hl 2 rfl) ?_
      refine lv_iadd hx hb dX2_move_21 ?_
      refine hg_iast hx hb hh fua (hp_in (k := 5) (by assumption) (by assumption) (by decide)) dX2_move_22 (fun H locs hh => ?_)
      exact hr_v hx hb hr hlocks hh dX2_move_23 (by rw [f_X2_move, if_neg c_1_1, if_neg c_10_2])
def f_X1_goodsOf (lp : Int32) (un : Int32) : Int32 := (un * lp)
set_option maxHeartbeats 4000000 in
set_option maxRecDepth 100000 in
theorem c_X1_goodsOf (l : Launch) (G : hG) (z0 : Nat) (mm : hM) (h0 : Nat) (pa : Nat) (q_ : Int32) (k_ : Int32) (lp : Int32) (un : Int32) (fh0 : mm h0 = some (.inr (1, [.ref pa, .int q_, .int k_, .int lp]))) : Met l yX1_goodsOf wsX1_goodsOf ({ frames := 0, cells := 0, slots := 0, locals := 0 }) (hPre G z0 mm [.ref h0, .int un]) (hQi G z0 (fun r m' => r = f_X1_goodsOf lp un ∧ m' = mm)) 0 0 (h_ge z0) := by
  refine hm_of (cc := cX1_goodsOf) (maxL := 2) (ret := (some .int)) (by decide) rfl (Nat.le_of_ble_eq_true rfl) ?_
  intro p e s m below meth c ls hx hb hr hts hown hlocks hml hin hh hl
  have hl : lv_has ls 2 [(0, .ref h0), (1, .int un)] := hl
  have hiX1 : ∀ w ∈ u_ws RX1 TX1 4, w ∈ wsX1_goodsOf := by decide +kernel
  refine lv_iload_n hx hb dX1_goodsOf_0 rfl (lv_at hl 1 rfl) ?_
  refine lv_aload_n hx hb dX1_goodsOf_1 rfl (lv_at hl 0 rfl) ?_
  refine hg_get (C := RX1) (T := TX1) (N := 4) (ci := 1) (own := RX1) (index := 22) hx hb hts hiX1 hown hh fh0 rfl 3 (by decide) (hts (.fieldLink RX1 22 "BackhaulReturns$Line" "linePrice" "I") (by decide +kernel)) rfl dX1_goodsOf_2 ?_
  refine lv_imul hx hb dX1_goodsOf_5 ?_
  exact hr_i hx hb hr hlocks hh dX1_goodsOf_6 (⟨by rw [f_X1_goodsOf], rfl⟩)
end
section
theorem hq_cl {i : Int32} {n : Nat} (h : vp_in i n) : i.toNatClampNeg < n := Nat.not_le.mp fun q => h (Or.inr q)
theorem hq_isIn {v lo hi : Int32} : ¬ f_X5_isIn v lo hi = 0 ↔ lo.toInt ≤ v.toInt ∧ v.toInt ≤ hi.toInt := by
  unfold f_X5_isIn
  simp only [Int32.lt_iff_toInt_lt]
  constructor
  · intro h
    split at h
    · simp at h
    · split at h
      · simp at h
      · omega
  · rintro ⟨h1, h2⟩
    rw [if_neg (by omega), if_neg (by omega)]
    decide
theorem hq_sub1 {x : Int32} {n : Int} (h : 0 ≤ x.toInt ∧ x.toInt ≤ n) (hn : n < 1000000) : (x - 1).toInt = x.toInt - 1 := by
  rw [Int32.toInt_sub]
  rw [show (1 : Int32).toInt = 1 from by decide]
  exact Int.bmod_eq_of_le (by omega) (by omega)
def f_X5_thrown (th : Int32) : Int32 := th
set_option maxHeartbeats 4000000 in
set_option maxRecDepth 100000 in
theorem c_X5_thrown (l : Launch) (G : hG) (z0 : Nat) (mm : hM) (y : Nat) (b : Nat) (day : Int32) (sn : Int32) (bk : Int32) (fe : Int32) (th : Int32) (fy : mm y = some (.inr (5, [.ref b, .ref (b + 1), .ref (b + 2), .ref (b + 3), .int day, .ref (b + 4), .ref (b + 5), .ref (b + 6), .ref (b + 7), .ref (b + 8), .ref (b + 9), .ref (b + 10), .int sn, .ref (b + 11), .ref (b + 12), .ref (b + 13), .ref (b + 14), .ref (b + 15), .ref (b + 16), .ref (b + 17), .int bk, .int fe, .ref (b + 18), .ref (b + 19), .int th]))) (hyb : y < b) : Met l yX5_thrown wsX5_thrown ({ frames := 0, cells := 0, slots := 0, locals := 0 }) (hPre G z0 mm [.ref y]) (hQi G z0 (fun r m' => r = f_X5_thrown th ∧ m' = mm)) 0 0 (h_ge z0) := by
  refine hm_of (cc := cX5_thrown) (maxL := 1) (ret := (some .int)) (by decide) rfl (Nat.le_of_ble_eq_true rfl) ?_
  intro p e s m below meth c ls hx hb hr hts hown hlocks hml hin hh hl
  have hl : lv_has ls 1 [(0, .ref y)] := hl
  have hiX5 : ∀ w ∈ u_ws RX5 TX5 25, w ∈ wsX5_thrown := by decide +kernel
  refine lv_aload_n hx hb dX5_thrown_0 rfl (lv_at hl 0 rfl) ?_
  refine hg_get (C := RX5) (T := TX5) (N := 25) (ci := 5) (own := RX5) (index := 72) hx hb hts hiX5 hown hh fy rfl 24 (by decide) (hts (.fieldLink RX5 72 "BackhaulReturnsModel" "thrown" "I") (by decide +kernel)) rfl dX5_thrown_1 ?_
  exact hr_i hx hb hr hlocks hh dX5_thrown_4 (⟨by rw [f_X5_thrown], rfl⟩)
def f_X5_goes (which : Int32) : Int32 := if which = 0 then 1 else 0
set_option maxHeartbeats 4000000 in
set_option maxRecDepth 100000 in
theorem c_X5_goes (l : Launch) (G : hG) (z0 : Nat) (mm : hM) (y : Nat) (b : Nat) (day : Int32) (sn : Int32) (bk : Int32) (fe : Int32) (th : Int32) (which : Int32) (fy : mm y = some (.inr (5, [.ref b, .ref (b + 1), .ref (b + 2), .ref (b + 3), .int day, .ref (b + 4), .ref (b + 5), .ref (b + 6), .ref (b + 7), .ref (b + 8), .ref (b + 9), .ref (b + 10), .int sn, .ref (b + 11), .ref (b + 12), .ref (b + 13), .ref (b + 14), .ref (b + 15), .ref (b + 16), .ref (b + 17), .int bk, .int fe, .ref (b + 18), .ref (b + 19), .int th]))) (hyb : y < b) : Met l yX5_goes wsX5_goes ({ frames := 0, cells := 0, slots := 0, locals := 0 }) (hPre G z0 mm [.ref y, .int which]) (hQi G z0 (fun r m' => r = f_X5_goes which ∧ m' = (hu mm y (.inr (5, [.ref b, .ref (b + 1), .ref (b + 2), .ref (b + 3), .int day, .ref (b + 4), .ref (b + 5), .ref (b + 6), .ref (b + 7), .ref (b + 8), .ref (b + 9), .ref (b + 10), .int sn, .ref (b + 11), .ref (b + 12), .ref (b + 13), .ref (b + 14), .ref (b + 15), .ref (b + 16), .ref (b + 17), .int bk, .int fe, .ref (b + 18), .ref (b + 19), .int which]))))) 0 0 (h_ge z0) := by
  refine hm_of (cc := cX5_goes) (maxL := 2) (ret := (some .boolean)) (by decide) rfl (Nat.le_of_ble_eq_true rfl) ?_
  intro p e s m below meth c ls hx hb hr hts hown hlocks hml hin hh hl
  have hl : lv_has ls 2 [(0, .ref y), (1, .int which)] := hl
  have hiX5 : ∀ w ∈ u_ws RX5 TX5 25, w ∈ wsX5_goes := by decide +kernel
  refine lv_aload_n hx hb dX5_goes_0 rfl (lv_at hl 0 rfl) ?_
  refine lv_iload_n hx hb dX5_goes_1 rfl (lv_at hl 1 rfl) ?_
  refine hg_put (C := RX5) (T := TX5) (N := 25) (ci := 5) (own := RX5) (index := 72) hx hb hts hiX5 tyX5 tyX5_ok nmX5 hown hh fy rfl 24 (by decide) (hts (.fieldLink RX5 72 "BackhaulReturnsModel" "thrown" "I") (by decide +kernel)) rfl rfl rfl (Nat.le_of_ble_eq_true rfl) rfl dX5_goes_2 (fun H locs hz hh => ?_)
  refine lv_iload_n hx hb dX5_goes_5 rfl (lv_at hl 1 rfl) ?_
  refine lv_if_ne (tgt := 13) hx hb dX5_goes_6 (by decide) (fun c_6_1 => ?_) (fun c_6_1 => ?_)
  ·
    refine lv_iconst (v := 0) hx hb dX5_goes_13 (by decide) ?_
    exact hr_z hx hb hr hlocks hh rfl dX5_goes_14 (⟨by rw [f_X5_goes, if_neg c_6_1], rfl⟩)
  ·
    refine lv_iconst (v := 1) hx hb dX5_goes_9 (by decide) ?_
    refine lv_goto (tgt := 14) hx hb dX5_goes_10 (by decide) ?_
    exact hr_z hx hb hr hlocks hh rfl dX5_goes_14 (⟨by rw [f_X5_goes, if_pos c_6_1], rfl⟩)
def f_X5_isSale (sn : Int32) (sale : Int32) : Int32 := (f_X5_isIn sale 0 (sn - 1))
set_option maxHeartbeats 4000000 in
set_option maxRecDepth 100000 in
theorem c_X5_isSale (l : Launch) (G : hG) (z0 : Nat) (mm : hM) (y : Nat) (b : Nat) (day : Int32) (sn : Int32) (bk : Int32) (fe : Int32) (th : Int32) (sale : Int32) (fy : mm y = some (.inr (5, [.ref b, .ref (b + 1), .ref (b + 2), .ref (b + 3), .int day, .ref (b + 4), .ref (b + 5), .ref (b + 6), .ref (b + 7), .ref (b + 8), .ref (b + 9), .ref (b + 10), .int sn, .ref (b + 11), .ref (b + 12), .ref (b + 13), .ref (b + 14), .ref (b + 15), .ref (b + 16), .ref (b + 17), .int bk, .int fe, .ref (b + 18), .ref (b + 19), .int th]))) (hyb : y < b) : Met l yX5_isSale wsX5_isSale ({ frames := 1, cells := 0, slots := 0, locals := 22 }) (hPre G z0 mm [.ref y, .int sale]) (hQi G z0 (fun r m' => r = f_X5_isSale sn sale ∧ m' = mm)) 0 0 (h_ge z0) := by
  refine hm_of (cc := cX5_isSale) (maxL := 2) (ret := (some .boolean)) (by decide) rfl (Nat.le_of_ble_eq_true rfl) ?_
  intro p e s m below meth c ls hx hb hr hts hown hlocks hml hin hh hl
  have hl : lv_has ls 2 [(0, .ref y), (1, .int sale)] := hl
  have hiX5 : ∀ w ∈ u_ws RX5 TX5 25, w ∈ wsX5_isSale := by decide +kernel
  refine lv_iload_n hx hb dX5_isSale_0 rfl (lv_at hl 1 rfl) ?_
  refine lv_iconst (v := 0) hx hb dX5_isSale_1 (by decide) ?_
  refine lv_aload_n hx hb dX5_isSale_2 rfl (lv_at hl 0 rfl) ?_
  refine hg_get (C := RX5) (T := TX5) (N := 25) (ci := 5) (own := RX5) (index := 80) hx hb hts hiX5 hown hh fy rfl 12 (by decide) (hts (.fieldLink RX5 80 "BackhaulReturnsModel" "sales" "I") (by decide +kernel)) rfl dX5_isSale_3 ?_
  refine lv_iconst (v := 1) hx hb dX5_isSale_6 (by decide) ?_
  refine lv_isub hx hb dX5_isSale_7 ?_
  refine hk_i hh (va_runS (As := [.int sale, .int 0, .int (sn - 1)]) (rest := []) ⟨hx, hb, hml, hown, hts⟩ (c_X5_isIn l G z0 mm sale 0 (sn - 1)) (va_cwS 3 hts gX5_isSale_X5_isIn rfl rfl rfl (by decide +kernel) ⟨Nat.le_of_ble_eq_true rfl, Nat.le_of_ble_eq_true rfl⟩) (hs_preS hh) rfl rfl hl.1 rfl (lv_room (Nat.le_of_ble_eq_true rfl)) dX5_isSale_8 ⟨Nat.le_of_ble_eq_true rfl, Nat.le_of_ble_eq_true rfl⟩) (fun r_8 m_8 H locs hp hh => ?_)
  obtain ⟨hr9, hm9⟩ := hp; subst hr9; have hm9 := hm9.symm; subst hm9
  exact hr_z hx hb hr hlocks hh (by unfold f_X5_isIn; (repeat' split) <;> rfl) dX5_isSale_11 (⟨by rw [f_X5_isSale], rfl⟩)

theorem hq_sale' {sn sale : Int32} (hn : 0 ≤ sn.toInt ∧ sn.toInt ≤ 40) : ¬ f_X5_isSale sn sale = 0 ↔ 0 ≤ sale.toInt ∧ sale.toInt < sn.toInt := by
  unfold f_X5_isSale
  rw [hq_isIn, hq_sub1 hn (by omega), show (0 : Int32).toInt = 0 from by decide]
  omega
theorem hq_sale {sn sale : Int32} (h : ¬ f_X5_isSale sn sale = 0) (hn : 0 ≤ sn.toInt ∧ sn.toInt ≤ 40) : vp_in sale 40 := by
  have h1 := (hq_sale' hn).mp h
  exact vp_in_iff.mpr ⟨h1.1, by omega⟩
def f_X5_isLine (sn : Int32) (vZ : Nat → Int32) (sale : Int32) (line : Int32) : Int32 := if (f_X5_isSale sn sale) = 0 then 0 else (if (f_X5_isIn line 0 ((vZ sale.toNatClampNeg) - 1)) = 0 then 0 else 1)
set_option maxHeartbeats 4000000 in
set_option maxRecDepth 100000 in
theorem c_X5_isLine (l : Launch) (G : hG) (z0 : Nat) (mm : hM) (y : Nat) (b : Nat) (day : Int32) (sn : Int32) (bk : Int32) (fe : Int32) (th : Int32) (vZ : Nat → Int32) (sale : Int32) (line : Int32) (fy : mm y = some (.inr (5, [.ref b, .ref (b + 1), .ref (b + 2), .ref (b + 3), .int day, .ref (b + 4), .ref (b + 5), .ref (b + 6), .ref (b + 7), .ref (b + 8), .ref (b + 9), .ref (b + 10), .int sn, .ref (b + 11), .ref (b + 12), .ref (b + 13), .ref (b + 14), .ref (b + 15), .ref (b + 16), .ref (b + 17), .int bk, .int fe, .ref (b + 18), .ref (b + 19), .int th]))) (fvZ : mm (b + 5) = some (eI G 40 vZ)) (hyb : y < b) (hn : 0 ≤ sn.toInt ∧ sn.toInt ≤ 40) : Met l yX5_isLine wsX5_isLine ({ frames := 2, cells := 0, slots := 0, locals := 43 }) (hPre G z0 mm [.ref y, .int sale, .int line]) (hQi G z0 (fun r m' => r = f_X5_isLine sn vZ sale line ∧ m' = mm)) 0 0 (h_ge z0) := by
  refine hm_of (cc := cX5_isLine) (maxL := 3) (ret := (some .boolean)) (by decide) rfl (Nat.le_of_ble_eq_true rfl) ?_
  intro p e s m below meth c ls hx hb hr hts hown hlocks hml hin hh hl
  have hl : lv_has ls 3 [(0, .ref y), (1, .int sale), (2, .int line)] := hl
  have hiX5 : ∀ w ∈ u_ws RX5 TX5 25, w ∈ wsX5_isLine := by decide +kernel
  refine lv_aload_n hx hb dX5_isLine_0 rfl (lv_at hl 0 rfl) ?_
  refine lv_iload_n hx hb dX5_isLine_1 rfl (lv_at hl 1 rfl) ?_
  refine hk_i hh (va_runV (As := [.int sale]) (rest := []) ⟨hx, hb, hml, hown, hts⟩ (c_X5_isSale l G z0 mm y b day sn bk fe th sale fy hyb) (cwV 1 hts gX5_isLine_X5_isSale rfl rfl rfl (by decide +kernel) ⟨Nat.le_of_ble_eq_true rfl, Nat.le_of_ble_eq_true rfl⟩) (hs_preV hh fy rfl) rfl rfl hl.1 rfl (lv_room (Nat.le_of_ble_eq_true rfl)) dX5_isLine_2 ⟨Nat.le_of_ble_eq_true rfl, Nat.le_of_ble_eq_true rfl⟩) (fun r_2 m_2 H locs hp hh => ?_)
  obtain ⟨hr9, hm9⟩ := hp; subst hr9; have hm9 := hm9.symm; subst hm9
  refine lv_if_eq (tgt := 28) hx hb dX5_isLine_5 (by decide) (fun c_5_1 => ?_) (fun c_5_1 => ?_)
  ·
    refine lv_iconst (v := 0) hx hb dX5_isLine_28 (by decide) ?_
    exact hr_z hx hb hr hlocks hh rfl dX5_isLine_29 (⟨by rw [f_X5_isLine, if_pos c_5_1], rfl⟩)
  ·
    refine lv_iload_n hx hb dX5_isLine_8 rfl (lv_at hl 2 rfl) ?_
    refine lv_iconst (v := 0) hx hb dX5_isLine_9 (by decide) ?_
    refine lv_aload_n hx hb dX5_isLine_10 rfl (lv_at hl 0 rfl) ?_
    refine hg_get (C := RX5) (T := TX5) (N := 25) (ci := 5) (own := RX5) (index := 25) hx hb hts hiX5 hown hh fy rfl 6 (by decide) (hts (.fieldLink RX5 25 "BackhaulReturnsModel" "sizes" "[I") (by decide +kernel)) rfl dX5_isLine_11 ?_
    refine lv_iload_n hx hb dX5_isLine_14 rfl (lv_at hl 1 rfl) ?_
    refine hg_iald hx hb hh fvZ (hq_sale c_5_1 hn) dX5_isLine_15 ?_
    refine lv_iconst (v := 1) hx hb dX5_isLine_16 (by decide) ?_
    refine lv_isub hx hb dX5_isLine_17 ?_
    refine hk_i hh (va_runS (As := [.int line, .int 0, .int ((vZ sale.toNatClampNeg) - 1)]) (rest := []) ⟨hx, hb, hml, hown, hts⟩ (c_X5_isIn l G z0 mm line 0 ((vZ sale.toNatClampNeg) - 1)) (va_cwS 3 hts gX5_isLine_X5_isIn rfl rfl rfl (by decide +kernel) ⟨Nat.le_of_ble_eq_true rfl, Nat.le_of_ble_eq_true rfl⟩) (hs_preS hh) rfl rfl hl.1 rfl (lv_room (Nat.le_of_ble_eq_true rfl)) dX5_isLine_18 ⟨Nat.le_of_ble_eq_true rfl, Nat.le_of_ble_eq_true rfl⟩) (fun r_18 m_18 H locs hp hh => ?_)
    obtain ⟨hr9, hm9⟩ := hp; subst hr9; have hm9 := hm9.symm; subst hm9
    refine lv_if_eq (tgt := 28) hx hb dX5_isLine_21 (by decide) (fun c_21_2 => ?_) (fun c_21_2 => ?_)
    ·
      refine lv_iconst (v := 0) hx hb dX5_isLine_28 (by decide) ?_
      exact hr_z hx hb hr hlocks hh rfl dX5_isLine_29 (⟨by rw [f_X5_isLine, if_neg c_5_1, if_pos c_21_2], rfl⟩)
    ·
      refine lv_iconst (v := 1) hx hb dX5_isLine_24 (by decide) ?_
      refine lv_goto (tgt := 29) hx hb dX5_isLine_25 (by decide) ?_
      exact hr_z hx hb hr hlocks hh rfl dX5_isLine_29 (⟨by rw [f_X5_isLine, if_neg c_5_1, if_neg c_21_2], rfl⟩)

theorem hq_line {sn : Int32} {vZ : Nat → Int32} {sale line : Int32} (hn : 0 ≤ sn.toInt ∧ sn.toInt ≤ 40) (hz : ∀ k : Nat, k < 40 → 0 ≤ (vZ k).toInt ∧ (vZ k).toInt ≤ 6) : ¬ f_X5_isLine sn vZ sale line = 0 ↔ (0 ≤ sale.toInt ∧ sale.toInt < sn.toInt) ∧ 0 ≤ line.toInt ∧ line.toInt < (vZ sale.toNatClampNeg).toInt := by
  unfold f_X5_isLine
  by_cases h : f_X5_isSale sn sale = 0
  · rw [if_pos h]
    constructor
    · intro q; exact absurd rfl q
    · intro q; exact absurd h ((hq_sale' hn).mpr q.1)
  · rw [if_neg h]
    have h1 := hz _ (hq_cl (hq_sale h hn))
    have h2 := (hq_sale' hn).mp h
    by_cases h3 : f_X5_isIn line 0 ((vZ sale.toNatClampNeg) - 1) = 0
    · rw [if_pos h3]
      constructor
      · intro q; exact absurd rfl q
      · intro q
        exact absurd h3 (hq_isIn.mpr (by rw [hq_sub1 h1 (by omega), show (0 : Int32).toInt = 0 from by decide]; omega))
    · rw [if_neg h3]
      have h4 := hq_isIn.mp h3
      rw [hq_sub1 h1 (by omega), show (0 : Int32).toInt = 0 from by decide] at h4
      exact ⟨fun _ => ⟨h2, by omega⟩, fun _ => by decide⟩
theorem hq_line1 {sn : Int32} {vZ : Nat → Int32} {sale line : Int32} (h : ¬ f_X5_isLine sn vZ sale line = 0) (hn : 0 ≤ sn.toInt ∧ sn.toInt ≤ 40) : vp_in sale 40 := by
  by_cases h1 : f_X5_isSale sn sale = 0
  · unfold f_X5_isLine at h
    rw [if_pos h1] at h
    exact absurd rfl h
  · exact hq_sale h1 hn
theorem hq_6 {sale : Int32} (h : vp_in sale 40) : (6 * sale).toInt = 6 * sale.toInt := by
  have := vp_in_iff.mp h
  rw [Int32.toInt_mul, show (6 : Int32).toInt = 6 from by decide]
  exact Int.bmod_eq_of_le (by omega) (by omega)
theorem hq_lnI {sale line : Int32} (h : vp_in sale 40) (h1 : 0 ≤ line.toInt) (h2 : line.toInt < 6) : ((6 * sale) + line).toInt = 6 * sale.toInt + line.toInt := by
  have := vp_in_iff.mp h
  rw [Int32.toInt_add, hq_6 h]
  exact Int.bmod_eq_of_le (by omega) (by omega)
theorem hq_ln {sale line : Int32} (h : vp_in sale 40) (h1 : 0 ≤ line.toInt) (h2 : line.toInt < 6) : vp_in ((6 * sale) + line) 240 := by
  have := vp_in_iff.mp h
  have e := hq_lnI h h1 h2
  exact vp_in_iff.mpr ⟨by omega, by omega⟩
theorem hq_line2 {sn : Int32} {vZ : Nat → Int32} {sale line : Int32} (h : ¬ f_X5_isLine sn vZ sale line = 0) (hn : 0 ≤ sn.toInt ∧ sn.toInt ≤ 40) (hz : ∀ k : Nat, k < 40 → 0 ≤ (vZ k).toInt ∧ (vZ k).toInt ≤ 6) : vp_in ((6 * sale) + line) 240 := by
  have h1 := (hq_line hn hz).mp h
  have h2 := hz _ (hq_cl (hq_line1 h hn))
  exact hq_ln (hq_line1 h hn) h1.2.1 (by omega)
def f_X5_isOpen (vD : Nat → Int32) (sale : Int32) : Int32 := if (vD sale.toNatClampNeg) = (-1) then 1 else 0
set_option maxHeartbeats 4000000 in
set_option maxRecDepth 100000 in
theorem c_X5_isOpen (l : Launch) (G : hG) (z0 : Nat) (mm : hM) (y : Nat) (b : Nat) (day : Int32) (sn : Int32) (bk : Int32) (fe : Int32) (th : Int32) (vD : Nat → Int32) (sale : Int32) (fy : mm y = some (.inr (5, [.ref b, .ref (b + 1), .ref (b + 2), .ref (b + 3), .int day, .ref (b + 4), .ref (b + 5), .ref (b + 6), .ref (b + 7), .ref (b + 8), .ref (b + 9), .ref (b + 10), .int sn, .ref (b + 11), .ref (b + 12), .ref (b + 13), .ref (b + 14), .ref (b + 15), .ref (b + 16), .ref (b + 17), .int bk, .int fe, .ref (b + 18), .ref (b + 19), .int th]))) (fvD : mm (b + 6) = some (eI G 40 vD)) (hyb : y < b) (hsl : vp_in sale 40) : Met l yX5_isOpen wsX5_isOpen ({ frames := 0, cells := 0, slots := 0, locals := 0 }) (hPre G z0 mm [.ref y, .int sale]) (hQi G z0 (fun r m' => r = f_X5_isOpen vD sale ∧ m' = mm)) 0 0 (h_ge z0) := by
  refine hm_of (cc := cX5_isOpen) (maxL := 2) (ret := (some .boolean)) (by decide) rfl (Nat.le_of_ble_eq_true rfl) ?_
  intro p e s m below meth c ls hx hb hr hts hown hlocks hml hin hh hl
  have hl : lv_has ls 2 [(0, .ref y), (1, .int sale)] := hl
  have hiX5 : ∀ w ∈ u_ws RX5 TX5 25, w ∈ wsX5_isOpen := by decide +kernel
  refine lv_aload_n hx hb dX5_isOpen_0 rfl (lv_at hl 0 rfl) ?_
  refine hg_get (C := RX5) (T := TX5) (N := 25) (ci := 5) (own := RX5) (index := 28) hx hb hts hiX5 hown hh fy rfl 7 (by decide) (hts (.fieldLink RX5 28 "BackhaulReturnsModel" "days" "[I") (by decide +kernel)) rfl dX5_isOpen_1 ?_
  refine lv_iload_n hx hb dX5_isOpen_4 rfl (lv_at hl 1 rfl) ?_
  refine hg_iald hx hb hh fvD hsl dX5_isOpen_5 ?_
  refine lv_iconst (v := (-1)) hx hb dX5_isOpen_6 (by decide) ?_
  refine lv_icmp_ne (tgt := 14) hx hb dX5_isOpen_7 (by decide) (fun c_7_1 => ?_) (fun c_7_1 => ?_)
  ·
    refine lv_iconst (v := 0) hx hb dX5_isOpen_14 (by decide) ?_
    exact hr_z hx hb hr hlocks hh rfl dX5_isOpen_15 (⟨by rw [f_X5_isOpen, if_neg c_7_1], rfl⟩)
  ·
    refine lv_iconst (v := 1) hx hb dX5_isOpen_10 (by decide) ?_
    refine lv_goto (tgt := 15) hx hb dX5_isOpen_11 (by decide) ?_
    exact hr_z hx hb hr hlocks hh rfl dX5_isOpen_15 (⟨by rw [f_X5_isOpen, if_pos c_7_1], rfl⟩)
def f_X5_goodsOf (vL : Nat → Int32) (vU : Nat → Int32) (sale : Int32) (line : Int32) : Int32 := ((vL ((6 * sale) + line).toNatClampNeg) * (vU ((6 * sale) + line).toNatClampNeg))
set_option maxHeartbeats 4000000 in
set_option maxRecDepth 100000 in
theorem c_X5_goodsOf (l : Launch) (G : hG) (z0 : Nat) (mm : hM) (y : Nat) (b : Nat) (day : Int32) (sn : Int32) (bk : Int32) (fe : Int32) (th : Int32) (vL : Nat → Int32) (vU : Nat → Int32) (sale : Int32) (line : Int32) (fy : mm y = some (.inr (5, [.ref b, .ref (b + 1), .ref (b + 2), .ref (b + 3), .int day, .ref (b + 4), .ref (b + 5), .ref (b + 6), .ref (b + 7), .ref (b + 8), .ref (b + 9), .ref (b + 10), .int sn, .ref (b + 11), .ref (b + 12), .ref (b + 13), .ref (b + 14), .ref (b + 15), .ref (b + 16), .ref (b + 17), .int bk, .int fe, .ref (b + 18), .ref (b + 19), .int th]))) (fvL : mm (b + 12) = some (eI G 240 vL)) (fvU : mm (b + 13) = some (eI G 240 vU)) (hyb : y < b) (hln : vp_in ((6 * sale) + line) 240) : Met l yX5_goodsOf wsX5_goodsOf ({ frames := 0, cells := 0, slots := 0, locals := 0 }) (hPre G z0 mm [.ref y, .int sale, .int line]) (hQi G z0 (fun r m' => r = f_X5_goodsOf vL vU sale line ∧ m' = mm)) 0 0 (h_ge z0) := by
  refine hm_of (cc := cX5_goodsOf) (maxL := 3) (ret := (some .int)) (by decide) rfl (Nat.le_of_ble_eq_true rfl) ?_
  intro p e s m below meth c ls hx hb hr hts hown hlocks hml hin hh hl
  have hl : lv_has ls 3 [(0, .ref y), (1, .int sale), (2, .int line)] := hl
  have hiX5 : ∀ w ∈ u_ws RX5 TX5 25, w ∈ wsX5_goodsOf := by decide +kernel
  refine lv_aload_n hx hb dX5_goodsOf_0 rfl (lv_at hl 0 rfl) ?_
  refine hg_get (C := RX5) (T := TX5) (N := 25) (ci := 5) (own := RX5) (index := 46) hx hb hts hiX5 hown hh fy rfl 14 (by decide) (hts (.fieldLink RX5 46 "BackhaulReturnsModel" "linePrices" "[I") (by decide +kernel)) rfl dX5_goodsOf_1 ?_
  refine lv_bipush (v := 6) hx hb dX5_goodsOf_4 (by decide) ?_
  refine lv_iload_n hx hb dX5_goodsOf_6 rfl (lv_at hl 1 rfl) ?_
  refine lv_imul hx hb dX5_goodsOf_7 ?_
  refine lv_iload_n hx hb dX5_goodsOf_8 rfl (lv_at hl 2 rfl) ?_
  refine lv_iadd hx hb dX5_goodsOf_9 ?_
  refine hg_iald hx hb hh fvL hln dX5_goodsOf_10 ?_
  refine lv_aload_n hx hb dX5_goodsOf_11 rfl (lv_at hl 0 rfl) ?_
  refine hg_get (C := RX5) (T := TX5) (N := 25) (ci := 5) (own := RX5) (index := 49) hx hb hts hiX5 hown hh fy rfl 15 (by decide) (hts (.fieldLink RX5 49 "BackhaulReturnsModel" "units" "[I") (by decide +kernel)) rfl dX5_goodsOf_12 ?_
  refine lv_bipush (v := 6) hx hb dX5_goodsOf_15 (by decide) ?_
  refine lv_iload_n hx hb dX5_goodsOf_17 rfl (lv_at hl 1 rfl) ?_
  refine lv_imul hx hb dX5_goodsOf_18 ?_
  refine lv_iload_n hx hb dX5_goodsOf_19 rfl (lv_at hl 2 rfl) ?_
  refine lv_iadd hx hb dX5_goodsOf_20 ?_
  refine hg_iald hx hb hh fvU hln dX5_goodsOf_21 ?_
  refine lv_imul hx hb dX5_goodsOf_22 ?_
  exact hr_i hx hb hr hlocks hh dX5_goodsOf_23 (⟨by rw [f_X5_goodsOf], rfl⟩)
def f_X5_age (day : Int32) (vD : Nat → Int32) (vF : Nat → Int32) (sale : Int32) : Int32 := (day - (vD (vF sale.toNatClampNeg).toNatClampNeg))
set_option maxHeartbeats 4000000 in
set_option maxRecDepth 100000 in
theorem c_X5_age (l : Launch) (G : hG) (z0 : Nat) (mm : hM) (y : Nat) (b : Nat) (day : Int32) (sn : Int32) (bk : Int32) (fe : Int32) (th : Int32) (vD : Nat → Int32) (vF : Nat → Int32) (sale : Int32) (fy : mm y = some (.inr (5, [.ref b, .ref (b + 1), .ref (b + 2), .ref (b + 3), .int day, .ref (b + 4), .ref (b + 5), .ref (b + 6), .ref (b + 7), .ref (b + 8), .ref (b + 9), .ref (b + 10), .int sn, .ref (b + 11), .ref (b + 12), .ref (b + 13), .ref (b + 14), .ref (b + 15), .ref (b + 16), .ref (b + 17), .int bk, .int fe, .ref (b + 18), .ref (b + 19), .int th]))) (fvD : mm (b + 6) = some (eI G 40 vD)) (fvF : mm (b + 9) = some (eI G 40 vF)) (hyb : y < b) (hsl : vp_in sale 40) (hfs : vp_in (vF sale.toNatClampNeg) 40) : Met l yX5_age wsX5_age ({ frames := 0, cells := 0, slots := 0, locals := 0 }) (hPre G z0 mm [.ref y, .int sale]) (hQi G z0 (fun r m' => r = f_X5_age day vD vF sale ∧ m' = mm)) 0 0 (h_ge z0) := by
  refine hm_of (cc := cX5_age) (maxL := 2) (ret := (some .int)) (by decide) rfl (Nat.le_of_ble_eq_true rfl) ?_
  intro p e s m below meth c ls hx hb hr hts hown hlocks hml hin hh hl
  have hl : lv_has ls 2 [(0, .ref y), (1, .int sale)] := hl
  have hiX5 : ∀ w ∈ u_ws RX5 TX5 25, w ∈ wsX5_age := by decide +kernel
  refine lv_aload_n hx hb dX5_age_0 rfl (lv_at hl 0 rfl) ?_
  refine hg_get (C := RX5) (T := TX5) (N := 25) (ci := 5) (own := RX5) (index := 94) hx hb hts hiX5 hown hh fy rfl 4 (by decide) (hts (.fieldLink RX5 94 "BackhaulReturnsModel" "day" "I") (by decide +kernel)) rfl dX5_age_1 ?_
  refine lv_aload_n hx hb dX5_age_4 rfl (lv_at hl 0 rfl) ?_
  refine hg_get (C := RX5) (T := TX5) (N := 25) (ci := 5) (own := RX5) (index := 28) hx hb hts hiX5 hown hh fy rfl 7 (by decide) (hts (.fieldLink RX5 28 "BackhaulReturnsModel" "days" "[I") (by decide +kernel)) rfl dX5_age_5 ?_
  refine lv_aload_n hx hb dX5_age_8 rfl (lv_at hl 0 rfl) ?_
  refine hg_get (C := RX5) (T := TX5) (N := 25) (ci := 5) (own := RX5) (index := 37) hx hb hts hiX5 hown hh fy rfl 10 (by decide) (hts (.fieldLink RX5 37 "BackhaulReturnsModel" "firsts" "[I") (by decide +kernel)) rfl dX5_age_9 ?_
  refine lv_iload_n hx hb dX5_age_12 rfl (lv_at hl 1 rfl) ?_
  refine hg_iald hx hb hh fvF hsl dX5_age_13 ?_
  refine hg_iald hx hb hh fvD hfs dX5_age_14 ?_
  refine lv_isub hx hb dX5_age_15 ?_
  exact hr_i hx hb hr hlocks hh dX5_age_16 (⟨by rw [f_X5_age], rfl⟩)
def f_X5_fee (day : Int32) (vD : Nat → Int32) (vF : Nat → Int32) (sale : Int32) (rl : Int32) (cd : Int32) : Int32 := if cd = 3 then ((((rl.toInt64) * ((0 : Int32).toInt64)) / 100).toInt32) else (if 14 < (f_X5_age day vD vF sale) then (if 30 < (f_X5_age day vD vF sale) then ((((rl.toInt64) * ((50 : Int32).toInt64)) / 100).toInt32) else ((((rl.toInt64) * ((15 : Int32).toInt64)) / 100).toInt32)) else ((((rl.toInt64) * ((0 : Int32).toInt64)) / 100).toInt32))
set_option maxHeartbeats 4000000 in
set_option maxRecDepth 100000 in
theorem c_X5_fee (l : Launch) (G : hG) (z0 : Nat) (mm : hM) (y : Nat) (b : Nat) (day : Int32) (sn : Int32) (bk : Int32) (fe : Int32) (th : Int32) (vD : Nat → Int32) (vF : Nat → Int32) (sale : Int32) (rl : Int32) (cd : Int32) (fy : mm y = some (.inr (5, [.ref b, .ref (b + 1), .ref (b + 2), .ref (b + 3), .int day, .ref (b + 4), .ref (b + 5), .ref (b + 6), .ref (b + 7), .ref (b + 8), .ref (b + 9), .ref (b + 10), .int sn, .ref (b + 11), .ref (b + 12), .ref (b + 13), .ref (b + 14), .ref (b + 15), .ref (b + 16), .ref (b + 17), .int bk, .int fe, .ref (b + 18), .ref (b + 19), .int th]))) (fvD : mm (b + 6) = some (eI G 40 vD)) (fvF : mm (b + 9) = some (eI G 40 vF)) (hyb : y < b) (hsl : vp_in sale 40) (hfs : vp_in (vF sale.toNatClampNeg) 40) : Met l yX5_fee wsX5_fee ({ frames := 1, cells := 0, slots := 0, locals := 21 }) (hPre G z0 mm [.ref y, .int sale, .int rl, .int cd]) (hQi G z0 (fun r m' => r = f_X5_fee day vD vF sale rl cd ∧ m' = mm)) 0 0 (h_ge z0) := by
  refine hm_of (cc := cX5_fee) (maxL := 5) (ret := (some .int)) (by decide) rfl (Nat.le_of_ble_eq_true rfl) ?_
  intro p e s m below meth c ls hx hb hr hts hown hlocks hml hin hh hl
  have hl : lv_has ls 5 [(0, .ref y), (1, .int sale), (2, .int rl), (3, .int cd)] := hl
  refine lv_iload_n hx hb dX5_fee_0 rfl (lv_at hl 3 rfl) ?_
  refine lv_iconst (v := 3) hx hb dX5_fee_1 (by decide) ?_
  refine lv_icmp_eq (tgt := 15) hx hb dX5_fee_2 (by decide) (fun c_2_1 => ?_) (fun c_2_1 => ?_)
  ·
    refine lv_iconst (v := 0) hx hb dX5_fee_15 (by decide) ?_
    refine lv_goto (tgt := 36) hx hb dX5_fee_16 (by decide) ?_
    refine lv_istore (lv' := [(4, .int 0), (0, .ref y), (1, .int sale), (2, .int rl), (3, .int cd)]) hx hb dX5_fee_36 hl (by decide) rfl (fun ls hl => ?_)
    refine lv_iload_n hx hb dX5_fee_38 rfl (lv_at hl 3 rfl) ?_
    refine lv_i2l (v := rl.toInt64) hx hb dX5_fee_39 rfl ?_
    refine lv_iload hx hb dX5_fee_40 (lv_at hl 0 rfl) ?_
    refine lv_i2l (v := (0 : Int32).toInt64) hx hb dX5_fee_42 rfl ?_
    refine lv_lmul hx hb dX5_fee_43 ?_
    refine lv_ldc2 (own := RX5) (index := 131) (v := 100) hx hb hown (hts (.constantLong RX5 131 (100)) (by decide +kernel)) dX5_fee_44 ?_
    refine lv_ldiv hx hb dX5_fee_47 (by first | assumption | decide) ?_
    refine lv_l2i (v := (((rl.toInt64) * ((0 : Int32).toInt64)) / 100).toInt32) hx hb dX5_fee_48 rfl ?_
    exact hr_i hx hb hr hlocks hh dX5_fee_49 (⟨by rw [f_X5_fee, if_pos c_2_1], rfl⟩)
  ·
    refine lv_aload_n hx hb dX5_fee_5 rfl (lv_at hl 0 rfl) ?_
    refine lv_iload_n hx hb dX5_fee_6 rfl (lv_at hl 1 rfl) ?_
    refine hk_i hh (va_runV (As := [.int sale]) (rest := []) ⟨hx, hb, hml, hown, hts⟩ (c_X5_age l G z0 mm y b day sn bk fe th vD vF sale fy fvD fvF hyb hsl hfs) (cwV 1 hts gX5_fee_X5_age rfl rfl rfl (by decide +kernel) ⟨Nat.le_of_ble_eq_true rfl, Nat.le_of_ble_eq_true rfl⟩) (hs_preV hh fy rfl) rfl rfl hl.1 rfl (lv_room (Nat.le_of_ble_eq_true rfl)) dX5_fee_7 ⟨Nat.le_of_ble_eq_true rfl, Nat.le_of_ble_eq_true rfl⟩) (fun r_7 m_7 H locs hp hh => ?_)
    obtain ⟨hr9, hm9⟩ := hp; subst hr9; have hm9 := hm9.symm; subst hm9
    refine lv_bipush (v := 14) hx hb dX5_fee_10 (by decide) ?_
    refine lv_icmp_gt (tgt := 19) hx hb dX5_fee_12 (by decide) (fun c_12_2 => ?_) (fun c_12_2 => ?_)
    ·
      refine lv_aload_n hx hb dX5_fee_19 rfl (lv_at hl 0 rfl) ?_
      refine lv_iload_n hx hb dX5_fee_20 rfl (lv_at hl 1 rfl) ?_
      refine hk_i hh (va_runV (As := [.int sale]) (rest := []) ⟨hx, hb, hml, hown, hts⟩ (c_X5_age l G z0 mm y b day sn bk fe th vD vF sale fy fvD fvF hyb hsl hfs) (cwV 1 hts gX5_fee_X5_age rfl rfl rfl (by decide +kernel) ⟨Nat.le_of_ble_eq_true rfl, Nat.le_of_ble_eq_true rfl⟩) (hs_preV hh fy rfl) rfl rfl hl.1 rfl (lv_room (Nat.le_of_ble_eq_true rfl)) dX5_fee_21 ⟨Nat.le_of_ble_eq_true rfl, Nat.le_of_ble_eq_true rfl⟩) (fun r_21 m_21 H locs hp hh => ?_)
      obtain ⟨hr9, hm9⟩ := hp; subst hr9; have hm9 := hm9.symm; subst hm9
      refine lv_bipush (v := 30) hx hb dX5_fee_24 (by decide) ?_
      refine lv_icmp_gt (tgt := 34) hx hb dX5_fee_26 (by decide) (fun c_26_3 => ?_) (fun c_26_3 => ?_)
      ·
        refine lv_bipush (v := 50) hx hb dX5_fee_34 (by decide) ?_
        refine lv_istore (lv' := [(4, .int 50), (0, .ref y), (1, .int sale), (2, .int rl), (3, .int cd)]) hx hb dX5_fee_36 hl (by decide) rfl (fun ls hl => ?_)
        refine lv_iload_n hx hb dX5_fee_38 rfl (lv_at hl 3 rfl) ?_
        refine lv_i2l (v := rl.toInt64) hx hb dX5_fee_39 rfl ?_
        refine lv_iload hx hb dX5_fee_40 (lv_at hl 0 rfl) ?_
        refine lv_i2l (v := (50 : Int32).toInt64) hx hb dX5_fee_42 rfl ?_
        refine lv_lmul hx hb dX5_fee_43 ?_
        refine lv_ldc2 (own := RX5) (index := 131) (v := 100) hx hb hown (hts (.constantLong RX5 131 (100)) (by decide +kernel)) dX5_fee_44 ?_
        refine lv_ldiv hx hb dX5_fee_47 (by first | assumption | decide) ?_
        refine lv_l2i (v := (((rl.toInt64) * ((50 : Int32).toInt64)) / 100).toInt32) hx hb dX5_fee_48 rfl ?_
        exact hr_i hx hb hr hlocks hh dX5_fee_49 (⟨by rw [f_X5_fee, if_neg c_2_1, if_pos c_12_2, if_pos c_26_3], rfl⟩)
      ·
        refine lv_bipush (v := 15) hx hb dX5_fee_29 (by decide) ?_
        refine lv_goto (tgt := 36) hx hb dX5_fee_31 (by decide) ?_
        refine lv_istore (lv' := [(4, .int 15), (0, .ref y), (1, .int sale), (2, .int rl), (3, .int cd)]) hx hb dX5_fee_36 hl (by decide) rfl (fun ls hl => ?_)
        refine lv_iload_n hx hb dX5_fee_38 rfl (lv_at hl 3 rfl) ?_
        refine lv_i2l (v := rl.toInt64) hx hb dX5_fee_39 rfl ?_
        refine lv_iload hx hb dX5_fee_40 (lv_at hl 0 rfl) ?_
        refine lv_i2l (v := (15 : Int32).toInt64) hx hb dX5_fee_42 rfl ?_
        refine lv_lmul hx hb dX5_fee_43 ?_
        refine lv_ldc2 (own := RX5) (index := 131) (v := 100) hx hb hown (hts (.constantLong RX5 131 (100)) (by decide +kernel)) dX5_fee_44 ?_
        refine lv_ldiv hx hb dX5_fee_47 (by first | assumption | decide) ?_
        refine lv_l2i (v := (((rl.toInt64) * ((15 : Int32).toInt64)) / 100).toInt32) hx hb dX5_fee_48 rfl ?_
        exact hr_i hx hb hr hlocks hh dX5_fee_49 (⟨by rw [f_X5_fee, if_neg c_2_1, if_pos c_12_2, if_neg c_26_3], rfl⟩)
    ·
      refine lv_iconst (v := 0) hx hb dX5_fee_15 (by decide) ?_
      refine lv_goto (tgt := 36) hx hb dX5_fee_16 (by decide) ?_
      refine lv_istore (lv' := [(4, .int 0), (0, .ref y), (1, .int sale), (2, .int rl), (3, .int cd)]) hx hb dX5_fee_36 hl (by decide) rfl (fun ls hl => ?_)
      refine lv_iload_n hx hb dX5_fee_38 rfl (lv_at hl 3 rfl) ?_
      refine lv_i2l (v := rl.toInt64) hx hb dX5_fee_39 rfl ?_
      refine lv_iload hx hb dX5_fee_40 (lv_at hl 0 rfl) ?_
      refine lv_i2l (v := (0 : Int32).toInt64) hx hb dX5_fee_42 rfl ?_
      refine lv_lmul hx hb dX5_fee_43 ?_
      refine lv_ldc2 (own := RX5) (index := 131) (v := 100) hx hb hown (hts (.constantLong RX5 131 (100)) (by decide +kernel)) dX5_fee_44 ?_
      refine lv_ldiv hx hb dX5_fee_47 (by first | assumption | decide) ?_
      refine lv_l2i (v := (((rl.toInt64) * ((0 : Int32).toInt64)) / 100).toInt32) hx hb dX5_fee_48 rfl ?_
      exact hr_i hx hb hr hlocks hh dX5_fee_49 (⟨by rw [f_X5_fee, if_neg c_2_1, if_neg c_12_2], rfl⟩)
def f_X5_wrong (day : Int32) (sn : Int32) (vZ : Nat → Int32) (vD : Nat → Int32) (vF : Nat → Int32) (vU : Nat → Int32) (sale : Int32) (line : Int32) (many : Int32) (cd : Int32) : Int32 := if (f_X5_isLine sn vZ sale line) = 0 then 1 else (if (f_X5_isIn many 1 20) = 0 then 2 else (if (f_X5_isIn cd 0 3) = 0 then 2 else (if (f_X5_isOpen vD sale) = 0 then (if 60 < (f_X5_age day vD vF sale) then 3 else (if many ≤ (vU ((6 * sale) + line).toNatClampNeg) then 0 else 3)) else 3)))
set_option maxHeartbeats 4000000 in
set_option maxRecDepth 100000 in
theorem c_X5_wrong (l : Launch) (G : hG) (z0 : Nat) (mm : hM) (y : Nat) (b : Nat) (day : Int32) (sn : Int32) (bk : Int32) (fe : Int32) (th : Int32) (vZ : Nat → Int32) (vD : Nat → Int32) (vF : Nat → Int32) (vU : Nat → Int32) (sale : Int32) (line : Int32) (many : Int32) (cd : Int32) (fy : mm y = some (.inr (5, [.ref b, .ref (b + 1), .ref (b + 2), .ref (b + 3), .int day, .ref (b + 4), .ref (b + 5), .ref (b + 6), .ref (b + 7), .ref (b + 8), .ref (b + 9), .ref (b + 10), .int sn, .ref (b + 11), .ref (b + 12), .ref (b + 13), .ref (b + 14), .ref (b + 15), .ref (b + 16), .ref (b + 17), .int bk, .int fe, .ref (b + 18), .ref (b + 19), .int th]))) (fvZ : mm (b + 5) = some (eI G 40 vZ)) (fvD : mm (b + 6) = some (eI G 40 vD)) (fvF : mm (b + 9) = some (eI G 40 vF)) (fvU : mm (b + 13) = some (eI G 240 vU)) (hyb : y < b) (hn : 0 ≤ sn.toInt ∧ sn.toInt ≤ 40) (hz : ∀ k : Nat, k < 40 → 0 ≤ (vZ k).toInt ∧ (vZ k).toInt ≤ 6) (hff : ∀ k : Nat, k < 40 → vp_in (vF k) 40) : Met l yX5_wrong wsX5_wrong ({ frames := 3, cells := 0, slots := 0, locals := 65 }) (hPre G z0 mm [.ref y, .int sale, .int line, .int many, .int cd]) (hQi G z0 (fun r m' => r = f_X5_wrong day sn vZ vD vF vU sale line many cd ∧ m' = mm)) 0 0 (h_ge z0) := by
  refine hm_of (cc := cX5_wrong) (maxL := 5) (ret := (some .int)) (by decide) rfl (Nat.le_of_ble_eq_true rfl) ?_
  intro p e s m below meth c ls hx hb hr hts hown hlocks hml hin hh hl
  have hl : lv_has ls 5 [(0, .ref y), (1, .int sale), (2, .int line), (3, .int many), (4, .int cd)] := hl
  have hiX5 : ∀ w ∈ u_ws RX5 TX5 25, w ∈ wsX5_wrong := by decide +kernel
  refine lv_aload_n hx hb dX5_wrong_0 rfl (lv_at hl 0 rfl) ?_
  refine lv_iload_n hx hb dX5_wrong_1 rfl (lv_at hl 1 rfl) ?_
  refine lv_iload_n hx hb dX5_wrong_2 rfl (lv_at hl 2 rfl) ?_
  refine hk_i hh (va_runV (As := [.int sale, .int line]) (rest := []) ⟨hx, hb, hml, hown, hts⟩ (c_X5_isLine l G z0 mm y b day sn bk fe th vZ sale line fy fvZ hyb hn) (cwV 2 hts gX5_wrong_X5_isLine rfl rfl rfl (by decide +kernel) ⟨Nat.le_of_ble_eq_true rfl, Nat.le_of_ble_eq_true rfl⟩) (hs_preV hh fy rfl) rfl rfl hl.1 rfl (lv_room (Nat.le_of_ble_eq_true rfl)) dX5_wrong_3 ⟨Nat.le_of_ble_eq_true rfl, Nat.le_of_ble_eq_true rfl⟩) (fun r_3 m_3 H locs hp hh => ?_)
  obtain ⟨hr9, hm9⟩ := hp; subst hr9; have hm9 := hm9.symm; subst hm9
  refine lv_if_ne (tgt := 11) hx hb dX5_wrong_6 (by decide) (fun c_6_1 => ?_) (fun c_6_1 => ?_)
  ·
    refine lv_iload_n hx hb dX5_wrong_11 rfl (lv_at hl 3 rfl) ?_
    refine lv_iconst (v := 1) hx hb dX5_wrong_12 (by decide) ?_
    refine lv_bipush (v := 20) hx hb dX5_wrong_13 (by decide) ?_
    refine hk_i hh (va_runS (As := [.int many, .int 1, .int 20]) (rest := []) ⟨hx, hb, hml, hown, hts⟩ (c_X5_isIn l G z0 mm many 1 20) (va_cwS 3 hts gX5_wrong_X5_isIn rfl rfl rfl (by decide +kernel) ⟨Nat.le_of_ble_eq_true rfl, Nat.le_of_ble_eq_true rfl⟩) (hs_preS hh) rfl rfl hl.1 rfl (lv_room (Nat.le_of_ble_eq_true rfl)) dX5_wrong_15 ⟨Nat.le_of_ble_eq_true rfl, Nat.le_of_ble_eq_true rfl⟩) (fun r_15 m_15 H locs hp hh => ?_)
    obtain ⟨hr9, hm9⟩ := hp; subst hr9; have hm9 := hm9.symm; subst hm9
    refine lv_if_eq (tgt := 31) hx hb dX5_wrong_18 (by decide) (fun c_18_2 => ?_) (fun c_18_2 => ?_)
    ·
      refine lv_iconst (v := 2) hx hb dX5_wrong_31 (by decide) ?_
      exact hr_i hx hb hr hlocks hh dX5_wrong_32 (⟨by rw [f_X5_wrong, if_neg c_6_1, if_pos c_18_2], rfl⟩)
    ·
      refine lv_iload hx hb dX5_wrong_21 (lv_at hl 4 rfl) ?_
      refine lv_iconst (v := 0) hx hb dX5_wrong_23 (by decide) ?_
      refine lv_iconst (v := 3) hx hb dX5_wrong_24 (by decide) ?_
      refine hk_i hh (va_runS (As := [.int cd, .int 0, .int 3]) (rest := []) ⟨hx, hb, hml, hown, hts⟩ (c_X5_isIn l G z0 mm cd 0 3) (va_cwS 3 hts gX5_wrong_X5_isIn rfl rfl rfl (by decide +kernel) ⟨Nat.le_of_ble_eq_true rfl, Nat.le_of_ble_eq_true rfl⟩) (hs_preS hh) rfl rfl hl.1 rfl (lv_room (Nat.le_of_ble_eq_true rfl)) dX5_wrong_25 ⟨Nat.le_of_ble_eq_true rfl, Nat.le_of_ble_eq_true rfl⟩) (fun r_25 m_25 H locs hp hh => ?_)
      obtain ⟨hr9, hm9⟩ := hp; subst hr9; have hm9 := hm9.symm; subst hm9
      refine lv_if_ne (tgt := 33) hx hb dX5_wrong_28 (by decide) (fun c_28_3 => ?_) (fun c_28_3 => ?_)
      ·
        refine lv_aload_n hx hb dX5_wrong_33 rfl (lv_at hl 0 rfl) ?_
        refine lv_iload_n hx hb dX5_wrong_34 rfl (lv_at hl 1 rfl) ?_
        refine hk_i hh (va_runV (As := [.int sale]) (rest := []) ⟨hx, hb, hml, hown, hts⟩ (c_X5_isOpen l G z0 mm y b day sn bk fe th vD sale fy fvD hyb (hq_line1 c_6_1 hn)) (cwV 1 hts gX5_wrong_X5_isOpen rfl rfl rfl (by decide +kernel) ⟨Nat.le_of_ble_eq_true rfl, Nat.le_of_ble_eq_true rfl⟩) (hs_preV hh fy rfl) rfl rfl hl.1 rfl (lv_room (Nat.le_of_ble_eq_true rfl)) dX5_wrong_35 ⟨Nat.le_of_ble_eq_true rfl, Nat.le_of_ble_eq_true rfl⟩) (fun r_35 m_35 H locs hp hh => ?_)
        obtain ⟨hr9, hm9⟩ := hp; subst hr9; have hm9 := hm9.symm; subst hm9
        refine lv_if_ne (tgt := 66) hx hb dX5_wrong_38 (by decide) (fun c_38_4 => ?_) (fun c_38_4 => ?_)
        ·
          refine lv_iconst (v := 3) hx hb dX5_wrong_66 (by decide) ?_
          refine lv_goto (tgt := 71) hx hb dX5_wrong_67 (by decide) ?_
          exact hr_i hx hb hr hlocks hh dX5_wrong_71 (⟨by rw [f_X5_wrong, if_neg c_6_1, if_neg c_18_2, if_neg c_28_3, if_neg c_38_4], rfl⟩)
        ·
          refine lv_aload_n hx hb dX5_wrong_41 rfl (lv_at hl 0 rfl) ?_
          refine lv_iload_n hx hb dX5_wrong_42 rfl (lv_at hl 1 rfl) ?_
          refine hk_i hh (va_runV (As := [.int sale]) (rest := []) ⟨hx, hb, hml, hown, hts⟩ (c_X5_age l G z0 mm y b day sn bk fe th vD vF sale fy fvD fvF hyb (hq_line1 c_6_1 hn) (hff _ (hq_cl (hq_line1 c_6_1 hn)))) (cwV 1 hts gX5_wrong_X5_age rfl rfl rfl (by decide +kernel) ⟨Nat.le_of_ble_eq_true rfl, Nat.le_of_ble_eq_true rfl⟩) (hs_preV hh fy rfl) rfl rfl hl.1 rfl (lv_room (Nat.le_of_ble_eq_true rfl)) dX5_wrong_43 ⟨Nat.le_of_ble_eq_true rfl, Nat.le_of_ble_eq_true rfl⟩) (fun r_43 m_43 H locs hp hh => ?_)
          obtain ⟨hr9, hm9⟩ := hp; subst hr9; have hm9 := hm9.symm; subst hm9
          refine lv_bipush (v := 60) hx hb dX5_wrong_46 (by decide) ?_
          refine lv_icmp_gt (tgt := 66) hx hb dX5_wrong_48 (by decide) (fun c_48_5 => ?_) (fun c_48_5 => ?_)
          ·
            refine lv_iconst (v := 3) hx hb dX5_wrong_66 (by decide) ?_
            refine lv_goto (tgt := 71) hx hb dX5_wrong_67 (by decide) ?_
            exact hr_i hx hb hr hlocks hh dX5_wrong_71 (⟨by rw [f_X5_wrong, if_neg c_6_1, if_neg c_18_2, if_neg c_28_3, if_pos c_38_4, if_pos c_48_5], rfl⟩)
          ·
            refine lv_aload_n hx hb dX5_wrong_51 rfl (lv_at hl 0 rfl) ?_
            refine hg_get (C := RX5) (T := TX5) (N := 25) (ci := 5) (own := RX5) (index := 49) hx hb hts hiX5 hown hh fy rfl 15 (by decide) (hts (.fieldLink RX5 49 "BackhaulReturnsModel" "units" "[I") (by decide +kernel)) rfl dX5_wrong_52 ?_
            refine lv_bipush (v := 6) hx hb dX5_wrong_55 (by decide) ?_
            refine lv_iload_n hx hb dX5_wrong_57 rfl (lv_at hl 1 rfl) ?_
            refine lv_imul hx hb dX5_wrong_58 ?_
            refine lv_iload_n hx hb dX5_wrong_59 rfl (lv_at hl 2 rfl) ?_
            refine lv_iadd hx hb dX5_wrong_60 ?_
            refine hg_iald hx hb hh fvU (hq_line2 c_6_1 hn hz) dX5_wrong_61 ?_
            refine lv_iload_n hx hb dX5_wrong_62 rfl (lv_at hl 3 rfl) ?_
            refine lv_icmp_ge (tgt := 70) hx hb dX5_wrong_63 (by decide) (fun c_63_6 => ?_) (fun c_63_6 => ?_)
            ·
              refine lv_iconst (v := 0) hx hb dX5_wrong_70 (by decide) ?_
              exact hr_i hx hb hr hlocks hh dX5_wrong_71 (⟨by rw [f_X5_wrong, if_neg c_6_1, if_neg c_18_2, if_neg c_28_3, if_pos c_38_4, if_neg c_48_5, if_pos c_63_6], rfl⟩)
            ·
              refine lv_iconst (v := 3) hx hb dX5_wrong_66 (by decide) ?_
              refine lv_goto (tgt := 71) hx hb dX5_wrong_67 (by decide) ?_
              exact hr_i hx hb hr hlocks hh dX5_wrong_71 (⟨by rw [f_X5_wrong, if_neg c_6_1, if_neg c_18_2, if_neg c_28_3, if_pos c_38_4, if_neg c_48_5, if_neg c_63_6], rfl⟩)
      ·
        refine lv_iconst (v := 2) hx hb dX5_wrong_31 (by decide) ?_
        exact hr_i hx hb hr hlocks hh dX5_wrong_32 (⟨by rw [f_X5_wrong, if_neg c_6_1, if_neg c_18_2, if_pos c_28_3], rfl⟩)
  ·
    refine lv_iconst (v := 1) hx hb dX5_wrong_9 (by decide) ?_
    exact hr_i hx hb hr hlocks hh dX5_wrong_10 (⟨by rw [f_X5_wrong, if_pos c_6_1], rfl⟩)

theorem hq_tn (x : Int32) : x.toNatClampNeg = x.toInt.toNat := rfl
theorem hq_leN {z x : Int32} {k : Nat} (hz : 0 ≤ z.toInt) (hx : x = nI k) (hk : k < 2 ^ 31) : z ≤ x ↔ z.toNatClampNeg ≤ k := by
  rw [Int32.le_iff_toInt_le, hx, nI_toInt hk, hq_tn]
  omega
theorem hq_n6 {z : Int32} {n : Int} (h : 0 ≤ z.toInt ∧ z.toInt ≤ n) : (z.toNatClampNeg : Int) ≤ n := by
  rw [hq_tn]; omega
theorem hq_lnk {sale x : Int32} {k : Nat} (h : vp_in sale 40) (hx : x = nI k) (hk : k < 6) : vp_in ((6 * sale) + x) 240 := hq_ln h (by rw [hx, nI_toInt (by omega)]; omega) (by rw [hx, nI_toInt (by omega)]; omega)
def st_X5_goods (vL : Nat → Int32) (vU : Nat → Int32) (sale : Int32) (x2 x3 : Int32) : Int32 := (x2 + (f_X5_goodsOf vL vU sale x3))
def g_X5_goods (vL : Nat → Int32) (vU : Nat → Int32) (sale : Int32) : Nat → Int32
  | 0 => 0
  | k + 1 => st_X5_goods vL vU sale (g_X5_goods vL vU sale k) (nI k)
set_option maxHeartbeats 4000000 in
set_option maxRecDepth 100000 in
theorem c_X5_goods (l : Launch) (G : hG) (z0 : Nat) (mm : hM) (y : Nat) (b : Nat) (day : Int32) (sn : Int32) (bk : Int32) (fe : Int32) (th : Int32) (vZ : Nat → Int32) (vL : Nat → Int32) (vU : Nat → Int32) (sale : Int32) (fy : mm y = some (.inr (5, [.ref b, .ref (b + 1), .ref (b + 2), .ref (b + 3), .int day, .ref (b + 4), .ref (b + 5), .ref (b + 6), .ref (b + 7), .ref (b + 8), .ref (b + 9), .ref (b + 10), .int sn, .ref (b + 11), .ref (b + 12), .ref (b + 13), .ref (b + 14), .ref (b + 15), .ref (b + 16), .ref (b + 17), .int bk, .int fe, .ref (b + 18), .ref (b + 19), .int th]))) (fvZ : mm (b + 5) = some (eI G 40 vZ)) (fvL : mm (b + 12) = some (eI G 240 vL)) (fvU : mm (b + 13) = some (eI G 240 vU)) (hyb : y < b) (hsl : vp_in sale 40) (hz : ∀ k : Nat, k < 40 → 0 ≤ (vZ k).toInt ∧ (vZ k).toInt ≤ 6) : Met l yX5_goods wsX5_goods ({ frames := 1, cells := 0, slots := 0, locals := 22 }) (hPre G z0 mm [.ref y, .int sale]) (hQi G z0 (fun r m' => r = (g_X5_goods vL vU sale ((vZ sale.toNatClampNeg).toNatClampNeg)) ∧ m' = mm)) 0 0 (h_ge z0) := by
  refine hm_of (cc := cX5_goods) (maxL := 4) (ret := (some .int)) (by decide) rfl (Nat.le_of_ble_eq_true rfl) ?_
  intro p e s m below meth c ls hx hb hr hts hown hlocks hml hin hh hl
  have hl : lv_has ls 4 [(0, .ref y), (1, .int sale)] := hl
  have hiX5 : ∀ w ∈ u_ws RX5 TX5 25, w ∈ wsX5_goods := by decide +kernel
  refine lv_iconst (v := 0) hx hb dX5_goods_0 (by decide) ?_
  refine lv_istore_n (lv' := [(2, .int 0), (0, .ref y), (1, .int sale)]) hx hb dX5_goods_1 rfl hl (by decide) rfl (fun ls hl => ?_)
  refine lv_iconst (v := 0) hx hb dX5_goods_2 (by decide) ?_
  refine lv_istore_n (lv' := [(3, .int 0), (2, .int 0), (0, .ref y), (1, .int sale)]) hx hb dX5_goods_3 rfl hl (by decide) rfl (fun ls hl => ?_)
  have key : ∀ (j : Nat) (k : Nat) (x2 : Int32) (x3 : Int32), k + j = (vZ sale.toNatClampNeg).toNatClampNeg → x2 = g_X5_goods vL vU sale k → x3 = nI k → ∀ (H : Heap) (locs : List Loc) (ls : Array Slot), hs G z0 mm s H locs → lv_has ls 4 [(0, .ref y), (1, .int sale), (2, .int x2), (3, .int x3)] → W p l e ({ frames := 1, cells := 0, slots := 0, locals := 22 }) s m ([.ref y, .int sale] : List Value).toArray below meth c H locs 0 0 (MQ below (hQi G z0 (fun r m' => r = (g_X5_goods vL vU sale ((vZ sale.toNatClampNeg).toNatClampNeg)) ∧ m' = mm)) ([.ref y, .int sale] : List Value).toArray s 0 0 (h_ge z0)) (F0 m 4 ls []) := by
    intro j
    induction j with
    | zero =>
      intro k x2 x3 hkj hxx2 hxx3 H locs ls hh hl
      refine lv_iload_n hx hb dX5_goods_4 rfl (lv_at hl 3 rfl) ?_
      refine lv_aload_n hx hb dX5_goods_5 rfl (lv_at hl 0 rfl) ?_
      refine hg_get (C := RX5) (T := TX5) (N := 25) (ci := 5) (own := RX5) (index := 25) hx hb hts hiX5 hown hh fy rfl 6 (by decide) (hts (.fieldLink RX5 25 "BackhaulReturnsModel" "sizes" "[I") (by decide +kernel)) rfl dX5_goods_6 ?_
      refine lv_iload_n hx hb dX5_goods_9 rfl (lv_at hl 1 rfl) ?_
      refine hg_iald hx hb hh fvZ hsl dX5_goods_10 ?_
      refine lv_icmp_ge (tgt := 29) hx hb dX5_goods_11 (by decide) (fun c_11_1 => ?_) (fun c_11_1 => absurd ((hq_leN (hz _ (hq_cl hsl)).1 hxx3 (by have := hq_n6 (hz _ (hq_cl hsl)); omega)).mpr (by omega)) c_11_1)
      refine lv_iload_n hx hb dX5_goods_29 rfl (lv_at hl 2 rfl) ?_
      exact hr_i hx hb hr hlocks hh dX5_goods_30 (⟨by rw [hxx2, show k = (vZ sale.toNatClampNeg).toNatClampNeg from by omega], rfl⟩)
    | succ j ih =>
      intro k x2 x3 hkj hxx2 hxx3 H locs ls hh hl
      refine lv_iload_n hx hb dX5_goods_4 rfl (lv_at hl 3 rfl) ?_
      refine lv_aload_n hx hb dX5_goods_5 rfl (lv_at hl 0 rfl) ?_
      refine hg_get (C := RX5) (T := TX5) (N := 25) (ci := 5) (own := RX5) (index := 25) hx hb hts hiX5 hown hh fy rfl 6 (by decide) (hts (.fieldLink RX5 25 "BackhaulReturnsModel" "sizes" "[I") (by decide +kernel)) rfl dX5_goods_6 ?_
      refine lv_iload_n hx hb dX5_goods_9 rfl (lv_at hl 1 rfl) ?_
      refine hg_iald hx hb hh fvZ hsl dX5_goods_10 ?_
      refine lv_icmp_ge (tgt := 29) hx hb dX5_goods_11 (by decide) (fun c_11_2 => absurd c_11_2 (fun q => absurd ((hq_leN (hz _ (hq_cl hsl)).1 hxx3 (by have := hq_n6 (hz _ (hq_cl hsl)); omega)).mp q) (by omega))) (fun c_11_2 => ?_)
      refine lv_iload_n hx hb dX5_goods_14 rfl (lv_at hl 2 rfl) ?_
      refine lv_aload_n hx hb dX5_goods_15 rfl (lv_at hl 0 rfl) ?_
      refine lv_iload_n hx hb dX5_goods_16 rfl (lv_at hl 1 rfl) ?_
      refine lv_iload_n hx hb dX5_goods_17 rfl (lv_at hl 3 rfl) ?_
      refine hk_i hh (va_runV (As := [.int sale, .int x3]) (rest := [.int x2]) ⟨hx, hb, hml, hown, hts⟩ (c_X5_goodsOf l G z0 mm y b day sn bk fe th vL vU sale x3 fy fvL fvU hyb (hq_lnk hsl hxx3 (by have := hq_n6 (hz _ (hq_cl hsl)); omega))) (cwV 2 hts gX5_goods_X5_goodsOf rfl rfl rfl (by decide +kernel) ⟨Nat.le_of_ble_eq_true rfl, Nat.le_of_ble_eq_true rfl⟩) (hs_preV hh fy rfl) rfl rfl hl.1 rfl (lv_room (Nat.le_of_ble_eq_true rfl)) dX5_goods_18 ⟨Nat.le_of_ble_eq_true rfl, Nat.le_of_ble_eq_true rfl⟩) (fun r_18 m_18 H locs hp hh => ?_)
      obtain ⟨hr9, hm9⟩ := hp; subst hr9; have hm9 := hm9.symm; subst hm9
      refine lv_iadd hx hb dX5_goods_21 ?_
      refine lv_istore_n (lv' := [(2, .int (x2 + (f_X5_goodsOf vL vU sale x3))), (0, .ref y), (1, .int sale), (3, .int x3)]) hx hb dX5_goods_22 rfl hl (by decide) rfl (fun ls hl => ?_)
      refine lv_iinc (v := (x3 + 1)) (lv' := [(3, .int (x3 + 1)), (2, .int (x2 + (f_X5_goodsOf vL vU sale x3))), (0, .ref y), (1, .int sale)]) hx hb dX5_goods_23 hl (k := 3) rfl rfl (by decide) rfl (fun ls hl => ?_)
      refine lv_goto (tgt := 4) hx hb dX5_goods_26 (by decide) ?_
      exact ih (k + 1) (x2 + (f_X5_goodsOf vL vU sale x3)) (x3 + 1) (by omega) (by rw [g_X5_goods, ← hxx2, ← hxx3, st_X5_goods]) (by rw [hxx3]; exact nI_1 k) _ _ _ hh (lv_sub hl [2, 3, 1, 0] rfl)
  exact key ((vZ sale.toNatClampNeg).toNatClampNeg) 0 0 0 (by omega) (by rw [g_X5_goods]) (by decide) _ _ _ hh (lv_sub hl [2, 3, 1, 0] rfl)
end
section
theorem hq_ix {x : Int32} {k n : Nat} (hx : x = nI k) (hk : k < n) (hn : n < 2 ^ 31) : vp_in x n := by rw [hx]; exact vp_in_nI hk hn
def st_X5_scoreOf (day : Int32) (kC : Nat → Int32) (kD : Nat → Int32) (kU : Nat → Int32) (kA : Nat → Int32) (cu : Int32) (x2 x3 : Int32) : Int32 := if (kC x3.toNatClampNeg) = cu then (if 30 ≤ (day - (kD x3.toNatClampNeg)) then (if 90 ≤ (day - (kD x3.toNatClampNeg)) then (if 90 ≤ (day - (kD x3.toNatClampNeg)) then (((x2 + 0) + 0) + 0) else (if (kA x3.toNatClampNeg) = 0 then (((x2 + 0) + 0) + 0) else (((x2 + 0) + 0) + 20))) else (if 90 ≤ (day - (kD x3.toNatClampNeg)) then (((x2 + 0) + 5) + 0) else (if (kA x3.toNatClampNeg) = 0 then (((x2 + 0) + 5) + 0) else (((x2 + 0) + 5) + 20)))) else (if 90 ≤ (day - (kD x3.toNatClampNeg)) then (if 90 ≤ (day - (kD x3.toNatClampNeg)) then (((x2 + (10 * (kU x3.toNatClampNeg))) + 0) + 0) else (if (kA x3.toNatClampNeg) = 0 then (((x2 + (10 * (kU x3.toNatClampNeg))) + 0) + 0) else (((x2 + (10 * (kU x3.toNatClampNeg))) + 0) + 20))) else (if 90 ≤ (day - (kD x3.toNatClampNeg)) then (((x2 + (10 * (kU x3.toNatClampNeg))) + 5) + 0) else (if (kA x3.toNatClampNeg) = 0 then (((x2 + (10 * (kU x3.toNatClampNeg))) + 5) + 0) else (((x2 + (10 * (kU x3.toNatClampNeg))) + 5) + 20))))) else (((x2 + 0) + 0) + 0)
def g_X5_scoreOf (day : Int32) (kC : Nat → Int32) (kD : Nat → Int32) (kU : Nat → Int32) (kA : Nat → Int32) (cu : Int32) : Nat → Int32
  | 0 => 0
  | k + 1 => st_X5_scoreOf day kC kD kU kA cu (g_X5_scoreOf day kC kD kU kA cu k) (nI k)
set_option maxHeartbeats 4000000 in
set_option maxRecDepth 100000 in
theorem c_X5_scoreOf (l : Launch) (G : hG) (z0 : Nat) (mm : hM) (y : Nat) (b : Nat) (day : Int32) (sn : Int32) (bk : Int32) (fe : Int32) (th : Int32) (kC : Nat → Int32) (kD : Nat → Int32) (kU : Nat → Int32) (kA : Nat → Int32) (cu : Int32) (fy : mm y = some (.inr (5, [.ref b, .ref (b + 1), .ref (b + 2), .ref (b + 3), .int day, .ref (b + 4), .ref (b + 5), .ref (b + 6), .ref (b + 7), .ref (b + 8), .ref (b + 9), .ref (b + 10), .int sn, .ref (b + 11), .ref (b + 12), .ref (b + 13), .ref (b + 14), .ref (b + 15), .ref (b + 16), .ref (b + 17), .int bk, .int fe, .ref (b + 18), .ref (b + 19), .int th]))) (fkC : mm (b + 14) = some (eI G 4800 kC)) (fkD : mm (b + 15) = some (eI G 4800 kD)) (fkU : mm (b + 16) = some (eI G 4800 kU)) (fkA : mm (b + 17) = some (eZ G 4800 kA)) (hyb : y < b) (hbk : 0 ≤ bk.toInt ∧ bk.toInt ≤ 4800) : Met l yX5_scoreOf wsX5_scoreOf ({ frames := 0, cells := 0, slots := 0, locals := 0 }) (hPre G z0 mm [.ref y, .int cu]) (hQi G z0 (fun r m' => r = (g_X5_scoreOf day kC kD kU kA cu (bk.toNatClampNeg)) ∧ m' = mm)) 0 0 (h_ge z0) := by
  refine hm_of (cc := cX5_scoreOf) (maxL := 6) (ret := (some .int)) (by decide) rfl (Nat.le_of_ble_eq_true rfl) ?_
  intro p e s m below meth c ls hx hb hr hts hown hlocks hml hin hh hl
  have hl : lv_has ls 6 [(0, .ref y), (1, .int cu)] := hl
  have hiX5 : ∀ w ∈ u_ws RX5 TX5 25, w ∈ wsX5_scoreOf := by decide +kernel
  refine lv_iconst (v := 0) hx hb dX5_scoreOf_0 (by decide) ?_
  refine lv_istore_n (lv' := [(2, .int 0), (0, .ref y), (1, .int cu)]) hx hb dX5_scoreOf_1 rfl hl (by decide) rfl (fun ls hl => ?_)
  refine lv_iconst (v := 0) hx hb dX5_scoreOf_2 (by decide) ?_
  refine lv_istore_n (lv' := [(3, .int 0), (2, .int 0), (0, .ref y), (1, .int cu)]) hx hb dX5_scoreOf_3 rfl hl (by decide) rfl (fun ls hl => ?_)
  have key : ∀ (j : Nat) (k : Nat) (x2 : Int32) (x3 : Int32), k + j = bk.toNatClampNeg → x2 = g_X5_scoreOf day kC kD kU kA cu k → x3 = nI k → ∀ (H : Heap) (locs : List Loc) (ls : Array Slot), hs G z0 mm s H locs → lv_has ls 6 [(0, .ref y), (1, .int cu), (2, .int x2), (3, .int x3)] → W p l e ({ frames := 0, cells := 0, slots := 0, locals := 0 }) s m ([.ref y, .int cu] : List Value).toArray below meth c H locs 0 0 (MQ below (hQi G z0 (fun r m' => r = (g_X5_scoreOf day kC kD kU kA cu (bk.toNatClampNeg)) ∧ m' = mm)) ([.ref y, .int cu] : List Value).toArray s 0 0 (h_ge z0)) (F0 m 4 ls []) := by
    intro j
    induction j with
    | zero =>
      intro k x2 x3 hkj hxx2 hxx3 H locs ls hh hl
      refine lv_iload_n hx hb dX5_scoreOf_4 rfl (lv_at hl 3 rfl) ?_
      refine lv_aload_n hx hb dX5_scoreOf_5 rfl (lv_at hl 0 rfl) ?_
      refine hg_get (C := RX5) (T := TX5) (N := 25) (ci := 5) (own := RX5) (index := 155) hx hb hts hiX5 hown hh fy rfl 20 (by decide) (hts (.fieldLink RX5 155 "BackhaulReturnsModel" "backs" "I") (by decide +kernel)) rfl dX5_scoreOf_6 ?_
      refine lv_icmp_ge (tgt := 126) hx hb dX5_scoreOf_9 (by decide) (fun c_9_1 => ?_) (fun c_9_1 => absurd ((hq_leN hbk.1 hxx3 (by have := hq_n6 hbk; omega)).mpr (by omega)) c_9_1)
      refine lv_iload_n hx hb dX5_scoreOf_126 rfl (lv_at hl 2 rfl) ?_
      exact hr_i hx hb hr hlocks hh dX5_scoreOf_127 (⟨by rw [hxx2, show k = bk.toNatClampNeg from by omega], rfl⟩)
    | succ j ih =>
      intro k x2 x3 hkj hxx2 hxx3 H locs ls hh hl
      refine lv_iload_n hx hb dX5_scoreOf_4 rfl (lv_at hl 3 rfl) ?_
      refine lv_aload_n hx hb dX5_scoreOf_5 rfl (lv_at hl 0 rfl) ?_
      refine hg_get (C := RX5) (T := TX5) (N := 25) (ci := 5) (own := RX5) (index := 155) hx hb hts hiX5 hown hh fy rfl 20 (by decide) (hts (.fieldLink RX5 155 "BackhaulReturnsModel" "backs" "I") (by decide +kernel)) rfl dX5_scoreOf_6 ?_
      refine lv_icmp_ge (tgt := 126) hx hb dX5_scoreOf_9 (by decide) (fun c_9_2 => absurd c_9_2 (fun q => absurd ((hq_leN hbk.1 hxx3 (by have := hq_n6 hbk; omega)).mp q) (by omega))) (fun c_9_2 => ?_)
      refine lv_aload_n hx hb dX5_scoreOf_12 rfl (lv_at hl 0 rfl) ?_
      refine hg_get (C := RX5) (T := TX5) (N := 25) (ci := 5) (own := RX5) (index := 94) hx hb hts hiX5 hown hh fy rfl 4 (by decide) (hts (.fieldLink RX5 94 "BackhaulReturnsModel" "day" "I") (by decide +kernel)) rfl dX5_scoreOf_13 ?_
      refine lv_aload_n hx hb dX5_scoreOf_16 rfl (lv_at hl 0 rfl) ?_
      refine hg_get (C := RX5) (T := TX5) (N := 25) (ci := 5) (own := RX5) (index := 55) hx hb hts hiX5 hown hh fy rfl 17 (by decide) (hts (.fieldLink RX5 55 "BackhaulReturnsModel" "backDays" "[I") (by decide +kernel)) rfl dX5_scoreOf_17 ?_
      refine lv_iload_n hx hb dX5_scoreOf_20 rfl (lv_at hl 3 rfl) ?_
      refine hg_iald hx hb hh fkD (hq_ix hxx3 (by have := hq_n6 hbk; omega) (by decide)) dX5_scoreOf_21 ?_
      refine lv_isub hx hb dX5_scoreOf_22 ?_
      refine lv_istore (lv' := [(4, .int (day - (kD x3.toNatClampNeg))), (0, .ref y), (1, .int cu), (2, .int x2), (3, .int x3)]) hx hb dX5_scoreOf_23 hl (by decide) rfl (fun ls hl => ?_)
      refine lv_aload_n hx hb dX5_scoreOf_25 rfl (lv_at hl 1 rfl) ?_
      refine hg_get (C := RX5) (T := TX5) (N := 25) (ci := 5) (own := RX5) (index := 52) hx hb hts hiX5 hown hh fy rfl 16 (by decide) (hts (.fieldLink RX5 52 "BackhaulReturnsModel" "backCustomers" "[I") (by decide +kernel)) rfl dX5_scoreOf_26 ?_
      refine lv_iload_n hx hb dX5_scoreOf_29 rfl (lv_at hl 4 rfl) ?_
      refine hg_iald hx hb hh fkC (hq_ix hxx3 (by have := hq_n6 hbk; omega) (by decide)) dX5_scoreOf_30 ?_
      refine lv_iload_n hx hb dX5_scoreOf_31 rfl (lv_at hl 2 rfl) ?_
      refine lv_icmp_ne (tgt := 39) hx hb dX5_scoreOf_32 (by decide) (fun c_32_3 => ?_) (fun c_32_3 => ?_)
      ·
        refine lv_iconst (v := 0) hx hb dX5_scoreOf_39 (by decide) ?_
        refine lv_istore (lv' := [(5, .int 0), (4, .int (day - (kD x3.toNatClampNeg))), (0, .ref y), (1, .int cu), (2, .int x2), (3, .int x3)]) hx hb dX5_scoreOf_40 hl (by decide) rfl (fun ls hl => ?_)
        refine lv_iload_n hx hb dX5_scoreOf_42 rfl (lv_at hl 4 rfl) ?_
        refine lv_iload hx hb dX5_scoreOf_43 (lv_at hl 0 rfl) ?_
        refine lv_if_eq (tgt := 67) hx hb dX5_scoreOf_45 (by decide) (fun _ => ?_) (fun h => absurd h (by decide))
        refine lv_iconst (v := 0) hx hb dX5_scoreOf_67 (by decide) ?_
        refine lv_iadd hx hb dX5_scoreOf_68 ?_
        refine lv_istore_n (lv' := [(2, .int (x2 + 0)), (5, .int 0), (4, .int (day - (kD x3.toNatClampNeg))), (0, .ref y), (1, .int cu), (3, .int x3)]) hx hb dX5_scoreOf_69 rfl hl (by decide) rfl (fun ls hl => ?_)
        refine lv_iload_n hx hb dX5_scoreOf_70 rfl (lv_at hl 0 rfl) ?_
        refine lv_iload hx hb dX5_scoreOf_71 (lv_at hl 1 rfl) ?_
        refine lv_if_eq (tgt := 87) hx hb dX5_scoreOf_73 (by decide) (fun _ => ?_) (fun h => absurd h (by decide))
        refine lv_iconst (v := 0) hx hb dX5_scoreOf_87 (by decide) ?_
        refine lv_iadd hx hb dX5_scoreOf_88 ?_
        refine lv_istore_n (lv' := [(2, .int ((x2 + 0) + 0)), (5, .int 0), (4, .int (day - (kD x3.toNatClampNeg))), (0, .ref y), (1, .int cu), (3, .int x3)]) hx hb dX5_scoreOf_89 rfl hl (by decide) rfl (fun ls hl => ?_)
        refine lv_iload_n hx hb dX5_scoreOf_90 rfl (lv_at hl 0 rfl) ?_
        refine lv_iload hx hb dX5_scoreOf_91 (lv_at hl 1 rfl) ?_
        refine lv_if_eq (tgt := 117) hx hb dX5_scoreOf_93 (by decide) (fun _ => ?_) (fun h => absurd h (by decide))
        refine lv_iconst (v := 0) hx hb dX5_scoreOf_117 (by decide) ?_
        refine lv_iadd hx hb dX5_scoreOf_118 ?_
        refine lv_istore_n (lv' := [(2, .int (((x2 + 0) + 0) + 0)), (5, .int 0), (4, .int (day - (kD x3.toNatClampNeg))), (0, .ref y), (1, .int cu), (3, .int x3)]) hx hb dX5_scoreOf_119 rfl hl (by decide) rfl (fun ls hl => ?_)
        refine lv_iinc (v := (x3 + 1)) (lv' := [(3, .int (x3 + 1)), (2, .int (((x2 + 0) + 0) + 0)), (5, .int 0), (4, .int (day - (kD x3.toNatClampNeg))), (0, .ref y), (1, .int cu)]) hx hb dX5_scoreOf_120 hl (k := 5) rfl rfl (by decide) rfl (fun ls hl => ?_)
        refine lv_goto (tgt := 4) hx hb dX5_scoreOf_123 (by decide) ?_
        exact ih (k + 1) (((x2 + 0) + 0) + 0) (x3 + 1) (by omega) (by rw [g_X5_scoreOf, ← hxx2, ← hxx3, st_X5_scoreOf, if_neg c_32_3]) (by rw [hxx3]; exact nI_1 k) _ _ _ hh (lv_sub hl [4, 5, 1, 0] rfl)
      ·
        refine lv_iconst (v := 1) hx hb dX5_scoreOf_35 (by decide) ?_
        refine lv_goto (tgt := 40) hx hb dX5_scoreOf_36 (by decide) ?_
        refine lv_istore (lv' := [(5, .int 1), (4, .int (day - (kD x3.toNatClampNeg))), (0, .ref y), (1, .int cu), (2, .int x2), (3, .int x3)]) hx hb dX5_scoreOf_40 hl (by decide) rfl (fun ls hl => ?_)
        refine lv_iload_n hx hb dX5_scoreOf_42 rfl (lv_at hl 4 rfl) ?_
        refine lv_iload hx hb dX5_scoreOf_43 (lv_at hl 0 rfl) ?_
        refine lv_if_eq (tgt := 67) hx hb dX5_scoreOf_45 (by decide) (fun h => absurd h (by decide)) (fun _ => ?_)
        refine lv_iload hx hb dX5_scoreOf_48 (lv_at hl 1 rfl) ?_
        refine lv_bipush (v := 30) hx hb dX5_scoreOf_50 (by decide) ?_
        refine lv_icmp_ge (tgt := 67) hx hb dX5_scoreOf_52 (by decide) (fun c_52_4 => ?_) (fun c_52_4 => ?_)
        ·
          refine lv_iconst (v := 0) hx hb dX5_scoreOf_67 (by decide) ?_
          refine lv_iadd hx hb dX5_scoreOf_68 ?_
          refine lv_istore_n (lv' := [(2, .int (x2 + 0)), (5, .int 1), (4, .int (day - (kD x3.toNatClampNeg))), (0, .ref y), (1, .int cu), (3, .int x3)]) hx hb dX5_scoreOf_69 rfl hl (by decide) rfl (fun ls hl => ?_)
          refine lv_iload_n hx hb dX5_scoreOf_70 rfl (lv_at hl 0 rfl) ?_
          refine lv_iload hx hb dX5_scoreOf_71 (lv_at hl 1 rfl) ?_
          refine lv_if_eq (tgt := 87) hx hb dX5_scoreOf_73 (by decide) (fun h => absurd h (by decide)) (fun _ => ?_)
          refine lv_iload hx hb dX5_scoreOf_76 (lv_at hl 2 rfl) ?_
          refine lv_bipush (v := 90) hx hb dX5_scoreOf_78 (by decide) ?_
          refine lv_icmp_ge (tgt := 87) hx hb dX5_scoreOf_80 (by decide) (fun c_80_5 => ?_) (fun c_80_5 => ?_)
          ·
            refine lv_iconst (v := 0) hx hb dX5_scoreOf_87 (by decide) ?_
            refine lv_iadd hx hb dX5_scoreOf_88 ?_
            refine lv_istore_n (lv' := [(2, .int ((x2 + 0) + 0)), (5, .int 1), (4, .int (day - (kD x3.toNatClampNeg))), (0, .ref y), (1, .int cu), (3, .int x3)]) hx hb dX5_scoreOf_89 rfl hl (by decide) rfl (fun ls hl => ?_)
            refine lv_iload_n hx hb dX5_scoreOf_90 rfl (lv_at hl 0 rfl) ?_
            refine lv_iload hx hb dX5_scoreOf_91 (lv_at hl 1 rfl) ?_
            refine lv_if_eq (tgt := 117) hx hb dX5_scoreOf_93 (by decide) (fun h => absurd h (by decide)) (fun _ => ?_)
            refine lv_iload hx hb dX5_scoreOf_96 (lv_at hl 2 rfl) ?_
            refine lv_bipush (v := 90) hx hb dX5_scoreOf_98 (by decide) ?_
            refine lv_icmp_ge (tgt := 117) hx hb dX5_scoreOf_100 (by decide) (fun c_100_6 => ?_) (fun c_100_6 => ?_)
            ·
              refine lv_iconst (v := 0) hx hb dX5_scoreOf_117 (by decide) ?_
              refine lv_iadd hx hb dX5_scoreOf_118 ?_
              refine lv_istore_n (lv' := [(2, .int (((x2 + 0) + 0) + 0)), (5, .int 1), (4, .int (day - (kD x3.toNatClampNeg))), (0, .ref y), (1, .int cu), (3, .int x3)]) hx hb dX5_scoreOf_119 rfl hl (by decide) rfl (fun ls hl => ?_)
              refine lv_iinc (v := (x3 + 1)) (lv' := [(3, .int (x3 + 1)), (2, .int (((x2 + 0) + 0) + 0)), (5, .int 1), (4, .int (day - (kD x3.toNatClampNeg))), (0, .ref y), (1, .int cu)]) hx hb dX5_scoreOf_120 hl (k := 5) rfl rfl (by decide) rfl (fun ls hl => ?_)
              refine lv_goto (tgt := 4) hx hb dX5_scoreOf_123 (by decide) ?_
              exact ih (k + 1) (((x2 + 0) + 0) + 0) (x3 + 1) (by omega) (by rw [g_X5_scoreOf, ← hxx2, ← hxx3, st_X5_scoreOf, if_pos c_32_3, if_pos c_52_4, if_pos c_80_5, if_pos c_100_6]) (by rw [hxx3]; exact nI_1 k) _ _ _ hh (lv_sub hl [4, 5, 1, 0] rfl)
            ·
              refine lv_aload_n hx hb dX5_scoreOf_103 rfl (lv_at hl 3 rfl) ?_
              refine hg_get (C := RX5) (T := TX5) (N := 25) (ci := 5) (own := RX5) (index := 61) hx hb hts hiX5 hown hh fy rfl 19 (by decide) (hts (.fieldLink RX5 61 "BackhaulReturnsModel" "isAgain" "[Z") (by decide +kernel)) rfl dX5_scoreOf_104 ?_
              refine lv_iload_n hx hb dX5_scoreOf_107 rfl (lv_at hl 5 rfl) ?_
              refine hg_zald hx hb hh fkA (hq_ix hxx3 (by have := hq_n6 hbk; omega) (by decide)) dX5_scoreOf_108 ?_
              refine lv_if_eq (tgt := 117) hx hb dX5_scoreOf_109 (by decide) (fun c_109_7 => ?_) (fun c_109_7 => ?_)
              ·
                refine lv_iconst (v := 0) hx hb dX5_scoreOf_117 (by decide) ?_
                refine lv_iadd hx hb dX5_scoreOf_118 ?_
                refine lv_istore_n (lv' := [(2, .int (((x2 + 0) + 0) + 0)), (5, .int 1), (4, .int (day - (kD x3.toNatClampNeg))), (0, .ref y), (1, .int cu), (3, .int x3)]) hx hb dX5_scoreOf_119 rfl hl (by decide) rfl (fun ls hl => ?_)
                refine lv_iinc (v := (x3 + 1)) (lv' := [(3, .int (x3 + 1)), (2, .int (((x2 + 0) + 0) + 0)), (5, .int 1), (4, .int (day - (kD x3.toNatClampNeg))), (0, .ref y), (1, .int cu)]) hx hb dX5_scoreOf_120 hl (k := 5) rfl rfl (by decide) rfl (fun ls hl => ?_)
                refine lv_goto (tgt := 4) hx hb dX5_scoreOf_123 (by decide) ?_
                exact ih (k + 1) (((x2 + 0) + 0) + 0) (x3 + 1) (by omega) (by rw [g_X5_scoreOf, ← hxx2, ← hxx3, st_X5_scoreOf, if_pos c_32_3, if_pos c_52_4, if_pos c_80_5, if_neg c_100_6, if_pos c_109_7]) (by rw [hxx3]; exact nI_1 k) _ _ _ hh (lv_sub hl [4, 5, 1, 0] rfl)
              ·
                refine lv_bipush (v := 20) hx hb dX5_scoreOf_112 (by decide) ?_
                refine lv_goto (tgt := 118) hx hb dX5_scoreOf_114 (by decide) ?_
                refine lv_iadd hx hb dX5_scoreOf_118 ?_
                refine lv_istore_n (lv' := [(2, .int (((x2 + 0) + 0) + 20)), (5, .int 1), (4, .int (day - (kD x3.toNatClampNeg))), (0, .ref y), (1, .int cu), (3, .int x3)]) hx hb dX5_scoreOf_119 rfl hl (by decide) rfl (fun ls hl => ?_)
                refine lv_iinc (v := (x3 + 1)) (lv' := [(3, .int (x3 + 1)), (2, .int (((x2 + 0) + 0) + 20)), (5, .int 1), (4, .int (day - (kD x3.toNatClampNeg))), (0, .ref y), (1, .int cu)]) hx hb dX5_scoreOf_120 hl (k := 5) rfl rfl (by decide) rfl (fun ls hl => ?_)
                refine lv_goto (tgt := 4) hx hb dX5_scoreOf_123 (by decide) ?_
                exact ih (k + 1) (((x2 + 0) + 0) + 20) (x3 + 1) (by omega) (by rw [g_X5_scoreOf, ← hxx2, ← hxx3, st_X5_scoreOf, if_pos c_32_3, if_pos c_52_4, if_pos c_80_5, if_neg c_100_6, if_neg c_109_7]) (by rw [hxx3]; exact nI_1 k) _ _ _ hh (lv_sub hl [4, 5, 1, 0] rfl)
          ·
            refine lv_iconst (v := 5) hx hb dX5_scoreOf_83 (by decide) ?_
            refine lv_goto (tgt := 88) hx hb dX5_scoreOf_84 (by decide) ?_
            refine lv_iadd hx hb dX5_scoreOf_88 ?_
            refine lv_istore_n (lv' := [(2, .int ((x2 + 0) + 5)), (5, .int 1), (4, .int (day - (kD x3.toNatClampNeg))), (0, .ref y), (1, .int cu), (3, .int x3)]) hx hb dX5_scoreOf_89 rfl hl (by decide) rfl (fun ls hl => ?_)
            refine lv_iload_n hx hb dX5_scoreOf_90 rfl (lv_at hl 0 rfl) ?_
            refine lv_iload hx hb dX5_scoreOf_91 (lv_at hl 1 rfl) ?_
            refine lv_if_eq (tgt := 117) hx hb dX5_scoreOf_93 (by decide) (fun h => absurd h (by decide)) (fun _ => ?_)
            refine lv_iload hx hb dX5_scoreOf_96 (lv_at hl 2 rfl) ?_
            refine lv_bipush (v := 90) hx hb dX5_scoreOf_98 (by decide) ?_
            refine lv_icmp_ge (tgt := 117) hx hb dX5_scoreOf_100 (by decide) (fun c_100_8 => ?_) (fun c_100_8 => ?_)
            ·
              refine lv_iconst (v := 0) hx hb dX5_scoreOf_117 (by decide) ?_
              refine lv_iadd hx hb dX5_scoreOf_118 ?_
              refine lv_istore_n (lv' := [(2, .int (((x2 + 0) + 5) + 0)), (5, .int 1), (4, .int (day - (kD x3.toNatClampNeg))), (0, .ref y), (1, .int cu), (3, .int x3)]) hx hb dX5_scoreOf_119 rfl hl (by decide) rfl (fun ls hl => ?_)
              refine lv_iinc (v := (x3 + 1)) (lv' := [(3, .int (x3 + 1)), (2, .int (((x2 + 0) + 5) + 0)), (5, .int 1), (4, .int (day - (kD x3.toNatClampNeg))), (0, .ref y), (1, .int cu)]) hx hb dX5_scoreOf_120 hl (k := 5) rfl rfl (by decide) rfl (fun ls hl => ?_)
              refine lv_goto (tgt := 4) hx hb dX5_scoreOf_123 (by decide) ?_
              exact ih (k + 1) (((x2 + 0) + 5) + 0) (x3 + 1) (by omega) (by rw [g_X5_scoreOf, ← hxx2, ← hxx3, st_X5_scoreOf, if_pos c_32_3, if_pos c_52_4, if_neg c_80_5, if_pos c_100_8]) (by rw [hxx3]; exact nI_1 k) _ _ _ hh (lv_sub hl [4, 5, 1, 0] rfl)
            ·
              refine lv_aload_n hx hb dX5_scoreOf_103 rfl (lv_at hl 3 rfl) ?_
              refine hg_get (C := RX5) (T := TX5) (N := 25) (ci := 5) (own := RX5) (index := 61) hx hb hts hiX5 hown hh fy rfl 19 (by decide) (hts (.fieldLink RX5 61 "BackhaulReturnsModel" "isAgain" "[Z") (by decide +kernel)) rfl dX5_scoreOf_104 ?_
              refine lv_iload_n hx hb dX5_scoreOf_107 rfl (lv_at hl 5 rfl) ?_
              refine hg_zald hx hb hh fkA (hq_ix hxx3 (by have := hq_n6 hbk; omega) (by decide)) dX5_scoreOf_108 ?_
              refine lv_if_eq (tgt := 117) hx hb dX5_scoreOf_109 (by decide) (fun c_109_9 => ?_) (fun c_109_9 => ?_)
              ·
                refine lv_iconst (v := 0) hx hb dX5_scoreOf_117 (by decide) ?_
                refine lv_iadd hx hb dX5_scoreOf_118 ?_
                refine lv_istore_n (lv' := [(2, .int (((x2 + 0) + 5) + 0)), (5, .int 1), (4, .int (day - (kD x3.toNatClampNeg))), (0, .ref y), (1, .int cu), (3, .int x3)]) hx hb dX5_scoreOf_119 rfl hl (by decide) rfl (fun ls hl => ?_)
                refine lv_iinc (v := (x3 + 1)) (lv' := [(3, .int (x3 + 1)), (2, .int (((x2 + 0) + 5) + 0)), (5, .int 1), (4, .int (day - (kD x3.toNatClampNeg))), (0, .ref y), (1, .int cu)]) hx hb dX5_scoreOf_120 hl (k := 5) rfl rfl (by decide) rfl (fun ls hl => ?_)
                refine lv_goto (tgt := 4) hx hb dX5_scoreOf_123 (by decide) ?_
                exact ih (k + 1) (((x2 + 0) + 5) + 0) (x3 + 1) (by omega) (by rw [g_X5_scoreOf, ← hxx2, ← hxx3, st_X5_scoreOf, if_pos c_32_3, if_pos c_52_4, if_neg c_80_5, if_neg c_100_8, if_pos c_109_9]) (by rw [hxx3]; exact nI_1 k) _ _ _ hh (lv_sub hl [4, 5, 1, 0] rfl)
              ·
                refine lv_bipush (v := 20) hx hb dX5_scoreOf_112 (by decide) ?_
                refine lv_goto (tgt := 118) hx hb dX5_scoreOf_114 (by decide) ?_
                refine lv_iadd hx hb dX5_scoreOf_118 ?_
                refine lv_istore_n (lv' := [(2, .int (((x2 + 0) + 5) + 20)), (5, .int 1), (4, .int (day - (kD x3.toNatClampNeg))), (0, .ref y), (1, .int cu), (3, .int x3)]) hx hb dX5_scoreOf_119 rfl hl (by decide) rfl (fun ls hl => ?_)
                refine lv_iinc (v := (x3 + 1)) (lv' := [(3, .int (x3 + 1)), (2, .int (((x2 + 0) + 5) + 20)), (5, .int 1), (4, .int (day - (kD x3.toNatClampNeg))), (0, .ref y), (1, .int cu)]) hx hb dX5_scoreOf_120 hl (k := 5) rfl rfl (by decide) rfl (fun ls hl => ?_)
                refine lv_goto (tgt := 4) hx hb dX5_scoreOf_123 (by decide) ?_
                exact ih (k + 1) (((x2 + 0) + 5) + 20) (x3 + 1) (by omega) (by rw [g_X5_scoreOf, ← hxx2, ← hxx3, st_X5_scoreOf, if_pos c_32_3, if_pos c_52_4, if_neg c_80_5, if_neg c_100_8, if_neg c_109_9]) (by rw [hxx3]; exact nI_1 k) _ _ _ hh (lv_sub hl [4, 5, 1, 0] rfl)
        ·
          refine lv_bipush (v := 10) hx hb dX5_scoreOf_55 (by decide) ?_
          refine lv_aload_n hx hb dX5_scoreOf_57 rfl (lv_at hl 2 rfl) ?_
          refine hg_get (C := RX5) (T := TX5) (N := 25) (ci := 5) (own := RX5) (index := 58) hx hb hts hiX5 hown hh fy rfl 18 (by decide) (hts (.fieldLink RX5 58 "BackhaulReturnsModel" "backUnits" "[I") (by decide +kernel)) rfl dX5_scoreOf_58 ?_
          refine lv_iload_n hx hb dX5_scoreOf_61 rfl (lv_at hl 5 rfl) ?_
          refine hg_iald hx hb hh fkU (hq_ix hxx3 (by have := hq_n6 hbk; omega) (by decide)) dX5_scoreOf_62 ?_
          refine lv_imul hx hb dX5_scoreOf_63 ?_
          refine lv_goto (tgt := 68) hx hb dX5_scoreOf_64 (by decide) ?_
          refine lv_iadd hx hb dX5_scoreOf_68 ?_
          refine lv_istore_n (lv' := [(2, .int (x2 + (10 * (kU x3.toNatClampNeg)))), (5, .int 1), (4, .int (day - (kD x3.toNatClampNeg))), (0, .ref y), (1, .int cu), (3, .int x3)]) hx hb dX5_scoreOf_69 rfl hl (by decide) rfl (fun ls hl => ?_)
          refine lv_iload_n hx hb dX5_scoreOf_70 rfl (lv_at hl 0 rfl) ?_
          refine lv_iload hx hb dX5_scoreOf_71 (lv_at hl 1 rfl) ?_
          refine lv_if_eq (tgt := 87) hx hb dX5_scoreOf_73 (by decide) (fun h => absurd h (by decide)) (fun _ => ?_)
          refine lv_iload hx hb dX5_scoreOf_76 (lv_at hl 2 rfl) ?_
          refine lv_bipush (v := 90) hx hb dX5_scoreOf_78 (by decide) ?_
          refine lv_icmp_ge (tgt := 87) hx hb dX5_scoreOf_80 (by decide) (fun c_80_10 => ?_) (fun c_80_10 => ?_)
          ·
            refine lv_iconst (v := 0) hx hb dX5_scoreOf_87 (by decide) ?_
            refine lv_iadd hx hb dX5_scoreOf_88 ?_
            refine lv_istore_n (lv' := [(2, .int ((x2 + (10 * (kU x3.toNatClampNeg))) + 0)), (5, .int 1), (4, .int (day - (kD x3.toNatClampNeg))), (0, .ref y), (1, .int cu), (3, .int x3)]) hx hb dX5_scoreOf_89 rfl hl (by decide) rfl (fun ls hl => ?_)
            refine lv_iload_n hx hb dX5_scoreOf_90 rfl (lv_at hl 0 rfl) ?_
            refine lv_iload hx hb dX5_scoreOf_91 (lv_at hl 1 rfl) ?_
            refine lv_if_eq (tgt := 117) hx hb dX5_scoreOf_93 (by decide) (fun h => absurd h (by decide)) (fun _ => ?_)
            refine lv_iload hx hb dX5_scoreOf_96 (lv_at hl 2 rfl) ?_
            refine lv_bipush (v := 90) hx hb dX5_scoreOf_98 (by decide) ?_
            refine lv_icmp_ge (tgt := 117) hx hb dX5_scoreOf_100 (by decide) (fun c_100_11 => ?_) (fun c_100_11 => ?_)
            ·
              refine lv_iconst (v := 0) hx hb dX5_scoreOf_117 (by decide) ?_
              refine lv_iadd hx hb dX5_scoreOf_118 ?_
              refine lv_istore_n (lv' := [(2, .int (((x2 + (10 * (kU x3.toNatClampNeg))) + 0) + 0)), (5, .int 1), (4, .int (day - (kD x3.toNatClampNeg))), (0, .ref y), (1, .int cu), (3, .int x3)]) hx hb dX5_scoreOf_119 rfl hl (by decide) rfl (fun ls hl => ?_)
              refine lv_iinc (v := (x3 + 1)) (lv' := [(3, .int (x3 + 1)), (2, .int (((x2 + (10 * (kU x3.toNatClampNeg))) + 0) + 0)), (5, .int 1), (4, .int (day - (kD x3.toNatClampNeg))), (0, .ref y), (1, .int cu)]) hx hb dX5_scoreOf_120 hl (k := 5) rfl rfl (by decide) rfl (fun ls hl => ?_)
              refine lv_goto (tgt := 4) hx hb dX5_scoreOf_123 (by decide) ?_
              exact ih (k + 1) (((x2 + (10 * (kU x3.toNatClampNeg))) + 0) + 0) (x3 + 1) (by omega) (by rw [g_X5_scoreOf, ← hxx2, ← hxx3, st_X5_scoreOf, if_pos c_32_3, if_neg c_52_4, if_pos c_80_10, if_pos c_100_11]) (by rw [hxx3]; exact nI_1 k) _ _ _ hh (lv_sub hl [4, 5, 1, 0] rfl)
            ·
              refine lv_aload_n hx hb dX5_scoreOf_103 rfl (lv_at hl 3 rfl) ?_
              refine hg_get (C := RX5) (T := TX5) (N := 25) (ci := 5) (own := RX5) (index := 61) hx hb hts hiX5 hown hh fy rfl 19 (by decide) (hts (.fieldLink RX5 61 "BackhaulReturnsModel" "isAgain" "[Z") (by decide +kernel)) rfl dX5_scoreOf_104 ?_
              refine lv_iload_n hx hb dX5_scoreOf_107 rfl (lv_at hl 5 rfl) ?_
              refine hg_zald hx hb hh fkA (hq_ix hxx3 (by have := hq_n6 hbk; omega) (by decide)) dX5_scoreOf_108 ?_
              refine lv_if_eq (tgt := 117) hx hb dX5_scoreOf_109 (by decide) (fun c_109_12 => ?_) (fun c_109_12 => ?_)
              ·
                refine lv_iconst (v := 0) hx hb dX5_scoreOf_117 (by decide) ?_
                refine lv_iadd hx hb dX5_scoreOf_118 ?_
                refine lv_istore_n (lv' := [(2, .int (((x2 + (10 * (kU x3.toNatClampNeg))) + 0) + 0)), (5, .int 1), (4, .int (day - (kD x3.toNatClampNeg))), (0, .ref y), (1, .int cu), (3, .int x3)]) hx hb dX5_scoreOf_119 rfl hl (by decide) rfl (fun ls hl => ?_)
                refine lv_iinc (v := (x3 + 1)) (lv' := [(3, .int (x3 + 1)), (2, .int (((x2 + (10 * (kU x3.toNatClampNeg))) + 0) + 0)), (5, .int 1), (4, .int (day - (kD x3.toNatClampNeg))), (0, .ref y), (1, .int cu)]) hx hb dX5_scoreOf_120 hl (k := 5) rfl rfl (by decide) rfl (fun ls hl => ?_)
                refine lv_goto (tgt := 4) hx hb dX5_scoreOf_123 (by decide) ?_
                exact ih (k + 1) (((x2 + (10 * (kU x3.toNatClampNeg))) + 0) + 0) (x3 + 1) (by omega) (by rw [g_X5_scoreOf, ← hxx2, ← hxx3, st_X5_scoreOf, if_pos c_32_3, if_neg c_52_4, if_pos c_80_10, if_neg c_100_11, if_pos c_109_12]) (by rw [hxx3]; exact nI_1 k) _ _ _ hh (lv_sub hl [4, 5, 1, 0] rfl)
              ·
                refine lv_bipush (v := 20) hx hb dX5_scoreOf_112 (by decide) ?_
                refine lv_goto (tgt := 118) hx hb dX5_scoreOf_114 (by decide) ?_
                refine lv_iadd hx hb dX5_scoreOf_118 ?_
                refine lv_istore_n (lv' := [(2, .int (((x2 + (10 * (kU x3.toNatClampNeg))) + 0) + 20)), (5, .int 1), (4, .int (day - (kD x3.toNatClampNeg))), (0, .ref y), (1, .int cu), (3, .int x3)]) hx hb dX5_scoreOf_119 rfl hl (by decide) rfl (fun ls hl => ?_)
                refine lv_iinc (v := (x3 + 1)) (lv' := [(3, .int (x3 + 1)), (2, .int (((x2 + (10 * (kU x3.toNatClampNeg))) + 0) + 20)), (5, .int 1), (4, .int (day - (kD x3.toNatClampNeg))), (0, .ref y), (1, .int cu)]) hx hb dX5_scoreOf_120 hl (k := 5) rfl rfl (by decide) rfl (fun ls hl => ?_)
                refine lv_goto (tgt := 4) hx hb dX5_scoreOf_123 (by decide) ?_
                exact ih (k + 1) (((x2 + (10 * (kU x3.toNatClampNeg))) + 0) + 20) (x3 + 1) (by omega) (by rw [g_X5_scoreOf, ← hxx2, ← hxx3, st_X5_scoreOf, if_pos c_32_3, if_neg c_52_4, if_pos c_80_10, if_neg c_100_11, if_neg c_109_12]) (by rw [hxx3]; exact nI_1 k) _ _ _ hh (lv_sub hl [4, 5, 1, 0] rfl)
          ·
            refine lv_iconst (v := 5) hx hb dX5_scoreOf_83 (by decide) ?_
            refine lv_goto (tgt := 88) hx hb dX5_scoreOf_84 (by decide) ?_
            refine lv_iadd hx hb dX5_scoreOf_88 ?_
            refine lv_istore_n (lv' := [(2, .int ((x2 + (10 * (kU x3.toNatClampNeg))) + 5)), (5, .int 1), (4, .int (day - (kD x3.toNatClampNeg))), (0, .ref y), (1, .int cu), (3, .int x3)]) hx hb dX5_scoreOf_89 rfl hl (by decide) rfl (fun ls hl => ?_)
            refine lv_iload_n hx hb dX5_scoreOf_90 rfl (lv_at hl 0 rfl) ?_
            refine lv_iload hx hb dX5_scoreOf_91 (lv_at hl 1 rfl) ?_
            refine lv_if_eq (tgt := 117) hx hb dX5_scoreOf_93 (by decide) (fun h => absurd h (by decide)) (fun _ => ?_)
            refine lv_iload hx hb dX5_scoreOf_96 (lv_at hl 2 rfl) ?_
            refine lv_bipush (v := 90) hx hb dX5_scoreOf_98 (by decide) ?_
            refine lv_icmp_ge (tgt := 117) hx hb dX5_scoreOf_100 (by decide) (fun c_100_13 => ?_) (fun c_100_13 => ?_)
            ·
              refine lv_iconst (v := 0) hx hb dX5_scoreOf_117 (by decide) ?_
              refine lv_iadd hx hb dX5_scoreOf_118 ?_
              refine lv_istore_n (lv' := [(2, .int (((x2 + (10 * (kU x3.toNatClampNeg))) + 5) + 0)), (5, .int 1), (4, .int (day - (kD x3.toNatClampNeg))), (0, .ref y), (1, .int cu), (3, .int x3)]) hx hb dX5_scoreOf_119 rfl hl (by decide) rfl (fun ls hl => ?_)
              refine lv_iinc (v := (x3 + 1)) (lv' := [(3, .int (x3 + 1)), (2, .int (((x2 + (10 * (kU x3.toNatClampNeg))) + 5) + 0)), (5, .int 1), (4, .int (day - (kD x3.toNatClampNeg))), (0, .ref y), (1, .int cu)]) hx hb dX5_scoreOf_120 hl (k := 5) rfl rfl (by decide) rfl (fun ls hl => ?_)
              refine lv_goto (tgt := 4) hx hb dX5_scoreOf_123 (by decide) ?_
              exact ih (k + 1) (((x2 + (10 * (kU x3.toNatClampNeg))) + 5) + 0) (x3 + 1) (by omega) (by rw [g_X5_scoreOf, ← hxx2, ← hxx3, st_X5_scoreOf, if_pos c_32_3, if_neg c_52_4, if_neg c_80_10, if_pos c_100_13]) (by rw [hxx3]; exact nI_1 k) _ _ _ hh (lv_sub hl [4, 5, 1, 0] rfl)
            ·
              refine lv_aload_n hx hb dX5_scoreOf_103 rfl (lv_at hl 3 rfl) ?_
              refine hg_get (C := RX5) (T := TX5) (N := 25) (ci := 5) (own := RX5) (index := 61) hx hb hts hiX5 hown hh fy rfl 19 (by decide) (hts (.fieldLink RX5 61 "BackhaulReturnsModel" "isAgain" "[Z") (by decide +kernel)) rfl dX5_scoreOf_104 ?_
              refine lv_iload_n hx hb dX5_scoreOf_107 rfl (lv_at hl 5 rfl) ?_
              refine hg_zald hx hb hh fkA (hq_ix hxx3 (by have := hq_n6 hbk; omega) (by decide)) dX5_scoreOf_108 ?_
              refine lv_if_eq (tgt := 117) hx hb dX5_scoreOf_109 (by decide) (fun c_109_14 => ?_) (fun c_109_14 => ?_)
              ·
                refine lv_iconst (v := 0) hx hb dX5_scoreOf_117 (by decide) ?_
                refine lv_iadd hx hb dX5_scoreOf_118 ?_
                refine lv_istore_n (lv' := [(2, .int (((x2 + (10 * (kU x3.toNatClampNeg))) + 5) + 0)), (5, .int 1), (4, .int (day - (kD x3.toNatClampNeg))), (0, .ref y), (1, .int cu), (3, .int x3)]) hx hb dX5_scoreOf_119 rfl hl (by decide) rfl (fun ls hl => ?_)
                refine lv_iinc (v := (x3 + 1)) (lv' := [(3, .int (x3 + 1)), (2, .int (((x2 + (10 * (kU x3.toNatClampNeg))) + 5) + 0)), (5, .int 1), (4, .int (day - (kD x3.toNatClampNeg))), (0, .ref y), (1, .int cu)]) hx hb dX5_scoreOf_120 hl (k := 5) rfl rfl (by decide) rfl (fun ls hl => ?_)
                refine lv_goto (tgt := 4) hx hb dX5_scoreOf_123 (by decide) ?_
                exact ih (k + 1) (((x2 + (10 * (kU x3.toNatClampNeg))) + 5) + 0) (x3 + 1) (by omega) (by rw [g_X5_scoreOf, ← hxx2, ← hxx3, st_X5_scoreOf, if_pos c_32_3, if_neg c_52_4, if_neg c_80_10, if_neg c_100_13, if_pos c_109_14]) (by rw [hxx3]; exact nI_1 k) _ _ _ hh (lv_sub hl [4, 5, 1, 0] rfl)
              ·
                refine lv_bipush (v := 20) hx hb dX5_scoreOf_112 (by decide) ?_
                refine lv_goto (tgt := 118) hx hb dX5_scoreOf_114 (by decide) ?_
                refine lv_iadd hx hb dX5_scoreOf_118 ?_
                refine lv_istore_n (lv' := [(2, .int (((x2 + (10 * (kU x3.toNatClampNeg))) + 5) + 20)), (5, .int 1), (4, .int (day - (kD x3.toNatClampNeg))), (0, .ref y), (1, .int cu), (3, .int x3)]) hx hb dX5_scoreOf_119 rfl hl (by decide) rfl (fun ls hl => ?_)
                refine lv_iinc (v := (x3 + 1)) (lv' := [(3, .int (x3 + 1)), (2, .int (((x2 + (10 * (kU x3.toNatClampNeg))) + 5) + 20)), (5, .int 1), (4, .int (day - (kD x3.toNatClampNeg))), (0, .ref y), (1, .int cu)]) hx hb dX5_scoreOf_120 hl (k := 5) rfl rfl (by decide) rfl (fun ls hl => ?_)
                refine lv_goto (tgt := 4) hx hb dX5_scoreOf_123 (by decide) ?_
                exact ih (k + 1) (((x2 + (10 * (kU x3.toNatClampNeg))) + 5) + 20) (x3 + 1) (by omega) (by rw [g_X5_scoreOf, ← hxx2, ← hxx3, st_X5_scoreOf, if_pos c_32_3, if_neg c_52_4, if_neg c_80_10, if_neg c_100_13, if_neg c_109_14]) (by rw [hxx3]; exact nI_1 k) _ _ _ hh (lv_sub hl [4, 5, 1, 0] rfl)
  exact key bk.toNatClampNeg 0 0 0 (by omega) (by rw [g_X5_scoreOf]) (by decide) _ _ _ hh (lv_sub hl [2, 3, 1, 0] rfl)
def f_X5_worth (vP : Nat → Int32) (vS : Nat → Int32) (vR : Nat → Int32) (pd : Int32) (cd : Int32) (op : Int32) : Int32 := if ((80 * (vP pd.toNatClampNeg)) - (100 * (vR pd.toNatClampNeg))) ≤ (100 * (vS pd.toNatClampNeg)) then (if cd = 0 then (if op = 0 then (100 * (vP pd.toNatClampNeg)) else (-2000000000)) else (if cd = 1 then (if op = 0 then (46 * (vP pd.toNatClampNeg)) else (if op = 1 then (((68 * (vP pd.toNatClampNeg)) - 5000) + (f_X5_part (100 * (vS pd.toNatClampNeg)) 5)) else (if op = 3 then (100 * (vS pd.toNatClampNeg)) else (-2000000000)))) else (if op = 2 then ((80 * (vP pd.toNatClampNeg)) - (100 * (vR pd.toNatClampNeg))) else (if op = 3 then (100 * (vS pd.toNatClampNeg)) else (if op = 4 then (if cd = 3 then (60 * (vP pd.toNatClampNeg)) else (-2000000000)) else (-2000000000)))))) else (if cd = 0 then (if op = 0 then (100 * (vP pd.toNatClampNeg)) else (-2000000000)) else (if cd = 1 then (if op = 0 then (46 * (vP pd.toNatClampNeg)) else (if op = 1 then (((68 * (vP pd.toNatClampNeg)) - 5000) + (f_X5_part ((80 * (vP pd.toNatClampNeg)) - (100 * (vR pd.toNatClampNeg))) 5)) else (if op = 3 then (100 * (vS pd.toNatClampNeg)) else (-2000000000)))) else (if op = 2 then ((80 * (vP pd.toNatClampNeg)) - (100 * (vR pd.toNatClampNeg))) else (if op = 3 then (100 * (vS pd.toNatClampNeg)) else (if op = 4 then (if cd = 3 then (60 * (vP pd.toNatClampNeg)) else (-2000000000)) else (-2000000000))))))
set_option maxHeartbeats 4000000 in
set_option maxRecDepth 100000 in
theorem c_X5_worth (l : Launch) (G : hG) (z0 : Nat) (mm : hM) (y : Nat) (b : Nat) (day : Int32) (sn : Int32) (bk : Int32) (fe : Int32) (th : Int32) (vP : Nat → Int32) (vS : Nat → Int32) (vR : Nat → Int32) (pd : Int32) (cd : Int32) (op : Int32) (fy : mm y = some (.inr (5, [.ref b, .ref (b + 1), .ref (b + 2), .ref (b + 3), .int day, .ref (b + 4), .ref (b + 5), .ref (b + 6), .ref (b + 7), .ref (b + 8), .ref (b + 9), .ref (b + 10), .int sn, .ref (b + 11), .ref (b + 12), .ref (b + 13), .ref (b + 14), .ref (b + 15), .ref (b + 16), .ref (b + 17), .int bk, .int fe, .ref (b + 18), .ref (b + 19), .int th]))) (fvP : mm b = some (eI G 10 vP)) (fvS : mm (b + 1) = some (eI G 10 vS)) (fvR : mm (b + 2) = some (eI G 10 vR)) (hyb : y < b) (hpd : vp_in pd 10) : Met l yX5_worth wsX5_worth ({ frames := 1, cells := 0, slots := 0, locals := 21 }) (hPre G z0 mm [.ref y, .int pd, .int cd, .int op]) (hQi G z0 (fun r m' => r = f_X5_worth vP vS vR pd cd op ∧ m' = mm)) 0 0 (h_ge z0) := by
  refine hm_of (cc := cX5_worth) (maxL := 8) (ret := (some .int)) (by decide) rfl (Nat.le_of_ble_eq_true rfl) ?_
  intro p e s m below meth c ls hx hb hr hts hown hlocks hml hin hh hl
  have hl : lv_has ls 8 [(0, .ref y), (1, .int pd), (2, .int cd), (3, .int op)] := hl
  have hiX5 : ∀ w ∈ u_ws RX5 TX5 25, w ∈ wsX5_worth := by decide +kernel
  refine lv_aload_n hx hb dX5_worth_0 rfl (lv_at hl 0 rfl) ?_
  refine hg_get (C := RX5) (T := TX5) (N := 25) (ci := 5) (own := RX5) (index := 7) hx hb hts hiX5 hown hh fy rfl 0 (by decide) (hts (.fieldLink RX5 7 "BackhaulReturnsModel" "prices" "[I") (by decide +kernel)) rfl dX5_worth_1 ?_
  refine lv_iload_n hx hb dX5_worth_4 rfl (lv_at hl 1 rfl) ?_
  refine hg_iald hx hb hh fvP hpd dX5_worth_5 ?_
  refine lv_istore (lv' := [(4, .int (vP pd.toNatClampNeg)), (0, .ref y), (1, .int pd), (2, .int cd), (3, .int op)]) hx hb dX5_worth_6 hl (by decide) rfl (fun ls hl => ?_)
  refine lv_bipush (v := 80) hx hb dX5_worth_8 (by decide) ?_
  refine lv_iload hx hb dX5_worth_10 (lv_at hl 0 rfl) ?_
  refine lv_imul hx hb dX5_worth_12 ?_
  refine lv_bipush (v := 100) hx hb dX5_worth_13 (by decide) ?_
  refine lv_aload_n hx hb dX5_worth_15 rfl (lv_at hl 1 rfl) ?_
  refine hg_get (C := RX5) (T := TX5) (N := 25) (ci := 5) (own := RX5) (index := 16) hx hb hts hiX5 hown hh fy rfl 2 (by decide) (hts (.fieldLink RX5 16 "BackhaulReturnsModel" "repairs" "[I") (by decide +kernel)) rfl dX5_worth_16 ?_
  refine lv_iload_n hx hb dX5_worth_19 rfl (lv_at hl 2 rfl) ?_
  refine hg_iald hx hb hh fvR hpd dX5_worth_20 ?_
  refine lv_imul hx hb dX5_worth_21 ?_
  refine lv_isub hx hb dX5_worth_22 ?_
  refine lv_istore (lv' := [(5, .int ((80 * (vP pd.toNatClampNeg)) - (100 * (vR pd.toNatClampNeg)))), (4, .int (vP pd.toNatClampNeg)), (0, .ref y), (1, .int pd), (2, .int cd), (3, .int op)]) hx hb dX5_worth_23 hl (by decide) rfl (fun ls hl => ?_)
  refine lv_bipush (v := 100) hx hb dX5_worth_25 (by decide) ?_
  refine lv_aload_n hx hb dX5_worth_27 rfl (lv_at hl 2 rfl) ?_
  refine hg_get (C := RX5) (T := TX5) (N := 25) (ci := 5) (own := RX5) (index := 13) hx hb hts hiX5 hown hh fy rfl 1 (by decide) (hts (.fieldLink RX5 13 "BackhaulReturnsModel" "salvages" "[I") (by decide +kernel)) rfl dX5_worth_28 ?_
  refine lv_iload_n hx hb dX5_worth_31 rfl (lv_at hl 3 rfl) ?_
  refine hg_iald hx hb hh fvS hpd dX5_worth_32 ?_
  refine lv_imul hx hb dX5_worth_33 ?_
  refine lv_istore (lv' := [(6, .int (100 * (vS pd.toNatClampNeg))), (5, .int ((80 * (vP pd.toNatClampNeg)) - (100 * (vR pd.toNatClampNeg)))), (4, .int (vP pd.toNatClampNeg)), (0, .ref y), (1, .int pd), (2, .int cd), (3, .int op)]) hx hb dX5_worth_34 hl (by decide) rfl (fun ls hl => ?_)
  refine lv_iload hx hb dX5_worth_36 (lv_at hl 1 rfl) ?_
  refine lv_iload hx hb dX5_worth_38 (lv_at hl 0 rfl) ?_
  refine lv_icmp_le (tgt := 48) hx hb dX5_worth_40 (by decide) (fun c_40_1 => ?_) (fun c_40_1 => ?_)
  ·
    refine lv_iload hx hb dX5_worth_48 (lv_at hl 0 rfl) ?_
    refine lv_istore (lv' := [(7, .int (100 * (vS pd.toNatClampNeg))), (6, .int (100 * (vS pd.toNatClampNeg))), (5, .int ((80 * (vP pd.toNatClampNeg)) - (100 * (vR pd.toNatClampNeg)))), (4, .int (vP pd.toNatClampNeg)), (0, .ref y), (1, .int pd), (2, .int cd), (3, .int op)]) hx hb dX5_worth_50 hl (by decide) rfl (fun ls hl => ?_)
    refine lv_iload_n hx hb dX5_worth_52 rfl (lv_at hl 6 rfl) ?_
    refine lv_if_ne (tgt := 71) hx hb dX5_worth_53 (by decide) (fun c_53_2 => ?_) (fun c_53_2 => ?_)
    ·
      refine lv_iload_n hx hb dX5_worth_71 rfl (lv_at hl 6 rfl) ?_
      refine lv_iconst (v := 1) hx hb dX5_worth_72 (by decide) ?_
      refine lv_icmp_ne (tgt := 125) hx hb dX5_worth_73 (by decide) (fun c_73_3 => ?_) (fun c_73_3 => ?_)
      ·
        refine lv_iload_n hx hb dX5_worth_125 rfl (lv_at hl 7 rfl) ?_
        refine lv_iconst (v := 2) hx hb dX5_worth_126 (by decide) ?_
        refine lv_icmp_ne (tgt := 135) hx hb dX5_worth_127 (by decide) (fun c_127_4 => ?_) (fun c_127_4 => ?_)
        ·
          refine lv_iload_n hx hb dX5_worth_135 rfl (lv_at hl 7 rfl) ?_
          refine lv_iconst (v := 3) hx hb dX5_worth_136 (by decide) ?_
          refine lv_icmp_ne (tgt := 145) hx hb dX5_worth_137 (by decide) (fun c_137_5 => ?_) (fun c_137_5 => ?_)
          ·
            refine lv_iload_n hx hb dX5_worth_145 rfl (lv_at hl 7 rfl) ?_
            refine lv_iconst (v := 4) hx hb dX5_worth_146 (by decide) ?_
            refine lv_icmp_ne (tgt := 163) hx hb dX5_worth_147 (by decide) (fun c_147_6 => ?_) (fun c_147_6 => ?_)
            ·
              refine lv_ldc (own := RX5) (index := 142) (v := (-2000000000)) hx hb hown (hts (.constant RX5 142 (-2000000000)) (by decide +kernel)) dX5_worth_163 ?_
              exact hr_i hx hb hr hlocks hh dX5_worth_165 (⟨by rw [f_X5_worth, if_pos c_40_1, if_neg c_53_2, if_neg c_73_3, if_neg c_127_4, if_neg c_137_5, if_neg c_147_6], rfl⟩)
            ·
              refine lv_iload_n hx hb dX5_worth_150 rfl (lv_at hl 6 rfl) ?_
              refine lv_iconst (v := 3) hx hb dX5_worth_151 (by decide) ?_
              refine lv_icmp_ne (tgt := 163) hx hb dX5_worth_152 (by decide) (fun c_152_7 => ?_) (fun c_152_7 => ?_)
              ·
                refine lv_ldc (own := RX5) (index := 142) (v := (-2000000000)) hx hb hown (hts (.constant RX5 142 (-2000000000)) (by decide +kernel)) dX5_worth_163 ?_
                exact hr_i hx hb hr hlocks hh dX5_worth_165 (⟨by rw [f_X5_worth, if_pos c_40_1, if_neg c_53_2, if_neg c_73_3, if_neg c_127_4, if_neg c_137_5, if_pos c_147_6, if_neg c_152_7], rfl⟩)
              ·
                refine lv_bipush (v := 60) hx hb dX5_worth_155 (by decide) ?_
                refine lv_iload hx hb dX5_worth_157 (lv_at hl 3 rfl) ?_
                refine lv_imul hx hb dX5_worth_159 ?_
                refine lv_goto (tgt := 165) hx hb dX5_worth_160 (by decide) ?_
                exact hr_i hx hb hr hlocks hh dX5_worth_165 (⟨by rw [f_X5_worth, if_pos c_40_1, if_neg c_53_2, if_neg c_73_3, if_neg c_127_4, if_neg c_137_5, if_pos c_147_6, if_pos c_152_7], rfl⟩)
          ·
            refine lv_iload hx hb dX5_worth_140 (lv_at hl 1 rfl) ?_
            refine lv_goto (tgt := 165) hx hb dX5_worth_142 (by decide) ?_
            exact hr_i hx hb hr hlocks hh dX5_worth_165 (⟨by rw [f_X5_worth, if_pos c_40_1, if_neg c_53_2, if_neg c_73_3, if_neg c_127_4, if_pos c_137_5], rfl⟩)
        ·
          refine lv_iload hx hb dX5_worth_130 (lv_at hl 2 rfl) ?_
          refine lv_goto (tgt := 165) hx hb dX5_worth_132 (by decide) ?_
          exact hr_i hx hb hr hlocks hh dX5_worth_165 (⟨by rw [f_X5_worth, if_pos c_40_1, if_neg c_53_2, if_neg c_73_3, if_pos c_127_4], rfl⟩)
      ·
        refine lv_iload_n hx hb dX5_worth_76 rfl (lv_at hl 7 rfl) ?_
        refine lv_if_ne (tgt := 88) hx hb dX5_worth_77 (by decide) (fun c_77_8 => ?_) (fun c_77_8 => ?_)
        ·
          refine lv_iload_n hx hb dX5_worth_88 rfl (lv_at hl 7 rfl) ?_
          refine lv_iconst (v := 1) hx hb dX5_worth_89 (by decide) ?_
          refine lv_icmp_ne (tgt := 112) hx hb dX5_worth_90 (by decide) (fun c_90_9 => ?_) (fun c_90_9 => ?_)
          ·
            refine lv_iload_n hx hb dX5_worth_112 rfl (lv_at hl 7 rfl) ?_
            refine lv_iconst (v := 3) hx hb dX5_worth_113 (by decide) ?_
            refine lv_icmp_ne (tgt := 122) hx hb dX5_worth_114 (by decide) (fun c_114_10 => ?_) (fun c_114_10 => ?_)
            ·
              refine lv_ldc (own := RX5) (index := 142) (v := (-2000000000)) hx hb hown (hts (.constant RX5 142 (-2000000000)) (by decide +kernel)) dX5_worth_122 ?_
              exact hr_i hx hb hr hlocks hh dX5_worth_124 (⟨by rw [f_X5_worth, if_pos c_40_1, if_neg c_53_2, if_pos c_73_3, if_neg c_77_8, if_neg c_90_9, if_neg c_114_10], rfl⟩)
            ·
              refine lv_iload hx hb dX5_worth_117 (lv_at hl 1 rfl) ?_
              refine lv_goto (tgt := 124) hx hb dX5_worth_119 (by decide) ?_
              exact hr_i hx hb hr hlocks hh dX5_worth_124 (⟨by rw [f_X5_worth, if_pos c_40_1, if_neg c_53_2, if_pos c_73_3, if_neg c_77_8, if_neg c_90_9, if_pos c_114_10], rfl⟩)
          ·
            refine lv_bipush (v := 68) hx hb dX5_worth_93 (by decide) ?_
            refine lv_iload hx hb dX5_worth_95 (lv_at hl 3 rfl) ?_
            refine lv_imul hx hb dX5_worth_97 ?_
            refine lv_sipush (v := 5000) hx hb dX5_worth_98 (by decide) ?_
            refine lv_isub hx hb dX5_worth_101 ?_
            refine lv_iload hx hb dX5_worth_102 (lv_at hl 0 rfl) ?_
            refine lv_iconst (v := 5) hx hb dX5_worth_104 (by decide) ?_
            refine hk_i hh (va_runS (As := [.int (100 * (vS pd.toNatClampNeg)), .int 5]) (rest := [.int ((68 * (vP pd.toNatClampNeg)) - 5000)]) ⟨hx, hb, hml, hown, hts⟩ (c_X5_part l G z0 mm (100 * (vS pd.toNatClampNeg)) 5 (by decide)) (va_cwS 2 hts gX5_worth_X5_part rfl rfl rfl (by decide +kernel) ⟨Nat.le_of_ble_eq_true rfl, Nat.le_of_ble_eq_true rfl⟩) (hs_preS hh) rfl rfl hl.1 rfl (lv_room (Nat.le_of_ble_eq_true rfl)) dX5_worth_105 ⟨Nat.le_of_ble_eq_true rfl, Nat.le_of_ble_eq_true rfl⟩) (fun r_105 m_105 H locs hp hh => ?_)
            obtain ⟨hr9, hm9⟩ := hp; subst hr9; have hm9 := hm9.symm; subst hm9
            refine lv_iadd hx hb dX5_worth_108 ?_
            refine lv_goto (tgt := 124) hx hb dX5_worth_109 (by decide) ?_
            exact hr_i hx hb hr hlocks hh dX5_worth_124 (⟨by rw [f_X5_worth, if_pos c_40_1, if_neg c_53_2, if_pos c_73_3, if_neg c_77_8, if_pos c_90_9], rfl⟩)
        ·
          refine lv_bipush (v := 46) hx hb dX5_worth_80 (by decide) ?_
          refine lv_iload hx hb dX5_worth_82 (lv_at hl 3 rfl) ?_
          refine lv_imul hx hb dX5_worth_84 ?_
          refine lv_goto (tgt := 124) hx hb dX5_worth_85 (by decide) ?_
          exact hr_i hx hb hr hlocks hh dX5_worth_124 (⟨by rw [f_X5_worth, if_pos c_40_1, if_neg c_53_2, if_pos c_73_3, if_pos c_77_8], rfl⟩)
    ·
      refine lv_iload_n hx hb dX5_worth_56 rfl (lv_at hl 7 rfl) ?_
      refine lv_if_ne (tgt := 68) hx hb dX5_worth_57 (by decide) (fun c_57_11 => ?_) (fun c_57_11 => ?_)
      ·
        refine lv_ldc (own := RX5) (index := 142) (v := (-2000000000)) hx hb hown (hts (.constant RX5 142 (-2000000000)) (by decide +kernel)) dX5_worth_68 ?_
        exact hr_i hx hb hr hlocks hh dX5_worth_70 (⟨by rw [f_X5_worth, if_pos c_40_1, if_pos c_53_2, if_neg c_57_11], rfl⟩)
      ·
        refine lv_bipush (v := 100) hx hb dX5_worth_60 (by decide) ?_
        refine lv_iload hx hb dX5_worth_62 (lv_at hl 3 rfl) ?_
        refine lv_imul hx hb dX5_worth_64 ?_
        refine lv_goto (tgt := 70) hx hb dX5_worth_65 (by decide) ?_
        exact hr_i hx hb hr hlocks hh dX5_worth_70 (⟨by rw [f_X5_worth, if_pos c_40_1, if_pos c_53_2, if_pos c_57_11], rfl⟩)
  ·
    refine lv_iload hx hb dX5_worth_43 (lv_at hl 1 rfl) ?_
    refine lv_goto (tgt := 50) hx hb dX5_worth_45 (by decide) ?_
    refine lv_istore (lv' := [(7, .int ((80 * (vP pd.toNatClampNeg)) - (100 * (vR pd.toNatClampNeg)))), (6, .int (100 * (vS pd.toNatClampNeg))), (5, .int ((80 * (vP pd.toNatClampNeg)) - (100 * (vR pd.toNatClampNeg)))), (4, .int (vP pd.toNatClampNeg)), (0, .ref y), (1, .int pd), (2, .int cd), (3, .int op)]) hx hb dX5_worth_50 hl (by decide) rfl (fun ls hl => ?_)
    refine lv_iload_n hx hb dX5_worth_52 rfl (lv_at hl 6 rfl) ?_
    refine lv_if_ne (tgt := 71) hx hb dX5_worth_53 (by decide) (fun c_53_12 => ?_) (fun c_53_12 => ?_)
    ·
      refine lv_iload_n hx hb dX5_worth_71 rfl (lv_at hl 6 rfl) ?_
      refine lv_iconst (v := 1) hx hb dX5_worth_72 (by decide) ?_
      refine lv_icmp_ne (tgt := 125) hx hb dX5_worth_73 (by decide) (fun c_73_13 => ?_) (fun c_73_13 => ?_)
      ·
        refine lv_iload_n hx hb dX5_worth_125 rfl (lv_at hl 7 rfl) ?_
        refine lv_iconst (v := 2) hx hb dX5_worth_126 (by decide) ?_
        refine lv_icmp_ne (tgt := 135) hx hb dX5_worth_127 (by decide) (fun c_127_14 => ?_) (fun c_127_14 => ?_)
        ·
          refine lv_iload_n hx hb dX5_worth_135 rfl (lv_at hl 7 rfl) ?_
          refine lv_iconst (v := 3) hx hb dX5_worth_136 (by decide) ?_
          refine lv_icmp_ne (tgt := 145) hx hb dX5_worth_137 (by decide) (fun c_137_15 => ?_) (fun c_137_15 => ?_)
          ·
            refine lv_iload_n hx hb dX5_worth_145 rfl (lv_at hl 7 rfl) ?_
            refine lv_iconst (v := 4) hx hb dX5_worth_146 (by decide) ?_
            refine lv_icmp_ne (tgt := 163) hx hb dX5_worth_147 (by decide) (fun c_147_16 => ?_) (fun c_147_16 => ?_)
            ·
              refine lv_ldc (own := RX5) (index := 142) (v := (-2000000000)) hx hb hown (hts (.constant RX5 142 (-2000000000)) (by decide +kernel)) dX5_worth_163 ?_
              exact hr_i hx hb hr hlocks hh dX5_worth_165 (⟨by rw [f_X5_worth, if_neg c_40_1, if_neg c_53_12, if_neg c_73_13, if_neg c_127_14, if_neg c_137_15, if_neg c_147_16], rfl⟩)
            ·
              refine lv_iload_n hx hb dX5_worth_150 rfl (lv_at hl 6 rfl) ?_
              refine lv_iconst (v := 3) hx hb dX5_worth_151 (by decide) ?_
              refine lv_icmp_ne (tgt := 163) hx hb dX5_worth_152 (by decide) (fun c_152_17 => ?_) (fun c_152_17 => ?_)
              ·
                refine lv_ldc (own := RX5) (index := 142) (v := (-2000000000)) hx hb hown (hts (.constant RX5 142 (-2000000000)) (by decide +kernel)) dX5_worth_163 ?_
                exact hr_i hx hb hr hlocks hh dX5_worth_165 (⟨by rw [f_X5_worth, if_neg c_40_1, if_neg c_53_12, if_neg c_73_13, if_neg c_127_14, if_neg c_137_15, if_pos c_147_16, if_neg c_152_17], rfl⟩)
              ·
                refine lv_bipush (v := 60) hx hb dX5_worth_155 (by decide) ?_
                refine lv_iload hx hb dX5_worth_157 (lv_at hl 3 rfl) ?_
                refine lv_imul hx hb dX5_worth_159 ?_
                refine lv_goto (tgt := 165) hx hb dX5_worth_160 (by decide) ?_
                exact hr_i hx hb hr hlocks hh dX5_worth_165 (⟨by rw [f_X5_worth, if_neg c_40_1, if_neg c_53_12, if_neg c_73_13, if_neg c_127_14, if_neg c_137_15, if_pos c_147_16, if_pos c_152_17], rfl⟩)
          ·
            refine lv_iload hx hb dX5_worth_140 (lv_at hl 1 rfl) ?_
            refine lv_goto (tgt := 165) hx hb dX5_worth_142 (by decide) ?_
            exact hr_i hx hb hr hlocks hh dX5_worth_165 (⟨by rw [f_X5_worth, if_neg c_40_1, if_neg c_53_12, if_neg c_73_13, if_neg c_127_14, if_pos c_137_15], rfl⟩)
        ·
          refine lv_iload hx hb dX5_worth_130 (lv_at hl 2 rfl) ?_
          refine lv_goto (tgt := 165) hx hb dX5_worth_132 (by decide) ?_
          exact hr_i hx hb hr hlocks hh dX5_worth_165 (⟨by rw [f_X5_worth, if_neg c_40_1, if_neg c_53_12, if_neg c_73_13, if_pos c_127_14], rfl⟩)
      ·
        refine lv_iload_n hx hb dX5_worth_76 rfl (lv_at hl 7 rfl) ?_
        refine lv_if_ne (tgt := 88) hx hb dX5_worth_77 (by decide) (fun c_77_18 => ?_) (fun c_77_18 => ?_)
        ·
          refine lv_iload_n hx hb dX5_worth_88 rfl (lv_at hl 7 rfl) ?_
          refine lv_iconst (v := 1) hx hb dX5_worth_89 (by decide) ?_
          refine lv_icmp_ne (tgt := 112) hx hb dX5_worth_90 (by decide) (fun c_90_19 => ?_) (fun c_90_19 => ?_)
          ·
            refine lv_iload_n hx hb dX5_worth_112 rfl (lv_at hl 7 rfl) ?_
            refine lv_iconst (v := 3) hx hb dX5_worth_113 (by decide) ?_
            refine lv_icmp_ne (tgt := 122) hx hb dX5_worth_114 (by decide) (fun c_114_20 => ?_) (fun c_114_20 => ?_)
            ·
              refine lv_ldc (own := RX5) (index := 142) (v := (-2000000000)) hx hb hown (hts (.constant RX5 142 (-2000000000)) (by decide +kernel)) dX5_worth_122 ?_
              exact hr_i hx hb hr hlocks hh dX5_worth_124 (⟨by rw [f_X5_worth, if_neg c_40_1, if_neg c_53_12, if_pos c_73_13, if_neg c_77_18, if_neg c_90_19, if_neg c_114_20], rfl⟩)
            ·
              refine lv_iload hx hb dX5_worth_117 (lv_at hl 1 rfl) ?_
              refine lv_goto (tgt := 124) hx hb dX5_worth_119 (by decide) ?_
              exact hr_i hx hb hr hlocks hh dX5_worth_124 (⟨by rw [f_X5_worth, if_neg c_40_1, if_neg c_53_12, if_pos c_73_13, if_neg c_77_18, if_neg c_90_19, if_pos c_114_20], rfl⟩)
          ·
            refine lv_bipush (v := 68) hx hb dX5_worth_93 (by decide) ?_
            refine lv_iload hx hb dX5_worth_95 (lv_at hl 3 rfl) ?_
            refine lv_imul hx hb dX5_worth_97 ?_
            refine lv_sipush (v := 5000) hx hb dX5_worth_98 (by decide) ?_
            refine lv_isub hx hb dX5_worth_101 ?_
            refine lv_iload hx hb dX5_worth_102 (lv_at hl 0 rfl) ?_
            refine lv_iconst (v := 5) hx hb dX5_worth_104 (by decide) ?_
            refine hk_i hh (va_runS (As := [.int ((80 * (vP pd.toNatClampNeg)) - (100 * (vR pd.toNatClampNeg))), .int 5]) (rest := [.int ((68 * (vP pd.toNatClampNeg)) - 5000)]) ⟨hx, hb, hml, hown, hts⟩ (c_X5_part l G z0 mm ((80 * (vP pd.toNatClampNeg)) - (100 * (vR pd.toNatClampNeg))) 5 (by decide)) (va_cwS 2 hts gX5_worth_X5_part rfl rfl rfl (by decide +kernel) ⟨Nat.le_of_ble_eq_true rfl, Nat.le_of_ble_eq_true rfl⟩) (hs_preS hh) rfl rfl hl.1 rfl (lv_room (Nat.le_of_ble_eq_true rfl)) dX5_worth_105 ⟨Nat.le_of_ble_eq_true rfl, Nat.le_of_ble_eq_true rfl⟩) (fun r_105 m_105 H locs hp hh => ?_)
            obtain ⟨hr9, hm9⟩ := hp; subst hr9; have hm9 := hm9.symm; subst hm9
            refine lv_iadd hx hb dX5_worth_108 ?_
            refine lv_goto (tgt := 124) hx hb dX5_worth_109 (by decide) ?_
            exact hr_i hx hb hr hlocks hh dX5_worth_124 (⟨by rw [f_X5_worth, if_neg c_40_1, if_neg c_53_12, if_pos c_73_13, if_neg c_77_18, if_pos c_90_19], rfl⟩)
        ·
          refine lv_bipush (v := 46) hx hb dX5_worth_80 (by decide) ?_
          refine lv_iload hx hb dX5_worth_82 (lv_at hl 3 rfl) ?_
          refine lv_imul hx hb dX5_worth_84 ?_
          refine lv_goto (tgt := 124) hx hb dX5_worth_85 (by decide) ?_
          exact hr_i hx hb hr hlocks hh dX5_worth_124 (⟨by rw [f_X5_worth, if_neg c_40_1, if_neg c_53_12, if_pos c_73_13, if_pos c_77_18], rfl⟩)
    ·
      refine lv_iload_n hx hb dX5_worth_56 rfl (lv_at hl 7 rfl) ?_
      refine lv_if_ne (tgt := 68) hx hb dX5_worth_57 (by decide) (fun c_57_21 => ?_) (fun c_57_21 => ?_)
      ·
        refine lv_ldc (own := RX5) (index := 142) (v := (-2000000000)) hx hb hown (hts (.constant RX5 142 (-2000000000)) (by decide +kernel)) dX5_worth_68 ?_
        exact hr_i hx hb hr hlocks hh dX5_worth_70 (⟨by rw [f_X5_worth, if_neg c_40_1, if_pos c_53_12, if_neg c_57_21], rfl⟩)
      ·
        refine lv_bipush (v := 100) hx hb dX5_worth_60 (by decide) ?_
        refine lv_iload hx hb dX5_worth_62 (lv_at hl 3 rfl) ?_
        refine lv_imul hx hb dX5_worth_64 ?_
        refine lv_goto (tgt := 70) hx hb dX5_worth_65 (by decide) ?_
        exact hr_i hx hb hr hlocks hh dX5_worth_70 (⟨by rw [f_X5_worth, if_neg c_40_1, if_pos c_53_12, if_pos c_57_21], rfl⟩)
def st_X5_best (vP : Nat → Int32) (vS : Nat → Int32) (vR : Nat → Int32) (pd : Int32) (cd : Int32) (x3 x4 : Int32) : Int32 := if (f_X5_worth vP vS vR pd cd x4) ≤ (f_X5_worth vP vS vR pd cd x3) then x3 else x4
def g_X5_best (vP : Nat → Int32) (vS : Nat → Int32) (vR : Nat → Int32) (pd : Int32) (cd : Int32) : Nat → Int32
  | 0 => 0
  | k + 1 => st_X5_best vP vS vR pd cd (g_X5_best vP vS vR pd cd k) (nI (k + 1))
set_option maxHeartbeats 4000000 in
set_option maxRecDepth 100000 in
theorem c_X5_best (l : Launch) (G : hG) (z0 : Nat) (mm : hM) (y : Nat) (b : Nat) (day : Int32) (sn : Int32) (bk : Int32) (fe : Int32) (th : Int32) (vP : Nat → Int32) (vS : Nat → Int32) (vR : Nat → Int32) (pd : Int32) (cd : Int32) (fy : mm y = some (.inr (5, [.ref b, .ref (b + 1), .ref (b + 2), .ref (b + 3), .int day, .ref (b + 4), .ref (b + 5), .ref (b + 6), .ref (b + 7), .ref (b + 8), .ref (b + 9), .ref (b + 10), .int sn, .ref (b + 11), .ref (b + 12), .ref (b + 13), .ref (b + 14), .ref (b + 15), .ref (b + 16), .ref (b + 17), .int bk, .int fe, .ref (b + 18), .ref (b + 19), .int th]))) (fvP : mm b = some (eI G 10 vP)) (fvS : mm (b + 1) = some (eI G 10 vS)) (fvR : mm (b + 2) = some (eI G 10 vR)) (hyb : y < b) (hpd : vp_in pd 10) : Met l yX5_best wsX5_best ({ frames := 2, cells := 0, slots := 0, locals := 48 }) (hPre G z0 mm [.ref y, .int pd, .int cd]) (hQi G z0 (fun r m' => r = (g_X5_best vP vS vR pd cd (4)) ∧ m' = mm)) 0 0 (h_ge z0) := by
  refine hm_of (cc := cX5_best) (maxL := 5) (ret := (some .int)) (by decide) rfl (Nat.le_of_ble_eq_true rfl) ?_
  intro p e s m below meth c ls hx hb hr hts hown hlocks hml hin hh hl
  have hl : lv_has ls 5 [(0, .ref y), (1, .int pd), (2, .int cd)] := hl
  refine lv_iconst (v := 0) hx hb dX5_best_0 (by decide) ?_
  refine lv_istore_n (lv' := [(3, .int 0), (0, .ref y), (1, .int pd), (2, .int cd)]) hx hb dX5_best_1 rfl hl (by decide) rfl (fun ls hl => ?_)
  refine lv_iconst (v := 1) hx hb dX5_best_2 (by decide) ?_
  refine lv_istore (lv' := [(4, .int 1), (3, .int 0), (0, .ref y), (1, .int pd), (2, .int cd)]) hx hb dX5_best_3 hl (by decide) rfl (fun ls hl => ?_)
  have key : ∀ (j : Nat) (k : Nat) (x3 : Int32) (x4 : Int32), k + j = 4 → x3 = g_X5_best vP vS vR pd cd k → x4 = nI (k + 1) → ∀ (H : Heap) (locs : List Loc) (ls : Array Slot), hs G z0 mm s H locs → lv_has ls 5 [(0, .ref y), (1, .int pd), (2, .int cd), (3, .int x3), (4, .int x4)] → W p l e ({ frames := 2, cells := 0, slots := 0, locals := 48 }) s m ([.ref y, .int pd, .int cd] : List Value).toArray below meth c H locs 0 0 (MQ below (hQi G z0 (fun r m' => r = (g_X5_best vP vS vR pd cd (4)) ∧ m' = mm)) ([.ref y, .int pd, .int cd] : List Value).toArray s 0 0 (h_ge z0)) (F0 m 5 ls []) := by
    intro j
    induction j with
    | zero =>
      intro k x3 x4 hkj hxx3 hxx4 H locs ls hh hl
      refine lv_iload hx hb dX5_best_5 (lv_at hl 4 rfl) ?_
      refine lv_iconst (v := 4) hx hb dX5_best_7 (by decide) ?_
      refine lv_icmp_gt (tgt := 42) hx hb dX5_best_8 (by decide) (fun c_8_1 => ?_) (fun c_8_1 => absurd ((by rw [hxx4, show k = 4 from by omega]; decide)) c_8_1)
      refine lv_iload_n hx hb dX5_best_42 rfl (lv_at hl 3 rfl) ?_
      exact hr_i hx hb hr hlocks hh dX5_best_43 (⟨by rw [hxx3, show k = 4 from by omega], rfl⟩)
    | succ j ih =>
      intro k x3 x4 hkj hxx3 hxx4 H locs ls hh hl
      refine lv_iload hx hb dX5_best_5 (lv_at hl 4 rfl) ?_
      refine lv_iconst (v := 4) hx hb dX5_best_7 (by decide) ?_
      refine lv_icmp_gt (tgt := 42) hx hb dX5_best_8 (by decide) (fun c_8_2 => absurd c_8_2 ((by rw [hxx4]; have h9 : k = 0 ∨ k = 1 ∨ k = 2 ∨ k = 3 := (by omega); rcases h9 with h9 | h9 | h9 | h9 <;> subst h9 <;> decide))) (fun c_8_2 => ?_)
      refine lv_aload_n hx hb dX5_best_11 rfl (lv_at hl 0 rfl) ?_
      refine lv_iload_n hx hb dX5_best_12 rfl (lv_at hl 1 rfl) ?_
      refine lv_iload_n hx hb dX5_best_13 rfl (lv_at hl 2 rfl) ?_
      refine lv_iload hx hb dX5_best_14 (lv_at hl 4 rfl) ?_
      refine hk_i hh (va_runV (As := [.int pd, .int cd, .int x4]) (rest := []) ⟨hx, hb, hml, hown, hts⟩ (c_X5_worth l G z0 mm y b day sn bk fe th vP vS vR pd cd x4 fy fvP fvS fvR hyb hpd) (cwV 3 hts gX5_best_X5_worth rfl rfl rfl (by decide +kernel) ⟨Nat.le_of_ble_eq_true rfl, Nat.le_of_ble_eq_true rfl⟩) (hs_preV hh fy rfl) rfl rfl hl.1 rfl (lv_room (Nat.le_of_ble_eq_true rfl)) dX5_best_16 ⟨Nat.le_of_ble_eq_true rfl, Nat.le_of_ble_eq_true rfl⟩) (fun r_16 m_16 H locs hp hh => ?_)
      obtain ⟨hr9, hm9⟩ := hp; subst hr9; have hm9 := hm9.symm; subst hm9
      refine lv_aload_n hx hb dX5_best_19 rfl (lv_at hl 0 rfl) ?_
      refine lv_iload_n hx hb dX5_best_20 rfl (lv_at hl 1 rfl) ?_
      refine lv_iload_n hx hb dX5_best_21 rfl (lv_at hl 2 rfl) ?_
      refine lv_iload_n hx hb dX5_best_22 rfl (lv_at hl 3 rfl) ?_
      refine hk_i hh (va_runV (As := [.int pd, .int cd, .int x3]) (rest := [.int (f_X5_worth vP vS vR pd cd x4)]) ⟨hx, hb, hml, hown, hts⟩ (c_X5_worth l G z0 mm y b day sn bk fe th vP vS vR pd cd x3 fy fvP fvS fvR hyb hpd) (cwV 3 hts gX5_best_X5_worth rfl rfl rfl (by decide +kernel) ⟨Nat.le_of_ble_eq_true rfl, Nat.le_of_ble_eq_true rfl⟩) (hs_preV hh fy rfl) rfl rfl hl.1 rfl (lv_room (Nat.le_of_ble_eq_true rfl)) dX5_best_23 ⟨Nat.le_of_ble_eq_true rfl, Nat.le_of_ble_eq_true rfl⟩) (fun r_23 m_23 H locs hp hh => ?_)
      obtain ⟨hr9, hm9⟩ := hp; subst hr9; have hm9 := hm9.symm; subst hm9
      refine lv_icmp_le (tgt := 34) hx hb dX5_best_26 (by decide) (fun c_26_3 => ?_) (fun c_26_3 => ?_)
      ·
        refine lv_iload_n hx hb dX5_best_34 rfl (lv_at hl 3 rfl) ?_
        refine lv_istore_n (lv' := [(3, .int x3), (0, .ref y), (1, .int pd), (2, .int cd), (4, .int x4)]) hx hb dX5_best_35 rfl hl (by decide) rfl (fun ls hl => ?_)
        refine lv_iinc (v := (x4 + 1)) (lv' := [(4, .int (x4 + 1)), (3, .int x3), (0, .ref y), (1, .int pd), (2, .int cd)]) hx hb dX5_best_36 hl (k := 4) rfl rfl (by decide) rfl (fun ls hl => ?_)
        refine lv_goto (tgt := 5) hx hb dX5_best_39 (by decide) ?_
        exact ih (k + 1) x3 (x4 + 1) (by omega) (by rw [g_X5_best, ← hxx3, ← hxx4, st_X5_best, if_pos c_26_3]) (by rw [hxx4]; exact nI_1 (k + 1)) _ _ _ hh (lv_sub hl [2, 3, 4, 1, 0] rfl)
      ·
        refine lv_iload hx hb dX5_best_29 (lv_at hl 4 rfl) ?_
        refine lv_goto (tgt := 35) hx hb dX5_best_31 (by decide) ?_
        refine lv_istore_n (lv' := [(3, .int x4), (0, .ref y), (1, .int pd), (2, .int cd), (4, .int x4)]) hx hb dX5_best_35 rfl hl (by decide) rfl (fun ls hl => ?_)
        refine lv_iinc (v := (x4 + 1)) (lv' := [(4, .int (x4 + 1)), (3, .int x4), (0, .ref y), (1, .int pd), (2, .int cd)]) hx hb dX5_best_36 hl (k := 4) rfl rfl (by decide) rfl (fun ls hl => ?_)
        refine lv_goto (tgt := 5) hx hb dX5_best_39 (by decide) ?_
        exact ih (k + 1) x4 (x4 + 1) (by omega) (by rw [g_X5_best, ← hxx3, ← hxx4, st_X5_best, if_neg c_26_3]) (by rw [hxx4]; exact nI_1 (k + 1)) _ _ _ hh (lv_sub hl [2, 3, 4, 1, 0] rfl)
  exact key 4 0 0 1 (by omega) (by rw [g_X5_best]) (by decide) _ _ _ hh (lv_sub hl [2, 3, 4, 1, 0] rfl)
def st_X5_next (vM : Nat → Int64) (x2 x3 : Int32) : Int32 := if (lg_cmp (vM x3.toNatClampNeg) (vM x2.toNatClampNeg)) ≤ 0 then x2 else x3
def g_X5_next (vM : Nat → Int64) : Nat → Int32
  | 0 => 0
  | k + 1 => st_X5_next vM (g_X5_next vM k) (nI (k + 1))
set_option maxHeartbeats 4000000 in
set_option maxRecDepth 100000 in
theorem c_X5_next (l : Launch) (G : hG) (z0 : Nat) (mm : hM) (y : Nat) (b : Nat) (day : Int32) (sn : Int32) (bk : Int32) (fe : Int32) (th : Int32) (vZ : Nat → Int32) (vM : Nat → Int64) (sale : Int32) (fy : mm y = some (.inr (5, [.ref b, .ref (b + 1), .ref (b + 2), .ref (b + 3), .int day, .ref (b + 4), .ref (b + 5), .ref (b + 6), .ref (b + 7), .ref (b + 8), .ref (b + 9), .ref (b + 10), .int sn, .ref (b + 11), .ref (b + 12), .ref (b + 13), .ref (b + 14), .ref (b + 15), .ref (b + 16), .ref (b + 17), .int bk, .int fe, .ref (b + 18), .ref (b + 19), .int th]))) (fvZ : mm (b + 5) = some (eI G 40 vZ)) (fvM : mm (b + 18) = some (eJ G 6 vM)) (hyb : y < b) (hsl : vp_in sale 40) (hz : ∀ k : Nat, k < 40 → 0 ≤ (vZ k).toInt ∧ (vZ k).toInt ≤ 6) : Met l yX5_next wsX5_next ({ frames := 0, cells := 0, slots := 0, locals := 0 }) (hPre G z0 mm [.ref y, .int sale]) (hQi G z0 (fun r m' => r = g_X5_next vM ((vZ sale.toNatClampNeg).toNatClampNeg - 1) ∧ vp_in r 6 ∧ m' = hu mm (b + 18) (eJ G 6 (vp_updL vM r.toNatClampNeg (-1))))) 0 0 (h_ge z0) := by
  refine hm_of (cc := cX5_next) (maxL := 4) (ret := (some .int)) (by decide) rfl (Nat.le_of_ble_eq_true rfl) ?_
  intro p e s m below meth c ls hx hb hr hts hown hlocks hml hin hh hl
  have hl : lv_has ls 4 [(0, .ref y), (1, .int sale)] := hl
  have hiX5 : ∀ w ∈ u_ws RX5 TX5 25, w ∈ wsX5_next := by decide +kernel
  refine lv_iconst (v := 0) hx hb dX5_next_0 (by decide) ?_
  refine lv_istore_n (lv' := [(2, .int 0), (0, .ref y), (1, .int sale)]) hx hb dX5_next_1 rfl hl (by decide) rfl (fun ls hl => ?_)
  refine lv_iconst (v := 1) hx hb dX5_next_2 (by decide) ?_
  refine lv_istore_n (lv' := [(3, .int 1), (2, .int 0), (0, .ref y), (1, .int sale)]) hx hb dX5_next_3 rfl hl (by decide) rfl (fun ls hl => ?_)
  have key : ∀ (j : Nat) (k : Nat) (x2 : Int32) (x3 : Int32), k + j = ((vZ sale.toNatClampNeg).toNatClampNeg - 1) → x2 = g_X5_next vM k → x3 = nI (k + 1) → vp_in x2 6 → ∀ (H : Heap) (locs : List Loc) (ls : Array Slot), hs G z0 mm s H locs → lv_has ls 4 [(0, .ref y), (1, .int sale), (2, .int x2), (3, .int x3)] → W p l e ({ frames := 0, cells := 0, slots := 0, locals := 0 }) s m ([.ref y, .int sale] : List Value).toArray below meth c H locs 0 0 (MQ below (hQi G z0 (fun r m' => r = g_X5_next vM ((vZ sale.toNatClampNeg).toNatClampNeg - 1) ∧ vp_in r 6 ∧ m' = hu mm (b + 18) (eJ G 6 (vp_updL vM r.toNatClampNeg (-1))))) ([.ref y, .int sale] : List Value).toArray s 0 0 (h_ge z0)) (F0 m 4 ls []) := by
    intro j
    induction j with
    | zero =>
      intro k x2 x3 hkj hxx2 hxx3 h2r H locs ls hh hl
      refine lv_iload_n hx hb dX5_next_4 rfl (lv_at hl 3 rfl) ?_
      refine lv_aload_n hx hb dX5_next_5 rfl (lv_at hl 0 rfl) ?_
      refine hg_get (C := RX5) (T := TX5) (N := 25) (ci := 5) (own := RX5) (index := 25) hx hb hts hiX5 hown hh fy rfl 6 (by decide) (hts (.fieldLink RX5 25 "BackhaulReturnsModel" "sizes" "[I") (by decide +kernel)) rfl dX5_next_6 ?_
      refine lv_iload_n hx hb dX5_next_9 rfl (lv_at hl 1 rfl) ?_
      refine hg_iald hx hb hh fvZ hsl dX5_next_10 ?_
      refine lv_icmp_ge (tgt := 42) hx hb dX5_next_11 (by decide) (fun c_11_1 => ?_) (fun c_11_1 => absurd ((hq_leN (hz _ (hq_cl hsl)).1 hxx3 (by have := hq_n6 (hz _ (hq_cl hsl)); omega)).mpr (by omega)) c_11_1)
      refine lv_aload_n hx hb dX5_next_42 rfl (lv_at hl 0 rfl) ?_
      refine hg_get (C := RX5) (T := TX5) (N := 25) (ci := 5) (own := RX5) (index := 65) hx hb hts hiX5 hown hh fy rfl 22 (by decide) (hts (.fieldLink RX5 65 "BackhaulReturnsModel" "remainders" "[J") (by decide +kernel)) rfl dX5_next_43 ?_
      refine lv_iload_n hx hb dX5_next_46 rfl (lv_at hl 2 rfl) ?_
      refine lv_ldc2 (own := RX5) (index := 133) (v := (-1)) hx hb hown (hts (.constantLong RX5 133 (-1)) (by decide +kernel)) dX5_next_47 ?_
      refine hg_last hx hb hh fvM h2r dX5_next_50 (fun H locs hh => ?_)
      refine lv_iload_n hx hb dX5_next_51 rfl (lv_at hl 2 rfl) ?_
      exact hr_i hx hb hr hlocks hh dX5_next_52 (⟨by rw [hxx2, show k = (vZ sale.toNatClampNeg).toNatClampNeg - 1 from by omega], h2r, rfl⟩)
    | succ j ih =>
      intro k x2 x3 hkj hxx2 hxx3 h2r H locs ls hh hl
      refine lv_iload_n hx hb dX5_next_4 rfl (lv_at hl 3 rfl) ?_
      refine lv_aload_n hx hb dX5_next_5 rfl (lv_at hl 0 rfl) ?_
      refine hg_get (C := RX5) (T := TX5) (N := 25) (ci := 5) (own := RX5) (index := 25) hx hb hts hiX5 hown hh fy rfl 6 (by decide) (hts (.fieldLink RX5 25 "BackhaulReturnsModel" "sizes" "[I") (by decide +kernel)) rfl dX5_next_6 ?_
      refine lv_iload_n hx hb dX5_next_9 rfl (lv_at hl 1 rfl) ?_
      refine hg_iald hx hb hh fvZ hsl dX5_next_10 ?_
      refine lv_icmp_ge (tgt := 42) hx hb dX5_next_11 (by decide) (fun c_11_2 => absurd c_11_2 (fun q => absurd ((hq_leN (hz _ (hq_cl hsl)).1 hxx3 (by have := hq_n6 (hz _ (hq_cl hsl)); omega)).mp q) (by omega))) (fun c_11_2 => ?_)
      refine lv_aload_n hx hb dX5_next_14 rfl (lv_at hl 0 rfl) ?_
      refine hg_get (C := RX5) (T := TX5) (N := 25) (ci := 5) (own := RX5) (index := 65) hx hb hts hiX5 hown hh fy rfl 22 (by decide) (hts (.fieldLink RX5 65 "BackhaulReturnsModel" "remainders" "[J") (by decide +kernel)) rfl dX5_next_15 ?_
      refine lv_iload_n hx hb dX5_next_18 rfl (lv_at hl 3 rfl) ?_
      refine hg_lald hx hb hh fvM (hq_ix hxx3 (by have := hq_n6 (hz _ (hq_cl hsl)); omega) (by decide)) dX5_next_19 ?_
      refine lv_aload_n hx hb dX5_next_20 rfl (lv_at hl 0 rfl) ?_
      refine hg_get (C := RX5) (T := TX5) (N := 25) (ci := 5) (own := RX5) (index := 65) hx hb hts hiX5 hown hh fy rfl 22 (by decide) (hts (.fieldLink RX5 65 "BackhaulReturnsModel" "remainders" "[J") (by decide +kernel)) rfl dX5_next_21 ?_
      refine lv_iload_n hx hb dX5_next_24 rfl (lv_at hl 2 rfl) ?_
      refine hg_lald hx hb hh fvM h2r dX5_next_25 ?_
      refine W.lcmp hx hb dX5_next_26 ?_
      refine lv_if_le (tgt := 34) hx hb dX5_next_27 (by decide) (fun c_27_3 => ?_) (fun c_27_3 => ?_)
      ·
        refine lv_iload_n hx hb dX5_next_34 rfl (lv_at hl 2 rfl) ?_
        refine lv_istore_n (lv' := [(2, .int x2), (0, .ref y), (1, .int sale), (3, .int x3)]) hx hb dX5_next_35 rfl hl (by decide) rfl (fun ls hl => ?_)
        refine lv_iinc (v := (x3 + 1)) (lv' := [(3, .int (x3 + 1)), (2, .int x2), (0, .ref y), (1, .int sale)]) hx hb dX5_next_36 hl (k := 3) rfl rfl (by decide) rfl (fun ls hl => ?_)
        refine lv_goto (tgt := 4) hx hb dX5_next_39 (by decide) ?_
        exact ih (k + 1) x2 (x3 + 1) (by omega) (by rw [g_X5_next, ← hxx2, ← hxx3, st_X5_next, if_pos c_27_3]) (by rw [hxx3]; exact nI_1 (k + 1)) (by first | assumption | exact hq_ix hxx3 (by have := hq_n6 (hz _ (hq_cl hsl)); omega) (by decide)) _ _ _ hh (lv_sub hl [2, 3, 1, 0] rfl)
      ·
        refine lv_iload_n hx hb dX5_next_30 rfl (lv_at hl 3 rfl) ?_
        refine lv_goto (tgt := 35) hx hb dX5_next_31 (by decide) ?_
        refine lv_istore_n (lv' := [(2, .int x3), (0, .ref y), (1, .int sale), (3, .int x3)]) hx hb dX5_next_35 rfl hl (by decide) rfl (fun ls hl => ?_)
        refine lv_iinc (v := (x3 + 1)) (lv' := [(3, .int (x3 + 1)), (2, .int x3), (0, .ref y), (1, .int sale)]) hx hb dX5_next_36 hl (k := 3) rfl rfl (by decide) rfl (fun ls hl => ?_)
        refine lv_goto (tgt := 4) hx hb dX5_next_39 (by decide) ?_
        exact ih (k + 1) x3 (x3 + 1) (by omega) (by rw [g_X5_next, ← hxx2, ← hxx3, st_X5_next, if_neg c_27_3]) (by rw [hxx3]; exact nI_1 (k + 1)) (by first | assumption | exact hq_ix hxx3 (by have := hq_n6 (hz _ (hq_cl hsl)); omega) (by decide)) _ _ _ hh (lv_sub hl [2, 3, 1, 0] rfl)
  exact key ((vZ sale.toNatClampNeg).toNatClampNeg - 1) 0 0 1 (by omega) (by rw [g_X5_next]) (by decide) (by unfold vp_in; decide) _ _ _ hh (lv_sub hl [2, 3, 1, 0] rfl)
def f_X5_release (vZ : Nat → Int32) (vA : Nat → Int32) (vE : Nat → Int32) (vL : Nat → Int32) (vU : Nat → Int32) (sale : Int32) (line : Int32) (mn : Int32) : Int32 := if (((vA sale.toNatClampNeg) - (vE sale.toNatClampNeg)) - (f_X5_net ((g_X5_goods vL vU sale ((vZ sale.toNatClampNeg).toNatClampNeg)) - (mn * (vL ((6 * sale) + line).toNatClampNeg))))) ≤ 0 then 0 else (((vA sale.toNatClampNeg) - (vE sale.toNatClampNeg)) - (f_X5_net ((g_X5_goods vL vU sale ((vZ sale.toNatClampNeg).toNatClampNeg)) - (mn * (vL ((6 * sale) + line).toNatClampNeg)))))
set_option maxHeartbeats 4000000 in
set_option maxRecDepth 100000 in
theorem c_X5_release (l : Launch) (G : hG) (z0 : Nat) (mm : hM) (y : Nat) (b : Nat) (day : Int32) (sn : Int32) (bk : Int32) (fe : Int32) (th : Int32) (vZ : Nat → Int32) (vA : Nat → Int32) (vE : Nat → Int32) (vL : Nat → Int32) (vU : Nat → Int32) (sale : Int32) (line : Int32) (mn : Int32) (fy : mm y = some (.inr (5, [.ref b, .ref (b + 1), .ref (b + 2), .ref (b + 3), .int day, .ref (b + 4), .ref (b + 5), .ref (b + 6), .ref (b + 7), .ref (b + 8), .ref (b + 9), .ref (b + 10), .int sn, .ref (b + 11), .ref (b + 12), .ref (b + 13), .ref (b + 14), .ref (b + 15), .ref (b + 16), .ref (b + 17), .int bk, .int fe, .ref (b + 18), .ref (b + 19), .int th]))) (fvZ : mm (b + 5) = some (eI G 40 vZ)) (fvA : mm (b + 7) = some (eI G 40 vA)) (fvE : mm (b + 8) = some (eI G 40 vE)) (fvL : mm (b + 12) = some (eI G 240 vL)) (fvU : mm (b + 13) = some (eI G 240 vU)) (hyb : y < b) (hsl : vp_in sale 40) (hln : vp_in ((6 * sale) + line) 240) (hz : ∀ k : Nat, k < 40 → 0 ≤ (vZ k).toInt ∧ (vZ k).toInt ≤ 6) : Met l yX5_release wsX5_release ({ frames := 2, cells := 0, slots := 0, locals := 45 }) (hPre G z0 mm [.ref y, .int sale, .int line, .int mn]) (hQi G z0 (fun r m' => r = f_X5_release vZ vA vE vL vU sale line mn ∧ m' = mm)) 0 0 (h_ge z0) := by
  refine hm_of (cc := cX5_release) (maxL := 5) (ret := (some .int)) (by decide) rfl (Nat.le_of_ble_eq_true rfl) ?_
  intro p e s m below meth c ls hx hb hr hts hown hlocks hml hin hh hl
  have hl : lv_has ls 5 [(0, .ref y), (1, .int sale), (2, .int line), (3, .int mn)] := hl
  have hiX5 : ∀ w ∈ u_ws RX5 TX5 25, w ∈ wsX5_release := by decide +kernel
  refine lv_aload_n hx hb dX5_release_0 rfl (lv_at hl 0 rfl) ?_
  refine hg_get (C := RX5) (T := TX5) (N := 25) (ci := 5) (own := RX5) (index := 31) hx hb hts hiX5 hown hh fy rfl 8 (by decide) (hts (.fieldLink RX5 31 "BackhaulReturnsModel" "paid" "[I") (by decide +kernel)) rfl dX5_release_1 ?_
  refine lv_iload_n hx hb dX5_release_4 rfl (lv_at hl 1 rfl) ?_
  refine hg_iald hx hb hh fvA hsl dX5_release_5 ?_
  refine lv_aload_n hx hb dX5_release_6 rfl (lv_at hl 0 rfl) ?_
  refine hg_get (C := RX5) (T := TX5) (N := 25) (ci := 5) (own := RX5) (index := 34) hx hb hts hiX5 hown hh fy rfl 9 (by decide) (hts (.fieldLink RX5 34 "BackhaulReturnsModel" "released" "[I") (by decide +kernel)) rfl dX5_release_7 ?_
  refine lv_iload_n hx hb dX5_release_10 rfl (lv_at hl 1 rfl) ?_
  refine hg_iald hx hb hh fvE hsl dX5_release_11 ?_
  refine lv_isub hx hb dX5_release_12 ?_
  refine lv_aload_n hx hb dX5_release_13 rfl (lv_at hl 0 rfl) ?_
  refine lv_iload_n hx hb dX5_release_14 rfl (lv_at hl 1 rfl) ?_
  refine hk_i hh (va_runV (As := [.int sale]) (rest := [.int ((vA sale.toNatClampNeg) - (vE sale.toNatClampNeg))]) ⟨hx, hb, hml, hown, hts⟩ (c_X5_goods l G z0 mm y b day sn bk fe th vZ vL vU sale fy fvZ fvL fvU hyb hsl hz) (cwV 1 hts gX5_release_X5_goods rfl rfl rfl (by decide +kernel) ⟨Nat.le_of_ble_eq_true rfl, Nat.le_of_ble_eq_true rfl⟩) (hs_preV hh fy rfl) rfl rfl hl.1 rfl (lv_room (Nat.le_of_ble_eq_true rfl)) dX5_release_15 ⟨Nat.le_of_ble_eq_true rfl, Nat.le_of_ble_eq_true rfl⟩) (fun r_15 m_15 H locs hp hh => ?_)
  obtain ⟨hr9, hm9⟩ := hp; subst hr9; have hm9 := hm9.symm; subst hm9
  refine lv_iload_n hx hb dX5_release_18 rfl (lv_at hl 3 rfl) ?_
  refine lv_aload_n hx hb dX5_release_19 rfl (lv_at hl 0 rfl) ?_
  refine hg_get (C := RX5) (T := TX5) (N := 25) (ci := 5) (own := RX5) (index := 46) hx hb hts hiX5 hown hh fy rfl 14 (by decide) (hts (.fieldLink RX5 46 "BackhaulReturnsModel" "linePrices" "[I") (by decide +kernel)) rfl dX5_release_20 ?_
  refine lv_bipush (v := 6) hx hb dX5_release_23 (by decide) ?_
  refine lv_iload_n hx hb dX5_release_25 rfl (lv_at hl 1 rfl) ?_
  refine lv_imul hx hb dX5_release_26 ?_
  refine lv_iload_n hx hb dX5_release_27 rfl (lv_at hl 2 rfl) ?_
  refine lv_iadd hx hb dX5_release_28 ?_
  refine hg_iald hx hb hh fvL hln dX5_release_29 ?_
  refine lv_imul hx hb dX5_release_30 ?_
  refine lv_isub hx hb dX5_release_31 ?_
  refine hk_i hh (va_runS (As := [.int ((g_X5_goods vL vU sale ((vZ sale.toNatClampNeg).toNatClampNeg)) - (mn * (vL ((6 * sale) + line).toNatClampNeg)))]) (rest := [.int ((vA sale.toNatClampNeg) - (vE sale.toNatClampNeg))]) ⟨hx, hb, hml, hown, hts⟩ (c_X5_net l G z0 mm ((g_X5_goods vL vU sale ((vZ sale.toNatClampNeg).toNatClampNeg)) - (mn * (vL ((6 * sale) + line).toNatClampNeg)))) (va_cwS 1 hts gX5_release_X5_net rfl rfl rfl (by decide +kernel) ⟨Nat.le_of_ble_eq_true rfl, Nat.le_of_ble_eq_true rfl⟩) (hs_preS hh) rfl rfl hl.1 rfl (lv_room (Nat.le_of_ble_eq_true rfl)) dX5_release_32 ⟨Nat.le_of_ble_eq_true rfl, Nat.le_of_ble_eq_true rfl⟩) (fun r_32 m_32 H locs hp hh => ?_)
  obtain ⟨hr9, hm9⟩ := hp; subst hr9; have hm9 := hm9.symm; subst hm9
  refine lv_isub hx hb dX5_release_35 ?_
  refine lv_istore (lv' := [(4, .int (((vA sale.toNatClampNeg) - (vE sale.toNatClampNeg)) - (f_X5_net ((g_X5_goods vL vU sale ((vZ sale.toNatClampNeg).toNatClampNeg)) - (mn * (vL ((6 * sale) + line).toNatClampNeg)))))), (0, .ref y), (1, .int sale), (2, .int line), (3, .int mn)]) hx hb dX5_release_36 hl (by decide) rfl (fun ls hl => ?_)
  refine lv_iload hx hb dX5_release_38 (lv_at hl 0 rfl) ?_
  refine lv_if_le (tgt := 48) hx hb dX5_release_40 (by decide) (fun c_40_1 => ?_) (fun c_40_1 => ?_)
  ·
    refine lv_iconst (v := 0) hx hb dX5_release_48 (by decide) ?_
    exact hr_i hx hb hr hlocks hh dX5_release_49 (⟨by rw [f_X5_release, if_pos c_40_1], rfl⟩)
  ·
    refine lv_iload hx hb dX5_release_43 (lv_at hl 0 rfl) ?_
    refine lv_goto (tgt := 49) hx hb dX5_release_45 (by decide) ?_
    exact hr_i hx hb hr hlocks hh dX5_release_49 (⟨by rw [f_X5_release, if_neg c_40_1], rfl⟩)
def f_X5_barred (day : Int32) (bk : Int32) (vC : Nat → Int32) (kC : Nat → Int32) (kD : Nat → Int32) (kU : Nat → Int32) (kA : Nat → Int32) (sale : Int32) (wr : Int32) : Int32 := if wr ≤ 0 then (if (g_X5_scoreOf day kC kD kU kA (vC sale.toNatClampNeg) (bk.toNatClampNeg)) < 100 then 0 else 3) else wr
set_option maxHeartbeats 4000000 in
set_option maxRecDepth 100000 in
theorem c_X5_barred (l : Launch) (G : hG) (z0 : Nat) (mm : hM) (y : Nat) (b : Nat) (day : Int32) (sn : Int32) (bk : Int32) (fe : Int32) (th : Int32) (vC : Nat → Int32) (kC : Nat → Int32) (kD : Nat → Int32) (kU : Nat → Int32) (kA : Nat → Int32) (sale : Int32) (wr : Int32) (fy : mm y = some (.inr (5, [.ref b, .ref (b + 1), .ref (b + 2), .ref (b + 3), .int day, .ref (b + 4), .ref (b + 5), .ref (b + 6), .ref (b + 7), .ref (b + 8), .ref (b + 9), .ref (b + 10), .int sn, .ref (b + 11), .ref (b + 12), .ref (b + 13), .ref (b + 14), .ref (b + 15), .ref (b + 16), .ref (b + 17), .int bk, .int fe, .ref (b + 18), .ref (b + 19), .int th]))) (fvC : mm (b + 4) = some (eI G 40 vC)) (fkC : mm (b + 14) = some (eI G 4800 kC)) (fkD : mm (b + 15) = some (eI G 4800 kD)) (fkU : mm (b + 16) = some (eI G 4800 kU)) (fkA : mm (b + 17) = some (eZ G 4800 kA)) (hyb : y < b) (hslw : wr ≤ 0 → vp_in sale 40) (hbk : 0 ≤ bk.toInt ∧ bk.toInt ≤ 4800) : Met l yX5_barred wsX5_barred ({ frames := 1, cells := 0, slots := 0, locals := 25 }) (hPre G z0 mm [.ref y, .int sale, .int wr]) (hQi G z0 (fun r m' => r = f_X5_barred day bk vC kC kD kU kA sale wr ∧ m' = mm)) 0 0 (h_ge z0) := by
  refine hm_of (cc := cX5_barred) (maxL := 3) (ret := (some .int)) (by decide) rfl (Nat.le_of_ble_eq_true rfl) ?_
  intro p e s m below meth c ls hx hb hr hts hown hlocks hml hin hh hl
  have hl : lv_has ls 3 [(0, .ref y), (1, .int sale), (2, .int wr)] := hl
  have hiX5 : ∀ w ∈ u_ws RX5 TX5 25, w ∈ wsX5_barred := by decide +kernel
  refine lv_iload_n hx hb dX5_barred_0 rfl (lv_at hl 2 rfl) ?_
  refine lv_if_le (tgt := 8) hx hb dX5_barred_1 (by decide) (fun c_1_1 => ?_) (fun c_1_1 => ?_)
  ·
    refine lv_aload_n hx hb dX5_barred_8 rfl (lv_at hl 0 rfl) ?_
    refine lv_aload_n hx hb dX5_barred_9 rfl (lv_at hl 0 rfl) ?_
    refine hg_get (C := RX5) (T := TX5) (N := 25) (ci := 5) (own := RX5) (index := 22) hx hb hts hiX5 hown hh fy rfl 5 (by decide) (hts (.fieldLink RX5 22 "BackhaulReturnsModel" "customers" "[I") (by decide +kernel)) rfl dX5_barred_10 ?_
    refine lv_iload_n hx hb dX5_barred_13 rfl (lv_at hl 1 rfl) ?_
    refine hg_iald hx hb hh fvC (hslw c_1_1) dX5_barred_14 ?_
    refine hk_i hh (va_runV (As := [.int (vC sale.toNatClampNeg)]) (rest := []) ⟨hx, hb, hml, hown, hts⟩ (c_X5_scoreOf l G z0 mm y b day sn bk fe th kC kD kU kA (vC sale.toNatClampNeg) fy fkC fkD fkU fkA hyb hbk) (cwV 1 hts gX5_barred_X5_scoreOf rfl rfl rfl (by decide +kernel) ⟨Nat.le_of_ble_eq_true rfl, Nat.le_of_ble_eq_true rfl⟩) (hs_preV hh fy rfl) rfl rfl hl.1 rfl (lv_room (Nat.le_of_ble_eq_true rfl)) dX5_barred_15 ⟨Nat.le_of_ble_eq_true rfl, Nat.le_of_ble_eq_true rfl⟩) (fun r_15 m_15 H locs hp hh => ?_)
    obtain ⟨hr9, hm9⟩ := hp; subst hr9; have hm9 := hm9.symm; subst hm9
    refine lv_bipush (v := 100) hx hb dX5_barred_18 (by decide) ?_
    refine lv_icmp_lt (tgt := 27) hx hb dX5_barred_20 (by decide) (fun c_20_2 => ?_) (fun c_20_2 => ?_)
    ·
      refine lv_iconst (v := 0) hx hb dX5_barred_27 (by decide) ?_
      exact hr_i hx hb hr hlocks hh dX5_barred_28 (⟨by rw [f_X5_barred, if_pos c_1_1, if_pos c_20_2], rfl⟩)
    ·
      refine lv_iconst (v := 3) hx hb dX5_barred_23 (by decide) ?_
      refine lv_goto (tgt := 28) hx hb dX5_barred_24 (by decide) ?_
      exact hr_i hx hb hr hlocks hh dX5_barred_28 (⟨by rw [f_X5_barred, if_pos c_1_1, if_neg c_20_2], rfl⟩)
  ·
    refine lv_iload_n hx hb dX5_barred_4 rfl (lv_at hl 2 rfl) ?_
    refine lv_goto (tgt := 28) hx hb dX5_barred_5 (by decide) ?_
    exact hr_i hx hb hr hlocks hh dX5_barred_28 (⟨by rw [f_X5_barred, if_neg c_1_1], rfl⟩)
def f_X5_asksOption (pd : Int32) (cd : Int32) : Int32 := if (f_X5_isTen pd) = 0 then 0 else (if (f_X5_isIn cd 0 3) = 0 then 0 else 1)
set_option maxHeartbeats 4000000 in
set_option maxRecDepth 100000 in
theorem c_X5_asksOption (l : Launch) (G : hG) (z0 : Nat) (mm : hM) (y : Nat) (b : Nat) (day : Int32) (sn : Int32) (bk : Int32) (fe : Int32) (th : Int32) (pd : Int32) (cd : Int32) (fy : mm y = some (.inr (5, [.ref b, .ref (b + 1), .ref (b + 2), .ref (b + 3), .int day, .ref (b + 4), .ref (b + 5), .ref (b + 6), .ref (b + 7), .ref (b + 8), .ref (b + 9), .ref (b + 10), .int sn, .ref (b + 11), .ref (b + 12), .ref (b + 13), .ref (b + 14), .ref (b + 15), .ref (b + 16), .ref (b + 17), .int bk, .int fe, .ref (b + 18), .ref (b + 19), .int th]))) (hyb : y < b) : Met l yX5_asksOption wsX5_asksOption ({ frames := 2, cells := 0, slots := 0, locals := 42 }) (hPre G z0 mm [.ref y, .int pd, .int cd]) (hQi G z0 (fun r m' => r = f_X5_asksOption pd cd ∧ m' = hu mm y (.inr (5, [.ref b, .ref (b + 1), .ref (b + 2), .ref (b + 3), .int day, .ref (b + 4), .ref (b + 5), .ref (b + 6), .ref (b + 7), .ref (b + 8), .ref (b + 9), .ref (b + 10), .int sn, .ref (b + 11), .ref (b + 12), .ref (b + 13), .ref (b + 14), .ref (b + 15), .ref (b + 16), .ref (b + 17), .int bk, .int fe, .ref (b + 18), .ref (b + 19), .int (1 - (f_X5_asksOption pd cd))])))) 0 0 (h_ge z0) := by
  refine hm_of (cc := cX5_asksOption) (maxL := 3) (ret := (some .boolean)) (by decide) rfl (Nat.le_of_ble_eq_true rfl) ?_
  intro p e s m below meth c ls hx hb hr hts hown hlocks hml hin hh hl
  have hl : lv_has ls 3 [(0, .ref y), (1, .int pd), (2, .int cd)] := hl
  refine lv_aload_n hx hb dX5_asksOption_0 rfl (lv_at hl 0 rfl) ?_
  refine lv_iload_n hx hb dX5_asksOption_1 rfl (lv_at hl 1 rfl) ?_
  refine hk_i hh (va_runS (As := [.int pd]) (rest := [.ref y]) ⟨hx, hb, hml, hown, hts⟩ (c_X5_isTen l G z0 mm pd) (va_cwS 1 hts gX5_asksOption_X5_isTen rfl rfl rfl (by decide +kernel) ⟨Nat.le_of_ble_eq_true rfl, Nat.le_of_ble_eq_true rfl⟩) (hs_preS hh) rfl rfl hl.1 rfl (lv_room (Nat.le_of_ble_eq_true rfl)) dX5_asksOption_2 ⟨Nat.le_of_ble_eq_true rfl, Nat.le_of_ble_eq_true rfl⟩) (fun r_2 m_2 H locs hp hh => ?_)
  obtain ⟨hr9, hm9⟩ := hp; subst hr9; have hm9 := hm9.symm; subst hm9
  refine lv_if_eq (tgt := 21) hx hb dX5_asksOption_5 (by decide) (fun c_5_1 => ?_) (fun c_5_1 => ?_)
  ·
    refine lv_iconst (v := 1) hx hb dX5_asksOption_21 (by decide) ?_
    refine hk_i hh (va_runV (As := [.int 1]) (rest := []) ⟨hx, hb, hml, hown, hts⟩ (c_X5_goes l G z0 mm y b day sn bk fe th 1 fy hyb) (cwV 1 hts gX5_asksOption_X5_goes rfl rfl rfl (by decide +kernel) ⟨Nat.le_of_ble_eq_true rfl, Nat.le_of_ble_eq_true rfl⟩) (hs_preV hh fy rfl) rfl rfl hl.1 rfl (lv_room (Nat.le_of_ble_eq_true rfl)) dX5_asksOption_22 ⟨Nat.le_of_ble_eq_true rfl, Nat.le_of_ble_eq_true rfl⟩) (fun r_22 m_22 H locs hp hh => ?_)
    obtain ⟨hr9, hm9⟩ := hp; subst hr9; subst hm9
    refine W.eq (g2 := F0 m 25 ls [.int 0]) (by rw [show (f_X5_goes 1) = (0 : Int32) from by decide]) ?_
    exact hr_z hx hb hr hlocks hh rfl dX5_asksOption_25 (⟨by rw [f_X5_asksOption, if_pos c_5_1], by rw [f_X5_asksOption, if_pos c_5_1, show ((1 : Int32) - 0) = 1 from by decide]⟩)
  ·
    refine lv_iload_n hx hb dX5_asksOption_8 rfl (lv_at hl 2 rfl) ?_
    refine lv_iconst (v := 0) hx hb dX5_asksOption_9 (by decide) ?_
    refine lv_iconst (v := 3) hx hb dX5_asksOption_10 (by decide) ?_
    refine hk_i hh (va_runS (As := [.int cd, .int 0, .int 3]) (rest := [.ref y]) ⟨hx, hb, hml, hown, hts⟩ (c_X5_isIn l G z0 mm cd 0 3) (va_cwS 3 hts gX5_asksOption_X5_isIn rfl rfl rfl (by decide +kernel) ⟨Nat.le_of_ble_eq_true rfl, Nat.le_of_ble_eq_true rfl⟩) (hs_preS hh) rfl rfl hl.1 rfl (lv_room (Nat.le_of_ble_eq_true rfl)) dX5_asksOption_11 ⟨Nat.le_of_ble_eq_true rfl, Nat.le_of_ble_eq_true rfl⟩) (fun r_11 m_11 H locs hp hh => ?_)
    obtain ⟨hr9, hm9⟩ := hp; subst hr9; have hm9 := hm9.symm; subst hm9
    refine lv_if_eq (tgt := 21) hx hb dX5_asksOption_14 (by decide) (fun c_14_2 => ?_) (fun c_14_2 => ?_)
    ·
      refine lv_iconst (v := 1) hx hb dX5_asksOption_21 (by decide) ?_
      refine hk_i hh (va_runV (As := [.int 1]) (rest := []) ⟨hx, hb, hml, hown, hts⟩ (c_X5_goes l G z0 mm y b day sn bk fe th 1 fy hyb) (cwV 1 hts gX5_asksOption_X5_goes rfl rfl rfl (by decide +kernel) ⟨Nat.le_of_ble_eq_true rfl, Nat.le_of_ble_eq_true rfl⟩) (hs_preV hh fy rfl) rfl rfl hl.1 rfl (lv_room (Nat.le_of_ble_eq_true rfl)) dX5_asksOption_22 ⟨Nat.le_of_ble_eq_true rfl, Nat.le_of_ble_eq_true rfl⟩) (fun r_22 m_22 H locs hp hh => ?_)
      obtain ⟨hr9, hm9⟩ := hp; subst hr9; subst hm9
      refine W.eq (g2 := F0 m 25 ls [.int 0]) (by rw [show (f_X5_goes 1) = (0 : Int32) from by decide]) ?_
      exact hr_z hx hb hr hlocks hh rfl dX5_asksOption_25 (⟨by rw [f_X5_asksOption, if_neg c_5_1, if_pos c_14_2], by rw [f_X5_asksOption, if_neg c_5_1, if_pos c_14_2, show ((1 : Int32) - 0) = 1 from by decide]⟩)
    ·
      refine lv_iconst (v := 0) hx hb dX5_asksOption_17 (by decide) ?_
      refine lv_goto (tgt := 22) hx hb dX5_asksOption_18 (by decide) ?_
      refine hk_i hh (va_runV (As := [.int 0]) (rest := []) ⟨hx, hb, hml, hown, hts⟩ (c_X5_goes l G z0 mm y b day sn bk fe th 0 fy hyb) (cwV 1 hts gX5_asksOption_X5_goes rfl rfl rfl (by decide +kernel) ⟨Nat.le_of_ble_eq_true rfl, Nat.le_of_ble_eq_true rfl⟩) (hs_preV hh fy rfl) rfl rfl hl.1 rfl (lv_room (Nat.le_of_ble_eq_true rfl)) dX5_asksOption_22 ⟨Nat.le_of_ble_eq_true rfl, Nat.le_of_ble_eq_true rfl⟩) (fun r_22 m_22 H locs hp hh => ?_)
      obtain ⟨hr9, hm9⟩ := hp; subst hr9; subst hm9
      refine W.eq (g2 := F0 m 25 ls [.int 1]) (by rw [show (f_X5_goes 0) = (1 : Int32) from by decide]) ?_
      exact hr_z hx hb hr hlocks hh rfl dX5_asksOption_25 (⟨by rw [f_X5_asksOption, if_neg c_5_1, if_neg c_14_2], by rw [f_X5_asksOption, if_neg c_5_1, if_neg c_14_2, show ((1 : Int32) - 1) = 0 from by decide]⟩)
def f_X5_opens (sn : Int32) : Int32 := ((sn + 1) - 1)
set_option maxHeartbeats 4000000 in
set_option maxRecDepth 100000 in
theorem c_X5_opens (l : Launch) (G : hG) (z0 : Nat) (mm : hM) (y : Nat) (b : Nat) (day : Int32) (sn : Int32) (bk : Int32) (fe : Int32) (th : Int32) (vC : Nat → Int32) (vZ : Nat → Int32) (vD : Nat → Int32) (vA : Nat → Int32) (vE : Nat → Int32) (vF : Nat → Int32) (vH : Nat → Int32) (cu : Int32) (fy : mm y = some (.inr (5, [.ref b, .ref (b + 1), .ref (b + 2), .ref (b + 3), .int day, .ref (b + 4), .ref (b + 5), .ref (b + 6), .ref (b + 7), .ref (b + 8), .ref (b + 9), .ref (b + 10), .int sn, .ref (b + 11), .ref (b + 12), .ref (b + 13), .ref (b + 14), .ref (b + 15), .ref (b + 16), .ref (b + 17), .int bk, .int fe, .ref (b + 18), .ref (b + 19), .int th]))) (fvC : mm (b + 4) = some (eI G 40 vC)) (fvZ : mm (b + 5) = some (eI G 40 vZ)) (fvD : mm (b + 6) = some (eI G 40 vD)) (fvA : mm (b + 7) = some (eI G 40 vA)) (fvE : mm (b + 8) = some (eI G 40 vE)) (fvF : mm (b + 9) = some (eI G 40 vF)) (fvH : mm (b + 10) = some (eI G 40 vH)) (hyb : y < b) (hs9 : vp_in sn 40) : Met l yX5_opens wsX5_opens ({ frames := 0, cells := 0, slots := 0, locals := 0 }) (hPre G z0 mm [.ref y, .int cu]) (hQi G z0 (fun r m' => r = f_X5_opens sn ∧ m' = (hu (hu (hu (hu (hu (hu (hu (hu mm (b + 4) (eI G 40 (upd vC (sn.toNatClampNeg) cu))) (b + 5) (eI G 40 (upd vZ (sn.toNatClampNeg) 0))) (b + 6) (eI G 40 (upd vD (sn.toNatClampNeg) (-1)))) (b + 7) (eI G 40 (upd vA (sn.toNatClampNeg) 0))) (b + 8) (eI G 40 (upd vE (sn.toNatClampNeg) 0))) (b + 9) (eI G 40 (upd vF (sn.toNatClampNeg) sn))) (b + 10) (eI G 40 (upd vH (sn.toNatClampNeg) 0))) y (.inr (5, [.ref b, .ref (b + 1), .ref (b + 2), .ref (b + 3), .int day, .ref (b + 4), .ref (b + 5), .ref (b + 6), .ref (b + 7), .ref (b + 8), .ref (b + 9), .ref (b + 10), .int (sn + 1), .ref (b + 11), .ref (b + 12), .ref (b + 13), .ref (b + 14), .ref (b + 15), .ref (b + 16), .ref (b + 17), .int bk, .int fe, .ref (b + 18), .ref (b + 19), .int th]))))) 0 0 (h_ge z0) := by
  refine hm_of (cc := cX5_opens) (maxL := 2) (ret := (some .int)) (by decide) rfl (Nat.le_of_ble_eq_true rfl) ?_
  intro p e s m below meth c ls hx hb hr hts hown hlocks hml hin hh hl
  have hl : lv_has ls 2 [(0, .ref y), (1, .int cu)] := hl
  have hiX5 : ∀ w ∈ u_ws RX5 TX5 25, w ∈ wsX5_opens := by decide +kernel
  refine lv_aload_n hx hb dX5_opens_0 rfl (lv_at hl 0 rfl) ?_
  refine hg_get (C := RX5) (T := TX5) (N := 25) (ci := 5) (own := RX5) (index := 22) hx hb hts hiX5 hown hh fy rfl 5 (by decide) (hts (.fieldLink RX5 22 "BackhaulReturnsModel" "customers" "[I") (by decide +kernel)) rfl dX5_opens_1 ?_
  refine lv_aload_n hx hb dX5_opens_4 rfl (lv_at hl 0 rfl) ?_
  refine hg_get (C := RX5) (T := TX5) (N := 25) (ci := 5) (own := RX5) (index := 80) hx hb hts hiX5 hown hh fy rfl 12 (by decide) (hts (.fieldLink RX5 80 "BackhaulReturnsModel" "sales" "I") (by decide +kernel)) rfl dX5_opens_5 ?_
  refine lv_iload_n hx hb dX5_opens_8 rfl (lv_at hl 1 rfl) ?_
  refine hg_iast hx hb hh fvC hs9 dX5_opens_9 (fun H locs hh => ?_)
  refine lv_aload_n hx hb dX5_opens_10 rfl (lv_at hl 0 rfl) ?_
  refine hg_get (C := RX5) (T := TX5) (N := 25) (ci := 5) (own := RX5) (index := 25) hx hb hts hiX5 hown hh (hu_ne (by omega) fy) rfl 6 (by decide) (hts (.fieldLink RX5 25 "BackhaulReturnsModel" "sizes" "[I") (by decide +kernel)) rfl dX5_opens_11 ?_
  refine lv_aload_n hx hb dX5_opens_14 rfl (lv_at hl 0 rfl) ?_
  refine hg_get (C := RX5) (T := TX5) (N := 25) (ci := 5) (own := RX5) (index := 80) hx hb hts hiX5 hown hh (hu_ne (by omega) fy) rfl 12 (by decide) (hts (.fieldLink RX5 80 "BackhaulReturnsModel" "sales" "I") (by decide +kernel)) rfl dX5_opens_15 ?_
  refine lv_iconst (v := 0) hx hb dX5_opens_18 (by decide) ?_
  refine hg_iast hx hb hh (hu_ne (by omega) fvZ) hs9 dX5_opens_19 (fun H locs hh => ?_)
  refine lv_aload_n hx hb dX5_opens_20 rfl (lv_at hl 0 rfl) ?_
  refine hg_get (C := RX5) (T := TX5) (N := 25) (ci := 5) (own := RX5) (index := 28) hx hb hts hiX5 hown hh (hu_ne (by omega) (hu_ne (by omega) fy)) rfl 7 (by decide) (hts (.fieldLink RX5 28 "BackhaulReturnsModel" "days" "[I") (by decide +kernel)) rfl dX5_opens_21 ?_
  refine lv_aload_n hx hb dX5_opens_24 rfl (lv_at hl 0 rfl) ?_
  refine hg_get (C := RX5) (T := TX5) (N := 25) (ci := 5) (own := RX5) (index := 80) hx hb hts hiX5 hown hh (hu_ne (by omega) (hu_ne (by omega) fy)) rfl 12 (by decide) (hts (.fieldLink RX5 80 "BackhaulReturnsModel" "sales" "I") (by decide +kernel)) rfl dX5_opens_25 ?_
  refine lv_iconst (v := (-1)) hx hb dX5_opens_28 (by decide) ?_
  refine hg_iast hx hb hh (hu_ne (by omega) (hu_ne (by omega) fvD)) hs9 dX5_opens_29 (fun H locs hh => ?_)
  refine lv_aload_n hx hb dX5_opens_30 rfl (lv_at hl 0 rfl) ?_
  refine hg_get (C := RX5) (T := TX5) (N := 25) (ci := 5) (own := RX5) (index := 31) hx hb hts hiX5 hown hh (hu_ne (by omega) (hu_ne (by omega) (hu_ne (by omega) fy))) rfl 8 (by decide) (hts (.fieldLink RX5 31 "BackhaulReturnsModel" "paid" "[I") (by decide +kernel)) rfl dX5_opens_31 ?_
  refine lv_aload_n hx hb dX5_opens_34 rfl (lv_at hl 0 rfl) ?_
  refine hg_get (C := RX5) (T := TX5) (N := 25) (ci := 5) (own := RX5) (index := 80) hx hb hts hiX5 hown hh (hu_ne (by omega) (hu_ne (by omega) (hu_ne (by omega) fy))) rfl 12 (by decide) (hts (.fieldLink RX5 80 "BackhaulReturnsModel" "sales" "I") (by decide +kernel)) rfl dX5_opens_35 ?_
  refine lv_iconst (v := 0) hx hb dX5_opens_38 (by decide) ?_
  refine hg_iast hx hb hh (hu_ne (by omega) (hu_ne (by omega) (hu_ne (by omega) fvA))) hs9 dX5_opens_39 (fun H locs hh => ?_)
  refine lv_aload_n hx hb dX5_opens_40 rfl (lv_at hl 0 rfl) ?_
  refine hg_get (C := RX5) (T := TX5) (N := 25) (ci := 5) (own := RX5) (index := 34) hx hb hts hiX5 hown hh (hu_ne (by omega) (hu_ne (by omega) (hu_ne (by omega) (hu_ne (by omega) fy)))) rfl 9 (by decide) (hts (.fieldLink RX5 34 "BackhaulReturnsModel" "released" "[I") (by decide +kernel)) rfl dX5_opens_41 ?_
  refine lv_aload_n hx hb dX5_opens_44 rfl (lv_at hl 0 rfl) ?_
  refine hg_get (C := RX5) (T := TX5) (N := 25) (ci := 5) (own := RX5) (index := 80) hx hb hts hiX5 hown hh (hu_ne (by omega) (hu_ne (by omega) (hu_ne (by omega) (hu_ne (by omega) fy)))) rfl 12 (by decide) (hts (.fieldLink RX5 80 "BackhaulReturnsModel" "sales" "I") (by decide +kernel)) rfl dX5_opens_45 ?_
  refine lv_iconst (v := 0) hx hb dX5_opens_48 (by decide) ?_
  refine hg_iast hx hb hh (hu_ne (by omega) (hu_ne (by omega) (hu_ne (by omega) (hu_ne (by omega) fvE)))) hs9 dX5_opens_49 (fun H locs hh => ?_)
  refine lv_aload_n hx hb dX5_opens_50 rfl (lv_at hl 0 rfl) ?_
  refine hg_get (C := RX5) (T := TX5) (N := 25) (ci := 5) (own := RX5) (index := 37) hx hb hts hiX5 hown hh (hu_ne (by omega) (hu_ne (by omega) (hu_ne (by omega) (hu_ne (by omega) (hu_ne (by omega) fy))))) rfl 10 (by decide) (hts (.fieldLink RX5 37 "BackhaulReturnsModel" "firsts" "[I") (by decide +kernel)) rfl dX5_opens_51 ?_
  refine lv_aload_n hx hb dX5_opens_54 rfl (lv_at hl 0 rfl) ?_
  refine hg_get (C := RX5) (T := TX5) (N := 25) (ci := 5) (own := RX5) (index := 80) hx hb hts hiX5 hown hh (hu_ne (by omega) (hu_ne (by omega) (hu_ne (by omega) (hu_ne (by omega) (hu_ne (by omega) fy))))) rfl 12 (by decide) (hts (.fieldLink RX5 80 "BackhaulReturnsModel" "sales" "I") (by decide +kernel)) rfl dX5_opens_55 ?_
  refine lv_aload_n hx hb dX5_opens_58 rfl (lv_at hl 0 rfl) ?_
  refine hg_get (C := RX5) (T := TX5) (N := 25) (ci := 5) (own := RX5) (index := 80) hx hb hts hiX5 hown hh (hu_ne (by omega) (hu_ne (by omega) (hu_ne (by omega) (hu_ne (by omega) (hu_ne (by omega) fy))))) rfl 12 (by decide) (hts (.fieldLink RX5 80 "BackhaulReturnsModel" "sales" "I") (by decide +kernel)) rfl dX5_opens_59 ?_
  refine hg_iast hx hb hh (hu_ne (by omega) (hu_ne (by omega) (hu_ne (by omega) (hu_ne (by omega) (hu_ne (by omega) fvF))))) hs9 dX5_opens_62 (fun H locs hh => ?_)
  refine lv_aload_n hx hb dX5_opens_63 rfl (lv_at hl 0 rfl) ?_
  refine hg_get (C := RX5) (T := TX5) (N := 25) (ci := 5) (own := RX5) (index := 40) hx hb hts hiX5 hown hh (hu_ne (by omega) (hu_ne (by omega) (hu_ne (by omega) (hu_ne (by omega) (hu_ne (by omega) (hu_ne (by omega) fy)))))) rfl 11 (by decide) (hts (.fieldLink RX5 40 "BackhaulReturnsModel" "depths" "[I") (by decide +kernel)) rfl dX5_opens_64 ?_
  refine lv_aload_n hx hb dX5_opens_67 rfl (lv_at hl 0 rfl) ?_
  refine hg_get (C := RX5) (T := TX5) (N := 25) (ci := 5) (own := RX5) (index := 80) hx hb hts hiX5 hown hh (hu_ne (by omega) (hu_ne (by omega) (hu_ne (by omega) (hu_ne (by omega) (hu_ne (by omega) (hu_ne (by omega) fy)))))) rfl 12 (by decide) (hts (.fieldLink RX5 80 "BackhaulReturnsModel" "sales" "I") (by decide +kernel)) rfl dX5_opens_68 ?_
  refine lv_iconst (v := 0) hx hb dX5_opens_71 (by decide) ?_
  refine hg_iast hx hb hh (hu_ne (by omega) (hu_ne (by omega) (hu_ne (by omega) (hu_ne (by omega) (hu_ne (by omega) (hu_ne (by omega) fvH)))))) hs9 dX5_opens_72 (fun H locs hh => ?_)
  refine lv_aload_n hx hb dX5_opens_73 rfl (lv_at hl 0 rfl) ?_
  refine lv_dup hx hb dX5_opens_74 rfl ?_
  refine hg_get (C := RX5) (T := TX5) (N := 25) (ci := 5) (own := RX5) (index := 80) hx hb hts hiX5 hown hh (hu_ne (by omega) (hu_ne (by omega) (hu_ne (by omega) (hu_ne (by omega) (hu_ne (by omega) (hu_ne (by omega) (hu_ne (by omega) fy))))))) rfl 12 (by decide) (hts (.fieldLink RX5 80 "BackhaulReturnsModel" "sales" "I") (by decide +kernel)) rfl dX5_opens_75 ?_
  refine lv_iconst (v := 1) hx hb dX5_opens_78 (by decide) ?_
  refine lv_iadd hx hb dX5_opens_79 ?_
  refine hg_put (C := RX5) (T := TX5) (N := 25) (ci := 5) (own := RX5) (index := 80) hx hb hts hiX5 tyX5 tyX5_ok nmX5 hown hh (hu_ne (by omega) (hu_ne (by omega) (hu_ne (by omega) (hu_ne (by omega) (hu_ne (by omega) (hu_ne (by omega) (hu_ne (by omega) fy))))))) rfl 12 (by decide) (hts (.fieldLink RX5 80 "BackhaulReturnsModel" "sales" "I") (by decide +kernel)) rfl rfl rfl (Nat.le_of_ble_eq_true rfl) rfl dX5_opens_80 (fun H locs hz hh => ?_)
  refine lv_aload_n hx hb dX5_opens_83 rfl (lv_at hl 0 rfl) ?_
  refine hg_get (C := RX5) (T := TX5) (N := 25) (ci := 5) (own := RX5) (index := 80) hx hb hts hiX5 hown hh hu_eq rfl 12 (by decide) (hts (.fieldLink RX5 80 "BackhaulReturnsModel" "sales" "I") (by decide +kernel)) rfl dX5_opens_84 ?_
  refine lv_iconst (v := 1) hx hb dX5_opens_87 (by decide) ?_
  refine lv_isub hx hb dX5_opens_88 ?_
  exact hr_i hx hb hr hlocks hh dX5_opens_89 (⟨by rw [f_X5_opens], rfl⟩)
def f_X5_adds (vZ : Nat → Int32) (sale : Int32) : Int32 := (((vZ sale.toNatClampNeg) + 1) - 1)
set_option maxHeartbeats 4000000 in
set_option maxRecDepth 100000 in
theorem c_X5_adds (l : Launch) (G : hG) (z0 : Nat) (mm : hM) (y : Nat) (b : Nat) (day : Int32) (sn : Int32) (bk : Int32) (fe : Int32) (th : Int32) (vP : Nat → Int32) (vZ : Nat → Int32) (vO : Nat → Int32) (vL : Nat → Int32) (vU : Nat → Int32) (sale : Int32) (pd : Int32) (qt : Int32) (fy : mm y = some (.inr (5, [.ref b, .ref (b + 1), .ref (b + 2), .ref (b + 3), .int day, .ref (b + 4), .ref (b + 5), .ref (b + 6), .ref (b + 7), .ref (b + 8), .ref (b + 9), .ref (b + 10), .int sn, .ref (b + 11), .ref (b + 12), .ref (b + 13), .ref (b + 14), .ref (b + 15), .ref (b + 16), .ref (b + 17), .int bk, .int fe, .ref (b + 18), .ref (b + 19), .int th]))) (fvP : mm b = some (eI G 10 vP)) (fvZ : mm (b + 5) = some (eI G 40 vZ)) (fvO : mm (b + 11) = some (eI G 240 vO)) (fvL : mm (b + 12) = some (eI G 240 vL)) (fvU : mm (b + 13) = some (eI G 240 vU)) (hyb : y < b) (hsl : vp_in sale 40) (hpd : vp_in pd 10) (hln9 : vp_in ((6 * sale) + (vZ sale.toNatClampNeg)) 240) : Met l yX5_adds wsX5_adds ({ frames := 0, cells := 0, slots := 0, locals := 0 }) (hPre G z0 mm [.ref y, .int sale, .int pd, .int qt]) (hQi G z0 (fun r m' => r = f_X5_adds vZ sale ∧ m' = (hu (hu (hu (hu mm (b + 11) (eI G 240 (upd vO (((6 * sale) + (vZ sale.toNatClampNeg)).toNatClampNeg) pd))) (b + 12) (eI G 240 (upd vL (((6 * sale) + (vZ sale.toNatClampNeg)).toNatClampNeg) (vP pd.toNatClampNeg)))) (b + 13) (eI G 240 (upd vU (((6 * sale) + (vZ sale.toNatClampNeg)).toNatClampNeg) qt))) (b + 5) (eI G 40 (upd vZ (sale.toNatClampNeg) ((vZ sale.toNatClampNeg) + 1)))))) 0 0 (h_ge z0) := by
  refine hm_of (cc := cX5_adds) (maxL := 5) (ret := (some .int)) (by decide) rfl (Nat.le_of_ble_eq_true rfl) ?_
  intro p e s m below meth c ls hx hb hr hts hown hlocks hml hin hh hl
  have hl : lv_has ls 5 [(0, .ref y), (1, .int sale), (2, .int pd), (3, .int qt)] := hl
  have hiX5 : ∀ w ∈ u_ws RX5 TX5 25, w ∈ wsX5_adds := by decide +kernel
  refine lv_bipush (v := 6) hx hb dX5_adds_0 (by decide) ?_
  refine lv_iload_n hx hb dX5_adds_2 rfl (lv_at hl 1 rfl) ?_
  refine lv_imul hx hb dX5_adds_3 ?_
  refine lv_aload_n hx hb dX5_adds_4 rfl (lv_at hl 0 rfl) ?_
  refine hg_get (C := RX5) (T := TX5) (N := 25) (ci := 5) (own := RX5) (index := 25) hx hb hts hiX5 hown hh fy rfl 6 (by decide) (hts (.fieldLink RX5 25 "BackhaulReturnsModel" "sizes" "[I") (by decide +kernel)) rfl dX5_adds_5 ?_
  refine lv_iload_n hx hb dX5_adds_8 rfl (lv_at hl 1 rfl) ?_
  refine hg_iald hx hb hh fvZ hsl dX5_adds_9 ?_
  refine lv_iadd hx hb dX5_adds_10 ?_
  refine lv_istore (lv' := [(4, .int ((6 * sale) + (vZ sale.toNatClampNeg))), (0, .ref y), (1, .int sale), (2, .int pd), (3, .int qt)]) hx hb dX5_adds_11 hl (by decide) rfl (fun ls hl => ?_)
  refine lv_aload_n hx hb dX5_adds_13 rfl (lv_at hl 1 rfl) ?_
  refine hg_get (C := RX5) (T := TX5) (N := 25) (ci := 5) (own := RX5) (index := 43) hx hb hts hiX5 hown hh fy rfl 13 (by decide) (hts (.fieldLink RX5 43 "BackhaulReturnsModel" "products" "[I") (by decide +kernel)) rfl dX5_adds_14 ?_
  refine lv_iload hx hb dX5_adds_17 (lv_at hl 0 rfl) ?_
  refine lv_iload_n hx hb dX5_adds_19 rfl (lv_at hl 3 rfl) ?_
  refine hg_iast hx hb hh fvO hln9 dX5_adds_20 (fun H locs hh => ?_)
  refine lv_aload_n hx hb dX5_adds_21 rfl (lv_at hl 1 rfl) ?_
  refine hg_get (C := RX5) (T := TX5) (N := 25) (ci := 5) (own := RX5) (index := 46) hx hb hts hiX5 hown hh (hu_ne (by omega) fy) rfl 14 (by decide) (hts (.fieldLink RX5 46 "BackhaulReturnsModel" "linePrices" "[I") (by decide +kernel)) rfl dX5_adds_22 ?_
  refine lv_iload hx hb dX5_adds_25 (lv_at hl 0 rfl) ?_
  refine lv_aload_n hx hb dX5_adds_27 rfl (lv_at hl 1 rfl) ?_
  refine hg_get (C := RX5) (T := TX5) (N := 25) (ci := 5) (own := RX5) (index := 7) hx hb hts hiX5 hown hh (hu_ne (by omega) fy) rfl 0 (by decide) (hts (.fieldLink RX5 7 "BackhaulReturnsModel" "prices" "[I") (by decide +kernel)) rfl dX5_adds_28 ?_
  refine lv_iload_n hx hb dX5_adds_31 rfl (lv_at hl 3 rfl) ?_
  refine hg_iald hx hb hh (hu_ne (by omega) fvP) hpd dX5_adds_32 ?_
  refine hg_iast hx hb hh (hu_ne (by omega) fvL) hln9 dX5_adds_33 (fun H locs hh => ?_)
  refine lv_aload_n hx hb dX5_adds_34 rfl (lv_at hl 1 rfl) ?_
  refine hg_get (C := RX5) (T := TX5) (N := 25) (ci := 5) (own := RX5) (index := 49) hx hb hts hiX5 hown hh (hu_ne (by omega) (hu_ne (by omega) fy)) rfl 15 (by decide) (hts (.fieldLink RX5 49 "BackhaulReturnsModel" "units" "[I") (by decide +kernel)) rfl dX5_adds_35 ?_
  refine lv_iload hx hb dX5_adds_38 (lv_at hl 0 rfl) ?_
  refine lv_iload_n hx hb dX5_adds_40 rfl (lv_at hl 4 rfl) ?_
  refine hg_iast hx hb hh (hu_ne (by omega) (hu_ne (by omega) fvU)) hln9 dX5_adds_41 (fun H locs hh => ?_)
  refine lv_aload_n hx hb dX5_adds_42 rfl (lv_at hl 1 rfl) ?_
  refine hg_get (C := RX5) (T := TX5) (N := 25) (ci := 5) (own := RX5) (index := 25) hx hb hts hiX5 hown hh (hu_ne (by omega) (hu_ne (by omega) (hu_ne (by omega) fy))) rfl 6 (by decide) (hts (.fieldLink RX5 25 "BackhaulReturnsModel" "sizes" "[I") (by decide +kernel)) rfl dX5_adds_43 ?_
  refine lv_iload_n hx hb dX5_adds_46 rfl (lv_at hl 2 rfl) ?_
  refine lv_dup2_11 hx hb dX5_adds_47 rfl rfl ?_
  refine hg_iald hx hb hh (hu_ne (by omega) (hu_ne (by omega) (hu_ne (by omega) fvZ))) hsl dX5_adds_48 ?_
  refine lv_iconst (v := 1) hx hb dX5_adds_49 (by decide) ?_
  refine lv_iadd hx hb dX5_adds_50 ?_
  refine hg_iast hx hb hh (hu_ne (by omega) (hu_ne (by omega) (hu_ne (by omega) fvZ))) hsl dX5_adds_51 (fun H locs hh => ?_)
  refine lv_aload_n hx hb dX5_adds_52 rfl (lv_at hl 1 rfl) ?_
  refine hg_get (C := RX5) (T := TX5) (N := 25) (ci := 5) (own := RX5) (index := 25) hx hb hts hiX5 hown hh (hu_ne (by omega) (hu_ne (by omega) (hu_ne (by omega) (hu_ne (by omega) fy)))) rfl 6 (by decide) (hts (.fieldLink RX5 25 "BackhaulReturnsModel" "sizes" "[I") (by decide +kernel)) rfl dX5_adds_53 ?_
  refine lv_iload_n hx hb dX5_adds_56 rfl (lv_at hl 2 rfl) ?_
  refine hg_iald hx hb hh hu_eq hsl dX5_adds_57 ?_
  refine W.eq (g2 := F0 m 58 ls [.int ((vZ sale.toNatClampNeg) + 1)]) (by rw [pk_us]) ?_
  refine lv_iconst (v := 1) hx hb dX5_adds_58 (by decide) ?_
  refine lv_isub hx hb dX5_adds_59 ?_
  exact hr_i hx hb hr hlocks hh dX5_adds_60 (⟨by rw [f_X5_adds], rfl⟩)
def f_X5_pays (vZ : Nat → Int32) (vL : Nat → Int32) (vU : Nat → Int32) (sale : Int32) : Int32 := (f_X5_net (g_X5_goods vL vU sale ((vZ sale.toNatClampNeg).toNatClampNeg)))
set_option maxHeartbeats 4000000 in
set_option maxRecDepth 100000 in
theorem c_X5_pays (l : Launch) (G : hG) (z0 : Nat) (mm : hM) (y : Nat) (b : Nat) (day : Int32) (sn : Int32) (bk : Int32) (fe : Int32) (th : Int32) (vZ : Nat → Int32) (vD : Nat → Int32) (vA : Nat → Int32) (vL : Nat → Int32) (vU : Nat → Int32) (sale : Int32) (fy : mm y = some (.inr (5, [.ref b, .ref (b + 1), .ref (b + 2), .ref (b + 3), .int day, .ref (b + 4), .ref (b + 5), .ref (b + 6), .ref (b + 7), .ref (b + 8), .ref (b + 9), .ref (b + 10), .int sn, .ref (b + 11), .ref (b + 12), .ref (b + 13), .ref (b + 14), .ref (b + 15), .ref (b + 16), .ref (b + 17), .int bk, .int fe, .ref (b + 18), .ref (b + 19), .int th]))) (fvZ : mm (b + 5) = some (eI G 40 vZ)) (fvD : mm (b + 6) = some (eI G 40 vD)) (fvA : mm (b + 7) = some (eI G 40 vA)) (fvL : mm (b + 12) = some (eI G 240 vL)) (fvU : mm (b + 13) = some (eI G 240 vU)) (hyb : y < b) (hsl : vp_in sale 40) (hz : ∀ k : Nat, k < 40 → 0 ≤ (vZ k).toInt ∧ (vZ k).toInt ≤ 6) : Met l yX5_pays wsX5_pays ({ frames := 2, cells := 0, slots := 0, locals := 45 }) (hPre G z0 mm [.ref y, .int sale]) (hQi G z0 (fun r m' => r = f_X5_pays vZ vL vU sale ∧ m' = (hu (hu mm (b + 6) (eI G 40 (upd vD (sale.toNatClampNeg) day))) (b + 7) (eI G 40 (upd vA (sale.toNatClampNeg) (f_X5_net (g_X5_goods vL vU sale ((vZ sale.toNatClampNeg).toNatClampNeg)))))))) 0 0 (h_ge z0) := by
  refine hm_of (cc := cX5_pays) (maxL := 2) (ret := (some .int)) (by decide) rfl (Nat.le_of_ble_eq_true rfl) ?_
  intro p e s m below meth c ls hx hb hr hts hown hlocks hml hin hh hl
  have hl : lv_has ls 2 [(0, .ref y), (1, .int sale)] := hl
  have hiX5 : ∀ w ∈ u_ws RX5 TX5 25, w ∈ wsX5_pays := by decide +kernel
  refine lv_aload_n hx hb dX5_pays_0 rfl (lv_at hl 0 rfl) ?_
  refine hg_get (C := RX5) (T := TX5) (N := 25) (ci := 5) (own := RX5) (index := 28) hx hb hts hiX5 hown hh fy rfl 7 (by decide) (hts (.fieldLink RX5 28 "BackhaulReturnsModel" "days" "[I") (by decide +kernel)) rfl dX5_pays_1 ?_
  refine lv_iload_n hx hb dX5_pays_4 rfl (lv_at hl 1 rfl) ?_
  refine lv_aload_n hx hb dX5_pays_5 rfl (lv_at hl 0 rfl) ?_
  refine hg_get (C := RX5) (T := TX5) (N := 25) (ci := 5) (own := RX5) (index := 94) hx hb hts hiX5 hown hh fy rfl 4 (by decide) (hts (.fieldLink RX5 94 "BackhaulReturnsModel" "day" "I") (by decide +kernel)) rfl dX5_pays_6 ?_
  refine hg_iast hx hb hh fvD hsl dX5_pays_9 (fun H locs hh => ?_)
  refine lv_aload_n hx hb dX5_pays_10 rfl (lv_at hl 0 rfl) ?_
  refine hg_get (C := RX5) (T := TX5) (N := 25) (ci := 5) (own := RX5) (index := 31) hx hb hts hiX5 hown hh (hu_ne (by omega) fy) rfl 8 (by decide) (hts (.fieldLink RX5 31 "BackhaulReturnsModel" "paid" "[I") (by decide +kernel)) rfl dX5_pays_11 ?_
  refine lv_iload_n hx hb dX5_pays_14 rfl (lv_at hl 1 rfl) ?_
  refine lv_aload_n hx hb dX5_pays_15 rfl (lv_at hl 0 rfl) ?_
  refine lv_iload_n hx hb dX5_pays_16 rfl (lv_at hl 1 rfl) ?_
  refine hk_i hh (va_runV (As := [.int sale]) (rest := [.int sale, .ref (b + 7)]) ⟨hx, hb, hml, hown, hts⟩ (c_X5_goods l G z0 (hu mm (b + 6) (eI G 40 (upd vD (sale.toNatClampNeg) day))) y b day sn bk fe th vZ vL vU sale (hu_ne (by omega) fy) (hu_ne (by omega) fvZ) (hu_ne (by omega) fvL) (hu_ne (by omega) fvU) hyb hsl hz) (cwV 1 hts gX5_pays_X5_goods rfl rfl rfl (by decide +kernel) ⟨Nat.le_of_ble_eq_true rfl, Nat.le_of_ble_eq_true rfl⟩) (hs_preV hh (hu_ne (by omega) fy) rfl) rfl rfl hl.1 rfl (lv_room (Nat.le_of_ble_eq_true rfl)) dX5_pays_17 ⟨Nat.le_of_ble_eq_true rfl, Nat.le_of_ble_eq_true rfl⟩) (fun r_17 m_17 H locs hp hh => ?_)
  obtain ⟨hr9, hm9⟩ := hp; subst hr9; have hm9 := hm9.symm; subst hm9
  refine hk_i hh (va_runS (As := [.int (g_X5_goods vL vU sale ((vZ sale.toNatClampNeg).toNatClampNeg))]) (rest := [.int sale, .ref (b + 7)]) ⟨hx, hb, hml, hown, hts⟩ (c_X5_net l G z0 (hu mm (b + 6) (eI G 40 (upd vD (sale.toNatClampNeg) day))) (g_X5_goods vL vU sale ((vZ sale.toNatClampNeg).toNatClampNeg))) (va_cwS 1 hts gX5_pays_X5_net rfl rfl rfl (by decide +kernel) ⟨Nat.le_of_ble_eq_true rfl, Nat.le_of_ble_eq_true rfl⟩) (hs_preS hh) rfl rfl hl.1 rfl (lv_room (Nat.le_of_ble_eq_true rfl)) dX5_pays_20 ⟨Nat.le_of_ble_eq_true rfl, Nat.le_of_ble_eq_true rfl⟩) (fun r_20 m_20 H locs hp hh => ?_)
  obtain ⟨hr9, hm9⟩ := hp; subst hr9; have hm9 := hm9.symm; subst hm9
  refine hg_iast hx hb hh (hu_ne (by omega) fvA) hsl dX5_pays_23 (fun H locs hh => ?_)
  refine lv_aload_n hx hb dX5_pays_24 rfl (lv_at hl 0 rfl) ?_
  refine hg_get (C := RX5) (T := TX5) (N := 25) (ci := 5) (own := RX5) (index := 31) hx hb hts hiX5 hown hh (hu_ne (by omega) (hu_ne (by omega) fy)) rfl 8 (by decide) (hts (.fieldLink RX5 31 "BackhaulReturnsModel" "paid" "[I") (by decide +kernel)) rfl dX5_pays_25 ?_
  refine lv_iload_n hx hb dX5_pays_28 rfl (lv_at hl 1 rfl) ?_
  refine hg_iald hx hb hh hu_eq hsl dX5_pays_29 ?_
  refine W.eq (g2 := F0 m 30 ls [.int (f_X5_net (g_X5_goods vL vU sale ((vZ sale.toNatClampNeg).toNatClampNeg)))]) (by rw [pk_us]) ?_
  exact hr_i hx hb hr hlocks hh dX5_pays_30 (⟨by rw [f_X5_pays], rfl⟩)
end
