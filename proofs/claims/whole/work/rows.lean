section
-- ===== PART A: goes FIRST, ahead of the names: the tables' words, and 'selects' of the private methods out of them =====
/-- a private method of a class that the tables say can be made, by its rows of tables_1 -/
def lw_okq (q : MethodName × Nat) : Prop := (q.1.cls ≠ "java/lang/invoke/MethodHandle" ∧ q.1.cls ≠ "java/lang/invoke/VarHandle") ∧ Cond.instantiable q.1.cls q.2 ∈ tables_1 ∧ Cond.privateMethod q.1 ∈ tables_1 ∧ Cond.instanceMethod q.1 ∈ tables_1
theorem lw_p0 : lw_okq (⟨"ExampleDrawers", "isPlace", "(III)Z"⟩, 5) := ⟨⟨by decide +kernel, by decide +kernel⟩, List.mem_of_getElem? (i := 13) (by decide +kernel), List.mem_of_getElem? (i := 284) (by decide +kernel), List.mem_of_getElem? (i := 285) (by decide +kernel)⟩
theorem lw_p1 : lw_okq (⟨"ExampleDrawers", "isCell", "(II)Z"⟩, 5) := ⟨⟨by decide +kernel, by decide +kernel⟩, List.mem_of_getElem? (i := 13) (by decide +kernel), List.mem_of_getElem? (i := 288) (by decide +kernel), List.mem_of_getElem? (i := 289) (by decide +kernel)⟩
theorem lw_p2 : lw_okq (⟨"ExampleDrawers$Rows", "findTellers", "(I)V"⟩, 6) := ⟨⟨by decide +kernel, by decide +kernel⟩, List.mem_of_getElem? (i := 127) (by decide +kernel), List.mem_of_getElem? (i := 378) (by decide +kernel), List.mem_of_getElem? (i := 379) (by decide +kernel)⟩
theorem lw_p3 : lw_okq (⟨"ExampleDrawers$Rows", "firstMisfit", "(I)I"⟩, 6) := ⟨⟨by decide +kernel, by decide +kernel⟩, List.mem_of_getElem? (i := 127) (by decide +kernel), List.mem_of_getElem? (i := 406) (by decide +kernel), List.mem_of_getElem? (i := 407) (by decide +kernel)⟩
theorem lw_p4 : lw_okq (⟨"ExampleDrawers$Rows", "isFitted", "(II)Z"⟩, 6) := ⟨⟨by decide +kernel, by decide +kernel⟩, List.mem_of_getElem? (i := 127) (by decide +kernel), List.mem_of_getElem? (i := 410) (by decide +kernel), List.mem_of_getElem? (i := 411) (by decide +kernel)⟩
theorem lw_p5 : lw_okq (⟨"ExampleDrawers$Rows", "firstAlike", "(II)I"⟩, 6) := ⟨⟨by decide +kernel, by decide +kernel⟩, List.mem_of_getElem? (i := 127) (by decide +kernel), List.mem_of_getElem? (i := 437) (by decide +kernel), List.mem_of_getElem? (i := 438) (by decide +kernel)⟩
theorem lw_p6 : lw_okq (⟨"ExampleDrawers$Rows", "isAlike", "(III)Z"⟩, 6) := ⟨⟨by decide +kernel, by decide +kernel⟩, List.mem_of_getElem? (i := 127) (by decide +kernel), List.mem_of_getElem? (i := 441) (by decide +kernel), List.mem_of_getElem? (i := 442) (by decide +kernel)⟩
theorem lw_p7 : lw_okq (⟨"ExampleDrawers$Rows", "markNew", "(I)I"⟩, 6) := ⟨⟨by decide +kernel, by decide +kernel⟩, List.mem_of_getElem? (i := 127) (by decide +kernel), List.mem_of_getElem? (i := 451) (by decide +kernel), List.mem_of_getElem? (i := 452) (by decide +kernel)⟩
theorem lw_p8 : lw_okq (⟨"ExampleDrawers$Rows", "isAhead", "(II)Z"⟩, 6) := ⟨⟨by decide +kernel, by decide +kernel⟩, List.mem_of_getElem? (i := 127) (by decide +kernel), List.mem_of_getElem? (i := 484) (by decide +kernel), List.mem_of_getElem? (i := 485) (by decide +kernel)⟩
theorem lw_p9 : lw_okq (⟨"ExampleDrawers$Rows", "compareBy", "(III)I"⟩, 6) := ⟨⟨by decide +kernel, by decide +kernel⟩, List.mem_of_getElem? (i := 127) (by decide +kernel), List.mem_of_getElem? (i := 488) (by decide +kernel), List.mem_of_getElem? (i := 489) (by decide +kernel)⟩
theorem lw_p10 : lw_okq (⟨"ExampleDrawers$Reading", "readCell", "(I)V"⟩, 6) := ⟨⟨by decide +kernel, by decide +kernel⟩, List.mem_of_getElem? (i := 169) (by decide +kernel), List.mem_of_getElem? (i := 604) (by decide +kernel), List.mem_of_getElem? (i := 605) (by decide +kernel)⟩
theorem lw_p11 : lw_okq (⟨"ExampleDrawers$Reading", "readNumbers", "()V"⟩, 6) := ⟨⟨by decide +kernel, by decide +kernel⟩, List.mem_of_getElem? (i := 169) (by decide +kernel), List.mem_of_getElem? (i := 611) (by decide +kernel), List.mem_of_getElem? (i := 612) (by decide +kernel)⟩
theorem lw_p12 : lw_okq (⟨"ExampleDrawers$Reading", "readNumber", "()I"⟩, 6) := ⟨⟨by decide +kernel, by decide +kernel⟩, List.mem_of_getElem? (i := 169) (by decide +kernel), List.mem_of_getElem? (i := 615) (by decide +kernel), List.mem_of_getElem? (i := 616) (by decide +kernel)⟩
theorem lw_p13 : lw_okq (⟨"ExampleDrawers$Reading", "fail", "(II)V"⟩, 6) := ⟨⟨by decide +kernel, by decide +kernel⟩, List.mem_of_getElem? (i := 169) (by decide +kernel), List.mem_of_getElem? (i := 619) (by decide +kernel), List.mem_of_getElem? (i := 620) (by decide +kernel)⟩
theorem lw_p14 : lw_okq (⟨"ExampleDrawers$Reading", "readBound", "(II)V"⟩, 6) := ⟨⟨by decide +kernel, by decide +kernel⟩, List.mem_of_getElem? (i := 169) (by decide +kernel), List.mem_of_getElem? (i := 628) (by decide +kernel), List.mem_of_getElem? (i := 629) (by decide +kernel)⟩
theorem lw_p15 : lw_okq (⟨"ExampleDrawers$Reading", "readComma", "()Z"⟩, 6) := ⟨⟨by decide +kernel, by decide +kernel⟩, List.mem_of_getElem? (i := 169) (by decide +kernel), List.mem_of_getElem? (i := 635) (by decide +kernel), List.mem_of_getElem? (i := 636) (by decide +kernel)⟩
def lw_privs_1 : List (MethodName × Nat) := [(⟨"ExampleDrawers", "isPlace", "(III)Z"⟩, 5), (⟨"ExampleDrawers", "isCell", "(II)Z"⟩, 5), (⟨"ExampleDrawers$Rows", "findTellers", "(I)V"⟩, 6), (⟨"ExampleDrawers$Rows", "firstMisfit", "(I)I"⟩, 6), (⟨"ExampleDrawers$Rows", "isFitted", "(II)Z"⟩, 6), (⟨"ExampleDrawers$Rows", "firstAlike", "(II)I"⟩, 6), (⟨"ExampleDrawers$Rows", "isAlike", "(III)Z"⟩, 6), (⟨"ExampleDrawers$Rows", "markNew", "(I)I"⟩, 6), (⟨"ExampleDrawers$Rows", "isAhead", "(II)Z"⟩, 6), (⟨"ExampleDrawers$Rows", "compareBy", "(III)I"⟩, 6), (⟨"ExampleDrawers$Reading", "readCell", "(I)V"⟩, 6), (⟨"ExampleDrawers$Reading", "readNumbers", "()V"⟩, 6), (⟨"ExampleDrawers$Reading", "readNumber", "()I"⟩, 6), (⟨"ExampleDrawers$Reading", "fail", "(II)V"⟩, 6), (⟨"ExampleDrawers$Reading", "readBound", "(II)V"⟩, 6), (⟨"ExampleDrawers$Reading", "readComma", "()Z"⟩, 6)]
theorem lw_r1 : ∀ q ∈ lw_privs_1, lw_okq q := List.forall_mem_cons.mpr ⟨lw_p0, List.forall_mem_cons.mpr ⟨lw_p1, List.forall_mem_cons.mpr ⟨lw_p2, List.forall_mem_cons.mpr ⟨lw_p3, List.forall_mem_cons.mpr ⟨lw_p4, List.forall_mem_cons.mpr ⟨lw_p5, List.forall_mem_cons.mpr ⟨lw_p6, List.forall_mem_cons.mpr ⟨lw_p7, List.forall_mem_cons.mpr ⟨lw_p8, List.forall_mem_cons.mpr ⟨lw_p9, List.forall_mem_cons.mpr ⟨lw_p10, List.forall_mem_cons.mpr ⟨lw_p11, List.forall_mem_cons.mpr ⟨lw_p12, List.forall_mem_cons.mpr ⟨lw_p13, List.forall_mem_cons.mpr ⟨lw_p14, List.forall_mem_cons.mpr ⟨lw_p15, fun _ h => absurd h List.not_mem_nil⟩⟩⟩⟩⟩⟩⟩⟩⟩⟩⟩⟩⟩⟩⟩⟩
theorem lw_p16 : lw_okq (⟨"ExampleDrawersModel", "changes", "()V"⟩, 13) := ⟨⟨by decide +kernel, by decide +kernel⟩, List.mem_of_getElem? (i := 662) (by decide +kernel), List.mem_of_getElem? (i := 718) (by decide +kernel), List.mem_of_getElem? (i := 719) (by decide +kernel)⟩
theorem lw_p17 : lw_okq (⟨"ExampleDrawersModel", "setsCell", "(IIIII)V"⟩, 13) := ⟨⟨by decide +kernel, by decide +kernel⟩, List.mem_of_getElem? (i := 662) (by decide +kernel), List.mem_of_getElem? (i := 722) (by decide +kernel), List.mem_of_getElem? (i := 723) (by decide +kernel)⟩
theorem lw_p18 : lw_okq (⟨"ExampleDrawersModel", "isCard", "(II)Z"⟩, 13) := ⟨⟨by decide +kernel, by decide +kernel⟩, List.mem_of_getElem? (i := 662) (by decide +kernel), List.mem_of_getElem? (i := 737) (by decide +kernel), List.mem_of_getElem? (i := 738) (by decide +kernel)⟩
theorem lw_p19 : lw_okq (⟨"ExampleDrawersModel", "isColumn", "(II)Z"⟩, 13) := ⟨⟨by decide +kernel, by decide +kernel⟩, List.mem_of_getElem? (i := 662) (by decide +kernel), List.mem_of_getElem? (i := 741) (by decide +kernel), List.mem_of_getElem? (i := 742) (by decide +kernel)⟩
theorem lw_p20 : lw_okq (⟨"ExampleDrawersModel", "cellAt", "(III)I"⟩, 13) := ⟨⟨by decide +kernel, by decide +kernel⟩, List.mem_of_getElem? (i := 662) (by decide +kernel), List.mem_of_getElem? (i := 760) (by decide +kernel), List.mem_of_getElem? (i := 761) (by decide +kernel)⟩
theorem lw_p21 : lw_okq (⟨"ExampleDrawersModel", "others", "(I)I"⟩, 13) := ⟨⟨by decide +kernel, by decide +kernel⟩, List.mem_of_getElem? (i := 662) (by decide +kernel), List.mem_of_getElem? (i := 768) (by decide +kernel), List.mem_of_getElem? (i := 769) (by decide +kernel)⟩
theorem lw_p22 : lw_okq (⟨"ExampleDrawersModel", "finds", "()V"⟩, 13) := ⟨⟨by decide +kernel, by decide +kernel⟩, List.mem_of_getElem? (i := 662) (by decide +kernel), List.mem_of_getElem? (i := 780) (by decide +kernel), List.mem_of_getElem? (i := 781) (by decide +kernel)⟩
theorem lw_p23 : lw_okq (⟨"ExampleDrawersModel", "unfit", "(II)I"⟩, 13) := ⟨⟨by decide +kernel, by decide +kernel⟩, List.mem_of_getElem? (i := 662) (by decide +kernel), List.mem_of_getElem? (i := 784) (by decide +kernel), List.mem_of_getElem? (i := 785) (by decide +kernel)⟩
theorem lw_p24 : lw_okq (⟨"ExampleDrawersModel", "isAsked", "(I)Z"⟩, 13) := ⟨⟨by decide +kernel, by decide +kernel⟩, List.mem_of_getElem? (i := 662) (by decide +kernel), List.mem_of_getElem? (i := 788) (by decide +kernel), List.mem_of_getElem? (i := 789) (by decide +kernel)⟩
theorem lw_p25 : lw_okq (⟨"ExampleDrawersModel", "fitsCell", "(III)Z"⟩, 13) := ⟨⟨by decide +kernel, by decide +kernel⟩, List.mem_of_getElem? (i := 662) (by decide +kernel), List.mem_of_getElem? (i := 792) (by decide +kernel), List.mem_of_getElem? (i := 793) (by decide +kernel)⟩
theorem lw_p26 : lw_okq (⟨"ExampleDrawersModel", "at", "(III)I"⟩, 13) := ⟨⟨by decide +kernel, by decide +kernel⟩, List.mem_of_getElem? (i := 662) (by decide +kernel), List.mem_of_getElem? (i := 796) (by decide +kernel), List.mem_of_getElem? (i := 797) (by decide +kernel)⟩
theorem lw_p27 : lw_okq (⟨"ExampleDrawersModel", "teller", "(I)I"⟩, 13) := ⟨⟨by decide +kernel, by decide +kernel⟩, List.mem_of_getElem? (i := 662) (by decide +kernel), List.mem_of_getElem? (i := 803) (by decide +kernel), List.mem_of_getElem? (i := 804) (by decide +kernel)⟩
theorem lw_p28 : lw_okq (⟨"ExampleDrawersModel", "lays", "(II)V"⟩, 13) := ⟨⟨by decide +kernel, by decide +kernel⟩, List.mem_of_getElem? (i := 662) (by decide +kernel), List.mem_of_getElem? (i := 807) (by decide +kernel), List.mem_of_getElem? (i := 808) (by decide +kernel)⟩
theorem lw_p29 : lw_okq (⟨"ExampleDrawersModel", "isBehind", "(IIII)Z"⟩, 13) := ⟨⟨by decide +kernel, by decide +kernel⟩, List.mem_of_getElem? (i := 662) (by decide +kernel), List.mem_of_getElem? (i := 811) (by decide +kernel), List.mem_of_getElem? (i := 812) (by decide +kernel)⟩
theorem lw_p30 : lw_okq (⟨"ExampleDrawersModel", "unlikeNow", "()I"⟩, 13) := ⟨⟨by decide +kernel, by decide +kernel⟩, List.mem_of_getElem? (i := 662) (by decide +kernel), List.mem_of_getElem? (i := 819) (by decide +kernel), List.mem_of_getElem? (i := 820) (by decide +kernel)⟩
theorem lw_p31 : lw_okq (⟨"ExampleDrawersModel", "areAlike", "(II)Z"⟩, 13) := ⟨⟨by decide +kernel, by decide +kernel⟩, List.mem_of_getElem? (i := 662) (by decide +kernel), List.mem_of_getElem? (i := 823) (by decide +kernel), List.mem_of_getElem? (i := 824) (by decide +kernel)⟩
def lw_privs_2 : List (MethodName × Nat) := [(⟨"ExampleDrawersModel", "changes", "()V"⟩, 13), (⟨"ExampleDrawersModel", "setsCell", "(IIIII)V"⟩, 13), (⟨"ExampleDrawersModel", "isCard", "(II)Z"⟩, 13), (⟨"ExampleDrawersModel", "isColumn", "(II)Z"⟩, 13), (⟨"ExampleDrawersModel", "cellAt", "(III)I"⟩, 13), (⟨"ExampleDrawersModel", "others", "(I)I"⟩, 13), (⟨"ExampleDrawersModel", "finds", "()V"⟩, 13), (⟨"ExampleDrawersModel", "unfit", "(II)I"⟩, 13), (⟨"ExampleDrawersModel", "isAsked", "(I)Z"⟩, 13), (⟨"ExampleDrawersModel", "fitsCell", "(III)Z"⟩, 13), (⟨"ExampleDrawersModel", "at", "(III)I"⟩, 13), (⟨"ExampleDrawersModel", "teller", "(I)I"⟩, 13), (⟨"ExampleDrawersModel", "lays", "(II)V"⟩, 13), (⟨"ExampleDrawersModel", "isBehind", "(IIII)Z"⟩, 13), (⟨"ExampleDrawersModel", "unlikeNow", "()I"⟩, 13), (⟨"ExampleDrawersModel", "areAlike", "(II)Z"⟩, 13)]
theorem lw_r2 : ∀ q ∈ lw_privs_2, lw_okq q := List.forall_mem_cons.mpr ⟨lw_p16, List.forall_mem_cons.mpr ⟨lw_p17, List.forall_mem_cons.mpr ⟨lw_p18, List.forall_mem_cons.mpr ⟨lw_p19, List.forall_mem_cons.mpr ⟨lw_p20, List.forall_mem_cons.mpr ⟨lw_p21, List.forall_mem_cons.mpr ⟨lw_p22, List.forall_mem_cons.mpr ⟨lw_p23, List.forall_mem_cons.mpr ⟨lw_p24, List.forall_mem_cons.mpr ⟨lw_p25, List.forall_mem_cons.mpr ⟨lw_p26, List.forall_mem_cons.mpr ⟨lw_p27, List.forall_mem_cons.mpr ⟨lw_p28, List.forall_mem_cons.mpr ⟨lw_p29, List.forall_mem_cons.mpr ⟨lw_p30, List.forall_mem_cons.mpr ⟨lw_p31, fun _ h => absurd h List.not_mem_nil⟩⟩⟩⟩⟩⟩⟩⟩⟩⟩⟩⟩⟩⟩⟩⟩
theorem lw_p32 : lw_okq (⟨"ExampleDrawersModel", "isFirstOf", "(II)Z"⟩, 13) := ⟨⟨by decide +kernel, by decide +kernel⟩, List.mem_of_getElem? (i := 662) (by decide +kernel), List.mem_of_getElem? (i := 847) (by decide +kernel), List.mem_of_getElem? (i := 848) (by decide +kernel)⟩
theorem lw_p33 : lw_okq (⟨"ExampleDrawersModel", "isRight", "()Z"⟩, 13) := ⟨⟨by decide +kernel, by decide +kernel⟩, List.mem_of_getElem? (i := 662) (by decide +kernel), List.mem_of_getElem? (i := 884) (by decide +kernel), List.mem_of_getElem? (i := 885) (by decide +kernel)⟩
theorem lw_p34 : lw_okq (⟨"ExampleDrawersModel", "readsCell", "()Z"⟩, 13) := ⟨⟨by decide +kernel, by decide +kernel⟩, List.mem_of_getElem? (i := 662) (by decide +kernel), List.mem_of_getElem? (i := 888) (by decide +kernel), List.mem_of_getElem? (i := 889) (by decide +kernel)⟩
theorem lw_p35 : lw_okq (⟨"ExampleDrawersModel", "passes", "(II)Z"⟩, 13) := ⟨⟨by decide +kernel, by decide +kernel⟩, List.mem_of_getElem? (i := 662) (by decide +kernel), List.mem_of_getElem? (i := 892) (by decide +kernel), List.mem_of_getElem? (i := 893) (by decide +kernel)⟩
theorem lw_p36 : lw_okq (⟨"ExampleDrawersModel", "isAt", "(II)Z"⟩, 13) := ⟨⟨by decide +kernel, by decide +kernel⟩, List.mem_of_getElem? (i := 662) (by decide +kernel), List.mem_of_getElem? (i := 896) (by decide +kernel), List.mem_of_getElem? (i := 897) (by decide +kernel)⟩
theorem lw_p37 : lw_okq (⟨"ExampleDrawersModel", "tells", "(III)Z"⟩, 13) := ⟨⟨by decide +kernel, by decide +kernel⟩, List.mem_of_getElem? (i := 662) (by decide +kernel), List.mem_of_getElem? (i := 900) (by decide +kernel), List.mem_of_getElem? (i := 901) (by decide +kernel)⟩
theorem lw_p38 : lw_okq (⟨"ExampleDrawersModel", "numbered", "()Z"⟩, 13) := ⟨⟨by decide +kernel, by decide +kernel⟩, List.mem_of_getElem? (i := 662) (by decide +kernel), List.mem_of_getElem? (i := 904) (by decide +kernel), List.mem_of_getElem? (i := 905) (by decide +kernel)⟩
theorem lw_p39 : lw_okq (⟨"ExampleDrawersModel", "fails", "(I)Z"⟩, 13) := ⟨⟨by decide +kernel, by decide +kernel⟩, List.mem_of_getElem? (i := 662) (by decide +kernel), List.mem_of_getElem? (i := 908) (by decide +kernel), List.mem_of_getElem? (i := 909) (by decide +kernel)⟩
theorem lw_p40 : lw_okq (⟨"ExampleDrawersModel", "compares", "(II)Z"⟩, 13) := ⟨⟨by decide +kernel, by decide +kernel⟩, List.mem_of_getElem? (i := 662) (by decide +kernel), List.mem_of_getElem? (i := 912) (by decide +kernel), List.mem_of_getElem? (i := 913) (by decide +kernel)⟩
theorem lw_p41 : lw_okq (⟨"ExampleDrawersModel", "ranges", "(I)Z"⟩, 13) := ⟨⟨by decide +kernel, by decide +kernel⟩, List.mem_of_getElem? (i := 662) (by decide +kernel), List.mem_of_getElem? (i := 916) (by decide +kernel), List.mem_of_getElem? (i := 917) (by decide +kernel)⟩
def lw_privs_3 : List (MethodName × Nat) := [(⟨"ExampleDrawersModel", "isFirstOf", "(II)Z"⟩, 13), (⟨"ExampleDrawersModel", "isRight", "()Z"⟩, 13), (⟨"ExampleDrawersModel", "readsCell", "()Z"⟩, 13), (⟨"ExampleDrawersModel", "passes", "(II)Z"⟩, 13), (⟨"ExampleDrawersModel", "isAt", "(II)Z"⟩, 13), (⟨"ExampleDrawersModel", "tells", "(III)Z"⟩, 13), (⟨"ExampleDrawersModel", "numbered", "()Z"⟩, 13), (⟨"ExampleDrawersModel", "fails", "(I)Z"⟩, 13), (⟨"ExampleDrawersModel", "compares", "(II)Z"⟩, 13), (⟨"ExampleDrawersModel", "ranges", "(I)Z"⟩, 13)]
theorem lw_r3 : ∀ q ∈ lw_privs_3, lw_okq q := List.forall_mem_cons.mpr ⟨lw_p32, List.forall_mem_cons.mpr ⟨lw_p33, List.forall_mem_cons.mpr ⟨lw_p34, List.forall_mem_cons.mpr ⟨lw_p35, List.forall_mem_cons.mpr ⟨lw_p36, List.forall_mem_cons.mpr ⟨lw_p37, List.forall_mem_cons.mpr ⟨lw_p38, List.forall_mem_cons.mpr ⟨lw_p39, List.forall_mem_cons.mpr ⟨lw_p40, List.forall_mem_cons.mpr ⟨lw_p41, fun _ h => absurd h List.not_mem_nil⟩⟩⟩⟩⟩⟩⟩⟩⟩⟩
def lw_privs : List (MethodName × Nat) := lw_privs_1 ++ (lw_privs_2 ++ (lw_privs_3))
def lw_tbl : List Cond := k2_sels lw_privs ++ tables_1
theorem lw_privs_ok : ∀ q ∈ lw_privs, lw_okq q := by
  show ∀ q ∈ lw_privs_1 ++ (lw_privs_2 ++ (lw_privs_3)), lw_okq q
  exact List.forall_mem_append.mpr ⟨lw_r1, List.forall_mem_append.mpr ⟨lw_r2, lw_r3⟩⟩
-- ===== end of PART A; then your names; then what follows =====
end
section
/-! ===== BEGIN words of one list among another's, by their places ===== -/
theorem goodIn_r {big : List Cond} (ws : List Cond) (ps : List Nat) (hp : ws = ps.filterMap (fun i => big[i]?)) (h : ws.all goodWord = true) : GoodIn big ws := by
  intro w hw
  have h1 := List.all_eq_true.mp h w hw
  rw [hp] at hw
  obtain ⟨i, -, hi⟩ := List.mem_filterMap.mp hw
  have hm : w ∈ big := by first | exact List.mem_of_getElem? hi | exact List.getElem?_mem hi
  exact ⟨hm, good_of_word h1⟩
theorem goodIn_app {big a b : List Cond} (ha : GoodIn big a) (hb : GoodIn big b) : GoodIn big (a ++ b) := fun w h => (List.mem_append.mp h).elim (ha w) (hb w)
theorem goodIn_ca {big a b : List Cond} {c : Cond} (ha : GoodIn big (c :: a)) (hb : GoodIn big b) : GoodIn big (c :: (a ++ b)) := fun w h => (List.mem_cons.mp h).elim (fun e => ha w (List.mem_cons.mpr (Or.inl e))) (fun h => (List.mem_append.mp h).elim (fun h => ha w (List.mem_cons.mpr (Or.inr h))) (hb w))
theorem goodIn_sub {big ws : List Cond} (hm : ∀ w ∈ ws, w ∈ big) (h : ws.all goodWord = true) : GoodIn big ws := fun w hw => ⟨hm w hw, good_of_word (List.all_eq_true.mp h w hw)⟩
/-! ===== END ===== -/

/-! ===== BEGIN printed: names, fields, word lists, decode rows ===== -/
def RX0 : String := "ExampleDrawers$Drawer"
def TX0 : u_T := fun k => match k with
  | 0 => ("ExampleDrawers$Drawer", "entries", "LExampleDrawers$Numbers;", true)
  | 1 => ("ExampleDrawers$Drawer", "example", "LExampleDrawers$Example;", true)
  | 2 => ("ExampleDrawers$Drawer", "width", "I", false)
  | _ => ("ExampleDrawers$Drawer", "size", "I", false)
def tyX0 : Nat → FieldType := fun k => match k with
  | 0 => .object "ExampleDrawers$Numbers"
  | 1 => .object "ExampleDrawers$Example"
  | 2 => .int
  | _ => .int
abbrev wsX00 : List Cond := u_ws RX0 TX0 4
theorem nmX0 : ∀ a, a < 4 → ∀ b, b < 4 → a ≠ b → (TX0 a).2.1 ≠ (TX0 b).2.1 := by decide +kernel
theorem tyX0_ok : ∀ k, k < 4 → parseFieldDescriptor (TX0 k).2.2.1 = some (tyX0 k) := by decide +kernel
abbrev cX0_init : ByteArray := prog_2_method_1_code
def yX0_init : MethodName := ⟨RX0, "<init>", "()V"⟩
abbrev cX0_width : ByteArray := prog_2_method_2_code
def yX0_width : MethodName := ⟨RX0, "width", "()I"⟩
abbrev cX0_size : ByteArray := prog_2_method_3_code
def yX0_size : MethodName := ⟨RX0, "size", "()I"⟩
abbrev cX0_example : ByteArray := prog_2_method_4_code
def yX0_example : MethodName := ⟨RX0, "example", "()LExampleDrawers$Example;"⟩
abbrev cX0_hasColumn : ByteArray := prog_2_method_5_code
def yX0_hasColumn : MethodName := ⟨RX0, "hasColumn", "(I)Z"⟩
abbrev cX0_hasCard : ByteArray := prog_2_method_6_code
def yX0_hasCard : MethodName := ⟨RX0, "hasCard", "(I)Z"⟩
abbrev cX0_entry : ByteArray := prog_2_method_7_code
def yX0_entry : MethodName := ⟨RX0, "entry", "(II)I"⟩
abbrev cX0_remake : ByteArray := prog_2_method_8_code
def yX0_remake : MethodName := ⟨RX0, "remake", "(I)I"⟩
abbrev cX0_add : ByteArray := prog_2_method_9_code
def yX0_add : MethodName := ⟨RX0, "add", "(IIII)I"⟩
abbrev cX0_replace : ByteArray := prog_2_method_10_code
def yX0_replace : MethodName := ⟨RX0, "replace", "(III)I"⟩
abbrev cX0_remove : ByteArray := prog_2_method_11_code
def yX0_remove : MethodName := ⟨RX0, "remove", "(I)I"⟩
abbrev cX0_countFitting : ByteArray := prog_2_method_12_code
def yX0_countFitting : MethodName := ⟨RX0, "countFitting", "(I)I"⟩
abbrev cX0_copyFrom : ByteArray := prog_2_method_13_code
def yX0_copyFrom : MethodName := ⟨RX0, "copyFrom", "(LExampleDrawers$Drawer;)V"⟩
def RX1 : String := "ExampleDrawers$Example"
def TX1 : u_T := fun k => match k with
  | 0 => ("ExampleDrawers$Example", "kinds", "LExampleDrawers$Numbers;", true)
  | 1 => ("ExampleDrawers$Example", "firsts", "LExampleDrawers$Numbers;", true)
  | _ => ("ExampleDrawers$Example", "seconds", "LExampleDrawers$Numbers;", true)
def tyX1 : Nat → FieldType := fun k => match k with
  | 0 => .object "ExampleDrawers$Numbers"
  | 1 => .object "ExampleDrawers$Numbers"
  | _ => .object "ExampleDrawers$Numbers"
abbrev wsX10 : List Cond := u_ws RX1 TX1 3
theorem nmX1 : ∀ a, a < 3 → ∀ b, b < 3 → a ≠ b → (TX1 a).2.1 ≠ (TX1 b).2.1 := by decide +kernel
theorem tyX1_ok : ∀ k, k < 3 → parseFieldDescriptor (TX1 k).2.2.1 = some (tyX1 k) := by decide +kernel
abbrev cX1_init : ByteArray := prog_3_method_1_code
def yX1_init : MethodName := ⟨RX1, "<init>", "()V"⟩
abbrev cX1_kindAt : ByteArray := prog_3_method_2_code
def yX1_kindAt : MethodName := ⟨RX1, "kindAt", "(I)I"⟩
abbrev cX1_firstAt : ByteArray := prog_3_method_3_code
def yX1_firstAt : MethodName := ⟨RX1, "firstAt", "(I)I"⟩
abbrev cX1_secondAt : ByteArray := prog_3_method_4_code
def yX1_secondAt : MethodName := ⟨RX1, "secondAt", "(I)I"⟩
abbrev cX1_fill : ByteArray := prog_3_method_5_code
def yX1_fill : MethodName := ⟨RX1, "fill", "(IIII)V"⟩
abbrev cX1_wipe : ByteArray := prog_3_method_6_code
def yX1_wipe : MethodName := ⟨RX1, "wipe", "()V"⟩
abbrev cX1_otherKinds : ByteArray := prog_3_method_7_code
def yX1_otherKinds : MethodName := ⟨RX1, "otherKinds", "()I"⟩
abbrev cX1_takesAlone : ByteArray := prog_3_method_8_code
def yX1_takesAlone : MethodName := ⟨RX1, "takesAlone", "(II)Z"⟩
abbrev cX1_copyFrom : ByteArray := prog_3_method_9_code
def yX1_copyFrom : MethodName := ⟨RX1, "copyFrom", "(LExampleDrawers$Example;)V"⟩
def RX2 : String := "ExampleDrawers$History"
def TX2 : u_T := fun k => match k with
  | 0 => ("ExampleDrawers$History", "latest", "LExampleDrawers$State;", true)
  | 1 => ("ExampleDrawers$History", "second", "LExampleDrawers$State;", true)
  | 2 => ("ExampleDrawers$History", "third", "LExampleDrawers$State;", true)
  | 3 => ("ExampleDrawers$History", "oldest", "LExampleDrawers$State;", true)
  | _ => ("ExampleDrawers$History", "size", "I", false)
def tyX2 : Nat → FieldType := fun k => match k with
  | 0 => .object "ExampleDrawers$State"
  | 1 => .object "ExampleDrawers$State"
  | 2 => .object "ExampleDrawers$State"
  | 3 => .object "ExampleDrawers$State"
  | _ => .int
abbrev wsX20 : List Cond := u_ws RX2 TX2 5
theorem nmX2 : ∀ a, a < 5 → ∀ b, b < 5 → a ≠ b → (TX2 a).2.1 ≠ (TX2 b).2.1 := by decide +kernel
theorem tyX2_ok : ∀ k, k < 5 → parseFieldDescriptor (TX2 k).2.2.1 = some (tyX2 k) := by decide +kernel
abbrev cX2_init : ByteArray := prog_4_method_1_code
def yX2_init : MethodName := ⟨RX2, "<init>", "()V"⟩
abbrev cX2_size : ByteArray := prog_4_method_2_code
def yX2_size : MethodName := ⟨RX2, "size", "()I"⟩
abbrev cX2_keep : ByteArray := prog_4_method_3_code
def yX2_keep : MethodName := ⟨RX2, "keep", "(LExampleDrawers$State;)V"⟩
abbrev cX2_restore : ByteArray := prog_4_method_4_code
def yX2_restore : MethodName := ⟨RX2, "restore", "(LExampleDrawers$State;)V"⟩
def RX3 : String := "ExampleDrawers$Numbers"
def TX3 : u_T := fun k => match k with
  | _ => ("ExampleDrawers$Numbers", "held", "[I", true)
def tyX3 : Nat → FieldType := fun k => match k with
  | _ => .array .int
abbrev wsX30 : List Cond := u_ws RX3 TX3 1
theorem nmX3 : ∀ a, a < 1 → ∀ b, b < 1 → a ≠ b → (TX3 a).2.1 ≠ (TX3 b).2.1 := by decide +kernel
theorem tyX3_ok : ∀ k, k < 1 → parseFieldDescriptor (TX3 k).2.2.1 = some (tyX3 k) := by decide +kernel
abbrev cX3_init : ByteArray := prog_5_method_1_code
def yX3_init : MethodName := ⟨RX3, "<init>", "(II)V"⟩
abbrev cX3_at : ByteArray := prog_5_method_2_code
def yX3_at : MethodName := ⟨RX3, "at", "(I)I"⟩
abbrev cX3_set : ByteArray := prog_5_method_3_code
def yX3_set : MethodName := ⟨RX3, "set", "(II)V"⟩
abbrev cX3_fill : ByteArray := prog_5_method_4_code
def yX3_fill : MethodName := ⟨RX3, "fill", "(I)V"⟩
abbrev cX3_copyFrom : ByteArray := prog_5_method_5_code
def yX3_copyFrom : MethodName := ⟨RX3, "copyFrom", "(LExampleDrawers$Numbers;)V"⟩
def RX4 : String := "ExampleDrawers$Reading"
def TX4 : u_T := fun k => match k with
  | 0 => ("ExampleDrawers$Reading", "text", "LExampleDrawers$Text;", true)
  | 1 => ("ExampleDrawers$Reading", "example", "LExampleDrawers$Example;", true)
  | 2 => ("ExampleDrawers$Reading", "cells", "I", false)
  | 3 => ("ExampleDrawers$Reading", "place", "I", false)
  | 4 => ("ExampleDrawers$Reading", "faultPlace", "I", false)
  | _ => ("ExampleDrawers$Reading", "faultReason", "I", false)
def tyX4 : Nat → FieldType := fun k => match k with
  | 0 => .object "ExampleDrawers$Text"
  | 1 => .object "ExampleDrawers$Example"
  | 2 => .int
  | 3 => .int
  | 4 => .int
  | _ => .int
abbrev wsX40 : List Cond := u_ws RX4 TX4 6
theorem nmX4 : ∀ a, a < 6 → ∀ b, b < 6 → a ≠ b → (TX4 a).2.1 ≠ (TX4 b).2.1 := by decide +kernel
theorem tyX4_ok : ∀ k, k < 6 → parseFieldDescriptor (TX4 k).2.2.1 = some (tyX4 k) := by decide +kernel
abbrev cX4_init : ByteArray := prog_6_method_1_code
def yX4_init : MethodName := ⟨RX4, "<init>", "(LExampleDrawers$Text;)V"⟩
abbrev cX4_hasFault : ByteArray := prog_6_method_2_code
def yX4_hasFault : MethodName := ⟨RX4, "hasFault", "()Z"⟩
abbrev cX4_faultPlace : ByteArray := prog_6_method_3_code
def yX4_faultPlace : MethodName := ⟨RX4, "faultPlace", "()I"⟩
abbrev cX4_faultReason : ByteArray := prog_6_method_4_code
def yX4_faultReason : MethodName := ⟨RX4, "faultReason", "()I"⟩
abbrev cX4_cells : ByteArray := prog_6_method_5_code
def yX4_cells : MethodName := ⟨RX4, "cells", "()I"⟩
abbrev cX4_example : ByteArray := prog_6_method_6_code
def yX4_example : MethodName := ⟨RX4, "example", "()LExampleDrawers$Example;"⟩
abbrev cX4_start : ByteArray := prog_6_method_7_code
def yX4_start : MethodName := ⟨RX4, "start", "()V"⟩
abbrev cX4_readComma : ByteArray := prog_6_method_8_code
def yX4_readComma : MethodName := ⟨RX4, "readComma", "()Z"⟩
abbrev cX4_readCell : ByteArray := prog_6_method_9_code
def yX4_readCell : MethodName := ⟨RX4, "readCell", "(I)V"⟩
abbrev cX4_readNumbers : ByteArray := prog_6_method_10_code
def yX4_readNumbers : MethodName := ⟨RX4, "readNumbers", "()V"⟩
abbrev cX4_readBound : ByteArray := prog_6_method_11_code
def yX4_readBound : MethodName := ⟨RX4, "readBound", "(II)V"⟩
abbrev cX4_readNumber : ByteArray := prog_6_method_12_code
def yX4_readNumber : MethodName := ⟨RX4, "readNumber", "()I"⟩
abbrev cX4_fail : ByteArray := prog_6_method_13_code
def yX4_fail : MethodName := ⟨RX4, "fail", "(II)V"⟩
abbrev cX4_isDigit : ByteArray := prog_6_method_14_code
def yX4_isDigit : MethodName := ⟨RX4, "isDigit", "(I)Z"⟩
abbrev cX4_isLetter : ByteArray := prog_6_method_15_code
def yX4_isLetter : MethodName := ⟨RX4, "isLetter", "(I)Z"⟩
def RX5 : String := "ExampleDrawers$Rows"
def TX5 : u_T := fun k => match k with
  | 0 => ("ExampleDrawers$Rows", "state", "LExampleDrawers$State;", true)
  | 1 => ("ExampleDrawers$Rows", "found", "LExampleDrawers$Numbers;", true)
  | 2 => ("ExampleDrawers$Rows", "marks", "LExampleDrawers$Numbers;", true)
  | 3 => ("ExampleDrawers$Rows", "tellers", "LExampleDrawers$Numbers;", true)
  | 4 => ("ExampleDrawers$Rows", "size", "I", false)
  | _ => ("ExampleDrawers$Rows", "leftOut", "I", false)
def tyX5 : Nat → FieldType := fun k => match k with
  | 0 => .object "ExampleDrawers$State"
  | 1 => .object "ExampleDrawers$Numbers"
  | 2 => .object "ExampleDrawers$Numbers"
  | 3 => .object "ExampleDrawers$Numbers"
  | 4 => .int
  | _ => .int
abbrev wsX50 : List Cond := u_ws RX5 TX5 6
theorem nmX5 : ∀ a, a < 6 → ∀ b, b < 6 → a ≠ b → (TX5 a).2.1 ≠ (TX5 b).2.1 := by decide +kernel
theorem tyX5_ok : ∀ k, k < 6 → parseFieldDescriptor (TX5 k).2.2.1 = some (tyX5 k) := by decide +kernel
abbrev cX5_init : ByteArray := prog_7_method_1_code
def yX5_init : MethodName := ⟨RX5, "<init>", "(LExampleDrawers$State;)V"⟩
abbrev cX5_find : ByteArray := prog_7_method_2_code
def yX5_find : MethodName := ⟨RX5, "find", "(I)I"⟩
abbrev cX5_explain : ByteArray := prog_7_method_3_code
def yX5_explain : MethodName := ⟨RX5, "explain", "(I)I"⟩
abbrev cX5_tellerOf : ByteArray := prog_7_method_4_code
def yX5_tellerOf : MethodName := ⟨RX5, "tellerOf", "(I)I"⟩
abbrev cX5_findTellers : ByteArray := prog_7_method_5_code
def yX5_findTellers : MethodName := ⟨RX5, "findTellers", "(I)V"⟩
abbrev cX5_firstMisfit : ByteArray := prog_7_method_6_code
def yX5_firstMisfit : MethodName := ⟨RX5, "firstMisfit", "(I)I"⟩
abbrev cX5_isFitted : ByteArray := prog_7_method_7_code
def yX5_isFitted : MethodName := ⟨RX5, "isFitted", "(II)Z"⟩
abbrev cX5_inOrder : ByteArray := prog_7_method_8_code
def yX5_inOrder : MethodName := ⟨RX5, "inOrder", "(I)I"⟩
abbrev cX5_isAhead : ByteArray := prog_7_method_9_code
def yX5_isAhead : MethodName := ⟨RX5, "isAhead", "(II)Z"⟩
abbrev cX5_compareBy : ByteArray := prog_7_method_10_code
def yX5_compareBy : MethodName := ⟨RX5, "compareBy", "(III)I"⟩
abbrev cX5_sumUp : ByteArray := prog_7_method_11_code
def yX5_sumUp : MethodName := ⟨RX5, "sumUp", "(II)I"⟩
abbrev cX5_markNew : ByteArray := prog_7_method_12_code
def yX5_markNew : MethodName := ⟨RX5, "markNew", "(I)I"⟩
abbrev cX5_countUnlike : ByteArray := prog_7_method_13_code
def yX5_countUnlike : MethodName := ⟨RX5, "countUnlike", "()I"⟩
abbrev cX5_firstAlike : ByteArray := prog_7_method_14_code
def yX5_firstAlike : MethodName := ⟨RX5, "firstAlike", "(II)I"⟩
abbrev cX5_isAlike : ByteArray := prog_7_method_15_code
def yX5_isAlike : MethodName := ⟨RX5, "isAlike", "(III)Z"⟩
abbrev cX5_cardSet : ByteArray := prog_7_method_16_code
def yX5_cardSet : MethodName := ⟨RX5, "cardSet", "(I)I"⟩
def RX6 : String := "ExampleDrawers$State"
def TX6 : u_T := fun k => match k with
  | 0 => ("ExampleDrawers$State", "drawer0", "LExampleDrawers$Drawer;", true)
  | 1 => ("ExampleDrawers$State", "drawer1", "LExampleDrawers$Drawer;", true)
  | 2 => ("ExampleDrawers$State", "orderColumns", "LExampleDrawers$Numbers;", true)
  | 3 => ("ExampleDrawers$State", "orderDowns", "LExampleDrawers$Numbers;", true)
  | 4 => ("ExampleDrawers$State", "asksBoth", "I", false)
  | _ => ("ExampleDrawers$State", "shown", "I", false)
def tyX6 : Nat → FieldType := fun k => match k with
  | 0 => .object "ExampleDrawers$Drawer"
  | 1 => .object "ExampleDrawers$Drawer"
  | 2 => .object "ExampleDrawers$Numbers"
  | 3 => .object "ExampleDrawers$Numbers"
  | 4 => .int
  | _ => .int
abbrev wsX60 : List Cond := u_ws RX6 TX6 6
theorem nmX6 : ∀ a, a < 6 → ∀ b, b < 6 → a ≠ b → (TX6 a).2.1 ≠ (TX6 b).2.1 := by decide +kernel
theorem tyX6_ok : ∀ k, k < 6 → parseFieldDescriptor (TX6 k).2.2.1 = some (tyX6 k) := by decide +kernel
abbrev cX6_init : ByteArray := prog_8_method_1_code
def yX6_init : MethodName := ⟨RX6, "<init>", "()V"⟩
abbrev cX6_drawer : ByteArray := prog_8_method_2_code
def yX6_drawer : MethodName := ⟨RX6, "drawer", "(I)LExampleDrawers$Drawer;"⟩
abbrev cX6_isOfBoth : ByteArray := prog_8_method_3_code
def yX6_isOfBoth : MethodName := ⟨RX6, "isOfBoth", "()Z"⟩
abbrev cX6_askBoth : ByteArray := prog_8_method_4_code
def yX6_askBoth : MethodName := ⟨RX6, "askBoth", "(I)I"⟩
abbrev cX6_orderColumn : ByteArray := prog_8_method_5_code
def yX6_orderColumn : MethodName := ⟨RX6, "orderColumn", "(I)I"⟩
abbrev cX6_isDownwards : ByteArray := prog_8_method_6_code
def yX6_isDownwards : MethodName := ⟨RX6, "isDownwards", "(I)Z"⟩
abbrev cX6_setOrder : ByteArray := prog_8_method_7_code
def yX6_setOrder : MethodName := ⟨RX6, "setOrder", "(III)V"⟩
abbrev cX6_shownSet : ByteArray := prog_8_method_8_code
def yX6_shownSet : MethodName := ⟨RX6, "shownSet", "()I"⟩
abbrev cX6_setShown : ByteArray := prog_8_method_9_code
def yX6_setShown : MethodName := ⟨RX6, "setShown", "(I)V"⟩
abbrev cX6_isAsked : ByteArray := prog_8_method_10_code
def yX6_isAsked : MethodName := ⟨RX6, "isAsked", "(I)Z"⟩
abbrev cX6_isShown : ByteArray := prog_8_method_11_code
def yX6_isShown : MethodName := ⟨RX6, "isShown", "(I)Z"⟩
abbrev cX6_entry : ByteArray := prog_8_method_12_code
def yX6_entry : MethodName := ⟨RX6, "entry", "(II)I"⟩
abbrev cX6_exampleOf : ByteArray := prog_8_method_13_code
def yX6_exampleOf : MethodName := ⟨RX6, "exampleOf", "(I)LExampleDrawers$Example;"⟩
abbrev cX6_copyFrom : ByteArray := prog_8_method_14_code
def yX6_copyFrom : MethodName := ⟨RX6, "copyFrom", "(LExampleDrawers$State;)V"⟩
def RX7 : String := "ExampleDrawers$Text"
def TX7 : u_T := fun k => match k with
  | 0 => ("ExampleDrawers$Text", "characters", "LExampleDrawers$Numbers;", true)
  | _ => ("ExampleDrawers$Text", "length", "I", false)
def tyX7 : Nat → FieldType := fun k => match k with
  | 0 => .object "ExampleDrawers$Numbers"
  | _ => .int
abbrev wsX70 : List Cond := u_ws RX7 TX7 2
theorem nmX7 : ∀ a, a < 2 → ∀ b, b < 2 → a ≠ b → (TX7 a).2.1 ≠ (TX7 b).2.1 := by decide +kernel
theorem tyX7_ok : ∀ k, k < 2 → parseFieldDescriptor (TX7 k).2.2.1 = some (tyX7 k) := by decide +kernel
abbrev cX7_init : ByteArray := prog_9_method_1_code
def yX7_init : MethodName := ⟨RX7, "<init>", "()V"⟩
abbrev cX7_length : ByteArray := prog_9_method_2_code
def yX7_length : MethodName := ⟨RX7, "length", "()I"⟩
abbrev cX7_characterAt : ByteArray := prog_9_method_3_code
def yX7_characterAt : MethodName := ⟨RX7, "characterAt", "(I)I"⟩
abbrev cX7_append : ByteArray := prog_9_method_4_code
def yX7_append : MethodName := ⟨RX7, "append", "(I)I"⟩
abbrev cX7_empty : ByteArray := prog_9_method_5_code
def yX7_empty : MethodName := ⟨RX7, "empty", "()I"⟩
def RX8 : String := "ExampleDrawers"
def TX8 : u_T := fun k => match k with
  | 0 => ("ExampleDrawers", "now", "LExampleDrawers$State;", true)
  | 1 => ("ExampleDrawers", "history", "LExampleDrawers$History;", true)
  | 2 => ("ExampleDrawers", "rows", "LExampleDrawers$Rows;", true)
  | 3 => ("ExampleDrawers", "text", "LExampleDrawers$Text;", true)
  | _ => ("ExampleDrawers", "reading", "LExampleDrawers$Reading;", true)
def tyX8 : Nat → FieldType := fun k => match k with
  | 0 => .object "ExampleDrawers$State"
  | 1 => .object "ExampleDrawers$History"
  | 2 => .object "ExampleDrawers$Rows"
  | 3 => .object "ExampleDrawers$Text"
  | _ => .object "ExampleDrawers$Reading"
abbrev wsX80 : List Cond := u_ws RX8 TX8 5
theorem nmX8 : ∀ a, a < 5 → ∀ b, b < 5 → a ≠ b → (TX8 a).2.1 ≠ (TX8 b).2.1 := by decide +kernel
theorem tyX8_ok : ∀ k, k < 5 → parseFieldDescriptor (TX8 k).2.2.1 = some (tyX8 k) := by decide +kernel
abbrev cX8_init : ByteArray := prog_1_method_1_code
def yX8_init : MethodName := ⟨RX8, "<init>", "()V"⟩
abbrev cX8_columns : ByteArray := prog_1_method_2_code
def yX8_columns : MethodName := ⟨RX8, "columns", "(II)I"⟩
abbrev cX8_card : ByteArray := prog_1_method_3_code
def yX8_card : MethodName := ⟨RX8, "card", "(IIIII)I"⟩
abbrev cX8_put : ByteArray := prog_1_method_4_code
def yX8_put : MethodName := ⟨RX8, "put", "(IIII)I"⟩
abbrev cX8_drop : ByteArray := prog_1_method_5_code
def yX8_drop : MethodName := ⟨RX8, "drop", "(II)I"⟩
abbrev cX8_valueOf : ByteArray := prog_1_method_6_code
def yX8_valueOf : MethodName := ⟨RX8, "valueOf", "(III)I"⟩
abbrev cX8_cell : ByteArray := prog_1_method_7_code
def yX8_cell : MethodName := ⟨RX8, "cell", "(IIIII)I"⟩
abbrev cX8_clear : ByteArray := prog_1_method_8_code
def yX8_clear : MethodName := ⟨RX8, "clear", "(I)I"⟩
abbrev cX8_both : ByteArray := prog_1_method_9_code
def yX8_both : MethodName := ⟨RX8, "both", "(I)I"⟩
abbrev cX8_order : ByteArray := prog_1_method_10_code
def yX8_order : MethodName := ⟨RX8, "order", "(III)I"⟩
abbrev cX8_show : ByteArray := prog_1_method_11_code
def yX8_show : MethodName := ⟨RX8, "show", "(I)I"⟩
abbrev cX8_cellOf : ByteArray := prog_1_method_12_code
def yX8_cellOf : MethodName := ⟨RX8, "cellOf", "(III)I"⟩
abbrev cX8_many : ByteArray := prog_1_method_13_code
def yX8_many : MethodName := ⟨RX8, "many", "()I"⟩
abbrev cX8_row : ByteArray := prog_1_method_14_code
def yX8_row : MethodName := ⟨RX8, "row", "(II)I"⟩
abbrev cX8_total : ByteArray := prog_1_method_15_code
def yX8_total : MethodName := ⟨RX8, "total", "(II)I"⟩
abbrev cX8_unlike : ByteArray := prog_1_method_16_code
def yX8_unlike : MethodName := ⟨RX8, "unlike", "()I"⟩
abbrev cX8_cards : ByteArray := prog_1_method_17_code
def yX8_cards : MethodName := ⟨RX8, "cards", "(I)I"⟩
abbrev cX8_why : ByteArray := prog_1_method_18_code
def yX8_why : MethodName := ⟨RX8, "why", "(II)I"⟩
abbrev cX8_tightest : ByteArray := prog_1_method_19_code
def yX8_tightest : MethodName := ⟨RX8, "tightest", "(I)I"⟩
abbrev cX8_count : ByteArray := prog_1_method_20_code
def yX8_count : MethodName := ⟨RX8, "count", "(I)I"⟩
abbrev cX8_undo : ByteArray := prog_1_method_21_code
def yX8_undo : MethodName := ⟨RX8, "undo", "()I"⟩
abbrev cX8_type : ByteArray := prog_1_method_22_code
def yX8_type : MethodName := ⟨RX8, "type", "(I)I"⟩
abbrev cX8_clearText : ByteArray := prog_1_method_23_code
def yX8_clearText : MethodName := ⟨RX8, "clearText", "()I"⟩
abbrev cX8_fault : ByteArray := prog_1_method_24_code
def yX8_fault : MethodName := ⟨RX8, "fault", "(I)I"⟩
abbrev cX8_read : ByteArray := prog_1_method_25_code
def yX8_read : MethodName := ⟨RX8, "read", "(I)I"⟩
abbrev cX8_isBit : ByteArray := prog_1_method_26_code
def yX8_isBit : MethodName := ⟨RX8, "isBit", "(I)Z"⟩
abbrev cX8_isEntry : ByteArray := prog_1_method_27_code
def yX8_isEntry : MethodName := ⟨RX8, "isEntry", "(I)Z"⟩
abbrev cX8_isCell : ByteArray := prog_1_method_28_code
def yX8_isCell : MethodName := ⟨RX8, "isCell", "(II)Z"⟩
abbrev cX8_isPlace : ByteArray := prog_1_method_29_code
def yX8_isPlace : MethodName := ⟨RX8, "isPlace", "(III)Z"⟩
abbrev cX8_isContent : ByteArray := prog_1_method_30_code
def yX8_isContent : MethodName := ⟨RX8, "isContent", "(III)Z"⟩
abbrev cX8_greatestFirst : ByteArray := prog_1_method_31_code
def yX8_greatestFirst : MethodName := ⟨RX8, "greatestFirst", "(I)I"⟩
abbrev cX8_isAboutRow : ByteArray := prog_1_method_32_code
def yX8_isAboutRow : MethodName := ⟨RX8, "isAboutRow", "(I)Z"⟩
def RX9 : String := "ExampleDrawersModel"
def TX9 : u_T := fun k => match k with
  | 0 => ("ExampleDrawersModel", "s", "[I", true)
  | 1 => ("ExampleDrawersModel", "past", "[I", true)
  | 2 => ("ExampleDrawersModel", "pasts", "I", false)
  | 3 => ("ExampleDrawersModel", "text", "[I", true)
  | 4 => ("ExampleDrawersModel", "typed", "I", false)
  | 5 => ("ExampleDrawersModel", "firsts", "[I", true)
  | 6 => ("ExampleDrawersModel", "seconds", "[I", true)
  | 7 => ("ExampleDrawersModel", "rows", "I", false)
  | 8 => ("ExampleDrawersModel", "spot", "I", false)
  | 9 => ("ExampleDrawersModel", "reason", "I", false)
  | 10 => ("ExampleDrawersModel", "number", "I", false)
  | 11 => ("ExampleDrawersModel", "cells", "I", false)
  | _ => ("ExampleDrawersModel", "told", "[I", true)
def tyX9 : Nat → FieldType := fun k => match k with
  | 0 => .array .int
  | 1 => .array .int
  | 2 => .int
  | 3 => .array .int
  | 4 => .int
  | 5 => .array .int
  | 6 => .array .int
  | 7 => .int
  | 8 => .int
  | 9 => .int
  | 10 => .int
  | 11 => .int
  | _ => .array .int
abbrev wsX90 : List Cond := u_ws RX9 TX9 13
theorem nmX9 : ∀ a, a < 13 → ∀ b, b < 13 → a ≠ b → (TX9 a).2.1 ≠ (TX9 b).2.1 := by decide +kernel
theorem tyX9_ok : ∀ k, k < 13 → parseFieldDescriptor (TX9 k).2.2.1 = some (tyX9 k) := by decide +kernel
abbrev cX9_init : ByteArray := prog_11_method_1_code
def yX9_init : MethodName := ⟨RX9, "<init>", "()V"⟩
abbrev cX9_in : ByteArray := prog_11_method_3_code
def yX9_in : MethodName := ⟨RX9, "in", "(III)Z"⟩
abbrev cX9_changes : ByteArray := prog_11_method_4_code
def yX9_changes : MethodName := ⟨RX9, "changes", "()V"⟩
abbrev cX9_isDrawer : ByteArray := prog_11_method_5_code
def yX9_isDrawer : MethodName := ⟨RX9, "isDrawer", "(I)Z"⟩
abbrev cX9_isColumn : ByteArray := prog_11_method_6_code
def yX9_isColumn : MethodName := ⟨RX9, "isColumn", "(II)Z"⟩
abbrev cX9_isCard : ByteArray := prog_11_method_7_code
def yX9_isCard : MethodName := ⟨RX9, "isCard", "(II)Z"⟩
abbrev cX9_valueAt : ByteArray := prog_11_method_8_code
def yX9_valueAt : MethodName := ⟨RX9, "valueAt", "(III)I"⟩
abbrev cX9_cellAt : ByteArray := prog_11_method_9_code
def yX9_cellAt : MethodName := ⟨RX9, "cellAt", "(III)I"⟩
abbrev cX9_setsCell : ByteArray := prog_11_method_10_code
def yX9_setsCell : MethodName := ⟨RX9, "setsCell", "(IIIII)V"⟩
abbrev cX9_columns : ByteArray := prog_11_method_11_code
def yX9_columns : MethodName := ⟨RX9, "columns", "(II)I"⟩
abbrev cX9_card : ByteArray := prog_11_method_12_code
def yX9_card : MethodName := ⟨RX9, "card", "(IIIII)I"⟩
abbrev cX9_put : ByteArray := prog_11_method_13_code
def yX9_put : MethodName := ⟨RX9, "put", "(IIII)I"⟩
abbrev cX9_drop : ByteArray := prog_11_method_14_code
def yX9_drop : MethodName := ⟨RX9, "drop", "(II)I"⟩
abbrev cX9_valueOf : ByteArray := prog_11_method_15_code
def yX9_valueOf : MethodName := ⟨RX9, "valueOf", "(III)I"⟩
abbrev cX9_isCell : ByteArray := prog_11_method_16_code
def yX9_isCell : MethodName := ⟨RX9, "isCell", "(III)Z"⟩
abbrev cX9_cell : ByteArray := prog_11_method_17_code
def yX9_cell : MethodName := ⟨RX9, "cell", "(IIIII)I"⟩
abbrev cX9_others : ByteArray := prog_11_method_18_code
def yX9_others : MethodName := ⟨RX9, "others", "(I)I"⟩
abbrev cX9_clear : ByteArray := prog_11_method_19_code
def yX9_clear : MethodName := ⟨RX9, "clear", "(I)I"⟩
abbrev cX9_both : ByteArray := prog_11_method_20_code
def yX9_both : MethodName := ⟨RX9, "both", "(I)I"⟩
abbrev cX9_order : ByteArray := prog_11_method_21_code
def yX9_order : MethodName := ⟨RX9, "order", "(III)I"⟩
abbrev cX9_show : ByteArray := prog_11_method_22_code
def yX9_show : MethodName := ⟨RX9, "show", "(I)I"⟩
abbrev cX9_fitsOne : ByteArray := prog_11_method_23_code
def yX9_fitsOne : MethodName := ⟨RX9, "fitsOne", "(IIII)Z"⟩
abbrev cX9_cellOf : ByteArray := prog_11_method_24_code
def yX9_cellOf : MethodName := ⟨RX9, "cellOf", "(III)I"⟩
abbrev cX9_isAsked : ByteArray := prog_11_method_25_code
def yX9_isAsked : MethodName := ⟨RX9, "isAsked", "(I)Z"⟩
abbrev cX9_at : ByteArray := prog_11_method_26_code
def yX9_at : MethodName := ⟨RX9, "at", "(III)I"⟩
abbrev cX9_teller : ByteArray := prog_11_method_27_code
def yX9_teller : MethodName := ⟨RX9, "teller", "(I)I"⟩
abbrev cX9_fitsCell : ByteArray := prog_11_method_28_code
def yX9_fitsCell : MethodName := ⟨RX9, "fitsCell", "(III)Z"⟩
abbrev cX9_unfit : ByteArray := prog_11_method_29_code
def yX9_unfit : MethodName := ⟨RX9, "unfit", "(II)I"⟩
abbrev cX9_isBehind : ByteArray := prog_11_method_30_code
def yX9_isBehind : MethodName := ⟨RX9, "isBehind", "(IIII)Z"⟩
abbrev cX9_lays : ByteArray := prog_11_method_31_code
def yX9_lays : MethodName := ⟨RX9, "lays", "(II)V"⟩
abbrev cX9_finds : ByteArray := prog_11_method_32_code
def yX9_finds : MethodName := ⟨RX9, "finds", "()V"⟩
abbrev cX9_many : ByteArray := prog_11_method_33_code
def yX9_many : MethodName := ⟨RX9, "many", "()I"⟩
abbrev cX9_areAlike : ByteArray := prog_11_method_34_code
def yX9_areAlike : MethodName := ⟨RX9, "areAlike", "(II)Z"⟩
abbrev cX9_unlikeNow : ByteArray := prog_11_method_35_code
def yX9_unlikeNow : MethodName := ⟨RX9, "unlikeNow", "()I"⟩
abbrev cX9_unlike : ByteArray := prog_11_method_36_code
def yX9_unlike : MethodName := ⟨RX9, "unlike", "()I"⟩
abbrev cX9_row : ByteArray := prog_11_method_37_code
def yX9_row : MethodName := ⟨RX9, "row", "(II)I"⟩
abbrev cX9_isFirstOf : ByteArray := prog_11_method_38_code
def yX9_isFirstOf : MethodName := ⟨RX9, "isFirstOf", "(II)Z"⟩
abbrev cX9_total : ByteArray := prog_11_method_39_code
def yX9_total : MethodName := ⟨RX9, "total", "(II)I"⟩
abbrev cX9_cards : ByteArray := prog_11_method_40_code
def yX9_cards : MethodName := ⟨RX9, "cards", "(I)I"⟩
abbrev cX9_why : ByteArray := prog_11_method_41_code
def yX9_why : MethodName := ⟨RX9, "why", "(II)I"⟩
abbrev cX9_tightest : ByteArray := prog_11_method_42_code
def yX9_tightest : MethodName := ⟨RX9, "tightest", "(I)I"⟩
abbrev cX9_count : ByteArray := prog_11_method_43_code
def yX9_count : MethodName := ⟨RX9, "count", "(I)I"⟩
abbrev cX9_undo : ByteArray := prog_11_method_44_code
def yX9_undo : MethodName := ⟨RX9, "undo", "()I"⟩
abbrev cX9_type : ByteArray := prog_11_method_45_code
def yX9_type : MethodName := ⟨RX9, "type", "(I)I"⟩
abbrev cX9_clearText : ByteArray := prog_11_method_46_code
def yX9_clearText : MethodName := ⟨RX9, "clearText", "()I"⟩
abbrev cX9_isAt : ByteArray := prog_11_method_47_code
def yX9_isAt : MethodName := ⟨RX9, "isAt", "(II)Z"⟩
abbrev cX9_passes : ByteArray := prog_11_method_48_code
def yX9_passes : MethodName := ⟨RX9, "passes", "(II)Z"⟩
abbrev cX9_numbered : ByteArray := prog_11_method_49_code
def yX9_numbered : MethodName := ⟨RX9, "numbered", "()Z"⟩
abbrev cX9_tells : ByteArray := prog_11_method_50_code
def yX9_tells : MethodName := ⟨RX9, "tells", "(III)Z"⟩
abbrev cX9_fails : ByteArray := prog_11_method_51_code
def yX9_fails : MethodName := ⟨RX9, "fails", "(I)Z"⟩
abbrev cX9_compares : ByteArray := prog_11_method_52_code
def yX9_compares : MethodName := ⟨RX9, "compares", "(II)Z"⟩
abbrev cX9_ranges : ByteArray := prog_11_method_53_code
def yX9_ranges : MethodName := ⟨RX9, "ranges", "(I)Z"⟩
abbrev cX9_readsCell : ByteArray := prog_11_method_54_code
def yX9_readsCell : MethodName := ⟨RX9, "readsCell", "()Z"⟩
abbrev cX9_isRight : ByteArray := prog_11_method_55_code
def yX9_isRight : MethodName := ⟨RX9, "isRight", "()Z"⟩
abbrev cX9_fault : ByteArray := prog_11_method_56_code
def yX9_fault : MethodName := ⟨RX9, "fault", "(I)I"⟩
abbrev cX9_read : ByteArray := prog_11_method_57_code
def yX9_read : MethodName := ⟨RX9, "read", "(I)I"⟩
def RJ9 : String := "java/lang/Math"
def TJ9 : u_T := fun k => match k with
  | _ => ("", "", "", false)
def tyJ9 : Nat → FieldType := fun k => match k with
  | _ => .int
abbrev wsJ90 : List Cond := u_ws RJ9 TJ9 0
theorem nmJ9 : ∀ a, a < 0 → ∀ b, b < 0 → a ≠ b → (TJ9 a).2.1 ≠ (TJ9 b).2.1 := by decide +kernel
theorem tyJ9_ok : ∀ k, k < 0 → parseFieldDescriptor (TJ9 k).2.2.1 = some (tyJ9 k) := by decide +kernel
abbrev cJ9_max_7cf53 : ByteArray := prog_12_method_65_code
def yJ9_max_7cf53 : MethodName := ⟨RJ9, "max", "(II)I"⟩
abbrev cJ9_min_7cf53 : ByteArray := prog_12_method_69_code
def yJ9_min_7cf53 : MethodName := ⟨RJ9, "min", "(II)I"⟩
def RL : String := "ExampleDrawersLaw"
abbrev cL_law : ByteArray := code
def yL_law : MethodName := ⟨RL, "law", "([I)Z"⟩
def wsX3_fill : List Cond := .code yX3_fill cX3_fill 3 none :: ([.fieldLink RX3 13 "ExampleDrawers$Numbers" "held" "[I"] ++ wsX30)
def wsX3_init : List Cond := .code yX3_init cX3_init 3 none :: ([.methodLink RX3 1 objectInit, .instanceMethod objectInit, .code objectInit ⟨#[0xb1]⟩ 1 none, .methodLink RX3 7 Lib.Math.max.name, .static Lib.Math.max.name, .initialized "java/lang/Math", .code Lib.Math.max.name Lib.Math.max.code 2 (some .int), .arrayClass .int, .fieldLink RX3 13 "ExampleDrawers$Numbers" "held" "[I", .methodLink RX3 19 yX3_fill, .instanceMethod yX3_fill, .selects RX3 yX3_fill yX3_fill, .initialized RX3, .code yX3_fill cX3_fill 3 none] ++ wsX30)
def wsX1_init : List Cond := .code yX1_init cX1_init 1 none :: ([.methodLink RX1 3 objectInit, .instanceMethod objectInit, .code objectInit ⟨#[0xb1]⟩ 1 none, .classLink RX1 9 RX3, .instantiable RX3 1, .initialized RX3, .fieldLink RX1 14 "ExampleDrawers$Example" "kinds" "LExampleDrawers$Numbers;", .fieldLink RX1 20 "ExampleDrawers$Example" "firsts" "LExampleDrawers$Numbers;", .fieldLink RX1 23 "ExampleDrawers$Example" "seconds" "LExampleDrawers$Numbers;", .methodLink RX1 11 yX3_init, .instanceMethod yX3_init, .code yX3_init cX3_init 3 none, .methodLink RX3 1 objectInit, .methodLink RX3 7 Lib.Math.max.name, .static Lib.Math.max.name, .initialized "java/lang/Math", .code Lib.Math.max.name Lib.Math.max.code 2 (some .int), .arrayClass .int, .fieldLink RX3 13 "ExampleDrawers$Numbers" "held" "[I", .methodLink RX3 19 yX3_fill, .instanceMethod yX3_fill, .selects RX3 yX3_fill yX3_fill, .code yX3_fill cX3_fill 3 none] ++ wsX30 ++ wsX10)
def wsX0_init_r1 : List Cond := [Cond.methodLink RX0 3 objectInit, Cond.instanceMethod objectInit, Cond.code objectInit ⟨#[0xb1]⟩ 1 none, Cond.classLink RX0 9 RX3, Cond.instantiable RX3 1, Cond.initialized RX3, Cond.fieldLink RX0 14 "ExampleDrawers$Drawer" "entries" "LExampleDrawers$Numbers;", Cond.classLink RX0 20 RX1, Cond.instantiable RX1 3, Cond.initialized RX1, Cond.fieldLink RX0 23 "ExampleDrawers$Drawer" "example" "LExampleDrawers$Example;", Cond.fieldLink RX0 27 "ExampleDrawers$Drawer" "width" "I", Cond.fieldLink RX0 31 "ExampleDrawers$Drawer" "size" "I", Cond.methodLink RX0 11 yX3_init, Cond.instanceMethod yX3_init, Cond.code yX3_init cX3_init 3 none, Cond.methodLink RX3 1 objectInit, Cond.methodLink RX3 7 Lib.Math.max.name, Cond.static Lib.Math.max.name, Cond.initialized "java/lang/Math", Cond.code Lib.Math.max.name Lib.Math.max.code 2 (some .int), Cond.arrayClass .int, Cond.fieldLink RX3 13 "ExampleDrawers$Numbers" "held" "[I", Cond.methodLink RX3 19 yX3_fill]
def wsX0_init_r2 : List Cond := [Cond.instanceMethod yX3_fill, Cond.selects RX3 yX3_fill yX3_fill, Cond.code yX3_fill cX3_fill 3 none, Cond.instanceMethod yX1_init, Cond.code yX1_init cX1_init 1 none, Cond.methodLink RX1 3 objectInit, Cond.classLink RX1 9 RX3, Cond.fieldLink RX1 14 "ExampleDrawers$Example" "kinds" "LExampleDrawers$Numbers;", Cond.fieldLink RX1 20 "ExampleDrawers$Example" "firsts" "LExampleDrawers$Numbers;", Cond.fieldLink RX1 23 "ExampleDrawers$Example" "seconds" "LExampleDrawers$Numbers;", Cond.methodLink RX1 11 yX3_init]
def wsX0_init : List Cond := .code yX0_init cX0_init 1 none :: ((wsX0_init_r1 ++ wsX0_init_r2) ++ wsX30 ++ wsX00 ++ wsX10)
def wsX0_width : List Cond := .code yX0_width cX0_width 1 (some .int) :: ([.fieldLink RX0 27 "ExampleDrawers$Drawer" "width" "I"] ++ wsX00)
def wsX0_size : List Cond := .code yX0_size cX0_size 1 (some .int) :: ([.fieldLink RX0 31 "ExampleDrawers$Drawer" "size" "I"] ++ wsX00)
def wsX0_example : List Cond := .code yX0_example cX0_example 1 (some (.object "ExampleDrawers$Example")) :: ([.fieldLink RX0 23 "ExampleDrawers$Drawer" "example" "LExampleDrawers$Example;"] ++ wsX00)
def wsX0_hasColumn : List Cond := .code yX0_hasColumn cX0_hasColumn 2 (some .boolean) :: ([.fieldLink RX0 27 "ExampleDrawers$Drawer" "width" "I"] ++ wsX00)
def wsX0_hasCard : List Cond := .code yX0_hasCard cX0_hasCard 2 (some .boolean) :: ([.fieldLink RX0 31 "ExampleDrawers$Drawer" "size" "I"] ++ wsX00)
def wsX3_at : List Cond := .code yX3_at cX3_at 2 (some .int) :: ([.fieldLink RX3 13 "ExampleDrawers$Numbers" "held" "[I"] ++ wsX30)
def wsX0_entry : List Cond := .code yX0_entry cX0_entry 3 (some .int) :: ([.fieldLink RX0 14 "ExampleDrawers$Drawer" "entries" "LExampleDrawers$Numbers;", .methodLink RX0 34 yX0_hasCard, .instanceMethod yX0_hasCard, .selects RX0 yX0_hasCard yX0_hasCard, .initialized RX0, .code yX0_hasCard cX0_hasCard 2 (some .boolean), .fieldLink RX0 31 "ExampleDrawers$Drawer" "size" "I", .methodLink RX0 38 yX0_hasColumn, .instanceMethod yX0_hasColumn, .selects RX0 yX0_hasColumn yX0_hasColumn, .code yX0_hasColumn cX0_hasColumn 2 (some .boolean), .fieldLink RX0 27 "ExampleDrawers$Drawer" "width" "I", .methodLink RX0 41 yX3_at, .instanceMethod yX3_at, .selects RX3 yX3_at yX3_at, .initialized RX3, .code yX3_at cX3_at 2 (some .int), .fieldLink RX3 13 "ExampleDrawers$Numbers" "held" "[I"] ++ wsX00 ++ wsX30)
def wsX1_wipe : List Cond := .code yX1_wipe cX1_wipe 1 none :: ([.fieldLink RX1 14 "ExampleDrawers$Example" "kinds" "LExampleDrawers$Numbers;", .fieldLink RX1 20 "ExampleDrawers$Example" "firsts" "LExampleDrawers$Numbers;", .fieldLink RX1 23 "ExampleDrawers$Example" "seconds" "LExampleDrawers$Numbers;", .methodLink RX1 33 yX3_fill, .instanceMethod yX3_fill, .selects RX3 yX3_fill yX3_fill, .initialized RX3, .code yX3_fill cX3_fill 3 none, .fieldLink RX3 13 "ExampleDrawers$Numbers" "held" "[I"] ++ wsX10 ++ wsX30)
def wsX0_remake : List Cond := .code yX0_remake cX0_remake 3 (some .int) :: ([.fieldLink RX0 31 "ExampleDrawers$Drawer" "size" "I", .fieldLink RX0 27 "ExampleDrawers$Drawer" "width" "I", .fieldLink RX0 23 "ExampleDrawers$Drawer" "example" "LExampleDrawers$Example;", .methodLink RX0 45 yX1_wipe, .instanceMethod yX1_wipe, .selects RX1 yX1_wipe yX1_wipe, .initialized RX1, .code yX1_wipe cX1_wipe 1 none, .fieldLink RX1 14 "ExampleDrawers$Example" "kinds" "LExampleDrawers$Numbers;", .fieldLink RX1 20 "ExampleDrawers$Example" "firsts" "LExampleDrawers$Numbers;", .fieldLink RX1 23 "ExampleDrawers$Example" "seconds" "LExampleDrawers$Numbers;", .methodLink RX1 33 yX3_fill, .instanceMethod yX3_fill, .selects RX3 yX3_fill yX3_fill, .initialized RX3, .code yX3_fill cX3_fill 3 none, .fieldLink RX3 13 "ExampleDrawers$Numbers" "held" "[I"] ++ wsX00 ++ wsX10 ++ wsX30)
def wsX3_set : List Cond := .code yX3_set cX3_set 3 none :: ([.fieldLink RX3 13 "ExampleDrawers$Numbers" "held" "[I"] ++ wsX30)
def wsX0_add : List Cond := .code yX0_add cX0_add 6 (some .int) :: ([.fieldLink RX0 31 "ExampleDrawers$Drawer" "size" "I", .fieldLink RX0 14 "ExampleDrawers$Drawer" "entries" "LExampleDrawers$Numbers;", .methodLink RX0 48 yX3_set, .instanceMethod yX3_set, .selects RX3 yX3_set yX3_set, .initialized RX3, .code yX3_set cX3_set 3 none, .fieldLink RX3 13 "ExampleDrawers$Numbers" "held" "[I"] ++ wsX00 ++ wsX30)
def wsX0_replace_r1 : List Cond := [Cond.fieldLink RX0 14 "ExampleDrawers$Drawer" "entries" "LExampleDrawers$Numbers;", Cond.methodLink RX0 51 yX0_entry, Cond.instanceMethod yX0_entry, Cond.selects RX0 yX0_entry yX0_entry, Cond.initialized RX0, Cond.code yX0_entry cX0_entry 3 (some .int), Cond.methodLink RX0 34 yX0_hasCard, Cond.instanceMethod yX0_hasCard, Cond.selects RX0 yX0_hasCard yX0_hasCard, Cond.code yX0_hasCard cX0_hasCard 2 (some .boolean), Cond.fieldLink RX0 31 "ExampleDrawers$Drawer" "size" "I", Cond.methodLink RX0 38 yX0_hasColumn, Cond.instanceMethod yX0_hasColumn, Cond.selects RX0 yX0_hasColumn yX0_hasColumn, Cond.code yX0_hasColumn cX0_hasColumn 2 (some .boolean), Cond.fieldLink RX0 27 "ExampleDrawers$Drawer" "width" "I", Cond.methodLink RX0 41 yX3_at, Cond.instanceMethod yX3_at, Cond.selects RX3 yX3_at yX3_at, Cond.initialized RX3, Cond.code yX3_at cX3_at 2 (some .int), Cond.fieldLink RX3 13 "ExampleDrawers$Numbers" "held" "[I", Cond.methodLink RX0 48 yX3_set, Cond.instanceMethod yX3_set]
def wsX0_replace_r2 : List Cond := [Cond.selects RX3 yX3_set yX3_set, Cond.code yX3_set cX3_set 3 none]
def wsX0_replace : List Cond := .code yX0_replace cX0_replace 5 (some .int) :: ((wsX0_replace_r1 ++ wsX0_replace_r2) ++ wsX00 ++ wsX30)
def wsX0_remove : List Cond := .code yX0_remove cX0_remove 3 (some .int) :: ([.fieldLink RX0 31 "ExampleDrawers$Drawer" "size" "I", .fieldLink RX0 14 "ExampleDrawers$Drawer" "entries" "LExampleDrawers$Numbers;", .methodLink RX0 41 yX3_at, .instanceMethod yX3_at, .selects RX3 yX3_at yX3_at, .initialized RX3, .code yX3_at cX3_at 2 (some .int), .fieldLink RX3 13 "ExampleDrawers$Numbers" "held" "[I", .methodLink RX0 48 yX3_set, .instanceMethod yX3_set, .selects RX3 yX3_set yX3_set, .code yX3_set cX3_set 3 none] ++ wsX00 ++ wsX30)
def wsX1_takesAlone : List Cond := .code yX1_takesAlone cX1_takesAlone 5 (some .boolean) :: ([.fieldLink RX1 14 "ExampleDrawers$Example" "kinds" "LExampleDrawers$Numbers;", .fieldLink RX1 20 "ExampleDrawers$Example" "firsts" "LExampleDrawers$Numbers;", .fieldLink RX1 23 "ExampleDrawers$Example" "seconds" "LExampleDrawers$Numbers;", .methodLink RX1 26 yX3_at, .instanceMethod yX3_at, .selects RX3 yX3_at yX3_at, .initialized RX3, .code yX3_at cX3_at 2 (some .int), .fieldLink RX3 13 "ExampleDrawers$Numbers" "held" "[I"] ++ wsX10 ++ wsX30)
def wsX0_countFitting_r1 : List Cond := [Cond.fieldLink RX0 31 "ExampleDrawers$Drawer" "size" "I", Cond.fieldLink RX0 23 "ExampleDrawers$Drawer" "example" "LExampleDrawers$Example;", Cond.methodLink RX0 51 yX0_entry, Cond.instanceMethod yX0_entry, Cond.selects RX0 yX0_entry yX0_entry, Cond.initialized RX0, Cond.code yX0_entry cX0_entry 3 (some .int), Cond.fieldLink RX0 14 "ExampleDrawers$Drawer" "entries" "LExampleDrawers$Numbers;", Cond.methodLink RX0 34 yX0_hasCard, Cond.instanceMethod yX0_hasCard, Cond.selects RX0 yX0_hasCard yX0_hasCard, Cond.code yX0_hasCard cX0_hasCard 2 (some .boolean), Cond.methodLink RX0 38 yX0_hasColumn, Cond.instanceMethod yX0_hasColumn, Cond.selects RX0 yX0_hasColumn yX0_hasColumn, Cond.code yX0_hasColumn cX0_hasColumn 2 (some .boolean), Cond.fieldLink RX0 27 "ExampleDrawers$Drawer" "width" "I", Cond.methodLink RX0 41 yX3_at, Cond.instanceMethod yX3_at, Cond.selects RX3 yX3_at yX3_at, Cond.initialized RX3, Cond.code yX3_at cX3_at 2 (some .int), Cond.fieldLink RX3 13 "ExampleDrawers$Numbers" "held" "[I", Cond.methodLink RX0 55 yX1_takesAlone]
def wsX0_countFitting_r2 : List Cond := [Cond.instanceMethod yX1_takesAlone, Cond.selects RX1 yX1_takesAlone yX1_takesAlone, Cond.initialized RX1, Cond.code yX1_takesAlone cX1_takesAlone 5 (some .boolean), Cond.fieldLink RX1 14 "ExampleDrawers$Example" "kinds" "LExampleDrawers$Numbers;", Cond.fieldLink RX1 20 "ExampleDrawers$Example" "firsts" "LExampleDrawers$Numbers;", Cond.fieldLink RX1 23 "ExampleDrawers$Example" "seconds" "LExampleDrawers$Numbers;", Cond.methodLink RX1 26 yX3_at]
def wsX0_countFitting : List Cond := .code yX0_countFitting cX0_countFitting 4 (some .int) :: ((wsX0_countFitting_r1 ++ wsX0_countFitting_r2) ++ wsX00 ++ wsX30 ++ wsX10)
def wsX3_copyFrom : List Cond := .code yX3_copyFrom cX3_copyFrom 3 none :: ([.fieldLink RX3 13 "ExampleDrawers$Numbers" "held" "[I", .methodLink RX3 23 yX3_at, .instanceMethod yX3_at, .selects RX3 yX3_at yX3_at, .initialized RX3, .code yX3_at cX3_at 2 (some .int)] ++ wsX30)
def wsX1_copyFrom : List Cond := .code yX1_copyFrom cX1_copyFrom 2 none :: ([.fieldLink RX1 14 "ExampleDrawers$Example" "kinds" "LExampleDrawers$Numbers;", .fieldLink RX1 20 "ExampleDrawers$Example" "firsts" "LExampleDrawers$Numbers;", .fieldLink RX1 23 "ExampleDrawers$Example" "seconds" "LExampleDrawers$Numbers;", .methodLink RX1 37 yX3_copyFrom, .instanceMethod yX3_copyFrom, .selects RX3 yX3_copyFrom yX3_copyFrom, .initialized RX3, .code yX3_copyFrom cX3_copyFrom 3 none, .fieldLink RX3 13 "ExampleDrawers$Numbers" "held" "[I", .methodLink RX3 23 yX3_at, .instanceMethod yX3_at, .selects RX3 yX3_at yX3_at, .code yX3_at cX3_at 2 (some .int)] ++ wsX10 ++ wsX30)
def wsX0_copyFrom : List Cond := .code yX0_copyFrom cX0_copyFrom 2 none :: ([.fieldLink RX0 14 "ExampleDrawers$Drawer" "entries" "LExampleDrawers$Numbers;", .fieldLink RX0 23 "ExampleDrawers$Drawer" "example" "LExampleDrawers$Example;", .fieldLink RX0 27 "ExampleDrawers$Drawer" "width" "I", .fieldLink RX0 31 "ExampleDrawers$Drawer" "size" "I", .methodLink RX0 59 yX3_copyFrom, .instanceMethod yX3_copyFrom, .selects RX3 yX3_copyFrom yX3_copyFrom, .initialized RX3, .code yX3_copyFrom cX3_copyFrom 3 none, .fieldLink RX3 13 "ExampleDrawers$Numbers" "held" "[I", .methodLink RX3 23 yX3_at, .instanceMethod yX3_at, .selects RX3 yX3_at yX3_at, .code yX3_at cX3_at 2 (some .int), .methodLink RX0 63 yX1_copyFrom, .instanceMethod yX1_copyFrom, .selects RX1 yX1_copyFrom yX1_copyFrom, .initialized RX1, .code yX1_copyFrom cX1_copyFrom 2 none, .fieldLink RX1 14 "ExampleDrawers$Example" "kinds" "LExampleDrawers$Numbers;", .fieldLink RX1 20 "ExampleDrawers$Example" "firsts" "LExampleDrawers$Numbers;", .fieldLink RX1 23 "ExampleDrawers$Example" "seconds" "LExampleDrawers$Numbers;", .methodLink RX1 37 yX3_copyFrom] ++ wsX00 ++ wsX30 ++ wsX10)
def wsX1_kindAt : List Cond := .code yX1_kindAt cX1_kindAt 2 (some .int) :: ([.fieldLink RX1 14 "ExampleDrawers$Example" "kinds" "LExampleDrawers$Numbers;", .methodLink RX1 26 yX3_at, .instanceMethod yX3_at, .selects RX3 yX3_at yX3_at, .initialized RX3, .code yX3_at cX3_at 2 (some .int), .fieldLink RX3 13 "ExampleDrawers$Numbers" "held" "[I"] ++ wsX10 ++ wsX30)
def wsX1_firstAt : List Cond := .code yX1_firstAt cX1_firstAt 2 (some .int) :: ([.fieldLink RX1 20 "ExampleDrawers$Example" "firsts" "LExampleDrawers$Numbers;", .methodLink RX1 26 yX3_at, .instanceMethod yX3_at, .selects RX3 yX3_at yX3_at, .initialized RX3, .code yX3_at cX3_at 2 (some .int), .fieldLink RX3 13 "ExampleDrawers$Numbers" "held" "[I"] ++ wsX10 ++ wsX30)
def wsX1_secondAt : List Cond := .code yX1_secondAt cX1_secondAt 2 (some .int) :: ([.fieldLink RX1 23 "ExampleDrawers$Example" "seconds" "LExampleDrawers$Numbers;", .methodLink RX1 26 yX3_at, .instanceMethod yX3_at, .selects RX3 yX3_at yX3_at, .initialized RX3, .code yX3_at cX3_at 2 (some .int), .fieldLink RX3 13 "ExampleDrawers$Numbers" "held" "[I"] ++ wsX10 ++ wsX30)
def wsX1_fill : List Cond := .code yX1_fill cX1_fill 5 none :: ([.fieldLink RX1 14 "ExampleDrawers$Example" "kinds" "LExampleDrawers$Numbers;", .fieldLink RX1 20 "ExampleDrawers$Example" "firsts" "LExampleDrawers$Numbers;", .fieldLink RX1 23 "ExampleDrawers$Example" "seconds" "LExampleDrawers$Numbers;", .methodLink RX1 30 yX3_set, .instanceMethod yX3_set, .selects RX3 yX3_set yX3_set, .initialized RX3, .code yX3_set cX3_set 3 none, .fieldLink RX3 13 "ExampleDrawers$Numbers" "held" "[I"] ++ wsX10 ++ wsX30)
def wsX1_otherKinds : List Cond := .code yX1_otherKinds cX1_otherKinds 3 (some .int) :: ([.fieldLink RX1 14 "ExampleDrawers$Example" "kinds" "LExampleDrawers$Numbers;", .methodLink RX1 26 yX3_at, .instanceMethod yX3_at, .selects RX3 yX3_at yX3_at, .initialized RX3, .code yX3_at cX3_at 2 (some .int), .fieldLink RX3 13 "ExampleDrawers$Numbers" "held" "[I"] ++ wsX10 ++ wsX30)
def wsX6_init_r1 : List Cond := [Cond.methodLink RX6 3 objectInit, Cond.instanceMethod objectInit, Cond.code objectInit ⟨#[0xb1]⟩ 1 none, Cond.classLink RX6 9 RX0, Cond.instantiable RX0 4, Cond.initialized RX0, Cond.fieldLink RX6 12 "ExampleDrawers$State" "drawer0" "LExampleDrawers$Drawer;", Cond.fieldLink RX6 18 "ExampleDrawers$State" "drawer1" "LExampleDrawers$Drawer;", Cond.classLink RX6 21 RX3, Cond.instantiable RX3 1, Cond.initialized RX3, Cond.fieldLink RX6 26 "ExampleDrawers$State" "orderColumns" "LExampleDrawers$Numbers;", Cond.fieldLink RX6 30 "ExampleDrawers$State" "orderDowns" "LExampleDrawers$Numbers;", Cond.fieldLink RX6 33 "ExampleDrawers$State" "asksBoth" "I", Cond.fieldLink RX6 37 "ExampleDrawers$State" "shown" "I", Cond.instanceMethod yX0_init, Cond.code yX0_init cX0_init 1 none, Cond.methodLink RX0 3 objectInit, Cond.classLink RX0 9 RX3, Cond.fieldLink RX0 14 "ExampleDrawers$Drawer" "entries" "LExampleDrawers$Numbers;", Cond.classLink RX0 20 RX1, Cond.instantiable RX1 3, Cond.initialized RX1, Cond.fieldLink RX0 23 "ExampleDrawers$Drawer" "example" "LExampleDrawers$Example;"]
def wsX6_init_r2 : List Cond := [Cond.fieldLink RX0 27 "ExampleDrawers$Drawer" "width" "I", Cond.fieldLink RX0 31 "ExampleDrawers$Drawer" "size" "I", Cond.methodLink RX0 11 yX3_init, Cond.instanceMethod yX3_init, Cond.code yX3_init cX3_init 3 none, Cond.methodLink RX3 1 objectInit, Cond.methodLink RX3 7 Lib.Math.max.name, Cond.static Lib.Math.max.name, Cond.initialized "java/lang/Math", Cond.code Lib.Math.max.name Lib.Math.max.code 2 (some .int), Cond.arrayClass .int, Cond.fieldLink RX3 13 "ExampleDrawers$Numbers" "held" "[I", Cond.methodLink RX3 19 yX3_fill, Cond.instanceMethod yX3_fill, Cond.selects RX3 yX3_fill yX3_fill, Cond.code yX3_fill cX3_fill 3 none, Cond.instanceMethod yX1_init, Cond.code yX1_init cX1_init 1 none, Cond.methodLink RX1 3 objectInit, Cond.classLink RX1 9 RX3, Cond.fieldLink RX1 14 "ExampleDrawers$Example" "kinds" "LExampleDrawers$Numbers;", Cond.fieldLink RX1 20 "ExampleDrawers$Example" "firsts" "LExampleDrawers$Numbers;", Cond.fieldLink RX1 23 "ExampleDrawers$Example" "seconds" "LExampleDrawers$Numbers;", Cond.methodLink RX1 11 yX3_init]
def wsX6_init_r3 : List Cond := [Cond.methodLink RX6 23 yX3_init]
def wsX6_init : List Cond := .code yX6_init cX6_init 1 none :: ((wsX6_init_r1 ++ (wsX6_init_r2 ++ wsX6_init_r3)) ++ wsX00 ++ wsX60 ++ wsX30 ++ wsX10)
def wsX2_init_r1 : List Cond := [Cond.methodLink RX2 3 objectInit, Cond.instanceMethod objectInit, Cond.code objectInit ⟨#[0xb1]⟩ 1 none, Cond.classLink RX2 9 RX6, Cond.instantiable RX6 6, Cond.initialized RX6, Cond.fieldLink RX2 12 "ExampleDrawers$History" "latest" "LExampleDrawers$State;", Cond.fieldLink RX2 18 "ExampleDrawers$History" "second" "LExampleDrawers$State;", Cond.fieldLink RX2 21 "ExampleDrawers$History" "third" "LExampleDrawers$State;", Cond.fieldLink RX2 24 "ExampleDrawers$History" "oldest" "LExampleDrawers$State;", Cond.fieldLink RX2 27 "ExampleDrawers$History" "size" "I", Cond.instanceMethod yX6_init, Cond.code yX6_init cX6_init 1 none, Cond.methodLink RX6 3 objectInit, Cond.classLink RX6 9 RX0, Cond.instantiable RX0 4, Cond.initialized RX0, Cond.fieldLink RX6 12 "ExampleDrawers$State" "drawer0" "LExampleDrawers$Drawer;", Cond.fieldLink RX6 18 "ExampleDrawers$State" "drawer1" "LExampleDrawers$Drawer;", Cond.classLink RX6 21 RX3, Cond.instantiable RX3 1, Cond.initialized RX3, Cond.fieldLink RX6 26 "ExampleDrawers$State" "orderColumns" "LExampleDrawers$Numbers;", Cond.fieldLink RX6 30 "ExampleDrawers$State" "orderDowns" "LExampleDrawers$Numbers;"]
def wsX2_init_r2 : List Cond := [Cond.fieldLink RX6 33 "ExampleDrawers$State" "asksBoth" "I", Cond.fieldLink RX6 37 "ExampleDrawers$State" "shown" "I", Cond.instanceMethod yX0_init, Cond.code yX0_init cX0_init 1 none, Cond.methodLink RX0 3 objectInit, Cond.classLink RX0 9 RX3, Cond.fieldLink RX0 14 "ExampleDrawers$Drawer" "entries" "LExampleDrawers$Numbers;", Cond.classLink RX0 20 RX1, Cond.instantiable RX1 3, Cond.initialized RX1, Cond.fieldLink RX0 23 "ExampleDrawers$Drawer" "example" "LExampleDrawers$Example;", Cond.fieldLink RX0 27 "ExampleDrawers$Drawer" "width" "I", Cond.fieldLink RX0 31 "ExampleDrawers$Drawer" "size" "I", Cond.methodLink RX0 11 yX3_init, Cond.instanceMethod yX3_init, Cond.code yX3_init cX3_init 3 none, Cond.methodLink RX3 1 objectInit, Cond.methodLink RX3 7 Lib.Math.max.name, Cond.static Lib.Math.max.name, Cond.initialized "java/lang/Math", Cond.code Lib.Math.max.name Lib.Math.max.code 2 (some .int), Cond.arrayClass .int, Cond.fieldLink RX3 13 "ExampleDrawers$Numbers" "held" "[I", Cond.methodLink RX3 19 yX3_fill]
def wsX2_init_r3 : List Cond := [Cond.instanceMethod yX3_fill, Cond.selects RX3 yX3_fill yX3_fill, Cond.code yX3_fill cX3_fill 3 none, Cond.instanceMethod yX1_init, Cond.code yX1_init cX1_init 1 none, Cond.methodLink RX1 3 objectInit, Cond.classLink RX1 9 RX3, Cond.fieldLink RX1 14 "ExampleDrawers$Example" "kinds" "LExampleDrawers$Numbers;", Cond.fieldLink RX1 20 "ExampleDrawers$Example" "firsts" "LExampleDrawers$Numbers;", Cond.fieldLink RX1 23 "ExampleDrawers$Example" "seconds" "LExampleDrawers$Numbers;", Cond.methodLink RX1 11 yX3_init, Cond.methodLink RX6 23 yX3_init]
def wsX2_init : List Cond := .code yX2_init cX2_init 1 none :: ((wsX2_init_r1 ++ (wsX2_init_r2 ++ wsX2_init_r3)) ++ wsX60 ++ wsX20 ++ wsX00 ++ wsX30 ++ wsX10)
def wsX2_size : List Cond := .code yX2_size cX2_size 1 (some .int) :: ([.fieldLink RX2 27 "ExampleDrawers$History" "size" "I"] ++ wsX20)
def wsX6_copyFrom_r1 : List Cond := [Cond.fieldLink RX6 12 "ExampleDrawers$State" "drawer0" "LExampleDrawers$Drawer;", Cond.fieldLink RX6 18 "ExampleDrawers$State" "drawer1" "LExampleDrawers$Drawer;", Cond.fieldLink RX6 26 "ExampleDrawers$State" "orderColumns" "LExampleDrawers$Numbers;", Cond.fieldLink RX6 30 "ExampleDrawers$State" "orderDowns" "LExampleDrawers$Numbers;", Cond.fieldLink RX6 33 "ExampleDrawers$State" "asksBoth" "I", Cond.fieldLink RX6 37 "ExampleDrawers$State" "shown" "I", Cond.methodLink RX6 66 yX0_copyFrom, Cond.instanceMethod yX0_copyFrom, Cond.selects RX0 yX0_copyFrom yX0_copyFrom, Cond.initialized RX0, Cond.code yX0_copyFrom cX0_copyFrom 2 none, Cond.fieldLink RX0 14 "ExampleDrawers$Drawer" "entries" "LExampleDrawers$Numbers;", Cond.fieldLink RX0 23 "ExampleDrawers$Drawer" "example" "LExampleDrawers$Example;", Cond.fieldLink RX0 27 "ExampleDrawers$Drawer" "width" "I", Cond.fieldLink RX0 31 "ExampleDrawers$Drawer" "size" "I", Cond.methodLink RX0 59 yX3_copyFrom, Cond.instanceMethod yX3_copyFrom, Cond.selects RX3 yX3_copyFrom yX3_copyFrom, Cond.initialized RX3, Cond.code yX3_copyFrom cX3_copyFrom 3 none, Cond.fieldLink RX3 13 "ExampleDrawers$Numbers" "held" "[I", Cond.methodLink RX3 23 yX3_at, Cond.instanceMethod yX3_at, Cond.selects RX3 yX3_at yX3_at]
def wsX6_copyFrom_r2 : List Cond := [Cond.code yX3_at cX3_at 2 (some .int), Cond.methodLink RX0 63 yX1_copyFrom, Cond.instanceMethod yX1_copyFrom, Cond.selects RX1 yX1_copyFrom yX1_copyFrom, Cond.initialized RX1, Cond.code yX1_copyFrom cX1_copyFrom 2 none, Cond.fieldLink RX1 14 "ExampleDrawers$Example" "kinds" "LExampleDrawers$Numbers;", Cond.fieldLink RX1 20 "ExampleDrawers$Example" "firsts" "LExampleDrawers$Numbers;", Cond.fieldLink RX1 23 "ExampleDrawers$Example" "seconds" "LExampleDrawers$Numbers;", Cond.methodLink RX1 37 yX3_copyFrom, Cond.methodLink RX6 70 yX3_copyFrom]
def wsX6_copyFrom : List Cond := .code yX6_copyFrom cX6_copyFrom 2 none :: ((wsX6_copyFrom_r1 ++ wsX6_copyFrom_r2) ++ wsX60 ++ wsX00 ++ wsX30 ++ wsX10)
def wsX2_keep_r1 : List Cond := [Cond.fieldLink RX2 24 "ExampleDrawers$History" "oldest" "LExampleDrawers$State;", Cond.fieldLink RX2 21 "ExampleDrawers$History" "third" "LExampleDrawers$State;", Cond.fieldLink RX2 18 "ExampleDrawers$History" "second" "LExampleDrawers$State;", Cond.fieldLink RX2 12 "ExampleDrawers$History" "latest" "LExampleDrawers$State;", Cond.fieldLink RX2 27 "ExampleDrawers$History" "size" "I", Cond.methodLink RX2 35 Lib.Math.min.name, Cond.static Lib.Math.min.name, Cond.initialized "java/lang/Math", Cond.code Lib.Math.min.name Lib.Math.min.code 2 (some .int), Cond.methodLink RX2 31 yX6_copyFrom, Cond.instanceMethod yX6_copyFrom, Cond.selects RX6 yX6_copyFrom yX6_copyFrom, Cond.initialized RX6, Cond.code yX6_copyFrom cX6_copyFrom 2 none, Cond.fieldLink RX6 12 "ExampleDrawers$State" "drawer0" "LExampleDrawers$Drawer;", Cond.fieldLink RX6 18 "ExampleDrawers$State" "drawer1" "LExampleDrawers$Drawer;", Cond.fieldLink RX6 26 "ExampleDrawers$State" "orderColumns" "LExampleDrawers$Numbers;", Cond.fieldLink RX6 30 "ExampleDrawers$State" "orderDowns" "LExampleDrawers$Numbers;", Cond.fieldLink RX6 33 "ExampleDrawers$State" "asksBoth" "I", Cond.fieldLink RX6 37 "ExampleDrawers$State" "shown" "I", Cond.methodLink RX6 66 yX0_copyFrom, Cond.instanceMethod yX0_copyFrom, Cond.selects RX0 yX0_copyFrom yX0_copyFrom, Cond.initialized RX0]
def wsX2_keep_r2 : List Cond := [Cond.code yX0_copyFrom cX0_copyFrom 2 none, Cond.fieldLink RX0 14 "ExampleDrawers$Drawer" "entries" "LExampleDrawers$Numbers;", Cond.fieldLink RX0 23 "ExampleDrawers$Drawer" "example" "LExampleDrawers$Example;", Cond.fieldLink RX0 27 "ExampleDrawers$Drawer" "width" "I", Cond.fieldLink RX0 31 "ExampleDrawers$Drawer" "size" "I", Cond.methodLink RX0 59 yX3_copyFrom, Cond.instanceMethod yX3_copyFrom, Cond.selects RX3 yX3_copyFrom yX3_copyFrom, Cond.initialized RX3, Cond.code yX3_copyFrom cX3_copyFrom 3 none, Cond.fieldLink RX3 13 "ExampleDrawers$Numbers" "held" "[I", Cond.methodLink RX3 23 yX3_at, Cond.instanceMethod yX3_at, Cond.selects RX3 yX3_at yX3_at, Cond.code yX3_at cX3_at 2 (some .int), Cond.methodLink RX0 63 yX1_copyFrom, Cond.instanceMethod yX1_copyFrom, Cond.selects RX1 yX1_copyFrom yX1_copyFrom, Cond.initialized RX1, Cond.code yX1_copyFrom cX1_copyFrom 2 none, Cond.fieldLink RX1 14 "ExampleDrawers$Example" "kinds" "LExampleDrawers$Numbers;", Cond.fieldLink RX1 20 "ExampleDrawers$Example" "firsts" "LExampleDrawers$Numbers;", Cond.fieldLink RX1 23 "ExampleDrawers$Example" "seconds" "LExampleDrawers$Numbers;", Cond.methodLink RX1 37 yX3_copyFrom]
def wsX2_keep_r3 : List Cond := [Cond.methodLink RX6 70 yX3_copyFrom]
def wsX2_keep : List Cond := .code yX2_keep cX2_keep 2 none :: ((wsX2_keep_r1 ++ (wsX2_keep_r2 ++ wsX2_keep_r3)) ++ wsX20 ++ wsX60 ++ wsX00 ++ wsX30 ++ wsX10)
def wsX2_restore_r1 : List Cond := [Cond.fieldLink RX2 12 "ExampleDrawers$History" "latest" "LExampleDrawers$State;", Cond.fieldLink RX2 18 "ExampleDrawers$History" "second" "LExampleDrawers$State;", Cond.fieldLink RX2 21 "ExampleDrawers$History" "third" "LExampleDrawers$State;", Cond.fieldLink RX2 24 "ExampleDrawers$History" "oldest" "LExampleDrawers$State;", Cond.fieldLink RX2 27 "ExampleDrawers$History" "size" "I", Cond.methodLink RX2 41 Lib.Math.max.name, Cond.static Lib.Math.max.name, Cond.initialized "java/lang/Math", Cond.code Lib.Math.max.name Lib.Math.max.code 2 (some .int), Cond.methodLink RX2 31 yX6_copyFrom, Cond.instanceMethod yX6_copyFrom, Cond.selects RX6 yX6_copyFrom yX6_copyFrom, Cond.initialized RX6, Cond.code yX6_copyFrom cX6_copyFrom 2 none, Cond.fieldLink RX6 12 "ExampleDrawers$State" "drawer0" "LExampleDrawers$Drawer;", Cond.fieldLink RX6 18 "ExampleDrawers$State" "drawer1" "LExampleDrawers$Drawer;", Cond.fieldLink RX6 26 "ExampleDrawers$State" "orderColumns" "LExampleDrawers$Numbers;", Cond.fieldLink RX6 30 "ExampleDrawers$State" "orderDowns" "LExampleDrawers$Numbers;", Cond.fieldLink RX6 33 "ExampleDrawers$State" "asksBoth" "I", Cond.fieldLink RX6 37 "ExampleDrawers$State" "shown" "I", Cond.methodLink RX6 66 yX0_copyFrom, Cond.instanceMethod yX0_copyFrom, Cond.selects RX0 yX0_copyFrom yX0_copyFrom, Cond.initialized RX0]
def wsX2_restore_r2 : List Cond := [Cond.code yX0_copyFrom cX0_copyFrom 2 none, Cond.fieldLink RX0 14 "ExampleDrawers$Drawer" "entries" "LExampleDrawers$Numbers;", Cond.fieldLink RX0 23 "ExampleDrawers$Drawer" "example" "LExampleDrawers$Example;", Cond.fieldLink RX0 27 "ExampleDrawers$Drawer" "width" "I", Cond.fieldLink RX0 31 "ExampleDrawers$Drawer" "size" "I", Cond.methodLink RX0 59 yX3_copyFrom, Cond.instanceMethod yX3_copyFrom, Cond.selects RX3 yX3_copyFrom yX3_copyFrom, Cond.initialized RX3, Cond.code yX3_copyFrom cX3_copyFrom 3 none, Cond.fieldLink RX3 13 "ExampleDrawers$Numbers" "held" "[I", Cond.methodLink RX3 23 yX3_at, Cond.instanceMethod yX3_at, Cond.selects RX3 yX3_at yX3_at, Cond.code yX3_at cX3_at 2 (some .int), Cond.methodLink RX0 63 yX1_copyFrom, Cond.instanceMethod yX1_copyFrom, Cond.selects RX1 yX1_copyFrom yX1_copyFrom, Cond.initialized RX1, Cond.code yX1_copyFrom cX1_copyFrom 2 none, Cond.fieldLink RX1 14 "ExampleDrawers$Example" "kinds" "LExampleDrawers$Numbers;", Cond.fieldLink RX1 20 "ExampleDrawers$Example" "firsts" "LExampleDrawers$Numbers;", Cond.fieldLink RX1 23 "ExampleDrawers$Example" "seconds" "LExampleDrawers$Numbers;", Cond.methodLink RX1 37 yX3_copyFrom]
def wsX2_restore_r3 : List Cond := [Cond.methodLink RX6 70 yX3_copyFrom]
def wsX2_restore : List Cond := .code yX2_restore cX2_restore 2 none :: ((wsX2_restore_r1 ++ (wsX2_restore_r2 ++ wsX2_restore_r3)) ++ wsX20 ++ wsX60 ++ wsX00 ++ wsX30 ++ wsX10)
def wsX4_init_r1 : List Cond := [Cond.methodLink RX4 3 objectInit, Cond.instanceMethod objectInit, Cond.code objectInit ⟨#[0xb1]⟩ 1 none, Cond.classLink RX4 9 RX1, Cond.instantiable RX1 3, Cond.initialized RX1, Cond.fieldLink RX4 12 "ExampleDrawers$Reading" "example" "LExampleDrawers$Example;", Cond.fieldLink RX4 18 "ExampleDrawers$Reading" "cells" "I", Cond.fieldLink RX4 22 "ExampleDrawers$Reading" "place" "I", Cond.fieldLink RX4 25 "ExampleDrawers$Reading" "faultPlace" "I", Cond.fieldLink RX4 28 "ExampleDrawers$Reading" "faultReason" "I", Cond.fieldLink RX4 31 "ExampleDrawers$Reading" "text" "LExampleDrawers$Text;", Cond.instanceMethod yX1_init, Cond.code yX1_init cX1_init 1 none, Cond.methodLink RX1 3 objectInit, Cond.classLink RX1 9 RX3, Cond.instantiable RX3 1, Cond.initialized RX3, Cond.fieldLink RX1 14 "ExampleDrawers$Example" "kinds" "LExampleDrawers$Numbers;", Cond.fieldLink RX1 20 "ExampleDrawers$Example" "firsts" "LExampleDrawers$Numbers;", Cond.fieldLink RX1 23 "ExampleDrawers$Example" "seconds" "LExampleDrawers$Numbers;", Cond.methodLink RX1 11 yX3_init, Cond.instanceMethod yX3_init, Cond.code yX3_init cX3_init 3 none]
def wsX4_init_r2 : List Cond := [Cond.methodLink RX3 1 objectInit, Cond.methodLink RX3 7 Lib.Math.max.name, Cond.static Lib.Math.max.name, Cond.initialized "java/lang/Math", Cond.code Lib.Math.max.name Lib.Math.max.code 2 (some .int), Cond.arrayClass .int, Cond.fieldLink RX3 13 "ExampleDrawers$Numbers" "held" "[I", Cond.methodLink RX3 19 yX3_fill, Cond.instanceMethod yX3_fill, Cond.selects RX3 yX3_fill yX3_fill, Cond.code yX3_fill cX3_fill 3 none]
def wsX4_init : List Cond := .code yX4_init cX4_init 2 none :: ((wsX4_init_r1 ++ wsX4_init_r2) ++ wsX10 ++ wsX40 ++ wsX30)
def wsX4_hasFault : List Cond := .code yX4_hasFault cX4_hasFault 1 (some .boolean) :: ([.fieldLink RX4 28 "ExampleDrawers$Reading" "faultReason" "I"] ++ wsX40)
def wsX4_faultPlace : List Cond := .code yX4_faultPlace cX4_faultPlace 1 (some .int) :: ([.fieldLink RX4 25 "ExampleDrawers$Reading" "faultPlace" "I"] ++ wsX40)
def wsX4_faultReason : List Cond := .code yX4_faultReason cX4_faultReason 1 (some .int) :: ([.fieldLink RX4 28 "ExampleDrawers$Reading" "faultReason" "I"] ++ wsX40)
def wsX4_cells : List Cond := .code yX4_cells cX4_cells 1 (some .int) :: ([.fieldLink RX4 18 "ExampleDrawers$Reading" "cells" "I"] ++ wsX40)
def wsX4_example : List Cond := .code yX4_example cX4_example 1 (some (.object "ExampleDrawers$Example")) :: ([.fieldLink RX4 12 "ExampleDrawers$Reading" "example" "LExampleDrawers$Example;"] ++ wsX40)
def wsX7_characterAt : List Cond := .code yX7_characterAt cX7_characterAt 2 (some .int) :: ([.fieldLink RX7 20 "ExampleDrawers$Text" "length" "I", .fieldLink RX7 14 "ExampleDrawers$Text" "characters" "LExampleDrawers$Numbers;", .methodLink RX7 24 yX3_at, .instanceMethod yX3_at, .selects RX3 yX3_at yX3_at, .initialized RX3, .code yX3_at cX3_at 2 (some .int), .fieldLink RX3 13 "ExampleDrawers$Numbers" "held" "[I"] ++ wsX70 ++ wsX30)
def wsX4_isDigit : List Cond := .code yX4_isDigit cX4_isDigit 1 (some .boolean) :: ([])
def wsX4_fail : List Cond := .code yX4_fail cX4_fail 3 none :: ([.fieldLink RX4 25 "ExampleDrawers$Reading" "faultPlace" "I", .fieldLink RX4 28 "ExampleDrawers$Reading" "faultReason" "I"] ++ wsX40)
def wsX4_readNumber_r1 : List Cond := [Cond.fieldLink RX4 31 "ExampleDrawers$Reading" "text" "LExampleDrawers$Text;", Cond.fieldLink RX4 22 "ExampleDrawers$Reading" "place" "I", Cond.methodLink RX4 38 yX7_characterAt, Cond.instanceMethod yX7_characterAt, Cond.selects RX7 yX7_characterAt yX7_characterAt, Cond.initialized RX7, Cond.code yX7_characterAt cX7_characterAt 2 (some .int), Cond.fieldLink RX7 20 "ExampleDrawers$Text" "length" "I", Cond.fieldLink RX7 14 "ExampleDrawers$Text" "characters" "LExampleDrawers$Numbers;", Cond.methodLink RX7 24 yX3_at, Cond.instanceMethod yX3_at, Cond.selects RX3 yX3_at yX3_at, Cond.initialized RX3, Cond.code yX3_at cX3_at 2 (some .int), Cond.fieldLink RX3 13 "ExampleDrawers$Numbers" "held" "[I", Cond.methodLink RX4 63 yX4_isDigit, Cond.static yX4_isDigit, Cond.initialized RX4, Cond.code yX4_isDigit cX4_isDigit 1 (some .boolean), Cond.methodLink RX4 59 yX4_fail, Cond.instanceMethod yX4_fail, Cond.selects RX4 yX4_fail yX4_fail, Cond.code yX4_fail cX4_fail 3 none, Cond.fieldLink RX4 25 "ExampleDrawers$Reading" "faultPlace" "I"]
def wsX4_readNumber_r2 : List Cond := [Cond.fieldLink RX4 28 "ExampleDrawers$Reading" "faultReason" "I"]
def wsX4_readNumber : List Cond := .code yX4_readNumber cX4_readNumber 4 (some .int) :: ((wsX4_readNumber_r1 ++ wsX4_readNumber_r2) ++ wsX40 ++ wsX70 ++ wsX30)
def wsX4_readNumbers_r1 : List Cond := [Cond.fieldLink RX4 22 "ExampleDrawers$Reading" "place" "I", Cond.fieldLink RX4 31 "ExampleDrawers$Reading" "text" "LExampleDrawers$Text;", Cond.fieldLink RX4 12 "ExampleDrawers$Reading" "example" "LExampleDrawers$Example;", Cond.fieldLink RX4 18 "ExampleDrawers$Reading" "cells" "I", Cond.methodLink RX4 74 yX4_readNumber, Cond.instanceMethod yX4_readNumber, Cond.selects RX4 yX4_readNumber yX4_readNumber, Cond.initialized RX4, Cond.code yX4_readNumber cX4_readNumber 4 (some .int), Cond.methodLink RX4 38 yX7_characterAt, Cond.instanceMethod yX7_characterAt, Cond.selects RX7 yX7_characterAt yX7_characterAt, Cond.initialized RX7, Cond.code yX7_characterAt cX7_characterAt 2 (some .int), Cond.fieldLink RX7 20 "ExampleDrawers$Text" "length" "I", Cond.fieldLink RX7 14 "ExampleDrawers$Text" "characters" "LExampleDrawers$Numbers;", Cond.methodLink RX7 24 yX3_at, Cond.instanceMethod yX3_at, Cond.selects RX3 yX3_at yX3_at, Cond.initialized RX3, Cond.code yX3_at cX3_at 2 (some .int), Cond.fieldLink RX3 13 "ExampleDrawers$Numbers" "held" "[I", Cond.methodLink RX4 63 yX4_isDigit, Cond.static yX4_isDigit]
def wsX4_readNumbers_r2 : List Cond := [Cond.code yX4_isDigit cX4_isDigit 1 (some .boolean), Cond.methodLink RX4 59 yX4_fail, Cond.instanceMethod yX4_fail, Cond.selects RX4 yX4_fail yX4_fail, Cond.code yX4_fail cX4_fail 3 none, Cond.fieldLink RX4 25 "ExampleDrawers$Reading" "faultPlace" "I", Cond.fieldLink RX4 28 "ExampleDrawers$Reading" "faultReason" "I", Cond.methodLink RX4 70 yX1_fill, Cond.instanceMethod yX1_fill, Cond.selects RX1 yX1_fill yX1_fill, Cond.initialized RX1, Cond.code yX1_fill cX1_fill 5 none, Cond.fieldLink RX1 14 "ExampleDrawers$Example" "kinds" "LExampleDrawers$Numbers;", Cond.fieldLink RX1 20 "ExampleDrawers$Example" "firsts" "LExampleDrawers$Numbers;", Cond.fieldLink RX1 23 "ExampleDrawers$Example" "seconds" "LExampleDrawers$Numbers;", Cond.methodLink RX1 30 yX3_set, Cond.instanceMethod yX3_set, Cond.selects RX3 yX3_set yX3_set, Cond.code yX3_set cX3_set 3 none, Cond.methodLink RX4 48 yX4_hasFault, Cond.instanceMethod yX4_hasFault, Cond.selects RX4 yX4_hasFault yX4_hasFault, Cond.code yX4_hasFault cX4_hasFault 1 (some .boolean)]
def wsX4_readNumbers : List Cond := .code yX4_readNumbers cX4_readNumbers 4 none :: ((wsX4_readNumbers_r1 ++ wsX4_readNumbers_r2) ++ wsX40 ++ wsX70 ++ wsX30 ++ wsX10)
def wsX4_isLetter : List Cond := .code yX4_isLetter cX4_isLetter 1 (some .boolean) :: ([])
def wsX4_readBound_r1 : List Cond := [Cond.fieldLink RX4 31 "ExampleDrawers$Reading" "text" "LExampleDrawers$Text;", Cond.fieldLink RX4 22 "ExampleDrawers$Reading" "place" "I", Cond.fieldLink RX4 12 "ExampleDrawers$Reading" "example" "LExampleDrawers$Example;", Cond.fieldLink RX4 18 "ExampleDrawers$Reading" "cells" "I", Cond.methodLink RX4 38 yX7_characterAt, Cond.instanceMethod yX7_characterAt, Cond.selects RX7 yX7_characterAt yX7_characterAt, Cond.initialized RX7, Cond.code yX7_characterAt cX7_characterAt 2 (some .int), Cond.fieldLink RX7 20 "ExampleDrawers$Text" "length" "I", Cond.fieldLink RX7 14 "ExampleDrawers$Text" "characters" "LExampleDrawers$Numbers;", Cond.methodLink RX7 24 yX3_at, Cond.instanceMethod yX3_at, Cond.selects RX3 yX3_at yX3_at, Cond.initialized RX3, Cond.code yX3_at cX3_at 2 (some .int), Cond.fieldLink RX3 13 "ExampleDrawers$Numbers" "held" "[I", Cond.methodLink RX4 80 yX4_isLetter, Cond.static yX4_isLetter, Cond.initialized RX4, Cond.code yX4_isLetter cX4_isLetter 1 (some .boolean), Cond.methodLink RX4 70 yX1_fill, Cond.instanceMethod yX1_fill, Cond.selects RX1 yX1_fill yX1_fill]
def wsX4_readBound_r2 : List Cond := [Cond.initialized RX1, Cond.code yX1_fill cX1_fill 5 none, Cond.fieldLink RX1 14 "ExampleDrawers$Example" "kinds" "LExampleDrawers$Numbers;", Cond.fieldLink RX1 20 "ExampleDrawers$Example" "firsts" "LExampleDrawers$Numbers;", Cond.fieldLink RX1 23 "ExampleDrawers$Example" "seconds" "LExampleDrawers$Numbers;", Cond.methodLink RX1 30 yX3_set, Cond.instanceMethod yX3_set, Cond.selects RX3 yX3_set yX3_set, Cond.code yX3_set cX3_set 3 none, Cond.methodLink RX4 74 yX4_readNumber, Cond.instanceMethod yX4_readNumber, Cond.selects RX4 yX4_readNumber yX4_readNumber, Cond.code yX4_readNumber cX4_readNumber 4 (some .int), Cond.methodLink RX4 63 yX4_isDigit, Cond.static yX4_isDigit, Cond.code yX4_isDigit cX4_isDigit 1 (some .boolean), Cond.methodLink RX4 59 yX4_fail, Cond.instanceMethod yX4_fail, Cond.selects RX4 yX4_fail yX4_fail, Cond.code yX4_fail cX4_fail 3 none, Cond.fieldLink RX4 25 "ExampleDrawers$Reading" "faultPlace" "I", Cond.fieldLink RX4 28 "ExampleDrawers$Reading" "faultReason" "I"]
def wsX4_readBound : List Cond := .code yX4_readBound cX4_readBound 4 none :: ((wsX4_readBound_r1 ++ wsX4_readBound_r2) ++ wsX40 ++ wsX70 ++ wsX30 ++ wsX10)
def wsX4_readCell_r1 : List Cond := [Cond.fieldLink RX4 22 "ExampleDrawers$Reading" "place" "I", Cond.fieldLink RX4 12 "ExampleDrawers$Reading" "example" "LExampleDrawers$Example;", Cond.fieldLink RX4 18 "ExampleDrawers$Reading" "cells" "I", Cond.methodLink RX4 63 yX4_isDigit, Cond.static yX4_isDigit, Cond.initialized RX4, Cond.code yX4_isDigit cX4_isDigit 1 (some .boolean), Cond.methodLink RX4 67 yX4_readNumbers, Cond.instanceMethod yX4_readNumbers, Cond.selects RX4 yX4_readNumbers yX4_readNumbers, Cond.code yX4_readNumbers cX4_readNumbers 4 none, Cond.fieldLink RX4 31 "ExampleDrawers$Reading" "text" "LExampleDrawers$Text;", Cond.methodLink RX4 74 yX4_readNumber, Cond.instanceMethod yX4_readNumber, Cond.selects RX4 yX4_readNumber yX4_readNumber, Cond.code yX4_readNumber cX4_readNumber 4 (some .int), Cond.methodLink RX4 38 yX7_characterAt, Cond.instanceMethod yX7_characterAt, Cond.selects RX7 yX7_characterAt yX7_characterAt, Cond.initialized RX7, Cond.code yX7_characterAt cX7_characterAt 2 (some .int), Cond.fieldLink RX7 20 "ExampleDrawers$Text" "length" "I", Cond.fieldLink RX7 14 "ExampleDrawers$Text" "characters" "LExampleDrawers$Numbers;", Cond.methodLink RX7 24 yX3_at]
def wsX4_readCell_r2 : List Cond := [Cond.instanceMethod yX3_at, Cond.selects RX3 yX3_at yX3_at, Cond.initialized RX3, Cond.code yX3_at cX3_at 2 (some .int), Cond.fieldLink RX3 13 "ExampleDrawers$Numbers" "held" "[I", Cond.methodLink RX4 59 yX4_fail, Cond.instanceMethod yX4_fail, Cond.selects RX4 yX4_fail yX4_fail, Cond.code yX4_fail cX4_fail 3 none, Cond.fieldLink RX4 25 "ExampleDrawers$Reading" "faultPlace" "I", Cond.fieldLink RX4 28 "ExampleDrawers$Reading" "faultReason" "I", Cond.methodLink RX4 70 yX1_fill, Cond.instanceMethod yX1_fill, Cond.selects RX1 yX1_fill yX1_fill, Cond.initialized RX1, Cond.code yX1_fill cX1_fill 5 none, Cond.fieldLink RX1 14 "ExampleDrawers$Example" "kinds" "LExampleDrawers$Numbers;", Cond.fieldLink RX1 20 "ExampleDrawers$Example" "firsts" "LExampleDrawers$Numbers;", Cond.fieldLink RX1 23 "ExampleDrawers$Example" "seconds" "LExampleDrawers$Numbers;", Cond.methodLink RX1 30 yX3_set, Cond.instanceMethod yX3_set, Cond.selects RX3 yX3_set yX3_set, Cond.code yX3_set cX3_set 3 none, Cond.methodLink RX4 48 yX4_hasFault]
def wsX4_readCell_r3 : List Cond := [Cond.instanceMethod yX4_hasFault, Cond.selects RX4 yX4_hasFault yX4_hasFault, Cond.code yX4_hasFault cX4_hasFault 1 (some .boolean), Cond.methodLink RX4 77 yX4_readBound, Cond.instanceMethod yX4_readBound, Cond.selects RX4 yX4_readBound yX4_readBound, Cond.code yX4_readBound cX4_readBound 4 none, Cond.methodLink RX4 80 yX4_isLetter, Cond.static yX4_isLetter, Cond.code yX4_isLetter cX4_isLetter 1 (some .boolean)]
def wsX4_readCell : List Cond := .code yX4_readCell cX4_readCell 3 none :: ((wsX4_readCell_r1 ++ (wsX4_readCell_r2 ++ wsX4_readCell_r3)) ++ wsX40 ++ wsX70 ++ wsX30 ++ wsX10)
def wsX7_length : List Cond := .code yX7_length cX7_length 1 (some .int) :: ([.fieldLink RX7 20 "ExampleDrawers$Text" "length" "I"] ++ wsX70)
def wsX4_readComma_r1 : List Cond := [Cond.fieldLink RX4 22 "ExampleDrawers$Reading" "place" "I", Cond.fieldLink RX4 31 "ExampleDrawers$Reading" "text" "LExampleDrawers$Text;", Cond.fieldLink RX4 18 "ExampleDrawers$Reading" "cells" "I", Cond.methodLink RX4 55 yX7_length, Cond.instanceMethod yX7_length, Cond.selects RX7 yX7_length yX7_length, Cond.initialized RX7, Cond.code yX7_length cX7_length 1 (some .int), Cond.fieldLink RX7 20 "ExampleDrawers$Text" "length" "I", Cond.methodLink RX4 38 yX7_characterAt, Cond.instanceMethod yX7_characterAt, Cond.selects RX7 yX7_characterAt yX7_characterAt, Cond.code yX7_characterAt cX7_characterAt 2 (some .int), Cond.fieldLink RX7 14 "ExampleDrawers$Text" "characters" "LExampleDrawers$Numbers;", Cond.methodLink RX7 24 yX3_at, Cond.instanceMethod yX3_at, Cond.selects RX3 yX3_at yX3_at, Cond.initialized RX3, Cond.code yX3_at cX3_at 2 (some .int), Cond.fieldLink RX3 13 "ExampleDrawers$Numbers" "held" "[I", Cond.methodLink RX4 59 yX4_fail, Cond.instanceMethod yX4_fail, Cond.selects RX4 yX4_fail yX4_fail, Cond.initialized RX4]
def wsX4_readComma_r2 : List Cond := [Cond.code yX4_fail cX4_fail 3 none, Cond.fieldLink RX4 25 "ExampleDrawers$Reading" "faultPlace" "I", Cond.fieldLink RX4 28 "ExampleDrawers$Reading" "faultReason" "I", Cond.methodLink RX4 48 yX4_hasFault, Cond.instanceMethod yX4_hasFault, Cond.selects RX4 yX4_hasFault yX4_hasFault, Cond.code yX4_hasFault cX4_hasFault 1 (some .boolean)]
def wsX4_readComma : List Cond := .code yX4_readComma cX4_readComma 1 (some .boolean) :: ((wsX4_readComma_r1 ++ wsX4_readComma_r2) ++ wsX40 ++ wsX70 ++ wsX30)
def wsX4_start_r1 : List Cond := [Cond.fieldLink RX4 12 "ExampleDrawers$Reading" "example" "LExampleDrawers$Example;", Cond.fieldLink RX4 18 "ExampleDrawers$Reading" "cells" "I", Cond.fieldLink RX4 22 "ExampleDrawers$Reading" "place" "I", Cond.fieldLink RX4 25 "ExampleDrawers$Reading" "faultPlace" "I", Cond.fieldLink RX4 28 "ExampleDrawers$Reading" "faultReason" "I", Cond.fieldLink RX4 31 "ExampleDrawers$Reading" "text" "LExampleDrawers$Text;", Cond.methodLink RX4 35 yX1_wipe, Cond.instanceMethod yX1_wipe, Cond.selects RX1 yX1_wipe yX1_wipe, Cond.initialized RX1, Cond.code yX1_wipe cX1_wipe 1 none, Cond.fieldLink RX1 14 "ExampleDrawers$Example" "kinds" "LExampleDrawers$Numbers;", Cond.fieldLink RX1 20 "ExampleDrawers$Example" "firsts" "LExampleDrawers$Numbers;", Cond.fieldLink RX1 23 "ExampleDrawers$Example" "seconds" "LExampleDrawers$Numbers;", Cond.methodLink RX1 33 yX3_fill, Cond.instanceMethod yX3_fill, Cond.selects RX3 yX3_fill yX3_fill, Cond.initialized RX3, Cond.code yX3_fill cX3_fill 3 none, Cond.fieldLink RX3 13 "ExampleDrawers$Numbers" "held" "[I", Cond.methodLink RX4 38 yX7_characterAt, Cond.instanceMethod yX7_characterAt, Cond.selects RX7 yX7_characterAt yX7_characterAt, Cond.initialized RX7]
def wsX4_start_r2 : List Cond := [Cond.code yX7_characterAt cX7_characterAt 2 (some .int), Cond.fieldLink RX7 20 "ExampleDrawers$Text" "length" "I", Cond.fieldLink RX7 14 "ExampleDrawers$Text" "characters" "LExampleDrawers$Numbers;", Cond.methodLink RX7 24 yX3_at, Cond.instanceMethod yX3_at, Cond.selects RX3 yX3_at yX3_at, Cond.code yX3_at cX3_at 2 (some .int), Cond.methodLink RX4 44 yX4_readCell, Cond.instanceMethod yX4_readCell, Cond.selects RX4 yX4_readCell yX4_readCell, Cond.initialized RX4, Cond.code yX4_readCell cX4_readCell 3 none, Cond.methodLink RX4 63 yX4_isDigit, Cond.static yX4_isDigit, Cond.code yX4_isDigit cX4_isDigit 1 (some .boolean), Cond.methodLink RX4 67 yX4_readNumbers, Cond.instanceMethod yX4_readNumbers, Cond.selects RX4 yX4_readNumbers yX4_readNumbers, Cond.code yX4_readNumbers cX4_readNumbers 4 none, Cond.methodLink RX4 74 yX4_readNumber, Cond.instanceMethod yX4_readNumber, Cond.selects RX4 yX4_readNumber yX4_readNumber, Cond.code yX4_readNumber cX4_readNumber 4 (some .int), Cond.methodLink RX4 59 yX4_fail]
def wsX4_start_r3 : List Cond := [Cond.instanceMethod yX4_fail, Cond.selects RX4 yX4_fail yX4_fail, Cond.code yX4_fail cX4_fail 3 none, Cond.methodLink RX4 70 yX1_fill, Cond.instanceMethod yX1_fill, Cond.selects RX1 yX1_fill yX1_fill, Cond.code yX1_fill cX1_fill 5 none, Cond.methodLink RX1 30 yX3_set, Cond.instanceMethod yX3_set, Cond.selects RX3 yX3_set yX3_set, Cond.code yX3_set cX3_set 3 none, Cond.methodLink RX4 48 yX4_hasFault, Cond.instanceMethod yX4_hasFault, Cond.selects RX4 yX4_hasFault yX4_hasFault, Cond.code yX4_hasFault cX4_hasFault 1 (some .boolean), Cond.methodLink RX4 77 yX4_readBound, Cond.instanceMethod yX4_readBound, Cond.selects RX4 yX4_readBound yX4_readBound, Cond.code yX4_readBound cX4_readBound 4 none, Cond.methodLink RX4 80 yX4_isLetter, Cond.static yX4_isLetter, Cond.code yX4_isLetter cX4_isLetter 1 (some .boolean), Cond.methodLink RX4 52 yX4_readComma, Cond.instanceMethod yX4_readComma]
def wsX4_start_r4 : List Cond := [Cond.selects RX4 yX4_readComma yX4_readComma, Cond.code yX4_readComma cX4_readComma 1 (some .boolean), Cond.methodLink RX4 55 yX7_length, Cond.instanceMethod yX7_length, Cond.selects RX7 yX7_length yX7_length, Cond.code yX7_length cX7_length 1 (some .int)]
def wsX4_start : List Cond := .code yX4_start cX4_start 2 none :: ((wsX4_start_r1 ++ (wsX4_start_r2 ++ (wsX4_start_r3 ++ wsX4_start_r4))) ++ wsX40 ++ wsX10 ++ wsX30 ++ wsX70)
def wsX5_init_r1 : List Cond := [Cond.methodLink RX5 3 objectInit, Cond.instanceMethod objectInit, Cond.code objectInit ⟨#[0xb1]⟩ 1 none, Cond.classLink RX5 9 RX3, Cond.instantiable RX3 1, Cond.initialized RX3, Cond.fieldLink RX5 14 "ExampleDrawers$Rows" "found" "LExampleDrawers$Numbers;", Cond.fieldLink RX5 20 "ExampleDrawers$Rows" "marks" "LExampleDrawers$Numbers;", Cond.fieldLink RX5 23 "ExampleDrawers$Rows" "tellers" "LExampleDrawers$Numbers;", Cond.fieldLink RX5 26 "ExampleDrawers$Rows" "size" "I", Cond.fieldLink RX5 30 "ExampleDrawers$Rows" "leftOut" "I", Cond.fieldLink RX5 33 "ExampleDrawers$Rows" "state" "LExampleDrawers$State;", Cond.methodLink RX5 11 yX3_init, Cond.instanceMethod yX3_init, Cond.code yX3_init cX3_init 3 none, Cond.methodLink RX3 1 objectInit, Cond.methodLink RX3 7 Lib.Math.max.name, Cond.static Lib.Math.max.name, Cond.initialized "java/lang/Math", Cond.code Lib.Math.max.name Lib.Math.max.code 2 (some .int), Cond.arrayClass .int, Cond.fieldLink RX3 13 "ExampleDrawers$Numbers" "held" "[I", Cond.methodLink RX3 19 yX3_fill, Cond.instanceMethod yX3_fill]
def wsX5_init_r2 : List Cond := [Cond.selects RX3 yX3_fill yX3_fill, Cond.code yX3_fill cX3_fill 3 none]
def wsX5_init : List Cond := .code yX5_init cX5_init 2 none :: ((wsX5_init_r1 ++ wsX5_init_r2) ++ wsX30 ++ wsX50)
def wsX6_exampleOf : List Cond := .code yX6_exampleOf cX6_exampleOf 2 (some (.object "ExampleDrawers$Example")) :: ([.fieldLink RX6 12 "ExampleDrawers$State" "drawer0" "LExampleDrawers$Drawer;", .fieldLink RX6 18 "ExampleDrawers$State" "drawer1" "LExampleDrawers$Drawer;", .methodLink RX6 62 yX0_example, .instanceMethod yX0_example, .selects RX0 yX0_example yX0_example, .initialized RX0, .code yX0_example cX0_example 1 (some (.object "ExampleDrawers$Example")), .fieldLink RX0 23 "ExampleDrawers$Drawer" "example" "LExampleDrawers$Example;"] ++ wsX60 ++ wsX00)
def wsX6_isOfBoth : List Cond := .code yX6_isOfBoth cX6_isOfBoth 1 (some .boolean) :: ([.fieldLink RX6 33 "ExampleDrawers$State" "asksBoth" "I"] ++ wsX60)
def wsX6_isAsked : List Cond := .code yX6_isAsked cX6_isAsked 2 (some .boolean) :: ([.fieldLink RX6 12 "ExampleDrawers$State" "drawer0" "LExampleDrawers$Drawer;", .fieldLink RX6 18 "ExampleDrawers$State" "drawer1" "LExampleDrawers$Drawer;", .methodLink RX6 47 yX0_hasColumn, .instanceMethod yX0_hasColumn, .selects RX0 yX0_hasColumn yX0_hasColumn, .initialized RX0, .code yX0_hasColumn cX0_hasColumn 2 (some .boolean), .fieldLink RX0 27 "ExampleDrawers$Drawer" "width" "I", .methodLink RX6 51 yX6_isOfBoth, .instanceMethod yX6_isOfBoth, .selects RX6 yX6_isOfBoth yX6_isOfBoth, .initialized RX6, .code yX6_isOfBoth cX6_isOfBoth 1 (some .boolean), .fieldLink RX6 33 "ExampleDrawers$State" "asksBoth" "I"] ++ wsX60 ++ wsX00)
def wsX5_findTellers_r1 : List Cond := [Cond.fieldLink RX5 30 "ExampleDrawers$Rows" "leftOut" "I", Cond.fieldLink RX5 23 "ExampleDrawers$Rows" "tellers" "LExampleDrawers$Numbers;", Cond.fieldLink RX5 33 "ExampleDrawers$Rows" "state" "LExampleDrawers$State;", Cond.methodLink RX5 66 yX3_fill, Cond.instanceMethod yX3_fill, Cond.selects RX3 yX3_fill yX3_fill, Cond.initialized RX3, Cond.code yX3_fill cX3_fill 3 none, Cond.fieldLink RX3 13 "ExampleDrawers$Numbers" "held" "[I", Cond.methodLink RX5 69 yX6_exampleOf, Cond.instanceMethod yX6_exampleOf, Cond.selects RX6 yX6_exampleOf yX6_exampleOf, Cond.initialized RX6, Cond.code yX6_exampleOf cX6_exampleOf 2 (some (.object "ExampleDrawers$Example")), Cond.fieldLink RX6 12 "ExampleDrawers$State" "drawer0" "LExampleDrawers$Drawer;", Cond.fieldLink RX6 18 "ExampleDrawers$State" "drawer1" "LExampleDrawers$Drawer;", Cond.methodLink RX6 62 yX0_example, Cond.instanceMethod yX0_example, Cond.selects RX0 yX0_example yX0_example, Cond.initialized RX0, Cond.code yX0_example cX0_example 1 (some (.object "ExampleDrawers$Example")), Cond.fieldLink RX0 23 "ExampleDrawers$Drawer" "example" "LExampleDrawers$Example;", Cond.methodLink RX5 73 yX6_isAsked, Cond.instanceMethod yX6_isAsked]
def wsX5_findTellers_r2 : List Cond := [Cond.selects RX6 yX6_isAsked yX6_isAsked, Cond.code yX6_isAsked cX6_isAsked 2 (some .boolean), Cond.methodLink RX6 47 yX0_hasColumn, Cond.instanceMethod yX0_hasColumn, Cond.selects RX0 yX0_hasColumn yX0_hasColumn, Cond.code yX0_hasColumn cX0_hasColumn 2 (some .boolean), Cond.fieldLink RX0 27 "ExampleDrawers$Drawer" "width" "I", Cond.methodLink RX6 51 yX6_isOfBoth, Cond.instanceMethod yX6_isOfBoth, Cond.selects RX6 yX6_isOfBoth yX6_isOfBoth, Cond.code yX6_isOfBoth cX6_isOfBoth 1 (some .boolean), Cond.fieldLink RX6 33 "ExampleDrawers$State" "asksBoth" "I", Cond.methodLink RX5 77 yX1_kindAt, Cond.instanceMethod yX1_kindAt, Cond.selects RX1 yX1_kindAt yX1_kindAt, Cond.initialized RX1, Cond.code yX1_kindAt cX1_kindAt 2 (some .int), Cond.fieldLink RX1 14 "ExampleDrawers$Example" "kinds" "LExampleDrawers$Numbers;", Cond.methodLink RX1 26 yX3_at, Cond.instanceMethod yX3_at, Cond.selects RX3 yX3_at yX3_at, Cond.code yX3_at cX3_at 2 (some .int), Cond.methodLink RX5 82 yX1_firstAt, Cond.instanceMethod yX1_firstAt]
def wsX5_findTellers_r3 : List Cond := [Cond.selects RX1 yX1_firstAt yX1_firstAt, Cond.code yX1_firstAt cX1_firstAt 2 (some .int), Cond.fieldLink RX1 20 "ExampleDrawers$Example" "firsts" "LExampleDrawers$Numbers;", Cond.methodLink RX5 60 yX3_set, Cond.instanceMethod yX3_set, Cond.selects RX3 yX3_set yX3_set, Cond.code yX3_set cX3_set 3 none]
def wsX5_findTellers : List Cond := .code yX5_findTellers cX5_findTellers 6 none :: ((wsX5_findTellers_r1 ++ (wsX5_findTellers_r2 ++ wsX5_findTellers_r3)) ++ wsX50 ++ wsX30 ++ wsX60 ++ wsX00 ++ wsX10)
def wsX6_drawer : List Cond := .code yX6_drawer cX6_drawer 2 (some (.object "ExampleDrawers$Drawer")) :: ([.fieldLink RX6 12 "ExampleDrawers$State" "drawer0" "LExampleDrawers$Drawer;", .fieldLink RX6 18 "ExampleDrawers$State" "drawer1" "LExampleDrawers$Drawer;"] ++ wsX60)
def wsX6_entry : List Cond := .code yX6_entry cX6_entry 3 (some .int) :: ([.fieldLink RX6 12 "ExampleDrawers$State" "drawer0" "LExampleDrawers$Drawer;", .fieldLink RX6 18 "ExampleDrawers$State" "drawer1" "LExampleDrawers$Drawer;", .methodLink RX6 58 yX0_entry, .instanceMethod yX0_entry, .selects RX0 yX0_entry yX0_entry, .initialized RX0, .code yX0_entry cX0_entry 3 (some .int), .fieldLink RX0 14 "ExampleDrawers$Drawer" "entries" "LExampleDrawers$Numbers;", .methodLink RX0 34 yX0_hasCard, .instanceMethod yX0_hasCard, .selects RX0 yX0_hasCard yX0_hasCard, .code yX0_hasCard cX0_hasCard 2 (some .boolean), .fieldLink RX0 31 "ExampleDrawers$Drawer" "size" "I", .methodLink RX0 38 yX0_hasColumn, .instanceMethod yX0_hasColumn, .selects RX0 yX0_hasColumn yX0_hasColumn, .code yX0_hasColumn cX0_hasColumn 2 (some .boolean), .fieldLink RX0 27 "ExampleDrawers$Drawer" "width" "I", .methodLink RX0 41 yX3_at, .instanceMethod yX3_at, .selects RX3 yX3_at yX3_at, .initialized RX3, .code yX3_at cX3_at 2 (some .int), .fieldLink RX3 13 "ExampleDrawers$Numbers" "held" "[I"] ++ wsX60 ++ wsX00 ++ wsX30)
def wsX5_isFitted_r1 : List Cond := [Cond.fieldLink RX5 33 "ExampleDrawers$Rows" "state" "LExampleDrawers$State;", Cond.fieldLink RX5 23 "ExampleDrawers$Rows" "tellers" "LExampleDrawers$Numbers;", Cond.methodLink RX5 69 yX6_exampleOf, Cond.instanceMethod yX6_exampleOf, Cond.selects RX6 yX6_exampleOf yX6_exampleOf, Cond.initialized RX6, Cond.code yX6_exampleOf cX6_exampleOf 2 (some (.object "ExampleDrawers$Example")), Cond.fieldLink RX6 12 "ExampleDrawers$State" "drawer0" "LExampleDrawers$Drawer;", Cond.fieldLink RX6 18 "ExampleDrawers$State" "drawer1" "LExampleDrawers$Drawer;", Cond.methodLink RX6 62 yX0_example, Cond.instanceMethod yX0_example, Cond.selects RX0 yX0_example yX0_example, Cond.initialized RX0, Cond.code yX0_example cX0_example 1 (some (.object "ExampleDrawers$Example")), Cond.fieldLink RX0 23 "ExampleDrawers$Drawer" "example" "LExampleDrawers$Example;", Cond.methodLink RX5 89 yX6_entry, Cond.instanceMethod yX6_entry, Cond.selects RX6 yX6_entry yX6_entry, Cond.code yX6_entry cX6_entry 3 (some .int), Cond.methodLink RX6 58 yX0_entry, Cond.instanceMethod yX0_entry, Cond.selects RX0 yX0_entry yX0_entry, Cond.code yX0_entry cX0_entry 3 (some .int), Cond.fieldLink RX0 14 "ExampleDrawers$Drawer" "entries" "LExampleDrawers$Numbers;"]
def wsX5_isFitted_r2 : List Cond := [Cond.methodLink RX0 34 yX0_hasCard, Cond.instanceMethod yX0_hasCard, Cond.selects RX0 yX0_hasCard yX0_hasCard, Cond.code yX0_hasCard cX0_hasCard 2 (some .boolean), Cond.fieldLink RX0 31 "ExampleDrawers$Drawer" "size" "I", Cond.methodLink RX0 38 yX0_hasColumn, Cond.instanceMethod yX0_hasColumn, Cond.selects RX0 yX0_hasColumn yX0_hasColumn, Cond.code yX0_hasColumn cX0_hasColumn 2 (some .boolean), Cond.fieldLink RX0 27 "ExampleDrawers$Drawer" "width" "I", Cond.methodLink RX0 41 yX3_at, Cond.instanceMethod yX3_at, Cond.selects RX3 yX3_at yX3_at, Cond.initialized RX3, Cond.code yX3_at cX3_at 2 (some .int), Cond.fieldLink RX3 13 "ExampleDrawers$Numbers" "held" "[I", Cond.methodLink RX5 77 yX1_kindAt, Cond.instanceMethod yX1_kindAt, Cond.selects RX1 yX1_kindAt yX1_kindAt, Cond.initialized RX1, Cond.code yX1_kindAt cX1_kindAt 2 (some .int), Cond.fieldLink RX1 14 "ExampleDrawers$Example" "kinds" "LExampleDrawers$Numbers;", Cond.methodLink RX1 26 yX3_at, Cond.methodLink RX5 93 yX1_takesAlone]
def wsX5_isFitted_r3 : List Cond := [Cond.instanceMethod yX1_takesAlone, Cond.selects RX1 yX1_takesAlone yX1_takesAlone, Cond.code yX1_takesAlone cX1_takesAlone 5 (some .boolean), Cond.fieldLink RX1 20 "ExampleDrawers$Example" "firsts" "LExampleDrawers$Numbers;", Cond.fieldLink RX1 23 "ExampleDrawers$Example" "seconds" "LExampleDrawers$Numbers;", Cond.methodLink RX5 82 yX1_firstAt, Cond.instanceMethod yX1_firstAt, Cond.selects RX1 yX1_firstAt yX1_firstAt, Cond.code yX1_firstAt cX1_firstAt 2 (some .int), Cond.methodLink RX5 63 yX3_at]
def wsX5_isFitted : List Cond := .code yX5_isFitted cX5_isFitted 8 (some .boolean) :: ((wsX5_isFitted_r1 ++ (wsX5_isFitted_r2 ++ wsX5_isFitted_r3)) ++ wsX50 ++ wsX60 ++ wsX00 ++ wsX30 ++ wsX10)
def wsX5_firstMisfit_r1 : List Cond := [Cond.fieldLink RX5 33 "ExampleDrawers$Rows" "state" "LExampleDrawers$State;", Cond.fieldLink RX5 30 "ExampleDrawers$Rows" "leftOut" "I", Cond.methodLink RX5 73 yX6_isAsked, Cond.instanceMethod yX6_isAsked, Cond.selects RX6 yX6_isAsked yX6_isAsked, Cond.initialized RX6, Cond.code yX6_isAsked cX6_isAsked 2 (some .boolean), Cond.fieldLink RX6 12 "ExampleDrawers$State" "drawer0" "LExampleDrawers$Drawer;", Cond.fieldLink RX6 18 "ExampleDrawers$State" "drawer1" "LExampleDrawers$Drawer;", Cond.methodLink RX6 47 yX0_hasColumn, Cond.instanceMethod yX0_hasColumn, Cond.selects RX0 yX0_hasColumn yX0_hasColumn, Cond.initialized RX0, Cond.code yX0_hasColumn cX0_hasColumn 2 (some .boolean), Cond.fieldLink RX0 27 "ExampleDrawers$Drawer" "width" "I", Cond.methodLink RX6 51 yX6_isOfBoth, Cond.instanceMethod yX6_isOfBoth, Cond.selects RX6 yX6_isOfBoth yX6_isOfBoth, Cond.code yX6_isOfBoth cX6_isOfBoth 1 (some .boolean), Cond.fieldLink RX6 33 "ExampleDrawers$State" "asksBoth" "I", Cond.methodLink RX5 85 yX5_isFitted, Cond.instanceMethod yX5_isFitted, Cond.selects RX5 yX5_isFitted yX5_isFitted, Cond.initialized RX5]
def wsX5_firstMisfit_r2 : List Cond := [Cond.code yX5_isFitted cX5_isFitted 8 (some .boolean), Cond.fieldLink RX5 23 "ExampleDrawers$Rows" "tellers" "LExampleDrawers$Numbers;", Cond.methodLink RX5 69 yX6_exampleOf, Cond.instanceMethod yX6_exampleOf, Cond.selects RX6 yX6_exampleOf yX6_exampleOf, Cond.code yX6_exampleOf cX6_exampleOf 2 (some (.object "ExampleDrawers$Example")), Cond.methodLink RX6 62 yX0_example, Cond.instanceMethod yX0_example, Cond.selects RX0 yX0_example yX0_example, Cond.code yX0_example cX0_example 1 (some (.object "ExampleDrawers$Example")), Cond.fieldLink RX0 23 "ExampleDrawers$Drawer" "example" "LExampleDrawers$Example;", Cond.methodLink RX5 89 yX6_entry, Cond.instanceMethod yX6_entry, Cond.selects RX6 yX6_entry yX6_entry, Cond.code yX6_entry cX6_entry 3 (some .int), Cond.methodLink RX6 58 yX0_entry, Cond.instanceMethod yX0_entry, Cond.selects RX0 yX0_entry yX0_entry, Cond.code yX0_entry cX0_entry 3 (some .int), Cond.fieldLink RX0 14 "ExampleDrawers$Drawer" "entries" "LExampleDrawers$Numbers;", Cond.methodLink RX0 34 yX0_hasCard, Cond.instanceMethod yX0_hasCard, Cond.selects RX0 yX0_hasCard yX0_hasCard, Cond.code yX0_hasCard cX0_hasCard 2 (some .boolean)]
def wsX5_firstMisfit_r3 : List Cond := [Cond.fieldLink RX0 31 "ExampleDrawers$Drawer" "size" "I", Cond.methodLink RX0 38 yX0_hasColumn, Cond.methodLink RX0 41 yX3_at, Cond.instanceMethod yX3_at, Cond.selects RX3 yX3_at yX3_at, Cond.initialized RX3, Cond.code yX3_at cX3_at 2 (some .int), Cond.fieldLink RX3 13 "ExampleDrawers$Numbers" "held" "[I", Cond.methodLink RX5 77 yX1_kindAt, Cond.instanceMethod yX1_kindAt, Cond.selects RX1 yX1_kindAt yX1_kindAt, Cond.initialized RX1, Cond.code yX1_kindAt cX1_kindAt 2 (some .int), Cond.fieldLink RX1 14 "ExampleDrawers$Example" "kinds" "LExampleDrawers$Numbers;", Cond.methodLink RX1 26 yX3_at, Cond.methodLink RX5 93 yX1_takesAlone, Cond.instanceMethod yX1_takesAlone, Cond.selects RX1 yX1_takesAlone yX1_takesAlone, Cond.code yX1_takesAlone cX1_takesAlone 5 (some .boolean), Cond.fieldLink RX1 20 "ExampleDrawers$Example" "firsts" "LExampleDrawers$Numbers;", Cond.fieldLink RX1 23 "ExampleDrawers$Example" "seconds" "LExampleDrawers$Numbers;", Cond.methodLink RX5 82 yX1_firstAt, Cond.instanceMethod yX1_firstAt, Cond.selects RX1 yX1_firstAt yX1_firstAt]
def wsX5_firstMisfit_r4 : List Cond := [Cond.code yX1_firstAt cX1_firstAt 2 (some .int), Cond.methodLink RX5 63 yX3_at]
def wsX5_firstMisfit : List Cond := .code yX5_firstMisfit cX5_firstMisfit 3 (some .int) :: ((wsX5_firstMisfit_r1 ++ (wsX5_firstMisfit_r2 ++ (wsX5_firstMisfit_r3 ++ wsX5_firstMisfit_r4))) ++ wsX50 ++ wsX60 ++ wsX00 ++ wsX30 ++ wsX10)
def wsX5_find_r1 : List Cond := [Cond.fieldLink RX5 26 "ExampleDrawers$Rows" "size" "I", Cond.fieldLink RX5 33 "ExampleDrawers$Rows" "state" "LExampleDrawers$State;", Cond.fieldLink RX5 14 "ExampleDrawers$Rows" "found" "LExampleDrawers$Numbers;", Cond.methodLink RX5 37 yX5_findTellers, Cond.instanceMethod yX5_findTellers, Cond.selects RX5 yX5_findTellers yX5_findTellers, Cond.initialized RX5, Cond.code yX5_findTellers cX5_findTellers 6 none, Cond.fieldLink RX5 30 "ExampleDrawers$Rows" "leftOut" "I", Cond.fieldLink RX5 23 "ExampleDrawers$Rows" "tellers" "LExampleDrawers$Numbers;", Cond.methodLink RX5 66 yX3_fill, Cond.instanceMethod yX3_fill, Cond.selects RX3 yX3_fill yX3_fill, Cond.initialized RX3, Cond.code yX3_fill cX3_fill 3 none, Cond.fieldLink RX3 13 "ExampleDrawers$Numbers" "held" "[I", Cond.methodLink RX5 69 yX6_exampleOf, Cond.instanceMethod yX6_exampleOf, Cond.selects RX6 yX6_exampleOf yX6_exampleOf, Cond.initialized RX6, Cond.code yX6_exampleOf cX6_exampleOf 2 (some (.object "ExampleDrawers$Example")), Cond.fieldLink RX6 12 "ExampleDrawers$State" "drawer0" "LExampleDrawers$Drawer;", Cond.fieldLink RX6 18 "ExampleDrawers$State" "drawer1" "LExampleDrawers$Drawer;", Cond.methodLink RX6 62 yX0_example]
def wsX5_find_r2 : List Cond := [Cond.instanceMethod yX0_example, Cond.selects RX0 yX0_example yX0_example, Cond.initialized RX0, Cond.code yX0_example cX0_example 1 (some (.object "ExampleDrawers$Example")), Cond.fieldLink RX0 23 "ExampleDrawers$Drawer" "example" "LExampleDrawers$Example;", Cond.methodLink RX5 73 yX6_isAsked, Cond.instanceMethod yX6_isAsked, Cond.selects RX6 yX6_isAsked yX6_isAsked, Cond.code yX6_isAsked cX6_isAsked 2 (some .boolean), Cond.methodLink RX6 47 yX0_hasColumn, Cond.instanceMethod yX0_hasColumn, Cond.selects RX0 yX0_hasColumn yX0_hasColumn, Cond.code yX0_hasColumn cX0_hasColumn 2 (some .boolean), Cond.fieldLink RX0 27 "ExampleDrawers$Drawer" "width" "I", Cond.methodLink RX6 51 yX6_isOfBoth, Cond.instanceMethod yX6_isOfBoth, Cond.selects RX6 yX6_isOfBoth yX6_isOfBoth, Cond.code yX6_isOfBoth cX6_isOfBoth 1 (some .boolean), Cond.fieldLink RX6 33 "ExampleDrawers$State" "asksBoth" "I", Cond.methodLink RX5 77 yX1_kindAt, Cond.instanceMethod yX1_kindAt, Cond.selects RX1 yX1_kindAt yX1_kindAt, Cond.initialized RX1, Cond.code yX1_kindAt cX1_kindAt 2 (some .int)]
def wsX5_find_r3 : List Cond := [Cond.fieldLink RX1 14 "ExampleDrawers$Example" "kinds" "LExampleDrawers$Numbers;", Cond.methodLink RX1 26 yX3_at, Cond.instanceMethod yX3_at, Cond.selects RX3 yX3_at yX3_at, Cond.code yX3_at cX3_at 2 (some .int), Cond.methodLink RX5 82 yX1_firstAt, Cond.instanceMethod yX1_firstAt, Cond.selects RX1 yX1_firstAt yX1_firstAt, Cond.code yX1_firstAt cX1_firstAt 2 (some .int), Cond.fieldLink RX1 20 "ExampleDrawers$Example" "firsts" "LExampleDrawers$Numbers;", Cond.methodLink RX5 60 yX3_set, Cond.instanceMethod yX3_set, Cond.selects RX3 yX3_set yX3_set, Cond.code yX3_set cX3_set 3 none, Cond.methodLink RX5 41 yX6_drawer, Cond.instanceMethod yX6_drawer, Cond.selects RX6 yX6_drawer yX6_drawer, Cond.code yX6_drawer cX6_drawer 2 (some (.object "ExampleDrawers$Drawer")), Cond.methodLink RX5 47 yX0_size, Cond.instanceMethod yX0_size, Cond.selects RX0 yX0_size yX0_size, Cond.code yX0_size cX0_size 1 (some .int), Cond.fieldLink RX0 31 "ExampleDrawers$Drawer" "size" "I", Cond.methodLink RX5 52 yX6_isOfBoth]
def wsX5_find_r4 : List Cond := [Cond.methodLink RX5 56 yX5_firstMisfit, Cond.instanceMethod yX5_firstMisfit, Cond.selects RX5 yX5_firstMisfit yX5_firstMisfit, Cond.code yX5_firstMisfit cX5_firstMisfit 3 (some .int), Cond.methodLink RX5 85 yX5_isFitted, Cond.instanceMethod yX5_isFitted, Cond.selects RX5 yX5_isFitted yX5_isFitted, Cond.code yX5_isFitted cX5_isFitted 8 (some .boolean), Cond.methodLink RX5 89 yX6_entry, Cond.instanceMethod yX6_entry, Cond.selects RX6 yX6_entry yX6_entry, Cond.code yX6_entry cX6_entry 3 (some .int), Cond.methodLink RX6 58 yX0_entry, Cond.instanceMethod yX0_entry, Cond.selects RX0 yX0_entry yX0_entry, Cond.code yX0_entry cX0_entry 3 (some .int), Cond.fieldLink RX0 14 "ExampleDrawers$Drawer" "entries" "LExampleDrawers$Numbers;", Cond.methodLink RX0 34 yX0_hasCard, Cond.instanceMethod yX0_hasCard, Cond.selects RX0 yX0_hasCard yX0_hasCard, Cond.code yX0_hasCard cX0_hasCard 2 (some .boolean), Cond.methodLink RX0 38 yX0_hasColumn, Cond.methodLink RX0 41 yX3_at, Cond.methodLink RX5 93 yX1_takesAlone]
def wsX5_find_r5 : List Cond := [Cond.instanceMethod yX1_takesAlone, Cond.selects RX1 yX1_takesAlone yX1_takesAlone, Cond.code yX1_takesAlone cX1_takesAlone 5 (some .boolean), Cond.fieldLink RX1 23 "ExampleDrawers$Example" "seconds" "LExampleDrawers$Numbers;", Cond.methodLink RX5 63 yX3_at]
def wsX5_find : List Cond := .code yX5_find cX5_find 7 (some .int) :: ((wsX5_find_r1 ++ (wsX5_find_r2 ++ (wsX5_find_r3 ++ (wsX5_find_r4 ++ wsX5_find_r5)))) ++ wsX50 ++ wsX30 ++ wsX60 ++ wsX00 ++ wsX10)
def wsX5_explain_r1 : List Cond := [Cond.methodLink RX5 37 yX5_findTellers, Cond.instanceMethod yX5_findTellers, Cond.selects RX5 yX5_findTellers yX5_findTellers, Cond.initialized RX5, Cond.code yX5_findTellers cX5_findTellers 6 none, Cond.fieldLink RX5 30 "ExampleDrawers$Rows" "leftOut" "I", Cond.fieldLink RX5 23 "ExampleDrawers$Rows" "tellers" "LExampleDrawers$Numbers;", Cond.fieldLink RX5 33 "ExampleDrawers$Rows" "state" "LExampleDrawers$State;", Cond.methodLink RX5 66 yX3_fill, Cond.instanceMethod yX3_fill, Cond.selects RX3 yX3_fill yX3_fill, Cond.initialized RX3, Cond.code yX3_fill cX3_fill 3 none, Cond.fieldLink RX3 13 "ExampleDrawers$Numbers" "held" "[I", Cond.methodLink RX5 69 yX6_exampleOf, Cond.instanceMethod yX6_exampleOf, Cond.selects RX6 yX6_exampleOf yX6_exampleOf, Cond.initialized RX6, Cond.code yX6_exampleOf cX6_exampleOf 2 (some (.object "ExampleDrawers$Example")), Cond.fieldLink RX6 12 "ExampleDrawers$State" "drawer0" "LExampleDrawers$Drawer;", Cond.fieldLink RX6 18 "ExampleDrawers$State" "drawer1" "LExampleDrawers$Drawer;", Cond.methodLink RX6 62 yX0_example, Cond.instanceMethod yX0_example, Cond.selects RX0 yX0_example yX0_example]
def wsX5_explain_r2 : List Cond := [Cond.initialized RX0, Cond.code yX0_example cX0_example 1 (some (.object "ExampleDrawers$Example")), Cond.fieldLink RX0 23 "ExampleDrawers$Drawer" "example" "LExampleDrawers$Example;", Cond.methodLink RX5 73 yX6_isAsked, Cond.instanceMethod yX6_isAsked, Cond.selects RX6 yX6_isAsked yX6_isAsked, Cond.code yX6_isAsked cX6_isAsked 2 (some .boolean), Cond.methodLink RX6 47 yX0_hasColumn, Cond.instanceMethod yX0_hasColumn, Cond.selects RX0 yX0_hasColumn yX0_hasColumn, Cond.code yX0_hasColumn cX0_hasColumn 2 (some .boolean), Cond.fieldLink RX0 27 "ExampleDrawers$Drawer" "width" "I", Cond.methodLink RX6 51 yX6_isOfBoth, Cond.instanceMethod yX6_isOfBoth, Cond.selects RX6 yX6_isOfBoth yX6_isOfBoth, Cond.code yX6_isOfBoth cX6_isOfBoth 1 (some .boolean), Cond.fieldLink RX6 33 "ExampleDrawers$State" "asksBoth" "I", Cond.methodLink RX5 77 yX1_kindAt, Cond.instanceMethod yX1_kindAt, Cond.selects RX1 yX1_kindAt yX1_kindAt, Cond.initialized RX1, Cond.code yX1_kindAt cX1_kindAt 2 (some .int), Cond.fieldLink RX1 14 "ExampleDrawers$Example" "kinds" "LExampleDrawers$Numbers;", Cond.methodLink RX1 26 yX3_at]
def wsX5_explain_r3 : List Cond := [Cond.instanceMethod yX3_at, Cond.selects RX3 yX3_at yX3_at, Cond.code yX3_at cX3_at 2 (some .int), Cond.methodLink RX5 82 yX1_firstAt, Cond.instanceMethod yX1_firstAt, Cond.selects RX1 yX1_firstAt yX1_firstAt, Cond.code yX1_firstAt cX1_firstAt 2 (some .int), Cond.fieldLink RX1 20 "ExampleDrawers$Example" "firsts" "LExampleDrawers$Numbers;", Cond.methodLink RX5 60 yX3_set, Cond.instanceMethod yX3_set, Cond.selects RX3 yX3_set yX3_set, Cond.code yX3_set cX3_set 3 none, Cond.methodLink RX5 56 yX5_firstMisfit, Cond.instanceMethod yX5_firstMisfit, Cond.selects RX5 yX5_firstMisfit yX5_firstMisfit, Cond.code yX5_firstMisfit cX5_firstMisfit 3 (some .int), Cond.methodLink RX5 85 yX5_isFitted, Cond.instanceMethod yX5_isFitted, Cond.selects RX5 yX5_isFitted yX5_isFitted, Cond.code yX5_isFitted cX5_isFitted 8 (some .boolean), Cond.methodLink RX5 89 yX6_entry, Cond.instanceMethod yX6_entry, Cond.selects RX6 yX6_entry yX6_entry, Cond.code yX6_entry cX6_entry 3 (some .int)]
def wsX5_explain_r4 : List Cond := [Cond.methodLink RX6 58 yX0_entry, Cond.instanceMethod yX0_entry, Cond.selects RX0 yX0_entry yX0_entry, Cond.code yX0_entry cX0_entry 3 (some .int), Cond.fieldLink RX0 14 "ExampleDrawers$Drawer" "entries" "LExampleDrawers$Numbers;", Cond.methodLink RX0 34 yX0_hasCard, Cond.instanceMethod yX0_hasCard, Cond.selects RX0 yX0_hasCard yX0_hasCard, Cond.code yX0_hasCard cX0_hasCard 2 (some .boolean), Cond.fieldLink RX0 31 "ExampleDrawers$Drawer" "size" "I", Cond.methodLink RX0 38 yX0_hasColumn, Cond.methodLink RX0 41 yX3_at, Cond.methodLink RX5 93 yX1_takesAlone, Cond.instanceMethod yX1_takesAlone, Cond.selects RX1 yX1_takesAlone yX1_takesAlone, Cond.code yX1_takesAlone cX1_takesAlone 5 (some .boolean), Cond.fieldLink RX1 23 "ExampleDrawers$Example" "seconds" "LExampleDrawers$Numbers;", Cond.methodLink RX5 63 yX3_at]
def wsX5_explain : List Cond := .code yX5_explain cX5_explain 2 (some .int) :: ((wsX5_explain_r1 ++ (wsX5_explain_r2 ++ (wsX5_explain_r3 ++ wsX5_explain_r4))) ++ wsX50 ++ wsX30 ++ wsX60 ++ wsX00 ++ wsX10)
def wsX5_tellerOf : List Cond := .code yX5_tellerOf cX5_tellerOf 2 (some .int) :: ([.fieldLink RX5 23 "ExampleDrawers$Rows" "tellers" "LExampleDrawers$Numbers;", .methodLink RX5 63 yX3_at, .instanceMethod yX3_at, .selects RX3 yX3_at yX3_at, .initialized RX3, .code yX3_at cX3_at 2 (some .int), .fieldLink RX3 13 "ExampleDrawers$Numbers" "held" "[I"] ++ wsX50 ++ wsX30)
def wsX6_orderColumn : List Cond := .code yX6_orderColumn cX6_orderColumn 2 (some .int) :: ([.fieldLink RX6 26 "ExampleDrawers$State" "orderColumns" "LExampleDrawers$Numbers;", .methodLink RX6 40 yX3_at, .instanceMethod yX3_at, .selects RX3 yX3_at yX3_at, .initialized RX3, .code yX3_at cX3_at 2 (some .int), .fieldLink RX3 13 "ExampleDrawers$Numbers" "held" "[I"] ++ wsX60 ++ wsX30)
def wsX6_isDownwards : List Cond := .code yX6_isDownwards cX6_isDownwards 2 (some .boolean) :: ([.fieldLink RX6 30 "ExampleDrawers$State" "orderDowns" "LExampleDrawers$Numbers;", .methodLink RX6 40 yX3_at, .instanceMethod yX3_at, .selects RX3 yX3_at yX3_at, .initialized RX3, .code yX3_at cX3_at 2 (some .int), .fieldLink RX3 13 "ExampleDrawers$Numbers" "held" "[I"] ++ wsX60 ++ wsX30)
def wsX5_compareBy_r1 : List Cond := [Cond.fieldLink RX5 33 "ExampleDrawers$Rows" "state" "LExampleDrawers$State;", Cond.methodLink RX5 103 yX6_orderColumn, Cond.instanceMethod yX6_orderColumn, Cond.selects RX6 yX6_orderColumn yX6_orderColumn, Cond.initialized RX6, Cond.code yX6_orderColumn cX6_orderColumn 2 (some .int), Cond.fieldLink RX6 26 "ExampleDrawers$State" "orderColumns" "LExampleDrawers$Numbers;", Cond.methodLink RX6 40 yX3_at, Cond.instanceMethod yX3_at, Cond.selects RX3 yX3_at yX3_at, Cond.initialized RX3, Cond.code yX3_at cX3_at 2 (some .int), Cond.fieldLink RX3 13 "ExampleDrawers$Numbers" "held" "[I", Cond.methodLink RX5 73 yX6_isAsked, Cond.instanceMethod yX6_isAsked, Cond.selects RX6 yX6_isAsked yX6_isAsked, Cond.code yX6_isAsked cX6_isAsked 2 (some .boolean), Cond.fieldLink RX6 12 "ExampleDrawers$State" "drawer0" "LExampleDrawers$Drawer;", Cond.fieldLink RX6 18 "ExampleDrawers$State" "drawer1" "LExampleDrawers$Drawer;", Cond.methodLink RX6 47 yX0_hasColumn, Cond.instanceMethod yX0_hasColumn, Cond.selects RX0 yX0_hasColumn yX0_hasColumn, Cond.initialized RX0, Cond.code yX0_hasColumn cX0_hasColumn 2 (some .boolean)]
def wsX5_compareBy_r2 : List Cond := [Cond.fieldLink RX0 27 "ExampleDrawers$Drawer" "width" "I", Cond.methodLink RX6 51 yX6_isOfBoth, Cond.instanceMethod yX6_isOfBoth, Cond.selects RX6 yX6_isOfBoth yX6_isOfBoth, Cond.code yX6_isOfBoth cX6_isOfBoth 1 (some .boolean), Cond.fieldLink RX6 33 "ExampleDrawers$State" "asksBoth" "I", Cond.methodLink RX5 89 yX6_entry, Cond.instanceMethod yX6_entry, Cond.selects RX6 yX6_entry yX6_entry, Cond.code yX6_entry cX6_entry 3 (some .int), Cond.methodLink RX6 58 yX0_entry, Cond.instanceMethod yX0_entry, Cond.selects RX0 yX0_entry yX0_entry, Cond.code yX0_entry cX0_entry 3 (some .int), Cond.fieldLink RX0 14 "ExampleDrawers$Drawer" "entries" "LExampleDrawers$Numbers;", Cond.methodLink RX0 34 yX0_hasCard, Cond.instanceMethod yX0_hasCard, Cond.selects RX0 yX0_hasCard yX0_hasCard, Cond.code yX0_hasCard cX0_hasCard 2 (some .boolean), Cond.fieldLink RX0 31 "ExampleDrawers$Drawer" "size" "I", Cond.methodLink RX0 38 yX0_hasColumn, Cond.methodLink RX0 41 yX3_at, Cond.methodLink RX5 106 yX6_isDownwards, Cond.instanceMethod yX6_isDownwards]
def wsX5_compareBy_r3 : List Cond := [Cond.selects RX6 yX6_isDownwards yX6_isDownwards, Cond.code yX6_isDownwards cX6_isDownwards 2 (some .boolean), Cond.fieldLink RX6 30 "ExampleDrawers$State" "orderDowns" "LExampleDrawers$Numbers;"]
def wsX5_compareBy : List Cond := .code yX5_compareBy cX5_compareBy 6 (some .int) :: ((wsX5_compareBy_r1 ++ (wsX5_compareBy_r2 ++ wsX5_compareBy_r3)) ++ wsX50 ++ wsX60 ++ wsX30 ++ wsX00)
def wsX5_isAhead_r1 : List Cond := [Cond.methodLink RX5 99 yX5_compareBy, Cond.instanceMethod yX5_compareBy, Cond.selects RX5 yX5_compareBy yX5_compareBy, Cond.initialized RX5, Cond.code yX5_compareBy cX5_compareBy 6 (some .int), Cond.fieldLink RX5 33 "ExampleDrawers$Rows" "state" "LExampleDrawers$State;", Cond.methodLink RX5 103 yX6_orderColumn, Cond.instanceMethod yX6_orderColumn, Cond.selects RX6 yX6_orderColumn yX6_orderColumn, Cond.initialized RX6, Cond.code yX6_orderColumn cX6_orderColumn 2 (some .int), Cond.fieldLink RX6 26 "ExampleDrawers$State" "orderColumns" "LExampleDrawers$Numbers;", Cond.methodLink RX6 40 yX3_at, Cond.instanceMethod yX3_at, Cond.selects RX3 yX3_at yX3_at, Cond.initialized RX3, Cond.code yX3_at cX3_at 2 (some .int), Cond.fieldLink RX3 13 "ExampleDrawers$Numbers" "held" "[I", Cond.methodLink RX5 73 yX6_isAsked, Cond.instanceMethod yX6_isAsked, Cond.selects RX6 yX6_isAsked yX6_isAsked, Cond.code yX6_isAsked cX6_isAsked 2 (some .boolean), Cond.fieldLink RX6 12 "ExampleDrawers$State" "drawer0" "LExampleDrawers$Drawer;", Cond.fieldLink RX6 18 "ExampleDrawers$State" "drawer1" "LExampleDrawers$Drawer;"]
def wsX5_isAhead_r2 : List Cond := [Cond.methodLink RX6 47 yX0_hasColumn, Cond.instanceMethod yX0_hasColumn, Cond.selects RX0 yX0_hasColumn yX0_hasColumn, Cond.initialized RX0, Cond.code yX0_hasColumn cX0_hasColumn 2 (some .boolean), Cond.fieldLink RX0 27 "ExampleDrawers$Drawer" "width" "I", Cond.methodLink RX6 51 yX6_isOfBoth, Cond.instanceMethod yX6_isOfBoth, Cond.selects RX6 yX6_isOfBoth yX6_isOfBoth, Cond.code yX6_isOfBoth cX6_isOfBoth 1 (some .boolean), Cond.fieldLink RX6 33 "ExampleDrawers$State" "asksBoth" "I", Cond.methodLink RX5 89 yX6_entry, Cond.instanceMethod yX6_entry, Cond.selects RX6 yX6_entry yX6_entry, Cond.code yX6_entry cX6_entry 3 (some .int), Cond.methodLink RX6 58 yX0_entry, Cond.instanceMethod yX0_entry, Cond.selects RX0 yX0_entry yX0_entry, Cond.code yX0_entry cX0_entry 3 (some .int), Cond.fieldLink RX0 14 "ExampleDrawers$Drawer" "entries" "LExampleDrawers$Numbers;", Cond.methodLink RX0 34 yX0_hasCard, Cond.instanceMethod yX0_hasCard, Cond.selects RX0 yX0_hasCard yX0_hasCard, Cond.code yX0_hasCard cX0_hasCard 2 (some .boolean)]
def wsX5_isAhead_r3 : List Cond := [Cond.fieldLink RX0 31 "ExampleDrawers$Drawer" "size" "I", Cond.methodLink RX0 38 yX0_hasColumn, Cond.methodLink RX0 41 yX3_at, Cond.methodLink RX5 106 yX6_isDownwards, Cond.instanceMethod yX6_isDownwards, Cond.selects RX6 yX6_isDownwards yX6_isDownwards, Cond.code yX6_isDownwards cX6_isDownwards 2 (some .boolean), Cond.fieldLink RX6 30 "ExampleDrawers$State" "orderDowns" "LExampleDrawers$Numbers;"]
def wsX5_isAhead : List Cond := .code yX5_isAhead cX5_isAhead 4 (some .boolean) :: ((wsX5_isAhead_r1 ++ (wsX5_isAhead_r2 ++ wsX5_isAhead_r3)) ++ wsX50 ++ wsX60 ++ wsX30 ++ wsX00)
def wsX5_inOrder_r1 : List Cond := [Cond.fieldLink RX5 26 "ExampleDrawers$Rows" "size" "I", Cond.fieldLink RX5 14 "ExampleDrawers$Rows" "found" "LExampleDrawers$Numbers;", Cond.methodLink RX5 63 yX3_at, Cond.instanceMethod yX3_at, Cond.selects RX3 yX3_at yX3_at, Cond.initialized RX3, Cond.code yX3_at cX3_at 2 (some .int), Cond.fieldLink RX3 13 "ExampleDrawers$Numbers" "held" "[I", Cond.methodLink RX5 96 yX5_isAhead, Cond.instanceMethod yX5_isAhead, Cond.selects RX5 yX5_isAhead yX5_isAhead, Cond.initialized RX5, Cond.code yX5_isAhead cX5_isAhead 4 (some .boolean), Cond.methodLink RX5 99 yX5_compareBy, Cond.instanceMethod yX5_compareBy, Cond.selects RX5 yX5_compareBy yX5_compareBy, Cond.code yX5_compareBy cX5_compareBy 6 (some .int), Cond.fieldLink RX5 33 "ExampleDrawers$Rows" "state" "LExampleDrawers$State;", Cond.methodLink RX5 103 yX6_orderColumn, Cond.instanceMethod yX6_orderColumn, Cond.selects RX6 yX6_orderColumn yX6_orderColumn, Cond.initialized RX6, Cond.code yX6_orderColumn cX6_orderColumn 2 (some .int), Cond.fieldLink RX6 26 "ExampleDrawers$State" "orderColumns" "LExampleDrawers$Numbers;"]
def wsX5_inOrder_r2 : List Cond := [Cond.methodLink RX6 40 yX3_at, Cond.methodLink RX5 73 yX6_isAsked, Cond.instanceMethod yX6_isAsked, Cond.selects RX6 yX6_isAsked yX6_isAsked, Cond.code yX6_isAsked cX6_isAsked 2 (some .boolean), Cond.fieldLink RX6 12 "ExampleDrawers$State" "drawer0" "LExampleDrawers$Drawer;", Cond.fieldLink RX6 18 "ExampleDrawers$State" "drawer1" "LExampleDrawers$Drawer;", Cond.methodLink RX6 47 yX0_hasColumn, Cond.instanceMethod yX0_hasColumn, Cond.selects RX0 yX0_hasColumn yX0_hasColumn, Cond.initialized RX0, Cond.code yX0_hasColumn cX0_hasColumn 2 (some .boolean), Cond.fieldLink RX0 27 "ExampleDrawers$Drawer" "width" "I", Cond.methodLink RX6 51 yX6_isOfBoth, Cond.instanceMethod yX6_isOfBoth, Cond.selects RX6 yX6_isOfBoth yX6_isOfBoth, Cond.code yX6_isOfBoth cX6_isOfBoth 1 (some .boolean), Cond.fieldLink RX6 33 "ExampleDrawers$State" "asksBoth" "I", Cond.methodLink RX5 89 yX6_entry, Cond.instanceMethod yX6_entry, Cond.selects RX6 yX6_entry yX6_entry, Cond.code yX6_entry cX6_entry 3 (some .int), Cond.methodLink RX6 58 yX0_entry, Cond.instanceMethod yX0_entry]
def wsX5_inOrder_r3 : List Cond := [Cond.selects RX0 yX0_entry yX0_entry, Cond.code yX0_entry cX0_entry 3 (some .int), Cond.fieldLink RX0 14 "ExampleDrawers$Drawer" "entries" "LExampleDrawers$Numbers;", Cond.methodLink RX0 34 yX0_hasCard, Cond.instanceMethod yX0_hasCard, Cond.selects RX0 yX0_hasCard yX0_hasCard, Cond.code yX0_hasCard cX0_hasCard 2 (some .boolean), Cond.fieldLink RX0 31 "ExampleDrawers$Drawer" "size" "I", Cond.methodLink RX0 38 yX0_hasColumn, Cond.methodLink RX0 41 yX3_at, Cond.methodLink RX5 106 yX6_isDownwards, Cond.instanceMethod yX6_isDownwards, Cond.selects RX6 yX6_isDownwards yX6_isDownwards, Cond.code yX6_isDownwards cX6_isDownwards 2 (some .boolean), Cond.fieldLink RX6 30 "ExampleDrawers$State" "orderDowns" "LExampleDrawers$Numbers;", Cond.methodLink RX5 60 yX3_set, Cond.instanceMethod yX3_set, Cond.selects RX3 yX3_set yX3_set, Cond.code yX3_set cX3_set 3 none]
def wsX5_inOrder : List Cond := .code yX5_inOrder cX5_inOrder 5 (some .int) :: ((wsX5_inOrder_r1 ++ (wsX5_inOrder_r2 ++ wsX5_inOrder_r3)) ++ wsX50 ++ wsX30 ++ wsX60 ++ wsX00)
def wsX5_markNew : List Cond := .code yX5_markNew cX5_markNew 3 (some .int) :: ([.fieldLink RX5 20 "ExampleDrawers$Rows" "marks" "LExampleDrawers$Numbers;", .methodLink RX5 63 yX3_at, .instanceMethod yX3_at, .selects RX3 yX3_at yX3_at, .initialized RX3, .code yX3_at cX3_at 2 (some .int), .fieldLink RX3 13 "ExampleDrawers$Numbers" "held" "[I", .methodLink RX5 60 yX3_set, .instanceMethod yX3_set, .selects RX3 yX3_set yX3_set, .code yX3_set cX3_set 3 none] ++ wsX50 ++ wsX30)
def wsX5_sumUp_r1 : List Cond := [Cond.fieldLink RX5 20 "ExampleDrawers$Rows" "marks" "LExampleDrawers$Numbers;", Cond.fieldLink RX5 26 "ExampleDrawers$Rows" "size" "I", Cond.fieldLink RX5 33 "ExampleDrawers$Rows" "state" "LExampleDrawers$State;", Cond.fieldLink RX5 14 "ExampleDrawers$Rows" "found" "LExampleDrawers$Numbers;", Cond.methodLink RX5 112 Lib.Math.min.name, Cond.static Lib.Math.min.name, Cond.initialized "java/lang/Math", Cond.code Lib.Math.min.name Lib.Math.min.code 2 (some .int), Cond.methodLink RX5 117 Lib.Math.max.name, Cond.static Lib.Math.max.name, Cond.code Lib.Math.max.name Lib.Math.max.code 2 (some .int), Cond.methodLink RX5 109 yX5_find, Cond.instanceMethod yX5_find, Cond.selects RX5 yX5_find yX5_find, Cond.initialized RX5, Cond.code yX5_find cX5_find 7 (some .int), Cond.methodLink RX5 37 yX5_findTellers, Cond.instanceMethod yX5_findTellers, Cond.selects RX5 yX5_findTellers yX5_findTellers, Cond.code yX5_findTellers cX5_findTellers 6 none, Cond.fieldLink RX5 30 "ExampleDrawers$Rows" "leftOut" "I", Cond.fieldLink RX5 23 "ExampleDrawers$Rows" "tellers" "LExampleDrawers$Numbers;", Cond.methodLink RX5 66 yX3_fill, Cond.instanceMethod yX3_fill]
def wsX5_sumUp_r2 : List Cond := [Cond.selects RX3 yX3_fill yX3_fill, Cond.initialized RX3, Cond.code yX3_fill cX3_fill 3 none, Cond.fieldLink RX3 13 "ExampleDrawers$Numbers" "held" "[I", Cond.methodLink RX5 69 yX6_exampleOf, Cond.instanceMethod yX6_exampleOf, Cond.selects RX6 yX6_exampleOf yX6_exampleOf, Cond.initialized RX6, Cond.code yX6_exampleOf cX6_exampleOf 2 (some (.object "ExampleDrawers$Example")), Cond.fieldLink RX6 12 "ExampleDrawers$State" "drawer0" "LExampleDrawers$Drawer;", Cond.fieldLink RX6 18 "ExampleDrawers$State" "drawer1" "LExampleDrawers$Drawer;", Cond.methodLink RX6 62 yX0_example, Cond.instanceMethod yX0_example, Cond.selects RX0 yX0_example yX0_example, Cond.initialized RX0, Cond.code yX0_example cX0_example 1 (some (.object "ExampleDrawers$Example")), Cond.fieldLink RX0 23 "ExampleDrawers$Drawer" "example" "LExampleDrawers$Example;", Cond.methodLink RX5 73 yX6_isAsked, Cond.instanceMethod yX6_isAsked, Cond.selects RX6 yX6_isAsked yX6_isAsked, Cond.code yX6_isAsked cX6_isAsked 2 (some .boolean), Cond.methodLink RX6 47 yX0_hasColumn, Cond.instanceMethod yX0_hasColumn, Cond.selects RX0 yX0_hasColumn yX0_hasColumn]
def wsX5_sumUp_r3 : List Cond := [Cond.code yX0_hasColumn cX0_hasColumn 2 (some .boolean), Cond.fieldLink RX0 27 "ExampleDrawers$Drawer" "width" "I", Cond.methodLink RX6 51 yX6_isOfBoth, Cond.instanceMethod yX6_isOfBoth, Cond.selects RX6 yX6_isOfBoth yX6_isOfBoth, Cond.code yX6_isOfBoth cX6_isOfBoth 1 (some .boolean), Cond.fieldLink RX6 33 "ExampleDrawers$State" "asksBoth" "I", Cond.methodLink RX5 77 yX1_kindAt, Cond.instanceMethod yX1_kindAt, Cond.selects RX1 yX1_kindAt yX1_kindAt, Cond.initialized RX1, Cond.code yX1_kindAt cX1_kindAt 2 (some .int), Cond.fieldLink RX1 14 "ExampleDrawers$Example" "kinds" "LExampleDrawers$Numbers;", Cond.methodLink RX1 26 yX3_at, Cond.instanceMethod yX3_at, Cond.selects RX3 yX3_at yX3_at, Cond.code yX3_at cX3_at 2 (some .int), Cond.methodLink RX5 82 yX1_firstAt, Cond.instanceMethod yX1_firstAt, Cond.selects RX1 yX1_firstAt yX1_firstAt, Cond.code yX1_firstAt cX1_firstAt 2 (some .int), Cond.fieldLink RX1 20 "ExampleDrawers$Example" "firsts" "LExampleDrawers$Numbers;", Cond.methodLink RX5 60 yX3_set, Cond.instanceMethod yX3_set]
def wsX5_sumUp_r4 : List Cond := [Cond.selects RX3 yX3_set yX3_set, Cond.code yX3_set cX3_set 3 none, Cond.methodLink RX5 41 yX6_drawer, Cond.instanceMethod yX6_drawer, Cond.selects RX6 yX6_drawer yX6_drawer, Cond.code yX6_drawer cX6_drawer 2 (some (.object "ExampleDrawers$Drawer")), Cond.methodLink RX5 47 yX0_size, Cond.instanceMethod yX0_size, Cond.selects RX0 yX0_size yX0_size, Cond.code yX0_size cX0_size 1 (some .int), Cond.fieldLink RX0 31 "ExampleDrawers$Drawer" "size" "I", Cond.methodLink RX5 52 yX6_isOfBoth, Cond.methodLink RX5 56 yX5_firstMisfit, Cond.instanceMethod yX5_firstMisfit, Cond.selects RX5 yX5_firstMisfit yX5_firstMisfit, Cond.code yX5_firstMisfit cX5_firstMisfit 3 (some .int), Cond.methodLink RX5 85 yX5_isFitted, Cond.instanceMethod yX5_isFitted, Cond.selects RX5 yX5_isFitted yX5_isFitted, Cond.code yX5_isFitted cX5_isFitted 8 (some .boolean), Cond.methodLink RX5 89 yX6_entry, Cond.instanceMethod yX6_entry, Cond.selects RX6 yX6_entry yX6_entry, Cond.code yX6_entry cX6_entry 3 (some .int)]
def wsX5_sumUp_r5 : List Cond := [Cond.methodLink RX6 58 yX0_entry, Cond.instanceMethod yX0_entry, Cond.selects RX0 yX0_entry yX0_entry, Cond.code yX0_entry cX0_entry 3 (some .int), Cond.fieldLink RX0 14 "ExampleDrawers$Drawer" "entries" "LExampleDrawers$Numbers;", Cond.methodLink RX0 34 yX0_hasCard, Cond.instanceMethod yX0_hasCard, Cond.selects RX0 yX0_hasCard yX0_hasCard, Cond.code yX0_hasCard cX0_hasCard 2 (some .boolean), Cond.methodLink RX0 38 yX0_hasColumn, Cond.methodLink RX0 41 yX3_at, Cond.methodLink RX5 93 yX1_takesAlone, Cond.instanceMethod yX1_takesAlone, Cond.selects RX1 yX1_takesAlone yX1_takesAlone, Cond.code yX1_takesAlone cX1_takesAlone 5 (some .boolean), Cond.fieldLink RX1 23 "ExampleDrawers$Example" "seconds" "LExampleDrawers$Numbers;", Cond.methodLink RX5 63 yX3_at, Cond.methodLink RX5 120 yX5_markNew, Cond.instanceMethod yX5_markNew, Cond.selects RX5 yX5_markNew yX5_markNew, Cond.code yX5_markNew cX5_markNew 3 (some .int)]
def wsX5_sumUp : List Cond := .code yX5_sumUp cX5_sumUp 10 (some .int) :: ((wsX5_sumUp_r1 ++ (wsX5_sumUp_r2 ++ (wsX5_sumUp_r3 ++ (wsX5_sumUp_r4 ++ wsX5_sumUp_r5)))) ++ wsX50 ++ wsX30 ++ wsX60 ++ wsX00 ++ wsX10)
def wsX6_isShown : List Cond := .code yX6_isShown cX6_isShown 2 (some .boolean) :: ([.fieldLink RX6 37 "ExampleDrawers$State" "shown" "I", .methodLink RX6 55 yX6_isAsked, .instanceMethod yX6_isAsked, .selects RX6 yX6_isAsked yX6_isAsked, .initialized RX6, .code yX6_isAsked cX6_isAsked 2 (some .boolean), .fieldLink RX6 12 "ExampleDrawers$State" "drawer0" "LExampleDrawers$Drawer;", .fieldLink RX6 18 "ExampleDrawers$State" "drawer1" "LExampleDrawers$Drawer;", .methodLink RX6 47 yX0_hasColumn, .instanceMethod yX0_hasColumn, .selects RX0 yX0_hasColumn yX0_hasColumn, .initialized RX0, .code yX0_hasColumn cX0_hasColumn 2 (some .boolean), .fieldLink RX0 27 "ExampleDrawers$Drawer" "width" "I", .methodLink RX6 51 yX6_isOfBoth, .instanceMethod yX6_isOfBoth, .selects RX6 yX6_isOfBoth yX6_isOfBoth, .code yX6_isOfBoth cX6_isOfBoth 1 (some .boolean), .fieldLink RX6 33 "ExampleDrawers$State" "asksBoth" "I"] ++ wsX60 ++ wsX00)
def wsX5_isAlike_r1 : List Cond := [Cond.fieldLink RX5 33 "ExampleDrawers$Rows" "state" "LExampleDrawers$State;", Cond.methodLink RX5 41 yX6_drawer, Cond.instanceMethod yX6_drawer, Cond.selects RX6 yX6_drawer yX6_drawer, Cond.initialized RX6, Cond.code yX6_drawer cX6_drawer 2 (some (.object "ExampleDrawers$Drawer")), Cond.fieldLink RX6 12 "ExampleDrawers$State" "drawer0" "LExampleDrawers$Drawer;", Cond.fieldLink RX6 18 "ExampleDrawers$State" "drawer1" "LExampleDrawers$Drawer;", Cond.methodLink RX5 130 yX0_entry, Cond.instanceMethod yX0_entry, Cond.selects RX0 yX0_entry yX0_entry, Cond.initialized RX0, Cond.code yX0_entry cX0_entry 3 (some .int), Cond.fieldLink RX0 14 "ExampleDrawers$Drawer" "entries" "LExampleDrawers$Numbers;", Cond.methodLink RX0 34 yX0_hasCard, Cond.instanceMethod yX0_hasCard, Cond.selects RX0 yX0_hasCard yX0_hasCard, Cond.code yX0_hasCard cX0_hasCard 2 (some .boolean), Cond.fieldLink RX0 31 "ExampleDrawers$Drawer" "size" "I", Cond.methodLink RX0 38 yX0_hasColumn, Cond.instanceMethod yX0_hasColumn, Cond.selects RX0 yX0_hasColumn yX0_hasColumn, Cond.code yX0_hasColumn cX0_hasColumn 2 (some .boolean), Cond.fieldLink RX0 27 "ExampleDrawers$Drawer" "width" "I"]
def wsX5_isAlike_r2 : List Cond := [Cond.methodLink RX0 41 yX3_at, Cond.instanceMethod yX3_at, Cond.selects RX3 yX3_at yX3_at, Cond.initialized RX3, Cond.code yX3_at cX3_at 2 (some .int), Cond.fieldLink RX3 13 "ExampleDrawers$Numbers" "held" "[I", Cond.methodLink RX5 131 yX6_isShown, Cond.instanceMethod yX6_isShown, Cond.selects RX6 yX6_isShown yX6_isShown, Cond.code yX6_isShown cX6_isShown 2 (some .boolean), Cond.fieldLink RX6 37 "ExampleDrawers$State" "shown" "I", Cond.methodLink RX6 55 yX6_isAsked, Cond.instanceMethod yX6_isAsked, Cond.selects RX6 yX6_isAsked yX6_isAsked, Cond.code yX6_isAsked cX6_isAsked 2 (some .boolean), Cond.methodLink RX6 47 yX0_hasColumn, Cond.methodLink RX6 51 yX6_isOfBoth, Cond.instanceMethod yX6_isOfBoth, Cond.selects RX6 yX6_isOfBoth yX6_isOfBoth, Cond.code yX6_isOfBoth cX6_isOfBoth 1 (some .boolean), Cond.fieldLink RX6 33 "ExampleDrawers$State" "asksBoth" "I"]
def wsX5_isAlike : List Cond := .code yX5_isAlike cX5_isAlike 7 (some .boolean) :: ((wsX5_isAlike_r1 ++ wsX5_isAlike_r2) ++ wsX50 ++ wsX60 ++ wsX00 ++ wsX30)
def wsX5_firstAlike_r1 : List Cond := [Cond.methodLink RX5 126 yX5_isAlike, Cond.instanceMethod yX5_isAlike, Cond.selects RX5 yX5_isAlike yX5_isAlike, Cond.initialized RX5, Cond.code yX5_isAlike cX5_isAlike 7 (some .boolean), Cond.fieldLink RX5 33 "ExampleDrawers$Rows" "state" "LExampleDrawers$State;", Cond.methodLink RX5 41 yX6_drawer, Cond.instanceMethod yX6_drawer, Cond.selects RX6 yX6_drawer yX6_drawer, Cond.initialized RX6, Cond.code yX6_drawer cX6_drawer 2 (some (.object "ExampleDrawers$Drawer")), Cond.fieldLink RX6 12 "ExampleDrawers$State" "drawer0" "LExampleDrawers$Drawer;", Cond.fieldLink RX6 18 "ExampleDrawers$State" "drawer1" "LExampleDrawers$Drawer;", Cond.methodLink RX5 130 yX0_entry, Cond.instanceMethod yX0_entry, Cond.selects RX0 yX0_entry yX0_entry, Cond.initialized RX0, Cond.code yX0_entry cX0_entry 3 (some .int), Cond.fieldLink RX0 14 "ExampleDrawers$Drawer" "entries" "LExampleDrawers$Numbers;", Cond.methodLink RX0 34 yX0_hasCard, Cond.instanceMethod yX0_hasCard, Cond.selects RX0 yX0_hasCard yX0_hasCard, Cond.code yX0_hasCard cX0_hasCard 2 (some .boolean), Cond.fieldLink RX0 31 "ExampleDrawers$Drawer" "size" "I"]
def wsX5_firstAlike_r2 : List Cond := [Cond.methodLink RX0 38 yX0_hasColumn, Cond.instanceMethod yX0_hasColumn, Cond.selects RX0 yX0_hasColumn yX0_hasColumn, Cond.code yX0_hasColumn cX0_hasColumn 2 (some .boolean), Cond.fieldLink RX0 27 "ExampleDrawers$Drawer" "width" "I", Cond.methodLink RX0 41 yX3_at, Cond.instanceMethod yX3_at, Cond.selects RX3 yX3_at yX3_at, Cond.initialized RX3, Cond.code yX3_at cX3_at 2 (some .int), Cond.fieldLink RX3 13 "ExampleDrawers$Numbers" "held" "[I", Cond.methodLink RX5 131 yX6_isShown, Cond.instanceMethod yX6_isShown, Cond.selects RX6 yX6_isShown yX6_isShown, Cond.code yX6_isShown cX6_isShown 2 (some .boolean), Cond.fieldLink RX6 37 "ExampleDrawers$State" "shown" "I", Cond.methodLink RX6 55 yX6_isAsked, Cond.instanceMethod yX6_isAsked, Cond.selects RX6 yX6_isAsked yX6_isAsked, Cond.code yX6_isAsked cX6_isAsked 2 (some .boolean), Cond.methodLink RX6 47 yX0_hasColumn, Cond.methodLink RX6 51 yX6_isOfBoth, Cond.instanceMethod yX6_isOfBoth, Cond.selects RX6 yX6_isOfBoth yX6_isOfBoth]
def wsX5_firstAlike_r3 : List Cond := [Cond.code yX6_isOfBoth cX6_isOfBoth 1 (some .boolean), Cond.fieldLink RX6 33 "ExampleDrawers$State" "asksBoth" "I"]
def wsX5_firstAlike : List Cond := .code yX5_firstAlike cX5_firstAlike 4 (some .int) :: ((wsX5_firstAlike_r1 ++ (wsX5_firstAlike_r2 ++ wsX5_firstAlike_r3)) ++ wsX50 ++ wsX60 ++ wsX00 ++ wsX30)
def wsX5_countUnlike_r1 : List Cond := [Cond.fieldLink RX5 20 "ExampleDrawers$Rows" "marks" "LExampleDrawers$Numbers;", Cond.fieldLink RX5 26 "ExampleDrawers$Rows" "size" "I", Cond.fieldLink RX5 14 "ExampleDrawers$Rows" "found" "LExampleDrawers$Numbers;", Cond.methodLink RX5 109 yX5_find, Cond.instanceMethod yX5_find, Cond.selects RX5 yX5_find yX5_find, Cond.initialized RX5, Cond.code yX5_find cX5_find 7 (some .int), Cond.fieldLink RX5 33 "ExampleDrawers$Rows" "state" "LExampleDrawers$State;", Cond.methodLink RX5 37 yX5_findTellers, Cond.instanceMethod yX5_findTellers, Cond.selects RX5 yX5_findTellers yX5_findTellers, Cond.code yX5_findTellers cX5_findTellers 6 none, Cond.fieldLink RX5 30 "ExampleDrawers$Rows" "leftOut" "I", Cond.fieldLink RX5 23 "ExampleDrawers$Rows" "tellers" "LExampleDrawers$Numbers;", Cond.methodLink RX5 66 yX3_fill, Cond.instanceMethod yX3_fill, Cond.selects RX3 yX3_fill yX3_fill, Cond.initialized RX3, Cond.code yX3_fill cX3_fill 3 none, Cond.fieldLink RX3 13 "ExampleDrawers$Numbers" "held" "[I", Cond.methodLink RX5 69 yX6_exampleOf, Cond.instanceMethod yX6_exampleOf, Cond.selects RX6 yX6_exampleOf yX6_exampleOf]
def wsX5_countUnlike_r2 : List Cond := [Cond.initialized RX6, Cond.code yX6_exampleOf cX6_exampleOf 2 (some (.object "ExampleDrawers$Example")), Cond.fieldLink RX6 12 "ExampleDrawers$State" "drawer0" "LExampleDrawers$Drawer;", Cond.fieldLink RX6 18 "ExampleDrawers$State" "drawer1" "LExampleDrawers$Drawer;", Cond.methodLink RX6 62 yX0_example, Cond.instanceMethod yX0_example, Cond.selects RX0 yX0_example yX0_example, Cond.initialized RX0, Cond.code yX0_example cX0_example 1 (some (.object "ExampleDrawers$Example")), Cond.fieldLink RX0 23 "ExampleDrawers$Drawer" "example" "LExampleDrawers$Example;", Cond.methodLink RX5 73 yX6_isAsked, Cond.instanceMethod yX6_isAsked, Cond.selects RX6 yX6_isAsked yX6_isAsked, Cond.code yX6_isAsked cX6_isAsked 2 (some .boolean), Cond.methodLink RX6 47 yX0_hasColumn, Cond.instanceMethod yX0_hasColumn, Cond.selects RX0 yX0_hasColumn yX0_hasColumn, Cond.code yX0_hasColumn cX0_hasColumn 2 (some .boolean), Cond.fieldLink RX0 27 "ExampleDrawers$Drawer" "width" "I", Cond.methodLink RX6 51 yX6_isOfBoth, Cond.instanceMethod yX6_isOfBoth, Cond.selects RX6 yX6_isOfBoth yX6_isOfBoth, Cond.code yX6_isOfBoth cX6_isOfBoth 1 (some .boolean), Cond.fieldLink RX6 33 "ExampleDrawers$State" "asksBoth" "I"]
def wsX5_countUnlike_r3 : List Cond := [Cond.methodLink RX5 77 yX1_kindAt, Cond.instanceMethod yX1_kindAt, Cond.selects RX1 yX1_kindAt yX1_kindAt, Cond.initialized RX1, Cond.code yX1_kindAt cX1_kindAt 2 (some .int), Cond.fieldLink RX1 14 "ExampleDrawers$Example" "kinds" "LExampleDrawers$Numbers;", Cond.methodLink RX1 26 yX3_at, Cond.instanceMethod yX3_at, Cond.selects RX3 yX3_at yX3_at, Cond.code yX3_at cX3_at 2 (some .int), Cond.methodLink RX5 82 yX1_firstAt, Cond.instanceMethod yX1_firstAt, Cond.selects RX1 yX1_firstAt yX1_firstAt, Cond.code yX1_firstAt cX1_firstAt 2 (some .int), Cond.fieldLink RX1 20 "ExampleDrawers$Example" "firsts" "LExampleDrawers$Numbers;", Cond.methodLink RX5 60 yX3_set, Cond.instanceMethod yX3_set, Cond.selects RX3 yX3_set yX3_set, Cond.code yX3_set cX3_set 3 none, Cond.methodLink RX5 41 yX6_drawer, Cond.instanceMethod yX6_drawer, Cond.selects RX6 yX6_drawer yX6_drawer, Cond.code yX6_drawer cX6_drawer 2 (some (.object "ExampleDrawers$Drawer")), Cond.methodLink RX5 47 yX0_size]
def wsX5_countUnlike_r4 : List Cond := [Cond.instanceMethod yX0_size, Cond.selects RX0 yX0_size yX0_size, Cond.code yX0_size cX0_size 1 (some .int), Cond.fieldLink RX0 31 "ExampleDrawers$Drawer" "size" "I", Cond.methodLink RX5 52 yX6_isOfBoth, Cond.methodLink RX5 56 yX5_firstMisfit, Cond.instanceMethod yX5_firstMisfit, Cond.selects RX5 yX5_firstMisfit yX5_firstMisfit, Cond.code yX5_firstMisfit cX5_firstMisfit 3 (some .int), Cond.methodLink RX5 85 yX5_isFitted, Cond.instanceMethod yX5_isFitted, Cond.selects RX5 yX5_isFitted yX5_isFitted, Cond.code yX5_isFitted cX5_isFitted 8 (some .boolean), Cond.methodLink RX5 89 yX6_entry, Cond.instanceMethod yX6_entry, Cond.selects RX6 yX6_entry yX6_entry, Cond.code yX6_entry cX6_entry 3 (some .int), Cond.methodLink RX6 58 yX0_entry, Cond.instanceMethod yX0_entry, Cond.selects RX0 yX0_entry yX0_entry, Cond.code yX0_entry cX0_entry 3 (some .int), Cond.fieldLink RX0 14 "ExampleDrawers$Drawer" "entries" "LExampleDrawers$Numbers;", Cond.methodLink RX0 34 yX0_hasCard, Cond.instanceMethod yX0_hasCard]
def wsX5_countUnlike_r5 : List Cond := [Cond.selects RX0 yX0_hasCard yX0_hasCard, Cond.code yX0_hasCard cX0_hasCard 2 (some .boolean), Cond.methodLink RX0 38 yX0_hasColumn, Cond.methodLink RX0 41 yX3_at, Cond.methodLink RX5 93 yX1_takesAlone, Cond.instanceMethod yX1_takesAlone, Cond.selects RX1 yX1_takesAlone yX1_takesAlone, Cond.code yX1_takesAlone cX1_takesAlone 5 (some .boolean), Cond.fieldLink RX1 23 "ExampleDrawers$Example" "seconds" "LExampleDrawers$Numbers;", Cond.methodLink RX5 63 yX3_at, Cond.methodLink RX5 123 yX5_firstAlike, Cond.instanceMethod yX5_firstAlike, Cond.selects RX5 yX5_firstAlike yX5_firstAlike, Cond.code yX5_firstAlike cX5_firstAlike 4 (some .int), Cond.methodLink RX5 126 yX5_isAlike, Cond.instanceMethod yX5_isAlike, Cond.selects RX5 yX5_isAlike yX5_isAlike, Cond.code yX5_isAlike cX5_isAlike 7 (some .boolean), Cond.methodLink RX5 130 yX0_entry, Cond.methodLink RX5 131 yX6_isShown, Cond.instanceMethod yX6_isShown, Cond.selects RX6 yX6_isShown yX6_isShown, Cond.code yX6_isShown cX6_isShown 2 (some .boolean), Cond.fieldLink RX6 37 "ExampleDrawers$State" "shown" "I"]
def wsX5_countUnlike_r6 : List Cond := [Cond.methodLink RX6 55 yX6_isAsked, Cond.methodLink RX5 120 yX5_markNew, Cond.instanceMethod yX5_markNew, Cond.selects RX5 yX5_markNew yX5_markNew, Cond.code yX5_markNew cX5_markNew 3 (some .int)]
def wsX5_countUnlike : List Cond := .code yX5_countUnlike cX5_countUnlike 6 (some .int) :: ((wsX5_countUnlike_r1 ++ (wsX5_countUnlike_r2 ++ (wsX5_countUnlike_r3 ++ (wsX5_countUnlike_r4 ++ (wsX5_countUnlike_r5 ++ wsX5_countUnlike_r6))))) ++ wsX50 ++ wsX30 ++ wsX60 ++ wsX00 ++ wsX10)
def wsX5_cardSet_r1 : List Cond := [Cond.fieldLink RX5 26 "ExampleDrawers$Rows" "size" "I", Cond.fieldLink RX5 14 "ExampleDrawers$Rows" "found" "LExampleDrawers$Numbers;", Cond.methodLink RX5 109 yX5_find, Cond.instanceMethod yX5_find, Cond.selects RX5 yX5_find yX5_find, Cond.initialized RX5, Cond.code yX5_find cX5_find 7 (some .int), Cond.fieldLink RX5 33 "ExampleDrawers$Rows" "state" "LExampleDrawers$State;", Cond.methodLink RX5 37 yX5_findTellers, Cond.instanceMethod yX5_findTellers, Cond.selects RX5 yX5_findTellers yX5_findTellers, Cond.code yX5_findTellers cX5_findTellers 6 none, Cond.fieldLink RX5 30 "ExampleDrawers$Rows" "leftOut" "I", Cond.fieldLink RX5 23 "ExampleDrawers$Rows" "tellers" "LExampleDrawers$Numbers;", Cond.methodLink RX5 66 yX3_fill, Cond.instanceMethod yX3_fill, Cond.selects RX3 yX3_fill yX3_fill, Cond.initialized RX3, Cond.code yX3_fill cX3_fill 3 none, Cond.fieldLink RX3 13 "ExampleDrawers$Numbers" "held" "[I", Cond.methodLink RX5 69 yX6_exampleOf, Cond.instanceMethod yX6_exampleOf, Cond.selects RX6 yX6_exampleOf yX6_exampleOf, Cond.initialized RX6]
def wsX5_cardSet_r2 : List Cond := [Cond.code yX6_exampleOf cX6_exampleOf 2 (some (.object "ExampleDrawers$Example")), Cond.fieldLink RX6 12 "ExampleDrawers$State" "drawer0" "LExampleDrawers$Drawer;", Cond.fieldLink RX6 18 "ExampleDrawers$State" "drawer1" "LExampleDrawers$Drawer;", Cond.methodLink RX6 62 yX0_example, Cond.instanceMethod yX0_example, Cond.selects RX0 yX0_example yX0_example, Cond.initialized RX0, Cond.code yX0_example cX0_example 1 (some (.object "ExampleDrawers$Example")), Cond.fieldLink RX0 23 "ExampleDrawers$Drawer" "example" "LExampleDrawers$Example;", Cond.methodLink RX5 73 yX6_isAsked, Cond.instanceMethod yX6_isAsked, Cond.selects RX6 yX6_isAsked yX6_isAsked, Cond.code yX6_isAsked cX6_isAsked 2 (some .boolean), Cond.methodLink RX6 47 yX0_hasColumn, Cond.instanceMethod yX0_hasColumn, Cond.selects RX0 yX0_hasColumn yX0_hasColumn, Cond.code yX0_hasColumn cX0_hasColumn 2 (some .boolean), Cond.fieldLink RX0 27 "ExampleDrawers$Drawer" "width" "I", Cond.methodLink RX6 51 yX6_isOfBoth, Cond.instanceMethod yX6_isOfBoth, Cond.selects RX6 yX6_isOfBoth yX6_isOfBoth, Cond.code yX6_isOfBoth cX6_isOfBoth 1 (some .boolean), Cond.fieldLink RX6 33 "ExampleDrawers$State" "asksBoth" "I", Cond.methodLink RX5 77 yX1_kindAt]
def wsX5_cardSet_r3 : List Cond := [Cond.instanceMethod yX1_kindAt, Cond.selects RX1 yX1_kindAt yX1_kindAt, Cond.initialized RX1, Cond.code yX1_kindAt cX1_kindAt 2 (some .int), Cond.fieldLink RX1 14 "ExampleDrawers$Example" "kinds" "LExampleDrawers$Numbers;", Cond.methodLink RX1 26 yX3_at, Cond.instanceMethod yX3_at, Cond.selects RX3 yX3_at yX3_at, Cond.code yX3_at cX3_at 2 (some .int), Cond.methodLink RX5 82 yX1_firstAt, Cond.instanceMethod yX1_firstAt, Cond.selects RX1 yX1_firstAt yX1_firstAt, Cond.code yX1_firstAt cX1_firstAt 2 (some .int), Cond.fieldLink RX1 20 "ExampleDrawers$Example" "firsts" "LExampleDrawers$Numbers;", Cond.methodLink RX5 60 yX3_set, Cond.instanceMethod yX3_set, Cond.selects RX3 yX3_set yX3_set, Cond.code yX3_set cX3_set 3 none, Cond.methodLink RX5 41 yX6_drawer, Cond.instanceMethod yX6_drawer, Cond.selects RX6 yX6_drawer yX6_drawer, Cond.code yX6_drawer cX6_drawer 2 (some (.object "ExampleDrawers$Drawer")), Cond.methodLink RX5 47 yX0_size, Cond.instanceMethod yX0_size]
def wsX5_cardSet_r4 : List Cond := [Cond.selects RX0 yX0_size yX0_size, Cond.code yX0_size cX0_size 1 (some .int), Cond.fieldLink RX0 31 "ExampleDrawers$Drawer" "size" "I", Cond.methodLink RX5 52 yX6_isOfBoth, Cond.methodLink RX5 56 yX5_firstMisfit, Cond.instanceMethod yX5_firstMisfit, Cond.selects RX5 yX5_firstMisfit yX5_firstMisfit, Cond.code yX5_firstMisfit cX5_firstMisfit 3 (some .int), Cond.methodLink RX5 85 yX5_isFitted, Cond.instanceMethod yX5_isFitted, Cond.selects RX5 yX5_isFitted yX5_isFitted, Cond.code yX5_isFitted cX5_isFitted 8 (some .boolean), Cond.methodLink RX5 89 yX6_entry, Cond.instanceMethod yX6_entry, Cond.selects RX6 yX6_entry yX6_entry, Cond.code yX6_entry cX6_entry 3 (some .int), Cond.methodLink RX6 58 yX0_entry, Cond.instanceMethod yX0_entry, Cond.selects RX0 yX0_entry yX0_entry, Cond.code yX0_entry cX0_entry 3 (some .int), Cond.fieldLink RX0 14 "ExampleDrawers$Drawer" "entries" "LExampleDrawers$Numbers;", Cond.methodLink RX0 34 yX0_hasCard, Cond.instanceMethod yX0_hasCard, Cond.selects RX0 yX0_hasCard yX0_hasCard]
def wsX5_cardSet_r5 : List Cond := [Cond.code yX0_hasCard cX0_hasCard 2 (some .boolean), Cond.methodLink RX0 38 yX0_hasColumn, Cond.methodLink RX0 41 yX3_at, Cond.methodLink RX5 93 yX1_takesAlone, Cond.instanceMethod yX1_takesAlone, Cond.selects RX1 yX1_takesAlone yX1_takesAlone, Cond.code yX1_takesAlone cX1_takesAlone 5 (some .boolean), Cond.fieldLink RX1 23 "ExampleDrawers$Example" "seconds" "LExampleDrawers$Numbers;", Cond.methodLink RX5 63 yX3_at]
def wsX5_cardSet : List Cond := .code yX5_cardSet cX5_cardSet 5 (some .int) :: ((wsX5_cardSet_r1 ++ (wsX5_cardSet_r2 ++ (wsX5_cardSet_r3 ++ (wsX5_cardSet_r4 ++ wsX5_cardSet_r5)))) ++ wsX50 ++ wsX30 ++ wsX60 ++ wsX00 ++ wsX10)
def wsX6_askBoth : List Cond := .code yX6_askBoth cX6_askBoth 3 (some .int) :: ([.fieldLink RX6 33 "ExampleDrawers$State" "asksBoth" "I"] ++ wsX60)
def wsX6_setOrder : List Cond := .code yX6_setOrder cX6_setOrder 4 none :: ([.fieldLink RX6 26 "ExampleDrawers$State" "orderColumns" "LExampleDrawers$Numbers;", .fieldLink RX6 30 "ExampleDrawers$State" "orderDowns" "LExampleDrawers$Numbers;", .methodLink RX6 44 yX3_set, .instanceMethod yX3_set, .selects RX3 yX3_set yX3_set, .initialized RX3, .code yX3_set cX3_set 3 none, .fieldLink RX3 13 "ExampleDrawers$Numbers" "held" "[I"] ++ wsX60 ++ wsX30)
def wsX6_shownSet : List Cond := .code yX6_shownSet cX6_shownSet 1 (some .int) :: ([.fieldLink RX6 37 "ExampleDrawers$State" "shown" "I"] ++ wsX60)
def wsX6_setShown : List Cond := .code yX6_setShown cX6_setShown 2 none :: ([.fieldLink RX6 37 "ExampleDrawers$State" "shown" "I"] ++ wsX60)
def wsX7_init : List Cond := .code yX7_init cX7_init 1 none :: ([.methodLink RX7 3 objectInit, .instanceMethod objectInit, .code objectInit ⟨#[0xb1]⟩ 1 none, .classLink RX7 9 RX3, .instantiable RX3 1, .initialized RX3, .fieldLink RX7 14 "ExampleDrawers$Text" "characters" "LExampleDrawers$Numbers;", .fieldLink RX7 20 "ExampleDrawers$Text" "length" "I", .methodLink RX7 11 yX3_init, .instanceMethod yX3_init, .code yX3_init cX3_init 3 none, .methodLink RX3 1 objectInit, .methodLink RX3 7 Lib.Math.max.name, .static Lib.Math.max.name, .initialized "java/lang/Math", .code Lib.Math.max.name Lib.Math.max.code 2 (some .int), .arrayClass .int, .fieldLink RX3 13 "ExampleDrawers$Numbers" "held" "[I", .methodLink RX3 19 yX3_fill, .instanceMethod yX3_fill, .selects RX3 yX3_fill yX3_fill, .code yX3_fill cX3_fill 3 none] ++ wsX30 ++ wsX70)
def wsX7_append : List Cond := .code yX7_append cX7_append 2 (some .int) :: ([.fieldLink RX7 14 "ExampleDrawers$Text" "characters" "LExampleDrawers$Numbers;", .fieldLink RX7 20 "ExampleDrawers$Text" "length" "I", .methodLink RX7 28 yX3_set, .instanceMethod yX3_set, .selects RX3 yX3_set yX3_set, .initialized RX3, .code yX3_set cX3_set 3 none, .fieldLink RX3 13 "ExampleDrawers$Numbers" "held" "[I"] ++ wsX70 ++ wsX30)
def wsX7_empty : List Cond := .code yX7_empty cX7_empty 2 (some .int) :: ([.fieldLink RX7 20 "ExampleDrawers$Text" "length" "I"] ++ wsX70)
def wsX8_init_r1 : List Cond := [Cond.methodLink RX8 3 objectInit, Cond.instanceMethod objectInit, Cond.code objectInit ⟨#[0xb1]⟩ 1 none, Cond.classLink RX8 9 RX6, Cond.instantiable RX6 6, Cond.initialized RX6, Cond.fieldLink RX8 12 "ExampleDrawers" "now" "LExampleDrawers$State;", Cond.classLink RX8 16 RX2, Cond.instantiable RX2 5, Cond.initialized RX2, Cond.fieldLink RX8 19 "ExampleDrawers" "history" "LExampleDrawers$History;", Cond.classLink RX8 23 RX5, Cond.instantiable RX5 6, Cond.initialized RX5, Cond.fieldLink RX8 28 "ExampleDrawers" "rows" "LExampleDrawers$Rows;", Cond.classLink RX8 32 RX7, Cond.instantiable RX7 2, Cond.initialized RX7, Cond.fieldLink RX8 35 "ExampleDrawers" "text" "LExampleDrawers$Text;", Cond.classLink RX8 39 RX4, Cond.instantiable RX4 6, Cond.initialized RX4, Cond.fieldLink RX8 44 "ExampleDrawers" "reading" "LExampleDrawers$Reading;", Cond.instanceMethod yX6_init]
def wsX8_init_r2 : List Cond := [Cond.code yX6_init cX6_init 1 none, Cond.methodLink RX6 3 objectInit, Cond.classLink RX6 9 RX0, Cond.instantiable RX0 4, Cond.initialized RX0, Cond.fieldLink RX6 12 "ExampleDrawers$State" "drawer0" "LExampleDrawers$Drawer;", Cond.fieldLink RX6 18 "ExampleDrawers$State" "drawer1" "LExampleDrawers$Drawer;", Cond.classLink RX6 21 RX3, Cond.instantiable RX3 1, Cond.initialized RX3, Cond.fieldLink RX6 26 "ExampleDrawers$State" "orderColumns" "LExampleDrawers$Numbers;", Cond.fieldLink RX6 30 "ExampleDrawers$State" "orderDowns" "LExampleDrawers$Numbers;", Cond.fieldLink RX6 33 "ExampleDrawers$State" "asksBoth" "I", Cond.fieldLink RX6 37 "ExampleDrawers$State" "shown" "I", Cond.instanceMethod yX0_init, Cond.code yX0_init cX0_init 1 none, Cond.methodLink RX0 3 objectInit, Cond.classLink RX0 9 RX3, Cond.fieldLink RX0 14 "ExampleDrawers$Drawer" "entries" "LExampleDrawers$Numbers;", Cond.classLink RX0 20 RX1, Cond.instantiable RX1 3, Cond.initialized RX1, Cond.fieldLink RX0 23 "ExampleDrawers$Drawer" "example" "LExampleDrawers$Example;", Cond.fieldLink RX0 27 "ExampleDrawers$Drawer" "width" "I"]
def wsX8_init_r3 : List Cond := [Cond.fieldLink RX0 31 "ExampleDrawers$Drawer" "size" "I", Cond.methodLink RX0 11 yX3_init, Cond.instanceMethod yX3_init, Cond.code yX3_init cX3_init 3 none, Cond.methodLink RX3 1 objectInit, Cond.methodLink RX3 7 Lib.Math.max.name, Cond.static Lib.Math.max.name, Cond.initialized "java/lang/Math", Cond.code Lib.Math.max.name Lib.Math.max.code 2 (some .int), Cond.arrayClass .int, Cond.fieldLink RX3 13 "ExampleDrawers$Numbers" "held" "[I", Cond.methodLink RX3 19 yX3_fill, Cond.instanceMethod yX3_fill, Cond.selects RX3 yX3_fill yX3_fill, Cond.code yX3_fill cX3_fill 3 none, Cond.instanceMethod yX1_init, Cond.code yX1_init cX1_init 1 none, Cond.methodLink RX1 3 objectInit, Cond.classLink RX1 9 RX3, Cond.fieldLink RX1 14 "ExampleDrawers$Example" "kinds" "LExampleDrawers$Numbers;", Cond.fieldLink RX1 20 "ExampleDrawers$Example" "firsts" "LExampleDrawers$Numbers;", Cond.fieldLink RX1 23 "ExampleDrawers$Example" "seconds" "LExampleDrawers$Numbers;", Cond.methodLink RX1 11 yX3_init, Cond.methodLink RX6 23 yX3_init]
def wsX8_init_r4 : List Cond := [Cond.instanceMethod yX2_init, Cond.code yX2_init cX2_init 1 none, Cond.methodLink RX2 3 objectInit, Cond.classLink RX2 9 RX6, Cond.fieldLink RX2 12 "ExampleDrawers$History" "latest" "LExampleDrawers$State;", Cond.fieldLink RX2 18 "ExampleDrawers$History" "second" "LExampleDrawers$State;", Cond.fieldLink RX2 21 "ExampleDrawers$History" "third" "LExampleDrawers$State;", Cond.fieldLink RX2 24 "ExampleDrawers$History" "oldest" "LExampleDrawers$State;", Cond.fieldLink RX2 27 "ExampleDrawers$History" "size" "I", Cond.methodLink RX8 25 yX5_init, Cond.instanceMethod yX5_init, Cond.code yX5_init cX5_init 2 none, Cond.methodLink RX5 3 objectInit, Cond.classLink RX5 9 RX3, Cond.fieldLink RX5 14 "ExampleDrawers$Rows" "found" "LExampleDrawers$Numbers;", Cond.fieldLink RX5 20 "ExampleDrawers$Rows" "marks" "LExampleDrawers$Numbers;", Cond.fieldLink RX5 23 "ExampleDrawers$Rows" "tellers" "LExampleDrawers$Numbers;", Cond.fieldLink RX5 26 "ExampleDrawers$Rows" "size" "I", Cond.fieldLink RX5 30 "ExampleDrawers$Rows" "leftOut" "I", Cond.fieldLink RX5 33 "ExampleDrawers$Rows" "state" "LExampleDrawers$State;", Cond.methodLink RX5 11 yX3_init, Cond.instanceMethod yX7_init, Cond.code yX7_init cX7_init 1 none, Cond.methodLink RX7 3 objectInit]
def wsX8_init_r5 : List Cond := [Cond.classLink RX7 9 RX3, Cond.fieldLink RX7 14 "ExampleDrawers$Text" "characters" "LExampleDrawers$Numbers;", Cond.fieldLink RX7 20 "ExampleDrawers$Text" "length" "I", Cond.methodLink RX7 11 yX3_init, Cond.methodLink RX8 41 yX4_init, Cond.instanceMethod yX4_init, Cond.code yX4_init cX4_init 2 none, Cond.methodLink RX4 3 objectInit, Cond.classLink RX4 9 RX1, Cond.fieldLink RX4 12 "ExampleDrawers$Reading" "example" "LExampleDrawers$Example;", Cond.fieldLink RX4 18 "ExampleDrawers$Reading" "cells" "I", Cond.fieldLink RX4 22 "ExampleDrawers$Reading" "place" "I", Cond.fieldLink RX4 25 "ExampleDrawers$Reading" "faultPlace" "I", Cond.fieldLink RX4 28 "ExampleDrawers$Reading" "faultReason" "I", Cond.fieldLink RX4 31 "ExampleDrawers$Reading" "text" "LExampleDrawers$Text;"]
def wsX8_init : List Cond := .code yX8_init cX8_init 1 none :: ((wsX8_init_r1 ++ (wsX8_init_r2 ++ (wsX8_init_r3 ++ (wsX8_init_r4 ++ wsX8_init_r5)))) ++ wsX60 ++ wsX80 ++ wsX20 ++ wsX50 ++ wsX70 ++ wsX40 ++ wsX00 ++ wsX30 ++ wsX10)
def wsX8_isBit : List Cond := .code yX8_isBit cX8_isBit 1 (some .boolean) :: ([])
def wsX8_columns_r1 : List Cond := [Cond.fieldLink RX8 19 "ExampleDrawers" "history" "LExampleDrawers$History;", Cond.fieldLink RX8 12 "ExampleDrawers" "now" "LExampleDrawers$State;", Cond.methodLink RX8 48 yX8_isBit, Cond.static yX8_isBit, Cond.initialized RX8, Cond.code yX8_isBit cX8_isBit 1 (some .boolean), Cond.methodLink RX8 52 yX2_keep, Cond.instanceMethod yX2_keep, Cond.selects RX2 yX2_keep yX2_keep, Cond.initialized RX2, Cond.code yX2_keep cX2_keep 2 none, Cond.fieldLink RX2 24 "ExampleDrawers$History" "oldest" "LExampleDrawers$State;", Cond.fieldLink RX2 21 "ExampleDrawers$History" "third" "LExampleDrawers$State;", Cond.fieldLink RX2 18 "ExampleDrawers$History" "second" "LExampleDrawers$State;", Cond.fieldLink RX2 12 "ExampleDrawers$History" "latest" "LExampleDrawers$State;", Cond.fieldLink RX2 27 "ExampleDrawers$History" "size" "I", Cond.methodLink RX2 35 Lib.Math.min.name, Cond.static Lib.Math.min.name, Cond.initialized "java/lang/Math", Cond.code Lib.Math.min.name Lib.Math.min.code 2 (some .int), Cond.methodLink RX2 31 yX6_copyFrom, Cond.instanceMethod yX6_copyFrom, Cond.selects RX6 yX6_copyFrom yX6_copyFrom, Cond.initialized RX6]
def wsX8_columns_r2 : List Cond := [Cond.code yX6_copyFrom cX6_copyFrom 2 none, Cond.fieldLink RX6 12 "ExampleDrawers$State" "drawer0" "LExampleDrawers$Drawer;", Cond.fieldLink RX6 18 "ExampleDrawers$State" "drawer1" "LExampleDrawers$Drawer;", Cond.fieldLink RX6 26 "ExampleDrawers$State" "orderColumns" "LExampleDrawers$Numbers;", Cond.fieldLink RX6 30 "ExampleDrawers$State" "orderDowns" "LExampleDrawers$Numbers;", Cond.fieldLink RX6 33 "ExampleDrawers$State" "asksBoth" "I", Cond.fieldLink RX6 37 "ExampleDrawers$State" "shown" "I", Cond.methodLink RX6 66 yX0_copyFrom, Cond.instanceMethod yX0_copyFrom, Cond.selects RX0 yX0_copyFrom yX0_copyFrom, Cond.initialized RX0, Cond.code yX0_copyFrom cX0_copyFrom 2 none, Cond.fieldLink RX0 14 "ExampleDrawers$Drawer" "entries" "LExampleDrawers$Numbers;", Cond.fieldLink RX0 23 "ExampleDrawers$Drawer" "example" "LExampleDrawers$Example;", Cond.fieldLink RX0 27 "ExampleDrawers$Drawer" "width" "I", Cond.fieldLink RX0 31 "ExampleDrawers$Drawer" "size" "I", Cond.methodLink RX0 59 yX3_copyFrom, Cond.instanceMethod yX3_copyFrom, Cond.selects RX3 yX3_copyFrom yX3_copyFrom, Cond.initialized RX3, Cond.code yX3_copyFrom cX3_copyFrom 3 none, Cond.fieldLink RX3 13 "ExampleDrawers$Numbers" "held" "[I", Cond.methodLink RX3 23 yX3_at, Cond.instanceMethod yX3_at]
def wsX8_columns_r3 : List Cond := [Cond.selects RX3 yX3_at yX3_at, Cond.code yX3_at cX3_at 2 (some .int), Cond.methodLink RX0 63 yX1_copyFrom, Cond.instanceMethod yX1_copyFrom, Cond.selects RX1 yX1_copyFrom yX1_copyFrom, Cond.initialized RX1, Cond.code yX1_copyFrom cX1_copyFrom 2 none, Cond.fieldLink RX1 14 "ExampleDrawers$Example" "kinds" "LExampleDrawers$Numbers;", Cond.fieldLink RX1 20 "ExampleDrawers$Example" "firsts" "LExampleDrawers$Numbers;", Cond.fieldLink RX1 23 "ExampleDrawers$Example" "seconds" "LExampleDrawers$Numbers;", Cond.methodLink RX1 37 yX3_copyFrom, Cond.methodLink RX6 70 yX3_copyFrom, Cond.methodLink RX8 55 yX6_drawer, Cond.instanceMethod yX6_drawer, Cond.selects RX6 yX6_drawer yX6_drawer, Cond.code yX6_drawer cX6_drawer 2 (some (.object "ExampleDrawers$Drawer")), Cond.methodLink RX8 59 yX0_remake, Cond.instanceMethod yX0_remake, Cond.selects RX0 yX0_remake yX0_remake, Cond.code yX0_remake cX0_remake 3 (some .int), Cond.methodLink RX0 45 yX1_wipe, Cond.instanceMethod yX1_wipe, Cond.selects RX1 yX1_wipe yX1_wipe, Cond.code yX1_wipe cX1_wipe 1 none]
def wsX8_columns_r4 : List Cond := [Cond.methodLink RX1 33 yX3_fill, Cond.instanceMethod yX3_fill, Cond.selects RX3 yX3_fill yX3_fill, Cond.code yX3_fill cX3_fill 3 none]
def wsX8_columns : List Cond := .code yX8_columns cX8_columns 3 (some .int) :: ((wsX8_columns_r1 ++ (wsX8_columns_r2 ++ (wsX8_columns_r3 ++ wsX8_columns_r4))) ++ wsX80 ++ wsX20 ++ wsX60 ++ wsX00 ++ wsX30 ++ wsX10)
def wsX8_isEntry : List Cond := .code yX8_isEntry cX8_isEntry 1 (some .boolean) :: ([])
def wsX8_card_r1 : List Cond := [Cond.fieldLink RX8 12 "ExampleDrawers" "now" "LExampleDrawers$State;", Cond.fieldLink RX8 19 "ExampleDrawers" "history" "LExampleDrawers$History;", Cond.methodLink RX8 48 yX8_isBit, Cond.static yX8_isBit, Cond.initialized RX8, Cond.code yX8_isBit cX8_isBit 1 (some .boolean), Cond.methodLink RX8 65 yX8_isEntry, Cond.static yX8_isEntry, Cond.code yX8_isEntry cX8_isEntry 1 (some .boolean), Cond.methodLink RX8 55 yX6_drawer, Cond.instanceMethod yX6_drawer, Cond.selects RX6 yX6_drawer yX6_drawer, Cond.initialized RX6, Cond.code yX6_drawer cX6_drawer 2 (some (.object "ExampleDrawers$Drawer")), Cond.fieldLink RX6 12 "ExampleDrawers$State" "drawer0" "LExampleDrawers$Drawer;", Cond.fieldLink RX6 18 "ExampleDrawers$State" "drawer1" "LExampleDrawers$Drawer;", Cond.methodLink RX8 68 yX0_size, Cond.instanceMethod yX0_size, Cond.selects RX0 yX0_size yX0_size, Cond.initialized RX0, Cond.code yX0_size cX0_size 1 (some .int), Cond.fieldLink RX0 31 "ExampleDrawers$Drawer" "size" "I", Cond.methodLink RX8 52 yX2_keep, Cond.instanceMethod yX2_keep]
def wsX8_card_r2 : List Cond := [Cond.selects RX2 yX2_keep yX2_keep, Cond.initialized RX2, Cond.code yX2_keep cX2_keep 2 none, Cond.fieldLink RX2 24 "ExampleDrawers$History" "oldest" "LExampleDrawers$State;", Cond.fieldLink RX2 21 "ExampleDrawers$History" "third" "LExampleDrawers$State;", Cond.fieldLink RX2 18 "ExampleDrawers$History" "second" "LExampleDrawers$State;", Cond.fieldLink RX2 12 "ExampleDrawers$History" "latest" "LExampleDrawers$State;", Cond.fieldLink RX2 27 "ExampleDrawers$History" "size" "I", Cond.methodLink RX2 35 Lib.Math.min.name, Cond.static Lib.Math.min.name, Cond.initialized "java/lang/Math", Cond.code Lib.Math.min.name Lib.Math.min.code 2 (some .int), Cond.methodLink RX2 31 yX6_copyFrom, Cond.instanceMethod yX6_copyFrom, Cond.selects RX6 yX6_copyFrom yX6_copyFrom, Cond.code yX6_copyFrom cX6_copyFrom 2 none, Cond.fieldLink RX6 26 "ExampleDrawers$State" "orderColumns" "LExampleDrawers$Numbers;", Cond.fieldLink RX6 30 "ExampleDrawers$State" "orderDowns" "LExampleDrawers$Numbers;", Cond.fieldLink RX6 33 "ExampleDrawers$State" "asksBoth" "I", Cond.fieldLink RX6 37 "ExampleDrawers$State" "shown" "I", Cond.methodLink RX6 66 yX0_copyFrom, Cond.instanceMethod yX0_copyFrom, Cond.selects RX0 yX0_copyFrom yX0_copyFrom, Cond.code yX0_copyFrom cX0_copyFrom 2 none]
def wsX8_card_r3 : List Cond := [Cond.fieldLink RX0 14 "ExampleDrawers$Drawer" "entries" "LExampleDrawers$Numbers;", Cond.fieldLink RX0 23 "ExampleDrawers$Drawer" "example" "LExampleDrawers$Example;", Cond.fieldLink RX0 27 "ExampleDrawers$Drawer" "width" "I", Cond.methodLink RX0 59 yX3_copyFrom, Cond.instanceMethod yX3_copyFrom, Cond.selects RX3 yX3_copyFrom yX3_copyFrom, Cond.initialized RX3, Cond.code yX3_copyFrom cX3_copyFrom 3 none, Cond.fieldLink RX3 13 "ExampleDrawers$Numbers" "held" "[I", Cond.methodLink RX3 23 yX3_at, Cond.instanceMethod yX3_at, Cond.selects RX3 yX3_at yX3_at, Cond.code yX3_at cX3_at 2 (some .int), Cond.methodLink RX0 63 yX1_copyFrom, Cond.instanceMethod yX1_copyFrom, Cond.selects RX1 yX1_copyFrom yX1_copyFrom, Cond.initialized RX1, Cond.code yX1_copyFrom cX1_copyFrom 2 none, Cond.fieldLink RX1 14 "ExampleDrawers$Example" "kinds" "LExampleDrawers$Numbers;", Cond.fieldLink RX1 20 "ExampleDrawers$Example" "firsts" "LExampleDrawers$Numbers;", Cond.fieldLink RX1 23 "ExampleDrawers$Example" "seconds" "LExampleDrawers$Numbers;", Cond.methodLink RX1 37 yX3_copyFrom, Cond.methodLink RX6 70 yX3_copyFrom, Cond.methodLink RX8 72 yX0_add]
def wsX8_card_r4 : List Cond := [Cond.instanceMethod yX0_add, Cond.selects RX0 yX0_add yX0_add, Cond.code yX0_add cX0_add 6 (some .int), Cond.methodLink RX0 48 yX3_set, Cond.instanceMethod yX3_set, Cond.selects RX3 yX3_set yX3_set, Cond.code yX3_set cX3_set 3 none]
def wsX8_card : List Cond := .code yX8_card cX8_card 7 (some .int) :: ((wsX8_card_r1 ++ (wsX8_card_r2 ++ (wsX8_card_r3 ++ wsX8_card_r4))) ++ wsX80 ++ wsX60 ++ wsX00 ++ wsX20 ++ wsX30 ++ wsX10)
def wsX8_isCell : List Cond := .code yX8_isCell cX8_isCell 3 (some .boolean) :: ([.fieldLink RX8 12 "ExampleDrawers" "now" "LExampleDrawers$State;", .methodLink RX8 48 yX8_isBit, .static yX8_isBit, .initialized RX8, .code yX8_isBit cX8_isBit 1 (some .boolean), .methodLink RX8 55 yX6_drawer, .instanceMethod yX6_drawer, .selects RX6 yX6_drawer yX6_drawer, .initialized RX6, .code yX6_drawer cX6_drawer 2 (some (.object "ExampleDrawers$Drawer")), .fieldLink RX6 12 "ExampleDrawers$State" "drawer0" "LExampleDrawers$Drawer;", .fieldLink RX6 18 "ExampleDrawers$State" "drawer1" "LExampleDrawers$Drawer;", .methodLink RX8 217 yX0_hasColumn, .instanceMethod yX0_hasColumn, .selects RX0 yX0_hasColumn yX0_hasColumn, .initialized RX0, .code yX0_hasColumn cX0_hasColumn 2 (some .boolean), .fieldLink RX0 27 "ExampleDrawers$Drawer" "width" "I"] ++ wsX80 ++ wsX60 ++ wsX00)
def wsX8_isPlace_r1 : List Cond := [Cond.fieldLink RX8 12 "ExampleDrawers" "now" "LExampleDrawers$State;", Cond.methodLink RX8 94 yX8_isCell, Cond.instanceMethod yX8_isCell, Cond.selects RX8 yX8_isCell yX8_isCell, Cond.initialized RX8, Cond.code yX8_isCell cX8_isCell 3 (some .boolean), Cond.methodLink RX8 48 yX8_isBit, Cond.static yX8_isBit, Cond.code yX8_isBit cX8_isBit 1 (some .boolean), Cond.methodLink RX8 55 yX6_drawer, Cond.instanceMethod yX6_drawer, Cond.selects RX6 yX6_drawer yX6_drawer, Cond.initialized RX6, Cond.code yX6_drawer cX6_drawer 2 (some (.object "ExampleDrawers$Drawer")), Cond.fieldLink RX6 12 "ExampleDrawers$State" "drawer0" "LExampleDrawers$Drawer;", Cond.fieldLink RX6 18 "ExampleDrawers$State" "drawer1" "LExampleDrawers$Drawer;", Cond.methodLink RX8 217 yX0_hasColumn, Cond.instanceMethod yX0_hasColumn, Cond.selects RX0 yX0_hasColumn yX0_hasColumn, Cond.initialized RX0, Cond.code yX0_hasColumn cX0_hasColumn 2 (some .boolean), Cond.fieldLink RX0 27 "ExampleDrawers$Drawer" "width" "I", Cond.methodLink RX8 84 yX0_hasCard, Cond.instanceMethod yX0_hasCard]
def wsX8_isPlace_r2 : List Cond := [Cond.selects RX0 yX0_hasCard yX0_hasCard, Cond.code yX0_hasCard cX0_hasCard 2 (some .boolean), Cond.fieldLink RX0 31 "ExampleDrawers$Drawer" "size" "I"]
def wsX8_isPlace : List Cond := .code yX8_isPlace cX8_isPlace 4 (some .boolean) :: ((wsX8_isPlace_r1 ++ wsX8_isPlace_r2) ++ wsX80 ++ wsX60 ++ wsX00)
def wsX8_put_r1 : List Cond := [Cond.fieldLink RX8 19 "ExampleDrawers" "history" "LExampleDrawers$History;", Cond.fieldLink RX8 12 "ExampleDrawers" "now" "LExampleDrawers$State;", Cond.methodLink RX8 76 yX8_isPlace, Cond.instanceMethod yX8_isPlace, Cond.selects RX8 yX8_isPlace yX8_isPlace, Cond.initialized RX8, Cond.code yX8_isPlace cX8_isPlace 4 (some .boolean), Cond.methodLink RX8 94 yX8_isCell, Cond.instanceMethod yX8_isCell, Cond.selects RX8 yX8_isCell yX8_isCell, Cond.code yX8_isCell cX8_isCell 3 (some .boolean), Cond.methodLink RX8 48 yX8_isBit, Cond.static yX8_isBit, Cond.code yX8_isBit cX8_isBit 1 (some .boolean), Cond.methodLink RX8 55 yX6_drawer, Cond.instanceMethod yX6_drawer, Cond.selects RX6 yX6_drawer yX6_drawer, Cond.initialized RX6, Cond.code yX6_drawer cX6_drawer 2 (some (.object "ExampleDrawers$Drawer")), Cond.fieldLink RX6 12 "ExampleDrawers$State" "drawer0" "LExampleDrawers$Drawer;", Cond.fieldLink RX6 18 "ExampleDrawers$State" "drawer1" "LExampleDrawers$Drawer;", Cond.methodLink RX8 217 yX0_hasColumn, Cond.instanceMethod yX0_hasColumn, Cond.selects RX0 yX0_hasColumn yX0_hasColumn]
def wsX8_put_r2 : List Cond := [Cond.initialized RX0, Cond.code yX0_hasColumn cX0_hasColumn 2 (some .boolean), Cond.fieldLink RX0 27 "ExampleDrawers$Drawer" "width" "I", Cond.methodLink RX8 84 yX0_hasCard, Cond.instanceMethod yX0_hasCard, Cond.selects RX0 yX0_hasCard yX0_hasCard, Cond.code yX0_hasCard cX0_hasCard 2 (some .boolean), Cond.fieldLink RX0 31 "ExampleDrawers$Drawer" "size" "I", Cond.methodLink RX8 65 yX8_isEntry, Cond.static yX8_isEntry, Cond.code yX8_isEntry cX8_isEntry 1 (some .boolean), Cond.methodLink RX8 52 yX2_keep, Cond.instanceMethod yX2_keep, Cond.selects RX2 yX2_keep yX2_keep, Cond.initialized RX2, Cond.code yX2_keep cX2_keep 2 none, Cond.fieldLink RX2 24 "ExampleDrawers$History" "oldest" "LExampleDrawers$State;", Cond.fieldLink RX2 21 "ExampleDrawers$History" "third" "LExampleDrawers$State;", Cond.fieldLink RX2 18 "ExampleDrawers$History" "second" "LExampleDrawers$State;", Cond.fieldLink RX2 12 "ExampleDrawers$History" "latest" "LExampleDrawers$State;", Cond.fieldLink RX2 27 "ExampleDrawers$History" "size" "I", Cond.methodLink RX2 35 Lib.Math.min.name, Cond.static Lib.Math.min.name, Cond.initialized "java/lang/Math"]
def wsX8_put_r3 : List Cond := [Cond.code Lib.Math.min.name Lib.Math.min.code 2 (some .int), Cond.methodLink RX2 31 yX6_copyFrom, Cond.instanceMethod yX6_copyFrom, Cond.selects RX6 yX6_copyFrom yX6_copyFrom, Cond.code yX6_copyFrom cX6_copyFrom 2 none, Cond.fieldLink RX6 26 "ExampleDrawers$State" "orderColumns" "LExampleDrawers$Numbers;", Cond.fieldLink RX6 30 "ExampleDrawers$State" "orderDowns" "LExampleDrawers$Numbers;", Cond.fieldLink RX6 33 "ExampleDrawers$State" "asksBoth" "I", Cond.fieldLink RX6 37 "ExampleDrawers$State" "shown" "I", Cond.methodLink RX6 66 yX0_copyFrom, Cond.instanceMethod yX0_copyFrom, Cond.selects RX0 yX0_copyFrom yX0_copyFrom, Cond.code yX0_copyFrom cX0_copyFrom 2 none, Cond.fieldLink RX0 14 "ExampleDrawers$Drawer" "entries" "LExampleDrawers$Numbers;", Cond.fieldLink RX0 23 "ExampleDrawers$Drawer" "example" "LExampleDrawers$Example;", Cond.methodLink RX0 59 yX3_copyFrom, Cond.instanceMethod yX3_copyFrom, Cond.selects RX3 yX3_copyFrom yX3_copyFrom, Cond.initialized RX3, Cond.code yX3_copyFrom cX3_copyFrom 3 none, Cond.fieldLink RX3 13 "ExampleDrawers$Numbers" "held" "[I", Cond.methodLink RX3 23 yX3_at, Cond.instanceMethod yX3_at, Cond.selects RX3 yX3_at yX3_at]
def wsX8_put_r4 : List Cond := [Cond.code yX3_at cX3_at 2 (some .int), Cond.methodLink RX0 63 yX1_copyFrom, Cond.instanceMethod yX1_copyFrom, Cond.selects RX1 yX1_copyFrom yX1_copyFrom, Cond.initialized RX1, Cond.code yX1_copyFrom cX1_copyFrom 2 none, Cond.fieldLink RX1 14 "ExampleDrawers$Example" "kinds" "LExampleDrawers$Numbers;", Cond.fieldLink RX1 20 "ExampleDrawers$Example" "firsts" "LExampleDrawers$Numbers;", Cond.fieldLink RX1 23 "ExampleDrawers$Example" "seconds" "LExampleDrawers$Numbers;", Cond.methodLink RX1 37 yX3_copyFrom, Cond.methodLink RX6 70 yX3_copyFrom, Cond.methodLink RX8 80 yX0_replace, Cond.instanceMethod yX0_replace, Cond.selects RX0 yX0_replace yX0_replace, Cond.code yX0_replace cX0_replace 5 (some .int), Cond.methodLink RX0 51 yX0_entry, Cond.instanceMethod yX0_entry, Cond.selects RX0 yX0_entry yX0_entry, Cond.code yX0_entry cX0_entry 3 (some .int), Cond.methodLink RX0 34 yX0_hasCard, Cond.methodLink RX0 38 yX0_hasColumn, Cond.methodLink RX0 41 yX3_at, Cond.methodLink RX0 48 yX3_set, Cond.instanceMethod yX3_set]
def wsX8_put_r5 : List Cond := [Cond.selects RX3 yX3_set yX3_set, Cond.code yX3_set cX3_set 3 none]
def wsX8_put : List Cond := .code yX8_put cX8_put 5 (some .int) :: ((wsX8_put_r1 ++ (wsX8_put_r2 ++ (wsX8_put_r3 ++ (wsX8_put_r4 ++ wsX8_put_r5)))) ++ wsX80 ++ wsX60 ++ wsX00 ++ wsX20 ++ wsX30 ++ wsX10)
def wsX8_drop_r1 : List Cond := [Cond.fieldLink RX8 12 "ExampleDrawers" "now" "LExampleDrawers$State;", Cond.fieldLink RX8 19 "ExampleDrawers" "history" "LExampleDrawers$History;", Cond.methodLink RX8 48 yX8_isBit, Cond.static yX8_isBit, Cond.initialized RX8, Cond.code yX8_isBit cX8_isBit 1 (some .boolean), Cond.methodLink RX8 55 yX6_drawer, Cond.instanceMethod yX6_drawer, Cond.selects RX6 yX6_drawer yX6_drawer, Cond.initialized RX6, Cond.code yX6_drawer cX6_drawer 2 (some (.object "ExampleDrawers$Drawer")), Cond.fieldLink RX6 12 "ExampleDrawers$State" "drawer0" "LExampleDrawers$Drawer;", Cond.fieldLink RX6 18 "ExampleDrawers$State" "drawer1" "LExampleDrawers$Drawer;", Cond.methodLink RX8 84 yX0_hasCard, Cond.instanceMethod yX0_hasCard, Cond.selects RX0 yX0_hasCard yX0_hasCard, Cond.initialized RX0, Cond.code yX0_hasCard cX0_hasCard 2 (some .boolean), Cond.fieldLink RX0 31 "ExampleDrawers$Drawer" "size" "I", Cond.methodLink RX8 52 yX2_keep, Cond.instanceMethod yX2_keep, Cond.selects RX2 yX2_keep yX2_keep, Cond.initialized RX2, Cond.code yX2_keep cX2_keep 2 none]
def wsX8_drop_r2 : List Cond := [Cond.fieldLink RX2 24 "ExampleDrawers$History" "oldest" "LExampleDrawers$State;", Cond.fieldLink RX2 21 "ExampleDrawers$History" "third" "LExampleDrawers$State;", Cond.fieldLink RX2 18 "ExampleDrawers$History" "second" "LExampleDrawers$State;", Cond.fieldLink RX2 12 "ExampleDrawers$History" "latest" "LExampleDrawers$State;", Cond.fieldLink RX2 27 "ExampleDrawers$History" "size" "I", Cond.methodLink RX2 35 Lib.Math.min.name, Cond.static Lib.Math.min.name, Cond.initialized "java/lang/Math", Cond.code Lib.Math.min.name Lib.Math.min.code 2 (some .int), Cond.methodLink RX2 31 yX6_copyFrom, Cond.instanceMethod yX6_copyFrom, Cond.selects RX6 yX6_copyFrom yX6_copyFrom, Cond.code yX6_copyFrom cX6_copyFrom 2 none, Cond.fieldLink RX6 26 "ExampleDrawers$State" "orderColumns" "LExampleDrawers$Numbers;", Cond.fieldLink RX6 30 "ExampleDrawers$State" "orderDowns" "LExampleDrawers$Numbers;", Cond.fieldLink RX6 33 "ExampleDrawers$State" "asksBoth" "I", Cond.fieldLink RX6 37 "ExampleDrawers$State" "shown" "I", Cond.methodLink RX6 66 yX0_copyFrom, Cond.instanceMethod yX0_copyFrom, Cond.selects RX0 yX0_copyFrom yX0_copyFrom, Cond.code yX0_copyFrom cX0_copyFrom 2 none, Cond.fieldLink RX0 14 "ExampleDrawers$Drawer" "entries" "LExampleDrawers$Numbers;", Cond.fieldLink RX0 23 "ExampleDrawers$Drawer" "example" "LExampleDrawers$Example;", Cond.fieldLink RX0 27 "ExampleDrawers$Drawer" "width" "I"]
def wsX8_drop_r3 : List Cond := [Cond.methodLink RX0 59 yX3_copyFrom, Cond.instanceMethod yX3_copyFrom, Cond.selects RX3 yX3_copyFrom yX3_copyFrom, Cond.initialized RX3, Cond.code yX3_copyFrom cX3_copyFrom 3 none, Cond.fieldLink RX3 13 "ExampleDrawers$Numbers" "held" "[I", Cond.methodLink RX3 23 yX3_at, Cond.instanceMethod yX3_at, Cond.selects RX3 yX3_at yX3_at, Cond.code yX3_at cX3_at 2 (some .int), Cond.methodLink RX0 63 yX1_copyFrom, Cond.instanceMethod yX1_copyFrom, Cond.selects RX1 yX1_copyFrom yX1_copyFrom, Cond.initialized RX1, Cond.code yX1_copyFrom cX1_copyFrom 2 none, Cond.fieldLink RX1 14 "ExampleDrawers$Example" "kinds" "LExampleDrawers$Numbers;", Cond.fieldLink RX1 20 "ExampleDrawers$Example" "firsts" "LExampleDrawers$Numbers;", Cond.fieldLink RX1 23 "ExampleDrawers$Example" "seconds" "LExampleDrawers$Numbers;", Cond.methodLink RX1 37 yX3_copyFrom, Cond.methodLink RX6 70 yX3_copyFrom, Cond.methodLink RX8 87 yX0_remove, Cond.instanceMethod yX0_remove, Cond.selects RX0 yX0_remove yX0_remove, Cond.code yX0_remove cX0_remove 3 (some .int)]
def wsX8_drop_r4 : List Cond := [Cond.methodLink RX0 41 yX3_at, Cond.methodLink RX0 48 yX3_set, Cond.instanceMethod yX3_set, Cond.selects RX3 yX3_set yX3_set, Cond.code yX3_set cX3_set 3 none]
def wsX8_drop : List Cond := .code yX8_drop cX8_drop 3 (some .int) :: ((wsX8_drop_r1 ++ (wsX8_drop_r2 ++ (wsX8_drop_r3 ++ wsX8_drop_r4))) ++ wsX80 ++ wsX60 ++ wsX00 ++ wsX20 ++ wsX30 ++ wsX10)
def wsX8_valueOf_r1 : List Cond := [Cond.fieldLink RX8 12 "ExampleDrawers" "now" "LExampleDrawers$State;", Cond.methodLink RX8 76 yX8_isPlace, Cond.instanceMethod yX8_isPlace, Cond.selects RX8 yX8_isPlace yX8_isPlace, Cond.initialized RX8, Cond.code yX8_isPlace cX8_isPlace 4 (some .boolean), Cond.methodLink RX8 94 yX8_isCell, Cond.instanceMethod yX8_isCell, Cond.selects RX8 yX8_isCell yX8_isCell, Cond.code yX8_isCell cX8_isCell 3 (some .boolean), Cond.methodLink RX8 48 yX8_isBit, Cond.static yX8_isBit, Cond.code yX8_isBit cX8_isBit 1 (some .boolean), Cond.methodLink RX8 55 yX6_drawer, Cond.instanceMethod yX6_drawer, Cond.selects RX6 yX6_drawer yX6_drawer, Cond.initialized RX6, Cond.code yX6_drawer cX6_drawer 2 (some (.object "ExampleDrawers$Drawer")), Cond.fieldLink RX6 12 "ExampleDrawers$State" "drawer0" "LExampleDrawers$Drawer;", Cond.fieldLink RX6 18 "ExampleDrawers$State" "drawer1" "LExampleDrawers$Drawer;", Cond.methodLink RX8 217 yX0_hasColumn, Cond.instanceMethod yX0_hasColumn, Cond.selects RX0 yX0_hasColumn yX0_hasColumn, Cond.initialized RX0]
def wsX8_valueOf_r2 : List Cond := [Cond.code yX0_hasColumn cX0_hasColumn 2 (some .boolean), Cond.fieldLink RX0 27 "ExampleDrawers$Drawer" "width" "I", Cond.methodLink RX8 84 yX0_hasCard, Cond.instanceMethod yX0_hasCard, Cond.selects RX0 yX0_hasCard yX0_hasCard, Cond.code yX0_hasCard cX0_hasCard 2 (some .boolean), Cond.fieldLink RX0 31 "ExampleDrawers$Drawer" "size" "I", Cond.methodLink RX8 90 yX0_entry, Cond.instanceMethod yX0_entry, Cond.selects RX0 yX0_entry yX0_entry, Cond.code yX0_entry cX0_entry 3 (some .int), Cond.fieldLink RX0 14 "ExampleDrawers$Drawer" "entries" "LExampleDrawers$Numbers;", Cond.methodLink RX0 34 yX0_hasCard, Cond.methodLink RX0 38 yX0_hasColumn, Cond.methodLink RX0 41 yX3_at, Cond.instanceMethod yX3_at, Cond.selects RX3 yX3_at yX3_at, Cond.initialized RX3, Cond.code yX3_at cX3_at 2 (some .int), Cond.fieldLink RX3 13 "ExampleDrawers$Numbers" "held" "[I"]
def wsX8_valueOf : List Cond := .code yX8_valueOf cX8_valueOf 4 (some .int) :: ((wsX8_valueOf_r1 ++ wsX8_valueOf_r2) ++ wsX80 ++ wsX60 ++ wsX00 ++ wsX30)
def wsX8_greatestFirst : List Cond := .code yX8_greatestFirst cX8_greatestFirst 1 (some .int) :: ([])
def wsX8_isContent : List Cond := .code yX8_isContent cX8_isContent 3 (some .boolean) :: ([.methodLink RX8 220 yX8_greatestFirst, .static yX8_greatestFirst, .initialized RX8, .code yX8_greatestFirst cX8_greatestFirst 1 (some .int)])
def wsX8_cell_r1 : List Cond := [Cond.fieldLink RX8 19 "ExampleDrawers" "history" "LExampleDrawers$History;", Cond.fieldLink RX8 12 "ExampleDrawers" "now" "LExampleDrawers$State;", Cond.methodLink RX8 94 yX8_isCell, Cond.instanceMethod yX8_isCell, Cond.selects RX8 yX8_isCell yX8_isCell, Cond.initialized RX8, Cond.code yX8_isCell cX8_isCell 3 (some .boolean), Cond.methodLink RX8 48 yX8_isBit, Cond.static yX8_isBit, Cond.code yX8_isBit cX8_isBit 1 (some .boolean), Cond.methodLink RX8 55 yX6_drawer, Cond.instanceMethod yX6_drawer, Cond.selects RX6 yX6_drawer yX6_drawer, Cond.initialized RX6, Cond.code yX6_drawer cX6_drawer 2 (some (.object "ExampleDrawers$Drawer")), Cond.fieldLink RX6 12 "ExampleDrawers$State" "drawer0" "LExampleDrawers$Drawer;", Cond.fieldLink RX6 18 "ExampleDrawers$State" "drawer1" "LExampleDrawers$Drawer;", Cond.methodLink RX8 217 yX0_hasColumn, Cond.instanceMethod yX0_hasColumn, Cond.selects RX0 yX0_hasColumn yX0_hasColumn, Cond.initialized RX0, Cond.code yX0_hasColumn cX0_hasColumn 2 (some .boolean), Cond.fieldLink RX0 27 "ExampleDrawers$Drawer" "width" "I", Cond.methodLink RX8 98 yX8_isContent]
def wsX8_cell_r2 : List Cond := [Cond.static yX8_isContent, Cond.code yX8_isContent cX8_isContent 3 (some .boolean), Cond.methodLink RX8 220 yX8_greatestFirst, Cond.static yX8_greatestFirst, Cond.code yX8_greatestFirst cX8_greatestFirst 1 (some .int), Cond.methodLink RX8 52 yX2_keep, Cond.instanceMethod yX2_keep, Cond.selects RX2 yX2_keep yX2_keep, Cond.initialized RX2, Cond.code yX2_keep cX2_keep 2 none, Cond.fieldLink RX2 24 "ExampleDrawers$History" "oldest" "LExampleDrawers$State;", Cond.fieldLink RX2 21 "ExampleDrawers$History" "third" "LExampleDrawers$State;", Cond.fieldLink RX2 18 "ExampleDrawers$History" "second" "LExampleDrawers$State;", Cond.fieldLink RX2 12 "ExampleDrawers$History" "latest" "LExampleDrawers$State;", Cond.fieldLink RX2 27 "ExampleDrawers$History" "size" "I", Cond.methodLink RX2 35 Lib.Math.min.name, Cond.static Lib.Math.min.name, Cond.initialized "java/lang/Math", Cond.code Lib.Math.min.name Lib.Math.min.code 2 (some .int), Cond.methodLink RX2 31 yX6_copyFrom, Cond.instanceMethod yX6_copyFrom, Cond.selects RX6 yX6_copyFrom yX6_copyFrom, Cond.code yX6_copyFrom cX6_copyFrom 2 none, Cond.fieldLink RX6 26 "ExampleDrawers$State" "orderColumns" "LExampleDrawers$Numbers;"]
def wsX8_cell_r3 : List Cond := [Cond.fieldLink RX6 30 "ExampleDrawers$State" "orderDowns" "LExampleDrawers$Numbers;", Cond.fieldLink RX6 33 "ExampleDrawers$State" "asksBoth" "I", Cond.fieldLink RX6 37 "ExampleDrawers$State" "shown" "I", Cond.methodLink RX6 66 yX0_copyFrom, Cond.instanceMethod yX0_copyFrom, Cond.selects RX0 yX0_copyFrom yX0_copyFrom, Cond.code yX0_copyFrom cX0_copyFrom 2 none, Cond.fieldLink RX0 14 "ExampleDrawers$Drawer" "entries" "LExampleDrawers$Numbers;", Cond.fieldLink RX0 23 "ExampleDrawers$Drawer" "example" "LExampleDrawers$Example;", Cond.fieldLink RX0 31 "ExampleDrawers$Drawer" "size" "I", Cond.methodLink RX0 59 yX3_copyFrom, Cond.instanceMethod yX3_copyFrom, Cond.selects RX3 yX3_copyFrom yX3_copyFrom, Cond.initialized RX3, Cond.code yX3_copyFrom cX3_copyFrom 3 none, Cond.fieldLink RX3 13 "ExampleDrawers$Numbers" "held" "[I", Cond.methodLink RX3 23 yX3_at, Cond.instanceMethod yX3_at, Cond.selects RX3 yX3_at yX3_at, Cond.code yX3_at cX3_at 2 (some .int), Cond.methodLink RX0 63 yX1_copyFrom, Cond.instanceMethod yX1_copyFrom, Cond.selects RX1 yX1_copyFrom yX1_copyFrom, Cond.initialized RX1]
def wsX8_cell_r4 : List Cond := [Cond.code yX1_copyFrom cX1_copyFrom 2 none, Cond.fieldLink RX1 14 "ExampleDrawers$Example" "kinds" "LExampleDrawers$Numbers;", Cond.fieldLink RX1 20 "ExampleDrawers$Example" "firsts" "LExampleDrawers$Numbers;", Cond.fieldLink RX1 23 "ExampleDrawers$Example" "seconds" "LExampleDrawers$Numbers;", Cond.methodLink RX1 37 yX3_copyFrom, Cond.methodLink RX6 70 yX3_copyFrom, Cond.methodLink RX8 101 yX0_example, Cond.instanceMethod yX0_example, Cond.selects RX0 yX0_example yX0_example, Cond.code yX0_example cX0_example 1 (some (.object "ExampleDrawers$Example")), Cond.methodLink RX8 105 yX1_kindAt, Cond.instanceMethod yX1_kindAt, Cond.selects RX1 yX1_kindAt yX1_kindAt, Cond.code yX1_kindAt cX1_kindAt 2 (some .int), Cond.methodLink RX1 26 yX3_at, Cond.methodLink RX8 110 yX1_fill, Cond.instanceMethod yX1_fill, Cond.selects RX1 yX1_fill yX1_fill, Cond.code yX1_fill cX1_fill 5 none, Cond.methodLink RX1 30 yX3_set, Cond.instanceMethod yX3_set, Cond.selects RX3 yX3_set yX3_set, Cond.code yX3_set cX3_set 3 none]
def wsX8_cell : List Cond := .code yX8_cell cX8_cell 8 (some .int) :: ((wsX8_cell_r1 ++ (wsX8_cell_r2 ++ (wsX8_cell_r3 ++ wsX8_cell_r4))) ++ wsX80 ++ wsX60 ++ wsX00 ++ wsX20 ++ wsX30 ++ wsX10)
def wsX8_clear_r1 : List Cond := [Cond.fieldLink RX8 19 "ExampleDrawers" "history" "LExampleDrawers$History;", Cond.fieldLink RX8 12 "ExampleDrawers" "now" "LExampleDrawers$State;", Cond.methodLink RX8 48 yX8_isBit, Cond.static yX8_isBit, Cond.initialized RX8, Cond.code yX8_isBit cX8_isBit 1 (some .boolean), Cond.methodLink RX8 52 yX2_keep, Cond.instanceMethod yX2_keep, Cond.selects RX2 yX2_keep yX2_keep, Cond.initialized RX2, Cond.code yX2_keep cX2_keep 2 none, Cond.fieldLink RX2 24 "ExampleDrawers$History" "oldest" "LExampleDrawers$State;", Cond.fieldLink RX2 21 "ExampleDrawers$History" "third" "LExampleDrawers$State;", Cond.fieldLink RX2 18 "ExampleDrawers$History" "second" "LExampleDrawers$State;", Cond.fieldLink RX2 12 "ExampleDrawers$History" "latest" "LExampleDrawers$State;", Cond.fieldLink RX2 27 "ExampleDrawers$History" "size" "I", Cond.methodLink RX2 35 Lib.Math.min.name, Cond.static Lib.Math.min.name, Cond.initialized "java/lang/Math", Cond.code Lib.Math.min.name Lib.Math.min.code 2 (some .int), Cond.methodLink RX2 31 yX6_copyFrom, Cond.instanceMethod yX6_copyFrom, Cond.selects RX6 yX6_copyFrom yX6_copyFrom, Cond.initialized RX6]
def wsX8_clear_r2 : List Cond := [Cond.code yX6_copyFrom cX6_copyFrom 2 none, Cond.fieldLink RX6 12 "ExampleDrawers$State" "drawer0" "LExampleDrawers$Drawer;", Cond.fieldLink RX6 18 "ExampleDrawers$State" "drawer1" "LExampleDrawers$Drawer;", Cond.fieldLink RX6 26 "ExampleDrawers$State" "orderColumns" "LExampleDrawers$Numbers;", Cond.fieldLink RX6 30 "ExampleDrawers$State" "orderDowns" "LExampleDrawers$Numbers;", Cond.fieldLink RX6 33 "ExampleDrawers$State" "asksBoth" "I", Cond.fieldLink RX6 37 "ExampleDrawers$State" "shown" "I", Cond.methodLink RX6 66 yX0_copyFrom, Cond.instanceMethod yX0_copyFrom, Cond.selects RX0 yX0_copyFrom yX0_copyFrom, Cond.initialized RX0, Cond.code yX0_copyFrom cX0_copyFrom 2 none, Cond.fieldLink RX0 14 "ExampleDrawers$Drawer" "entries" "LExampleDrawers$Numbers;", Cond.fieldLink RX0 23 "ExampleDrawers$Drawer" "example" "LExampleDrawers$Example;", Cond.fieldLink RX0 27 "ExampleDrawers$Drawer" "width" "I", Cond.fieldLink RX0 31 "ExampleDrawers$Drawer" "size" "I", Cond.methodLink RX0 59 yX3_copyFrom, Cond.instanceMethod yX3_copyFrom, Cond.selects RX3 yX3_copyFrom yX3_copyFrom, Cond.initialized RX3, Cond.code yX3_copyFrom cX3_copyFrom 3 none, Cond.fieldLink RX3 13 "ExampleDrawers$Numbers" "held" "[I", Cond.methodLink RX3 23 yX3_at, Cond.instanceMethod yX3_at]
def wsX8_clear_r3 : List Cond := [Cond.selects RX3 yX3_at yX3_at, Cond.code yX3_at cX3_at 2 (some .int), Cond.methodLink RX0 63 yX1_copyFrom, Cond.instanceMethod yX1_copyFrom, Cond.selects RX1 yX1_copyFrom yX1_copyFrom, Cond.initialized RX1, Cond.code yX1_copyFrom cX1_copyFrom 2 none, Cond.fieldLink RX1 14 "ExampleDrawers$Example" "kinds" "LExampleDrawers$Numbers;", Cond.fieldLink RX1 20 "ExampleDrawers$Example" "firsts" "LExampleDrawers$Numbers;", Cond.fieldLink RX1 23 "ExampleDrawers$Example" "seconds" "LExampleDrawers$Numbers;", Cond.methodLink RX1 37 yX3_copyFrom, Cond.methodLink RX6 70 yX3_copyFrom, Cond.methodLink RX8 55 yX6_drawer, Cond.instanceMethod yX6_drawer, Cond.selects RX6 yX6_drawer yX6_drawer, Cond.code yX6_drawer cX6_drawer 2 (some (.object "ExampleDrawers$Drawer")), Cond.methodLink RX8 101 yX0_example, Cond.instanceMethod yX0_example, Cond.selects RX0 yX0_example yX0_example, Cond.code yX0_example cX0_example 1 (some (.object "ExampleDrawers$Example")), Cond.methodLink RX8 114 yX1_otherKinds, Cond.instanceMethod yX1_otherKinds, Cond.selects RX1 yX1_otherKinds yX1_otherKinds, Cond.code yX1_otherKinds cX1_otherKinds 3 (some .int)]
def wsX8_clear_r4 : List Cond := [Cond.methodLink RX1 26 yX3_at, Cond.methodLink RX8 117 yX1_wipe, Cond.instanceMethod yX1_wipe, Cond.selects RX1 yX1_wipe yX1_wipe, Cond.code yX1_wipe cX1_wipe 1 none, Cond.methodLink RX1 33 yX3_fill, Cond.instanceMethod yX3_fill, Cond.selects RX3 yX3_fill yX3_fill, Cond.code yX3_fill cX3_fill 3 none]
def wsX8_clear : List Cond := .code yX8_clear cX8_clear 4 (some .int) :: ((wsX8_clear_r1 ++ (wsX8_clear_r2 ++ (wsX8_clear_r3 ++ wsX8_clear_r4))) ++ wsX80 ++ wsX20 ++ wsX60 ++ wsX00 ++ wsX30 ++ wsX10)
def wsX8_both_r1 : List Cond := [Cond.fieldLink RX8 19 "ExampleDrawers" "history" "LExampleDrawers$History;", Cond.fieldLink RX8 12 "ExampleDrawers" "now" "LExampleDrawers$State;", Cond.methodLink RX8 48 yX8_isBit, Cond.static yX8_isBit, Cond.initialized RX8, Cond.code yX8_isBit cX8_isBit 1 (some .boolean), Cond.methodLink RX8 52 yX2_keep, Cond.instanceMethod yX2_keep, Cond.selects RX2 yX2_keep yX2_keep, Cond.initialized RX2, Cond.code yX2_keep cX2_keep 2 none, Cond.fieldLink RX2 24 "ExampleDrawers$History" "oldest" "LExampleDrawers$State;", Cond.fieldLink RX2 21 "ExampleDrawers$History" "third" "LExampleDrawers$State;", Cond.fieldLink RX2 18 "ExampleDrawers$History" "second" "LExampleDrawers$State;", Cond.fieldLink RX2 12 "ExampleDrawers$History" "latest" "LExampleDrawers$State;", Cond.fieldLink RX2 27 "ExampleDrawers$History" "size" "I", Cond.methodLink RX2 35 Lib.Math.min.name, Cond.static Lib.Math.min.name, Cond.initialized "java/lang/Math", Cond.code Lib.Math.min.name Lib.Math.min.code 2 (some .int), Cond.methodLink RX2 31 yX6_copyFrom, Cond.instanceMethod yX6_copyFrom, Cond.selects RX6 yX6_copyFrom yX6_copyFrom, Cond.initialized RX6]
def wsX8_both_r2 : List Cond := [Cond.code yX6_copyFrom cX6_copyFrom 2 none, Cond.fieldLink RX6 12 "ExampleDrawers$State" "drawer0" "LExampleDrawers$Drawer;", Cond.fieldLink RX6 18 "ExampleDrawers$State" "drawer1" "LExampleDrawers$Drawer;", Cond.fieldLink RX6 26 "ExampleDrawers$State" "orderColumns" "LExampleDrawers$Numbers;", Cond.fieldLink RX6 30 "ExampleDrawers$State" "orderDowns" "LExampleDrawers$Numbers;", Cond.fieldLink RX6 33 "ExampleDrawers$State" "asksBoth" "I", Cond.fieldLink RX6 37 "ExampleDrawers$State" "shown" "I", Cond.methodLink RX6 66 yX0_copyFrom, Cond.instanceMethod yX0_copyFrom, Cond.selects RX0 yX0_copyFrom yX0_copyFrom, Cond.initialized RX0, Cond.code yX0_copyFrom cX0_copyFrom 2 none, Cond.fieldLink RX0 14 "ExampleDrawers$Drawer" "entries" "LExampleDrawers$Numbers;", Cond.fieldLink RX0 23 "ExampleDrawers$Drawer" "example" "LExampleDrawers$Example;", Cond.fieldLink RX0 27 "ExampleDrawers$Drawer" "width" "I", Cond.fieldLink RX0 31 "ExampleDrawers$Drawer" "size" "I", Cond.methodLink RX0 59 yX3_copyFrom, Cond.instanceMethod yX3_copyFrom, Cond.selects RX3 yX3_copyFrom yX3_copyFrom, Cond.initialized RX3, Cond.code yX3_copyFrom cX3_copyFrom 3 none, Cond.fieldLink RX3 13 "ExampleDrawers$Numbers" "held" "[I", Cond.methodLink RX3 23 yX3_at, Cond.instanceMethod yX3_at]
def wsX8_both_r3 : List Cond := [Cond.selects RX3 yX3_at yX3_at, Cond.code yX3_at cX3_at 2 (some .int), Cond.methodLink RX0 63 yX1_copyFrom, Cond.instanceMethod yX1_copyFrom, Cond.selects RX1 yX1_copyFrom yX1_copyFrom, Cond.initialized RX1, Cond.code yX1_copyFrom cX1_copyFrom 2 none, Cond.fieldLink RX1 14 "ExampleDrawers$Example" "kinds" "LExampleDrawers$Numbers;", Cond.fieldLink RX1 20 "ExampleDrawers$Example" "firsts" "LExampleDrawers$Numbers;", Cond.fieldLink RX1 23 "ExampleDrawers$Example" "seconds" "LExampleDrawers$Numbers;", Cond.methodLink RX1 37 yX3_copyFrom, Cond.methodLink RX6 70 yX3_copyFrom, Cond.methodLink RX8 120 yX6_askBoth, Cond.instanceMethod yX6_askBoth, Cond.selects RX6 yX6_askBoth yX6_askBoth, Cond.code yX6_askBoth cX6_askBoth 3 (some .int)]
def wsX8_both : List Cond := .code yX8_both cX8_both 2 (some .int) :: ((wsX8_both_r1 ++ (wsX8_both_r2 ++ wsX8_both_r3)) ++ wsX80 ++ wsX20 ++ wsX60 ++ wsX00 ++ wsX30 ++ wsX10)
def wsX8_order_r1 : List Cond := [Cond.fieldLink RX8 19 "ExampleDrawers" "history" "LExampleDrawers$History;", Cond.fieldLink RX8 12 "ExampleDrawers" "now" "LExampleDrawers$State;", Cond.fieldLink RX8 28 "ExampleDrawers" "rows" "LExampleDrawers$Rows;", Cond.methodLink RX8 48 yX8_isBit, Cond.static yX8_isBit, Cond.initialized RX8, Cond.code yX8_isBit cX8_isBit 1 (some .boolean), Cond.methodLink RX8 52 yX2_keep, Cond.instanceMethod yX2_keep, Cond.selects RX2 yX2_keep yX2_keep, Cond.initialized RX2, Cond.code yX2_keep cX2_keep 2 none, Cond.fieldLink RX2 24 "ExampleDrawers$History" "oldest" "LExampleDrawers$State;", Cond.fieldLink RX2 21 "ExampleDrawers$History" "third" "LExampleDrawers$State;", Cond.fieldLink RX2 18 "ExampleDrawers$History" "second" "LExampleDrawers$State;", Cond.fieldLink RX2 12 "ExampleDrawers$History" "latest" "LExampleDrawers$State;", Cond.fieldLink RX2 27 "ExampleDrawers$History" "size" "I", Cond.methodLink RX2 35 Lib.Math.min.name, Cond.static Lib.Math.min.name, Cond.initialized "java/lang/Math", Cond.code Lib.Math.min.name Lib.Math.min.code 2 (some .int), Cond.methodLink RX2 31 yX6_copyFrom, Cond.instanceMethod yX6_copyFrom, Cond.selects RX6 yX6_copyFrom yX6_copyFrom]
def wsX8_order_r2 : List Cond := [Cond.initialized RX6, Cond.code yX6_copyFrom cX6_copyFrom 2 none, Cond.fieldLink RX6 12 "ExampleDrawers$State" "drawer0" "LExampleDrawers$Drawer;", Cond.fieldLink RX6 18 "ExampleDrawers$State" "drawer1" "LExampleDrawers$Drawer;", Cond.fieldLink RX6 26 "ExampleDrawers$State" "orderColumns" "LExampleDrawers$Numbers;", Cond.fieldLink RX6 30 "ExampleDrawers$State" "orderDowns" "LExampleDrawers$Numbers;", Cond.fieldLink RX6 33 "ExampleDrawers$State" "asksBoth" "I", Cond.fieldLink RX6 37 "ExampleDrawers$State" "shown" "I", Cond.methodLink RX6 66 yX0_copyFrom, Cond.instanceMethod yX0_copyFrom, Cond.selects RX0 yX0_copyFrom yX0_copyFrom, Cond.initialized RX0, Cond.code yX0_copyFrom cX0_copyFrom 2 none, Cond.fieldLink RX0 14 "ExampleDrawers$Drawer" "entries" "LExampleDrawers$Numbers;", Cond.fieldLink RX0 23 "ExampleDrawers$Drawer" "example" "LExampleDrawers$Example;", Cond.fieldLink RX0 27 "ExampleDrawers$Drawer" "width" "I", Cond.fieldLink RX0 31 "ExampleDrawers$Drawer" "size" "I", Cond.methodLink RX0 59 yX3_copyFrom, Cond.instanceMethod yX3_copyFrom, Cond.selects RX3 yX3_copyFrom yX3_copyFrom, Cond.initialized RX3, Cond.code yX3_copyFrom cX3_copyFrom 3 none, Cond.fieldLink RX3 13 "ExampleDrawers$Numbers" "held" "[I", Cond.methodLink RX3 23 yX3_at]
def wsX8_order_r3 : List Cond := [Cond.instanceMethod yX3_at, Cond.selects RX3 yX3_at yX3_at, Cond.code yX3_at cX3_at 2 (some .int), Cond.methodLink RX0 63 yX1_copyFrom, Cond.instanceMethod yX1_copyFrom, Cond.selects RX1 yX1_copyFrom yX1_copyFrom, Cond.initialized RX1, Cond.code yX1_copyFrom cX1_copyFrom 2 none, Cond.fieldLink RX1 14 "ExampleDrawers$Example" "kinds" "LExampleDrawers$Numbers;", Cond.fieldLink RX1 20 "ExampleDrawers$Example" "firsts" "LExampleDrawers$Numbers;", Cond.fieldLink RX1 23 "ExampleDrawers$Example" "seconds" "LExampleDrawers$Numbers;", Cond.methodLink RX1 37 yX3_copyFrom, Cond.methodLink RX6 70 yX3_copyFrom, Cond.methodLink RX8 123 yX6_setOrder, Cond.instanceMethod yX6_setOrder, Cond.selects RX6 yX6_setOrder yX6_setOrder, Cond.code yX6_setOrder cX6_setOrder 4 none, Cond.methodLink RX6 44 yX3_set, Cond.instanceMethod yX3_set, Cond.selects RX3 yX3_set yX3_set, Cond.code yX3_set cX3_set 3 none, Cond.methodLink RX8 127 yX5_find, Cond.instanceMethod yX5_find, Cond.selects RX5 yX5_find yX5_find]
def wsX8_order_r4 : List Cond := [Cond.initialized RX5, Cond.code yX5_find cX5_find 7 (some .int), Cond.fieldLink RX5 26 "ExampleDrawers$Rows" "size" "I", Cond.fieldLink RX5 33 "ExampleDrawers$Rows" "state" "LExampleDrawers$State;", Cond.fieldLink RX5 14 "ExampleDrawers$Rows" "found" "LExampleDrawers$Numbers;", Cond.methodLink RX5 37 yX5_findTellers, Cond.instanceMethod yX5_findTellers, Cond.selects RX5 yX5_findTellers yX5_findTellers, Cond.code yX5_findTellers cX5_findTellers 6 none, Cond.fieldLink RX5 30 "ExampleDrawers$Rows" "leftOut" "I", Cond.fieldLink RX5 23 "ExampleDrawers$Rows" "tellers" "LExampleDrawers$Numbers;", Cond.methodLink RX5 66 yX3_fill, Cond.instanceMethod yX3_fill, Cond.selects RX3 yX3_fill yX3_fill, Cond.code yX3_fill cX3_fill 3 none, Cond.methodLink RX5 69 yX6_exampleOf, Cond.instanceMethod yX6_exampleOf, Cond.selects RX6 yX6_exampleOf yX6_exampleOf, Cond.code yX6_exampleOf cX6_exampleOf 2 (some (.object "ExampleDrawers$Example")), Cond.methodLink RX6 62 yX0_example, Cond.instanceMethod yX0_example, Cond.selects RX0 yX0_example yX0_example, Cond.code yX0_example cX0_example 1 (some (.object "ExampleDrawers$Example")), Cond.methodLink RX5 73 yX6_isAsked]
def wsX8_order_r5 : List Cond := [Cond.instanceMethod yX6_isAsked, Cond.selects RX6 yX6_isAsked yX6_isAsked, Cond.code yX6_isAsked cX6_isAsked 2 (some .boolean), Cond.methodLink RX6 47 yX0_hasColumn, Cond.instanceMethod yX0_hasColumn, Cond.selects RX0 yX0_hasColumn yX0_hasColumn, Cond.code yX0_hasColumn cX0_hasColumn 2 (some .boolean), Cond.methodLink RX6 51 yX6_isOfBoth, Cond.instanceMethod yX6_isOfBoth, Cond.selects RX6 yX6_isOfBoth yX6_isOfBoth, Cond.code yX6_isOfBoth cX6_isOfBoth 1 (some .boolean), Cond.methodLink RX5 77 yX1_kindAt, Cond.instanceMethod yX1_kindAt, Cond.selects RX1 yX1_kindAt yX1_kindAt, Cond.code yX1_kindAt cX1_kindAt 2 (some .int), Cond.methodLink RX1 26 yX3_at, Cond.methodLink RX5 82 yX1_firstAt, Cond.instanceMethod yX1_firstAt, Cond.selects RX1 yX1_firstAt yX1_firstAt, Cond.code yX1_firstAt cX1_firstAt 2 (some .int), Cond.methodLink RX5 60 yX3_set, Cond.methodLink RX5 41 yX6_drawer, Cond.instanceMethod yX6_drawer, Cond.selects RX6 yX6_drawer yX6_drawer]
def wsX8_order_r6 : List Cond := [Cond.code yX6_drawer cX6_drawer 2 (some (.object "ExampleDrawers$Drawer")), Cond.methodLink RX5 47 yX0_size, Cond.instanceMethod yX0_size, Cond.selects RX0 yX0_size yX0_size, Cond.code yX0_size cX0_size 1 (some .int), Cond.methodLink RX5 52 yX6_isOfBoth, Cond.methodLink RX5 56 yX5_firstMisfit, Cond.instanceMethod yX5_firstMisfit, Cond.selects RX5 yX5_firstMisfit yX5_firstMisfit, Cond.code yX5_firstMisfit cX5_firstMisfit 3 (some .int), Cond.methodLink RX5 85 yX5_isFitted, Cond.instanceMethod yX5_isFitted, Cond.selects RX5 yX5_isFitted yX5_isFitted, Cond.code yX5_isFitted cX5_isFitted 8 (some .boolean), Cond.methodLink RX5 89 yX6_entry, Cond.instanceMethod yX6_entry, Cond.selects RX6 yX6_entry yX6_entry, Cond.code yX6_entry cX6_entry 3 (some .int), Cond.methodLink RX6 58 yX0_entry, Cond.instanceMethod yX0_entry, Cond.selects RX0 yX0_entry yX0_entry, Cond.code yX0_entry cX0_entry 3 (some .int), Cond.methodLink RX0 34 yX0_hasCard, Cond.instanceMethod yX0_hasCard]
def wsX8_order_r7 : List Cond := [Cond.selects RX0 yX0_hasCard yX0_hasCard, Cond.code yX0_hasCard cX0_hasCard 2 (some .boolean), Cond.methodLink RX0 38 yX0_hasColumn, Cond.methodLink RX0 41 yX3_at, Cond.methodLink RX5 93 yX1_takesAlone, Cond.instanceMethod yX1_takesAlone, Cond.selects RX1 yX1_takesAlone yX1_takesAlone, Cond.code yX1_takesAlone cX1_takesAlone 5 (some .boolean), Cond.methodLink RX5 63 yX3_at]
def wsX8_order : List Cond := .code yX8_order cX8_order 4 (some .int) :: ((wsX8_order_r1 ++ (wsX8_order_r2 ++ (wsX8_order_r3 ++ (wsX8_order_r4 ++ (wsX8_order_r5 ++ (wsX8_order_r6 ++ wsX8_order_r7)))))) ++ wsX80 ++ wsX20 ++ wsX60 ++ wsX00 ++ wsX30 ++ wsX10 ++ wsX50)
def wsX8_show_r1 : List Cond := [Cond.fieldLink RX8 19 "ExampleDrawers" "history" "LExampleDrawers$History;", Cond.fieldLink RX8 12 "ExampleDrawers" "now" "LExampleDrawers$State;", Cond.fieldLink RX8 28 "ExampleDrawers" "rows" "LExampleDrawers$Rows;", Cond.methodLink RX8 52 yX2_keep, Cond.instanceMethod yX2_keep, Cond.selects RX2 yX2_keep yX2_keep, Cond.initialized RX2, Cond.code yX2_keep cX2_keep 2 none, Cond.fieldLink RX2 24 "ExampleDrawers$History" "oldest" "LExampleDrawers$State;", Cond.fieldLink RX2 21 "ExampleDrawers$History" "third" "LExampleDrawers$State;", Cond.fieldLink RX2 18 "ExampleDrawers$History" "second" "LExampleDrawers$State;", Cond.fieldLink RX2 12 "ExampleDrawers$History" "latest" "LExampleDrawers$State;", Cond.fieldLink RX2 27 "ExampleDrawers$History" "size" "I", Cond.methodLink RX2 35 Lib.Math.min.name, Cond.static Lib.Math.min.name, Cond.initialized "java/lang/Math", Cond.code Lib.Math.min.name Lib.Math.min.code 2 (some .int), Cond.methodLink RX2 31 yX6_copyFrom, Cond.instanceMethod yX6_copyFrom, Cond.selects RX6 yX6_copyFrom yX6_copyFrom, Cond.initialized RX6, Cond.code yX6_copyFrom cX6_copyFrom 2 none, Cond.fieldLink RX6 12 "ExampleDrawers$State" "drawer0" "LExampleDrawers$Drawer;", Cond.fieldLink RX6 18 "ExampleDrawers$State" "drawer1" "LExampleDrawers$Drawer;"]
def wsX8_show_r2 : List Cond := [Cond.fieldLink RX6 26 "ExampleDrawers$State" "orderColumns" "LExampleDrawers$Numbers;", Cond.fieldLink RX6 30 "ExampleDrawers$State" "orderDowns" "LExampleDrawers$Numbers;", Cond.fieldLink RX6 33 "ExampleDrawers$State" "asksBoth" "I", Cond.fieldLink RX6 37 "ExampleDrawers$State" "shown" "I", Cond.methodLink RX6 66 yX0_copyFrom, Cond.instanceMethod yX0_copyFrom, Cond.selects RX0 yX0_copyFrom yX0_copyFrom, Cond.initialized RX0, Cond.code yX0_copyFrom cX0_copyFrom 2 none, Cond.fieldLink RX0 14 "ExampleDrawers$Drawer" "entries" "LExampleDrawers$Numbers;", Cond.fieldLink RX0 23 "ExampleDrawers$Drawer" "example" "LExampleDrawers$Example;", Cond.fieldLink RX0 27 "ExampleDrawers$Drawer" "width" "I", Cond.fieldLink RX0 31 "ExampleDrawers$Drawer" "size" "I", Cond.methodLink RX0 59 yX3_copyFrom, Cond.instanceMethod yX3_copyFrom, Cond.selects RX3 yX3_copyFrom yX3_copyFrom, Cond.initialized RX3, Cond.code yX3_copyFrom cX3_copyFrom 3 none, Cond.fieldLink RX3 13 "ExampleDrawers$Numbers" "held" "[I", Cond.methodLink RX3 23 yX3_at, Cond.instanceMethod yX3_at, Cond.selects RX3 yX3_at yX3_at, Cond.code yX3_at cX3_at 2 (some .int), Cond.methodLink RX0 63 yX1_copyFrom]
def wsX8_show_r3 : List Cond := [Cond.instanceMethod yX1_copyFrom, Cond.selects RX1 yX1_copyFrom yX1_copyFrom, Cond.initialized RX1, Cond.code yX1_copyFrom cX1_copyFrom 2 none, Cond.fieldLink RX1 14 "ExampleDrawers$Example" "kinds" "LExampleDrawers$Numbers;", Cond.fieldLink RX1 20 "ExampleDrawers$Example" "firsts" "LExampleDrawers$Numbers;", Cond.fieldLink RX1 23 "ExampleDrawers$Example" "seconds" "LExampleDrawers$Numbers;", Cond.methodLink RX1 37 yX3_copyFrom, Cond.methodLink RX6 70 yX3_copyFrom, Cond.methodLink RX8 130 yX6_setShown, Cond.instanceMethod yX6_setShown, Cond.selects RX6 yX6_setShown yX6_setShown, Cond.code yX6_setShown cX6_setShown 2 none, Cond.methodLink RX8 134 yX5_countUnlike, Cond.instanceMethod yX5_countUnlike, Cond.selects RX5 yX5_countUnlike yX5_countUnlike, Cond.initialized RX5, Cond.code yX5_countUnlike cX5_countUnlike 6 (some .int), Cond.fieldLink RX5 20 "ExampleDrawers$Rows" "marks" "LExampleDrawers$Numbers;", Cond.fieldLink RX5 26 "ExampleDrawers$Rows" "size" "I", Cond.fieldLink RX5 14 "ExampleDrawers$Rows" "found" "LExampleDrawers$Numbers;", Cond.methodLink RX5 109 yX5_find, Cond.instanceMethod yX5_find, Cond.selects RX5 yX5_find yX5_find]
def wsX8_show_r4 : List Cond := [Cond.code yX5_find cX5_find 7 (some .int), Cond.fieldLink RX5 33 "ExampleDrawers$Rows" "state" "LExampleDrawers$State;", Cond.methodLink RX5 37 yX5_findTellers, Cond.instanceMethod yX5_findTellers, Cond.selects RX5 yX5_findTellers yX5_findTellers, Cond.code yX5_findTellers cX5_findTellers 6 none, Cond.fieldLink RX5 30 "ExampleDrawers$Rows" "leftOut" "I", Cond.fieldLink RX5 23 "ExampleDrawers$Rows" "tellers" "LExampleDrawers$Numbers;", Cond.methodLink RX5 66 yX3_fill, Cond.instanceMethod yX3_fill, Cond.selects RX3 yX3_fill yX3_fill, Cond.code yX3_fill cX3_fill 3 none, Cond.methodLink RX5 69 yX6_exampleOf, Cond.instanceMethod yX6_exampleOf, Cond.selects RX6 yX6_exampleOf yX6_exampleOf, Cond.code yX6_exampleOf cX6_exampleOf 2 (some (.object "ExampleDrawers$Example")), Cond.methodLink RX6 62 yX0_example, Cond.instanceMethod yX0_example, Cond.selects RX0 yX0_example yX0_example, Cond.code yX0_example cX0_example 1 (some (.object "ExampleDrawers$Example")), Cond.methodLink RX5 73 yX6_isAsked, Cond.instanceMethod yX6_isAsked, Cond.selects RX6 yX6_isAsked yX6_isAsked, Cond.code yX6_isAsked cX6_isAsked 2 (some .boolean)]
def wsX8_show_r5 : List Cond := [Cond.methodLink RX6 47 yX0_hasColumn, Cond.instanceMethod yX0_hasColumn, Cond.selects RX0 yX0_hasColumn yX0_hasColumn, Cond.code yX0_hasColumn cX0_hasColumn 2 (some .boolean), Cond.methodLink RX6 51 yX6_isOfBoth, Cond.instanceMethod yX6_isOfBoth, Cond.selects RX6 yX6_isOfBoth yX6_isOfBoth, Cond.code yX6_isOfBoth cX6_isOfBoth 1 (some .boolean), Cond.methodLink RX5 77 yX1_kindAt, Cond.instanceMethod yX1_kindAt, Cond.selects RX1 yX1_kindAt yX1_kindAt, Cond.code yX1_kindAt cX1_kindAt 2 (some .int), Cond.methodLink RX1 26 yX3_at, Cond.methodLink RX5 82 yX1_firstAt, Cond.instanceMethod yX1_firstAt, Cond.selects RX1 yX1_firstAt yX1_firstAt, Cond.code yX1_firstAt cX1_firstAt 2 (some .int), Cond.methodLink RX5 60 yX3_set, Cond.instanceMethod yX3_set, Cond.selects RX3 yX3_set yX3_set, Cond.code yX3_set cX3_set 3 none, Cond.methodLink RX5 41 yX6_drawer, Cond.instanceMethod yX6_drawer, Cond.selects RX6 yX6_drawer yX6_drawer]
def wsX8_show_r6 : List Cond := [Cond.code yX6_drawer cX6_drawer 2 (some (.object "ExampleDrawers$Drawer")), Cond.methodLink RX5 47 yX0_size, Cond.instanceMethod yX0_size, Cond.selects RX0 yX0_size yX0_size, Cond.code yX0_size cX0_size 1 (some .int), Cond.methodLink RX5 52 yX6_isOfBoth, Cond.methodLink RX5 56 yX5_firstMisfit, Cond.instanceMethod yX5_firstMisfit, Cond.selects RX5 yX5_firstMisfit yX5_firstMisfit, Cond.code yX5_firstMisfit cX5_firstMisfit 3 (some .int), Cond.methodLink RX5 85 yX5_isFitted, Cond.instanceMethod yX5_isFitted, Cond.selects RX5 yX5_isFitted yX5_isFitted, Cond.code yX5_isFitted cX5_isFitted 8 (some .boolean), Cond.methodLink RX5 89 yX6_entry, Cond.instanceMethod yX6_entry, Cond.selects RX6 yX6_entry yX6_entry, Cond.code yX6_entry cX6_entry 3 (some .int), Cond.methodLink RX6 58 yX0_entry, Cond.instanceMethod yX0_entry, Cond.selects RX0 yX0_entry yX0_entry, Cond.code yX0_entry cX0_entry 3 (some .int), Cond.methodLink RX0 34 yX0_hasCard, Cond.instanceMethod yX0_hasCard]
def wsX8_show_r7 : List Cond := [Cond.selects RX0 yX0_hasCard yX0_hasCard, Cond.code yX0_hasCard cX0_hasCard 2 (some .boolean), Cond.methodLink RX0 38 yX0_hasColumn, Cond.methodLink RX0 41 yX3_at, Cond.methodLink RX5 93 yX1_takesAlone, Cond.instanceMethod yX1_takesAlone, Cond.selects RX1 yX1_takesAlone yX1_takesAlone, Cond.code yX1_takesAlone cX1_takesAlone 5 (some .boolean), Cond.methodLink RX5 63 yX3_at, Cond.methodLink RX5 123 yX5_firstAlike, Cond.instanceMethod yX5_firstAlike, Cond.selects RX5 yX5_firstAlike yX5_firstAlike, Cond.code yX5_firstAlike cX5_firstAlike 4 (some .int), Cond.methodLink RX5 126 yX5_isAlike, Cond.instanceMethod yX5_isAlike, Cond.selects RX5 yX5_isAlike yX5_isAlike, Cond.code yX5_isAlike cX5_isAlike 7 (some .boolean), Cond.methodLink RX5 130 yX0_entry, Cond.methodLink RX5 131 yX6_isShown, Cond.instanceMethod yX6_isShown, Cond.selects RX6 yX6_isShown yX6_isShown, Cond.code yX6_isShown cX6_isShown 2 (some .boolean), Cond.methodLink RX6 55 yX6_isAsked, Cond.methodLink RX5 120 yX5_markNew]
def wsX8_show_r8 : List Cond := [Cond.instanceMethod yX5_markNew, Cond.selects RX5 yX5_markNew yX5_markNew, Cond.code yX5_markNew cX5_markNew 3 (some .int)]
def wsX8_show : List Cond := .code yX8_show cX8_show 2 (some .int) :: ((wsX8_show_r1 ++ (wsX8_show_r2 ++ (wsX8_show_r3 ++ (wsX8_show_r4 ++ (wsX8_show_r5 ++ (wsX8_show_r6 ++ (wsX8_show_r7 ++ wsX8_show_r8))))))) ++ wsX80 ++ wsX20 ++ wsX60 ++ wsX00 ++ wsX30 ++ wsX10 ++ wsX50)
def wsX8_cellOf_r1 : List Cond := [Cond.fieldLink RX8 12 "ExampleDrawers" "now" "LExampleDrawers$State;", Cond.methodLink RX8 94 yX8_isCell, Cond.instanceMethod yX8_isCell, Cond.selects RX8 yX8_isCell yX8_isCell, Cond.initialized RX8, Cond.code yX8_isCell cX8_isCell 3 (some .boolean), Cond.methodLink RX8 48 yX8_isBit, Cond.static yX8_isBit, Cond.code yX8_isBit cX8_isBit 1 (some .boolean), Cond.methodLink RX8 55 yX6_drawer, Cond.instanceMethod yX6_drawer, Cond.selects RX6 yX6_drawer yX6_drawer, Cond.initialized RX6, Cond.code yX6_drawer cX6_drawer 2 (some (.object "ExampleDrawers$Drawer")), Cond.fieldLink RX6 12 "ExampleDrawers$State" "drawer0" "LExampleDrawers$Drawer;", Cond.fieldLink RX6 18 "ExampleDrawers$State" "drawer1" "LExampleDrawers$Drawer;", Cond.methodLink RX8 217 yX0_hasColumn, Cond.instanceMethod yX0_hasColumn, Cond.selects RX0 yX0_hasColumn yX0_hasColumn, Cond.initialized RX0, Cond.code yX0_hasColumn cX0_hasColumn 2 (some .boolean), Cond.fieldLink RX0 27 "ExampleDrawers$Drawer" "width" "I", Cond.methodLink RX8 101 yX0_example, Cond.instanceMethod yX0_example]
def wsX8_cellOf_r2 : List Cond := [Cond.selects RX0 yX0_example yX0_example, Cond.code yX0_example cX0_example 1 (some (.object "ExampleDrawers$Example")), Cond.fieldLink RX0 23 "ExampleDrawers$Drawer" "example" "LExampleDrawers$Example;", Cond.methodLink RX8 105 yX1_kindAt, Cond.instanceMethod yX1_kindAt, Cond.selects RX1 yX1_kindAt yX1_kindAt, Cond.initialized RX1, Cond.code yX1_kindAt cX1_kindAt 2 (some .int), Cond.fieldLink RX1 14 "ExampleDrawers$Example" "kinds" "LExampleDrawers$Numbers;", Cond.methodLink RX1 26 yX3_at, Cond.instanceMethod yX3_at, Cond.selects RX3 yX3_at yX3_at, Cond.initialized RX3, Cond.code yX3_at cX3_at 2 (some .int), Cond.fieldLink RX3 13 "ExampleDrawers$Numbers" "held" "[I", Cond.methodLink RX8 137 yX1_firstAt, Cond.instanceMethod yX1_firstAt, Cond.selects RX1 yX1_firstAt yX1_firstAt, Cond.code yX1_firstAt cX1_firstAt 2 (some .int), Cond.fieldLink RX1 20 "ExampleDrawers$Example" "firsts" "LExampleDrawers$Numbers;", Cond.methodLink RX8 140 yX1_secondAt, Cond.instanceMethod yX1_secondAt, Cond.selects RX1 yX1_secondAt yX1_secondAt, Cond.code yX1_secondAt cX1_secondAt 2 (some .int)]
def wsX8_cellOf_r3 : List Cond := [Cond.fieldLink RX1 23 "ExampleDrawers$Example" "seconds" "LExampleDrawers$Numbers;", Cond.methodLink RX8 143 yX0_countFitting, Cond.instanceMethod yX0_countFitting, Cond.selects RX0 yX0_countFitting yX0_countFitting, Cond.code yX0_countFitting cX0_countFitting 4 (some .int), Cond.fieldLink RX0 31 "ExampleDrawers$Drawer" "size" "I", Cond.methodLink RX0 51 yX0_entry, Cond.instanceMethod yX0_entry, Cond.selects RX0 yX0_entry yX0_entry, Cond.code yX0_entry cX0_entry 3 (some .int), Cond.fieldLink RX0 14 "ExampleDrawers$Drawer" "entries" "LExampleDrawers$Numbers;", Cond.methodLink RX0 34 yX0_hasCard, Cond.instanceMethod yX0_hasCard, Cond.selects RX0 yX0_hasCard yX0_hasCard, Cond.code yX0_hasCard cX0_hasCard 2 (some .boolean), Cond.methodLink RX0 38 yX0_hasColumn, Cond.methodLink RX0 41 yX3_at, Cond.methodLink RX0 55 yX1_takesAlone, Cond.instanceMethod yX1_takesAlone, Cond.selects RX1 yX1_takesAlone yX1_takesAlone, Cond.code yX1_takesAlone cX1_takesAlone 5 (some .boolean)]
def wsX8_cellOf : List Cond := .code yX8_cellOf cX8_cellOf 5 (some .int) :: ((wsX8_cellOf_r1 ++ (wsX8_cellOf_r2 ++ wsX8_cellOf_r3)) ++ wsX80 ++ wsX60 ++ wsX00 ++ wsX10 ++ wsX30)
def wsX8_many_r1 : List Cond := [Cond.fieldLink RX8 28 "ExampleDrawers" "rows" "LExampleDrawers$Rows;", Cond.methodLink RX8 127 yX5_find, Cond.instanceMethod yX5_find, Cond.selects RX5 yX5_find yX5_find, Cond.initialized RX5, Cond.code yX5_find cX5_find 7 (some .int), Cond.fieldLink RX5 26 "ExampleDrawers$Rows" "size" "I", Cond.fieldLink RX5 33 "ExampleDrawers$Rows" "state" "LExampleDrawers$State;", Cond.fieldLink RX5 14 "ExampleDrawers$Rows" "found" "LExampleDrawers$Numbers;", Cond.methodLink RX5 37 yX5_findTellers, Cond.instanceMethod yX5_findTellers, Cond.selects RX5 yX5_findTellers yX5_findTellers, Cond.code yX5_findTellers cX5_findTellers 6 none, Cond.fieldLink RX5 30 "ExampleDrawers$Rows" "leftOut" "I", Cond.fieldLink RX5 23 "ExampleDrawers$Rows" "tellers" "LExampleDrawers$Numbers;", Cond.methodLink RX5 66 yX3_fill, Cond.instanceMethod yX3_fill, Cond.selects RX3 yX3_fill yX3_fill, Cond.initialized RX3, Cond.code yX3_fill cX3_fill 3 none, Cond.fieldLink RX3 13 "ExampleDrawers$Numbers" "held" "[I", Cond.methodLink RX5 69 yX6_exampleOf, Cond.instanceMethod yX6_exampleOf, Cond.selects RX6 yX6_exampleOf yX6_exampleOf]
def wsX8_many_r2 : List Cond := [Cond.initialized RX6, Cond.code yX6_exampleOf cX6_exampleOf 2 (some (.object "ExampleDrawers$Example")), Cond.fieldLink RX6 12 "ExampleDrawers$State" "drawer0" "LExampleDrawers$Drawer;", Cond.fieldLink RX6 18 "ExampleDrawers$State" "drawer1" "LExampleDrawers$Drawer;", Cond.methodLink RX6 62 yX0_example, Cond.instanceMethod yX0_example, Cond.selects RX0 yX0_example yX0_example, Cond.initialized RX0, Cond.code yX0_example cX0_example 1 (some (.object "ExampleDrawers$Example")), Cond.fieldLink RX0 23 "ExampleDrawers$Drawer" "example" "LExampleDrawers$Example;", Cond.methodLink RX5 73 yX6_isAsked, Cond.instanceMethod yX6_isAsked, Cond.selects RX6 yX6_isAsked yX6_isAsked, Cond.code yX6_isAsked cX6_isAsked 2 (some .boolean), Cond.methodLink RX6 47 yX0_hasColumn, Cond.instanceMethod yX0_hasColumn, Cond.selects RX0 yX0_hasColumn yX0_hasColumn, Cond.code yX0_hasColumn cX0_hasColumn 2 (some .boolean), Cond.fieldLink RX0 27 "ExampleDrawers$Drawer" "width" "I", Cond.methodLink RX6 51 yX6_isOfBoth, Cond.instanceMethod yX6_isOfBoth, Cond.selects RX6 yX6_isOfBoth yX6_isOfBoth, Cond.code yX6_isOfBoth cX6_isOfBoth 1 (some .boolean), Cond.fieldLink RX6 33 "ExampleDrawers$State" "asksBoth" "I"]
def wsX8_many_r3 : List Cond := [Cond.methodLink RX5 77 yX1_kindAt, Cond.instanceMethod yX1_kindAt, Cond.selects RX1 yX1_kindAt yX1_kindAt, Cond.initialized RX1, Cond.code yX1_kindAt cX1_kindAt 2 (some .int), Cond.fieldLink RX1 14 "ExampleDrawers$Example" "kinds" "LExampleDrawers$Numbers;", Cond.methodLink RX1 26 yX3_at, Cond.instanceMethod yX3_at, Cond.selects RX3 yX3_at yX3_at, Cond.code yX3_at cX3_at 2 (some .int), Cond.methodLink RX5 82 yX1_firstAt, Cond.instanceMethod yX1_firstAt, Cond.selects RX1 yX1_firstAt yX1_firstAt, Cond.code yX1_firstAt cX1_firstAt 2 (some .int), Cond.fieldLink RX1 20 "ExampleDrawers$Example" "firsts" "LExampleDrawers$Numbers;", Cond.methodLink RX5 60 yX3_set, Cond.instanceMethod yX3_set, Cond.selects RX3 yX3_set yX3_set, Cond.code yX3_set cX3_set 3 none, Cond.methodLink RX5 41 yX6_drawer, Cond.instanceMethod yX6_drawer, Cond.selects RX6 yX6_drawer yX6_drawer, Cond.code yX6_drawer cX6_drawer 2 (some (.object "ExampleDrawers$Drawer")), Cond.methodLink RX5 47 yX0_size]
def wsX8_many_r4 : List Cond := [Cond.instanceMethod yX0_size, Cond.selects RX0 yX0_size yX0_size, Cond.code yX0_size cX0_size 1 (some .int), Cond.fieldLink RX0 31 "ExampleDrawers$Drawer" "size" "I", Cond.methodLink RX5 52 yX6_isOfBoth, Cond.methodLink RX5 56 yX5_firstMisfit, Cond.instanceMethod yX5_firstMisfit, Cond.selects RX5 yX5_firstMisfit yX5_firstMisfit, Cond.code yX5_firstMisfit cX5_firstMisfit 3 (some .int), Cond.methodLink RX5 85 yX5_isFitted, Cond.instanceMethod yX5_isFitted, Cond.selects RX5 yX5_isFitted yX5_isFitted, Cond.code yX5_isFitted cX5_isFitted 8 (some .boolean), Cond.methodLink RX5 89 yX6_entry, Cond.instanceMethod yX6_entry, Cond.selects RX6 yX6_entry yX6_entry, Cond.code yX6_entry cX6_entry 3 (some .int), Cond.methodLink RX6 58 yX0_entry, Cond.instanceMethod yX0_entry, Cond.selects RX0 yX0_entry yX0_entry, Cond.code yX0_entry cX0_entry 3 (some .int), Cond.fieldLink RX0 14 "ExampleDrawers$Drawer" "entries" "LExampleDrawers$Numbers;", Cond.methodLink RX0 34 yX0_hasCard, Cond.instanceMethod yX0_hasCard]
def wsX8_many_r5 : List Cond := [Cond.selects RX0 yX0_hasCard yX0_hasCard, Cond.code yX0_hasCard cX0_hasCard 2 (some .boolean), Cond.methodLink RX0 38 yX0_hasColumn, Cond.methodLink RX0 41 yX3_at, Cond.methodLink RX5 93 yX1_takesAlone, Cond.instanceMethod yX1_takesAlone, Cond.selects RX1 yX1_takesAlone yX1_takesAlone, Cond.code yX1_takesAlone cX1_takesAlone 5 (some .boolean), Cond.fieldLink RX1 23 "ExampleDrawers$Example" "seconds" "LExampleDrawers$Numbers;", Cond.methodLink RX5 63 yX3_at]
def wsX8_many : List Cond := .code yX8_many cX8_many 1 (some .int) :: ((wsX8_many_r1 ++ (wsX8_many_r2 ++ (wsX8_many_r3 ++ (wsX8_many_r4 ++ wsX8_many_r5)))) ++ wsX80 ++ wsX50 ++ wsX30 ++ wsX60 ++ wsX00 ++ wsX10)
def wsX8_isAboutRow : List Cond := .code yX8_isAboutRow cX8_isAboutRow 1 (some .boolean) :: ([.methodLink RX8 48 yX8_isBit, .static yX8_isBit, .initialized RX8, .code yX8_isBit cX8_isBit 1 (some .boolean)])
def wsX8_row_r1 : List Cond := [Cond.fieldLink RX8 28 "ExampleDrawers" "rows" "LExampleDrawers$Rows;", Cond.fieldLink RX8 12 "ExampleDrawers" "now" "LExampleDrawers$State;", Cond.methodLink RX8 146 yX8_isAboutRow, Cond.static yX8_isAboutRow, Cond.initialized RX8, Cond.code yX8_isAboutRow cX8_isAboutRow 1 (some .boolean), Cond.methodLink RX8 48 yX8_isBit, Cond.static yX8_isBit, Cond.code yX8_isBit cX8_isBit 1 (some .boolean), Cond.methodLink RX8 127 yX5_find, Cond.instanceMethod yX5_find, Cond.selects RX5 yX5_find yX5_find, Cond.initialized RX5, Cond.code yX5_find cX5_find 7 (some .int), Cond.fieldLink RX5 26 "ExampleDrawers$Rows" "size" "I", Cond.fieldLink RX5 33 "ExampleDrawers$Rows" "state" "LExampleDrawers$State;", Cond.fieldLink RX5 14 "ExampleDrawers$Rows" "found" "LExampleDrawers$Numbers;", Cond.methodLink RX5 37 yX5_findTellers, Cond.instanceMethod yX5_findTellers, Cond.selects RX5 yX5_findTellers yX5_findTellers, Cond.code yX5_findTellers cX5_findTellers 6 none, Cond.fieldLink RX5 30 "ExampleDrawers$Rows" "leftOut" "I", Cond.fieldLink RX5 23 "ExampleDrawers$Rows" "tellers" "LExampleDrawers$Numbers;", Cond.methodLink RX5 66 yX3_fill]
def wsX8_row_r2 : List Cond := [Cond.instanceMethod yX3_fill, Cond.selects RX3 yX3_fill yX3_fill, Cond.initialized RX3, Cond.code yX3_fill cX3_fill 3 none, Cond.fieldLink RX3 13 "ExampleDrawers$Numbers" "held" "[I", Cond.methodLink RX5 69 yX6_exampleOf, Cond.instanceMethod yX6_exampleOf, Cond.selects RX6 yX6_exampleOf yX6_exampleOf, Cond.initialized RX6, Cond.code yX6_exampleOf cX6_exampleOf 2 (some (.object "ExampleDrawers$Example")), Cond.fieldLink RX6 12 "ExampleDrawers$State" "drawer0" "LExampleDrawers$Drawer;", Cond.fieldLink RX6 18 "ExampleDrawers$State" "drawer1" "LExampleDrawers$Drawer;", Cond.methodLink RX6 62 yX0_example, Cond.instanceMethod yX0_example, Cond.selects RX0 yX0_example yX0_example, Cond.initialized RX0, Cond.code yX0_example cX0_example 1 (some (.object "ExampleDrawers$Example")), Cond.fieldLink RX0 23 "ExampleDrawers$Drawer" "example" "LExampleDrawers$Example;", Cond.methodLink RX5 73 yX6_isAsked, Cond.instanceMethod yX6_isAsked, Cond.selects RX6 yX6_isAsked yX6_isAsked, Cond.code yX6_isAsked cX6_isAsked 2 (some .boolean), Cond.methodLink RX6 47 yX0_hasColumn, Cond.instanceMethod yX0_hasColumn]
def wsX8_row_r3 : List Cond := [Cond.selects RX0 yX0_hasColumn yX0_hasColumn, Cond.code yX0_hasColumn cX0_hasColumn 2 (some .boolean), Cond.fieldLink RX0 27 "ExampleDrawers$Drawer" "width" "I", Cond.methodLink RX6 51 yX6_isOfBoth, Cond.instanceMethod yX6_isOfBoth, Cond.selects RX6 yX6_isOfBoth yX6_isOfBoth, Cond.code yX6_isOfBoth cX6_isOfBoth 1 (some .boolean), Cond.fieldLink RX6 33 "ExampleDrawers$State" "asksBoth" "I", Cond.methodLink RX5 77 yX1_kindAt, Cond.instanceMethod yX1_kindAt, Cond.selects RX1 yX1_kindAt yX1_kindAt, Cond.initialized RX1, Cond.code yX1_kindAt cX1_kindAt 2 (some .int), Cond.fieldLink RX1 14 "ExampleDrawers$Example" "kinds" "LExampleDrawers$Numbers;", Cond.methodLink RX1 26 yX3_at, Cond.instanceMethod yX3_at, Cond.selects RX3 yX3_at yX3_at, Cond.code yX3_at cX3_at 2 (some .int), Cond.methodLink RX5 82 yX1_firstAt, Cond.instanceMethod yX1_firstAt, Cond.selects RX1 yX1_firstAt yX1_firstAt, Cond.code yX1_firstAt cX1_firstAt 2 (some .int), Cond.fieldLink RX1 20 "ExampleDrawers$Example" "firsts" "LExampleDrawers$Numbers;", Cond.methodLink RX5 60 yX3_set]
def wsX8_row_r4 : List Cond := [Cond.instanceMethod yX3_set, Cond.selects RX3 yX3_set yX3_set, Cond.code yX3_set cX3_set 3 none, Cond.methodLink RX5 41 yX6_drawer, Cond.instanceMethod yX6_drawer, Cond.selects RX6 yX6_drawer yX6_drawer, Cond.code yX6_drawer cX6_drawer 2 (some (.object "ExampleDrawers$Drawer")), Cond.methodLink RX5 47 yX0_size, Cond.instanceMethod yX0_size, Cond.selects RX0 yX0_size yX0_size, Cond.code yX0_size cX0_size 1 (some .int), Cond.fieldLink RX0 31 "ExampleDrawers$Drawer" "size" "I", Cond.methodLink RX5 52 yX6_isOfBoth, Cond.methodLink RX5 56 yX5_firstMisfit, Cond.instanceMethod yX5_firstMisfit, Cond.selects RX5 yX5_firstMisfit yX5_firstMisfit, Cond.code yX5_firstMisfit cX5_firstMisfit 3 (some .int), Cond.methodLink RX5 85 yX5_isFitted, Cond.instanceMethod yX5_isFitted, Cond.selects RX5 yX5_isFitted yX5_isFitted, Cond.code yX5_isFitted cX5_isFitted 8 (some .boolean), Cond.methodLink RX5 89 yX6_entry, Cond.instanceMethod yX6_entry, Cond.selects RX6 yX6_entry yX6_entry]
def wsX8_row_r5 : List Cond := [Cond.code yX6_entry cX6_entry 3 (some .int), Cond.methodLink RX6 58 yX0_entry, Cond.instanceMethod yX0_entry, Cond.selects RX0 yX0_entry yX0_entry, Cond.code yX0_entry cX0_entry 3 (some .int), Cond.fieldLink RX0 14 "ExampleDrawers$Drawer" "entries" "LExampleDrawers$Numbers;", Cond.methodLink RX0 34 yX0_hasCard, Cond.instanceMethod yX0_hasCard, Cond.selects RX0 yX0_hasCard yX0_hasCard, Cond.code yX0_hasCard cX0_hasCard 2 (some .boolean), Cond.methodLink RX0 38 yX0_hasColumn, Cond.methodLink RX0 41 yX3_at, Cond.methodLink RX5 93 yX1_takesAlone, Cond.instanceMethod yX1_takesAlone, Cond.selects RX1 yX1_takesAlone yX1_takesAlone, Cond.code yX1_takesAlone cX1_takesAlone 5 (some .boolean), Cond.fieldLink RX1 23 "ExampleDrawers$Example" "seconds" "LExampleDrawers$Numbers;", Cond.methodLink RX5 63 yX3_at, Cond.methodLink RX8 149 yX5_inOrder, Cond.instanceMethod yX5_inOrder, Cond.selects RX5 yX5_inOrder yX5_inOrder, Cond.code yX5_inOrder cX5_inOrder 5 (some .int), Cond.methodLink RX5 96 yX5_isAhead, Cond.instanceMethod yX5_isAhead]
def wsX8_row_r6 : List Cond := [Cond.selects RX5 yX5_isAhead yX5_isAhead, Cond.code yX5_isAhead cX5_isAhead 4 (some .boolean), Cond.methodLink RX5 99 yX5_compareBy, Cond.instanceMethod yX5_compareBy, Cond.selects RX5 yX5_compareBy yX5_compareBy, Cond.code yX5_compareBy cX5_compareBy 6 (some .int), Cond.methodLink RX5 103 yX6_orderColumn, Cond.instanceMethod yX6_orderColumn, Cond.selects RX6 yX6_orderColumn yX6_orderColumn, Cond.code yX6_orderColumn cX6_orderColumn 2 (some .int), Cond.fieldLink RX6 26 "ExampleDrawers$State" "orderColumns" "LExampleDrawers$Numbers;", Cond.methodLink RX6 40 yX3_at, Cond.methodLink RX5 106 yX6_isDownwards, Cond.instanceMethod yX6_isDownwards, Cond.selects RX6 yX6_isDownwards yX6_isDownwards, Cond.code yX6_isDownwards cX6_isDownwards 2 (some .boolean), Cond.fieldLink RX6 30 "ExampleDrawers$State" "orderDowns" "LExampleDrawers$Numbers;", Cond.methodLink RX8 152 yX6_isOfBoth, Cond.methodLink RX8 156 yX5_tellerOf, Cond.instanceMethod yX5_tellerOf, Cond.selects RX5 yX5_tellerOf yX5_tellerOf, Cond.code yX5_tellerOf cX5_tellerOf 2 (some .int), Cond.methodLink RX8 159 yX6_isAsked, Cond.methodLink RX8 162 yX6_entry]
def wsX8_row : List Cond := .code yX8_row cX8_row 5 (some .int) :: ((wsX8_row_r1 ++ (wsX8_row_r2 ++ (wsX8_row_r3 ++ (wsX8_row_r4 ++ (wsX8_row_r5 ++ wsX8_row_r6))))) ++ wsX80 ++ wsX50 ++ wsX30 ++ wsX60 ++ wsX00 ++ wsX10)
def wsX8_total_r1 : List Cond := [Cond.fieldLink RX8 12 "ExampleDrawers" "now" "LExampleDrawers$State;", Cond.fieldLink RX8 28 "ExampleDrawers" "rows" "LExampleDrawers$Rows;", Cond.methodLink RX8 159 yX6_isAsked, Cond.instanceMethod yX6_isAsked, Cond.selects RX6 yX6_isAsked yX6_isAsked, Cond.initialized RX6, Cond.code yX6_isAsked cX6_isAsked 2 (some .boolean), Cond.fieldLink RX6 12 "ExampleDrawers$State" "drawer0" "LExampleDrawers$Drawer;", Cond.fieldLink RX6 18 "ExampleDrawers$State" "drawer1" "LExampleDrawers$Drawer;", Cond.methodLink RX6 47 yX0_hasColumn, Cond.instanceMethod yX0_hasColumn, Cond.selects RX0 yX0_hasColumn yX0_hasColumn, Cond.initialized RX0, Cond.code yX0_hasColumn cX0_hasColumn 2 (some .boolean), Cond.fieldLink RX0 27 "ExampleDrawers$Drawer" "width" "I", Cond.methodLink RX6 51 yX6_isOfBoth, Cond.instanceMethod yX6_isOfBoth, Cond.selects RX6 yX6_isOfBoth yX6_isOfBoth, Cond.code yX6_isOfBoth cX6_isOfBoth 1 (some .boolean), Cond.fieldLink RX6 33 "ExampleDrawers$State" "asksBoth" "I", Cond.methodLink RX8 163 yX5_sumUp, Cond.instanceMethod yX5_sumUp, Cond.selects RX5 yX5_sumUp yX5_sumUp, Cond.initialized RX5]
def wsX8_total_r2 : List Cond := [Cond.code yX5_sumUp cX5_sumUp 10 (some .int), Cond.fieldLink RX5 20 "ExampleDrawers$Rows" "marks" "LExampleDrawers$Numbers;", Cond.fieldLink RX5 26 "ExampleDrawers$Rows" "size" "I", Cond.fieldLink RX5 33 "ExampleDrawers$Rows" "state" "LExampleDrawers$State;", Cond.fieldLink RX5 14 "ExampleDrawers$Rows" "found" "LExampleDrawers$Numbers;", Cond.methodLink RX5 112 Lib.Math.min.name, Cond.static Lib.Math.min.name, Cond.initialized "java/lang/Math", Cond.code Lib.Math.min.name Lib.Math.min.code 2 (some .int), Cond.methodLink RX5 117 Lib.Math.max.name, Cond.static Lib.Math.max.name, Cond.code Lib.Math.max.name Lib.Math.max.code 2 (some .int), Cond.methodLink RX5 109 yX5_find, Cond.instanceMethod yX5_find, Cond.selects RX5 yX5_find yX5_find, Cond.code yX5_find cX5_find 7 (some .int), Cond.methodLink RX5 37 yX5_findTellers, Cond.instanceMethod yX5_findTellers, Cond.selects RX5 yX5_findTellers yX5_findTellers, Cond.code yX5_findTellers cX5_findTellers 6 none, Cond.fieldLink RX5 30 "ExampleDrawers$Rows" "leftOut" "I", Cond.fieldLink RX5 23 "ExampleDrawers$Rows" "tellers" "LExampleDrawers$Numbers;", Cond.methodLink RX5 66 yX3_fill, Cond.instanceMethod yX3_fill]
def wsX8_total_r3 : List Cond := [Cond.selects RX3 yX3_fill yX3_fill, Cond.initialized RX3, Cond.code yX3_fill cX3_fill 3 none, Cond.fieldLink RX3 13 "ExampleDrawers$Numbers" "held" "[I", Cond.methodLink RX5 69 yX6_exampleOf, Cond.instanceMethod yX6_exampleOf, Cond.selects RX6 yX6_exampleOf yX6_exampleOf, Cond.code yX6_exampleOf cX6_exampleOf 2 (some (.object "ExampleDrawers$Example")), Cond.methodLink RX6 62 yX0_example, Cond.instanceMethod yX0_example, Cond.selects RX0 yX0_example yX0_example, Cond.code yX0_example cX0_example 1 (some (.object "ExampleDrawers$Example")), Cond.fieldLink RX0 23 "ExampleDrawers$Drawer" "example" "LExampleDrawers$Example;", Cond.methodLink RX5 73 yX6_isAsked, Cond.methodLink RX5 77 yX1_kindAt, Cond.instanceMethod yX1_kindAt, Cond.selects RX1 yX1_kindAt yX1_kindAt, Cond.initialized RX1, Cond.code yX1_kindAt cX1_kindAt 2 (some .int), Cond.fieldLink RX1 14 "ExampleDrawers$Example" "kinds" "LExampleDrawers$Numbers;", Cond.methodLink RX1 26 yX3_at, Cond.instanceMethod yX3_at, Cond.selects RX3 yX3_at yX3_at, Cond.code yX3_at cX3_at 2 (some .int)]
def wsX8_total_r4 : List Cond := [Cond.methodLink RX5 82 yX1_firstAt, Cond.instanceMethod yX1_firstAt, Cond.selects RX1 yX1_firstAt yX1_firstAt, Cond.code yX1_firstAt cX1_firstAt 2 (some .int), Cond.fieldLink RX1 20 "ExampleDrawers$Example" "firsts" "LExampleDrawers$Numbers;", Cond.methodLink RX5 60 yX3_set, Cond.instanceMethod yX3_set, Cond.selects RX3 yX3_set yX3_set, Cond.code yX3_set cX3_set 3 none, Cond.methodLink RX5 41 yX6_drawer, Cond.instanceMethod yX6_drawer, Cond.selects RX6 yX6_drawer yX6_drawer, Cond.code yX6_drawer cX6_drawer 2 (some (.object "ExampleDrawers$Drawer")), Cond.methodLink RX5 47 yX0_size, Cond.instanceMethod yX0_size, Cond.selects RX0 yX0_size yX0_size, Cond.code yX0_size cX0_size 1 (some .int), Cond.fieldLink RX0 31 "ExampleDrawers$Drawer" "size" "I", Cond.methodLink RX5 52 yX6_isOfBoth, Cond.methodLink RX5 56 yX5_firstMisfit, Cond.instanceMethod yX5_firstMisfit, Cond.selects RX5 yX5_firstMisfit yX5_firstMisfit, Cond.code yX5_firstMisfit cX5_firstMisfit 3 (some .int), Cond.methodLink RX5 85 yX5_isFitted]
def wsX8_total_r5 : List Cond := [Cond.instanceMethod yX5_isFitted, Cond.selects RX5 yX5_isFitted yX5_isFitted, Cond.code yX5_isFitted cX5_isFitted 8 (some .boolean), Cond.methodLink RX5 89 yX6_entry, Cond.instanceMethod yX6_entry, Cond.selects RX6 yX6_entry yX6_entry, Cond.code yX6_entry cX6_entry 3 (some .int), Cond.methodLink RX6 58 yX0_entry, Cond.instanceMethod yX0_entry, Cond.selects RX0 yX0_entry yX0_entry, Cond.code yX0_entry cX0_entry 3 (some .int), Cond.fieldLink RX0 14 "ExampleDrawers$Drawer" "entries" "LExampleDrawers$Numbers;", Cond.methodLink RX0 34 yX0_hasCard, Cond.instanceMethod yX0_hasCard, Cond.selects RX0 yX0_hasCard yX0_hasCard, Cond.code yX0_hasCard cX0_hasCard 2 (some .boolean), Cond.methodLink RX0 38 yX0_hasColumn, Cond.methodLink RX0 41 yX3_at, Cond.methodLink RX5 93 yX1_takesAlone, Cond.instanceMethod yX1_takesAlone, Cond.selects RX1 yX1_takesAlone yX1_takesAlone, Cond.code yX1_takesAlone cX1_takesAlone 5 (some .boolean), Cond.fieldLink RX1 23 "ExampleDrawers$Example" "seconds" "LExampleDrawers$Numbers;", Cond.methodLink RX5 63 yX3_at]
def wsX8_total_r6 : List Cond := [Cond.methodLink RX5 120 yX5_markNew, Cond.instanceMethod yX5_markNew, Cond.selects RX5 yX5_markNew yX5_markNew, Cond.code yX5_markNew cX5_markNew 3 (some .int)]
def wsX8_total : List Cond := .code yX8_total cX8_total 3 (some .int) :: ((wsX8_total_r1 ++ (wsX8_total_r2 ++ (wsX8_total_r3 ++ (wsX8_total_r4 ++ (wsX8_total_r5 ++ wsX8_total_r6))))) ++ wsX80 ++ wsX60 ++ wsX00 ++ wsX50 ++ wsX30 ++ wsX10)
def wsX8_unlike_r1 : List Cond := [Cond.fieldLink RX8 28 "ExampleDrawers" "rows" "LExampleDrawers$Rows;", Cond.methodLink RX8 134 yX5_countUnlike, Cond.instanceMethod yX5_countUnlike, Cond.selects RX5 yX5_countUnlike yX5_countUnlike, Cond.initialized RX5, Cond.code yX5_countUnlike cX5_countUnlike 6 (some .int), Cond.fieldLink RX5 20 "ExampleDrawers$Rows" "marks" "LExampleDrawers$Numbers;", Cond.fieldLink RX5 26 "ExampleDrawers$Rows" "size" "I", Cond.fieldLink RX5 14 "ExampleDrawers$Rows" "found" "LExampleDrawers$Numbers;", Cond.methodLink RX5 109 yX5_find, Cond.instanceMethod yX5_find, Cond.selects RX5 yX5_find yX5_find, Cond.code yX5_find cX5_find 7 (some .int), Cond.fieldLink RX5 33 "ExampleDrawers$Rows" "state" "LExampleDrawers$State;", Cond.methodLink RX5 37 yX5_findTellers, Cond.instanceMethod yX5_findTellers, Cond.selects RX5 yX5_findTellers yX5_findTellers, Cond.code yX5_findTellers cX5_findTellers 6 none, Cond.fieldLink RX5 30 "ExampleDrawers$Rows" "leftOut" "I", Cond.fieldLink RX5 23 "ExampleDrawers$Rows" "tellers" "LExampleDrawers$Numbers;", Cond.methodLink RX5 66 yX3_fill, Cond.instanceMethod yX3_fill, Cond.selects RX3 yX3_fill yX3_fill, Cond.initialized RX3]
def wsX8_unlike_r2 : List Cond := [Cond.code yX3_fill cX3_fill 3 none, Cond.fieldLink RX3 13 "ExampleDrawers$Numbers" "held" "[I", Cond.methodLink RX5 69 yX6_exampleOf, Cond.instanceMethod yX6_exampleOf, Cond.selects RX6 yX6_exampleOf yX6_exampleOf, Cond.initialized RX6, Cond.code yX6_exampleOf cX6_exampleOf 2 (some (.object "ExampleDrawers$Example")), Cond.fieldLink RX6 12 "ExampleDrawers$State" "drawer0" "LExampleDrawers$Drawer;", Cond.fieldLink RX6 18 "ExampleDrawers$State" "drawer1" "LExampleDrawers$Drawer;", Cond.methodLink RX6 62 yX0_example, Cond.instanceMethod yX0_example, Cond.selects RX0 yX0_example yX0_example, Cond.initialized RX0, Cond.code yX0_example cX0_example 1 (some (.object "ExampleDrawers$Example")), Cond.fieldLink RX0 23 "ExampleDrawers$Drawer" "example" "LExampleDrawers$Example;", Cond.methodLink RX5 73 yX6_isAsked, Cond.instanceMethod yX6_isAsked, Cond.selects RX6 yX6_isAsked yX6_isAsked, Cond.code yX6_isAsked cX6_isAsked 2 (some .boolean), Cond.methodLink RX6 47 yX0_hasColumn, Cond.instanceMethod yX0_hasColumn, Cond.selects RX0 yX0_hasColumn yX0_hasColumn, Cond.code yX0_hasColumn cX0_hasColumn 2 (some .boolean), Cond.fieldLink RX0 27 "ExampleDrawers$Drawer" "width" "I"]
def wsX8_unlike_r3 : List Cond := [Cond.methodLink RX6 51 yX6_isOfBoth, Cond.instanceMethod yX6_isOfBoth, Cond.selects RX6 yX6_isOfBoth yX6_isOfBoth, Cond.code yX6_isOfBoth cX6_isOfBoth 1 (some .boolean), Cond.fieldLink RX6 33 "ExampleDrawers$State" "asksBoth" "I", Cond.methodLink RX5 77 yX1_kindAt, Cond.instanceMethod yX1_kindAt, Cond.selects RX1 yX1_kindAt yX1_kindAt, Cond.initialized RX1, Cond.code yX1_kindAt cX1_kindAt 2 (some .int), Cond.fieldLink RX1 14 "ExampleDrawers$Example" "kinds" "LExampleDrawers$Numbers;", Cond.methodLink RX1 26 yX3_at, Cond.instanceMethod yX3_at, Cond.selects RX3 yX3_at yX3_at, Cond.code yX3_at cX3_at 2 (some .int), Cond.methodLink RX5 82 yX1_firstAt, Cond.instanceMethod yX1_firstAt, Cond.selects RX1 yX1_firstAt yX1_firstAt, Cond.code yX1_firstAt cX1_firstAt 2 (some .int), Cond.fieldLink RX1 20 "ExampleDrawers$Example" "firsts" "LExampleDrawers$Numbers;", Cond.methodLink RX5 60 yX3_set, Cond.instanceMethod yX3_set, Cond.selects RX3 yX3_set yX3_set, Cond.code yX3_set cX3_set 3 none]
def wsX8_unlike_r4 : List Cond := [Cond.methodLink RX5 41 yX6_drawer, Cond.instanceMethod yX6_drawer, Cond.selects RX6 yX6_drawer yX6_drawer, Cond.code yX6_drawer cX6_drawer 2 (some (.object "ExampleDrawers$Drawer")), Cond.methodLink RX5 47 yX0_size, Cond.instanceMethod yX0_size, Cond.selects RX0 yX0_size yX0_size, Cond.code yX0_size cX0_size 1 (some .int), Cond.fieldLink RX0 31 "ExampleDrawers$Drawer" "size" "I", Cond.methodLink RX5 52 yX6_isOfBoth, Cond.methodLink RX5 56 yX5_firstMisfit, Cond.instanceMethod yX5_firstMisfit, Cond.selects RX5 yX5_firstMisfit yX5_firstMisfit, Cond.code yX5_firstMisfit cX5_firstMisfit 3 (some .int), Cond.methodLink RX5 85 yX5_isFitted, Cond.instanceMethod yX5_isFitted, Cond.selects RX5 yX5_isFitted yX5_isFitted, Cond.code yX5_isFitted cX5_isFitted 8 (some .boolean), Cond.methodLink RX5 89 yX6_entry, Cond.instanceMethod yX6_entry, Cond.selects RX6 yX6_entry yX6_entry, Cond.code yX6_entry cX6_entry 3 (some .int), Cond.methodLink RX6 58 yX0_entry, Cond.instanceMethod yX0_entry]
def wsX8_unlike_r5 : List Cond := [Cond.selects RX0 yX0_entry yX0_entry, Cond.code yX0_entry cX0_entry 3 (some .int), Cond.fieldLink RX0 14 "ExampleDrawers$Drawer" "entries" "LExampleDrawers$Numbers;", Cond.methodLink RX0 34 yX0_hasCard, Cond.instanceMethod yX0_hasCard, Cond.selects RX0 yX0_hasCard yX0_hasCard, Cond.code yX0_hasCard cX0_hasCard 2 (some .boolean), Cond.methodLink RX0 38 yX0_hasColumn, Cond.methodLink RX0 41 yX3_at, Cond.methodLink RX5 93 yX1_takesAlone, Cond.instanceMethod yX1_takesAlone, Cond.selects RX1 yX1_takesAlone yX1_takesAlone, Cond.code yX1_takesAlone cX1_takesAlone 5 (some .boolean), Cond.fieldLink RX1 23 "ExampleDrawers$Example" "seconds" "LExampleDrawers$Numbers;", Cond.methodLink RX5 63 yX3_at, Cond.methodLink RX5 123 yX5_firstAlike, Cond.instanceMethod yX5_firstAlike, Cond.selects RX5 yX5_firstAlike yX5_firstAlike, Cond.code yX5_firstAlike cX5_firstAlike 4 (some .int), Cond.methodLink RX5 126 yX5_isAlike, Cond.instanceMethod yX5_isAlike, Cond.selects RX5 yX5_isAlike yX5_isAlike, Cond.code yX5_isAlike cX5_isAlike 7 (some .boolean), Cond.methodLink RX5 130 yX0_entry]
def wsX8_unlike_r6 : List Cond := [Cond.methodLink RX5 131 yX6_isShown, Cond.instanceMethod yX6_isShown, Cond.selects RX6 yX6_isShown yX6_isShown, Cond.code yX6_isShown cX6_isShown 2 (some .boolean), Cond.fieldLink RX6 37 "ExampleDrawers$State" "shown" "I", Cond.methodLink RX6 55 yX6_isAsked, Cond.methodLink RX5 120 yX5_markNew, Cond.instanceMethod yX5_markNew, Cond.selects RX5 yX5_markNew yX5_markNew, Cond.code yX5_markNew cX5_markNew 3 (some .int)]
def wsX8_unlike : List Cond := .code yX8_unlike cX8_unlike 1 (some .int) :: ((wsX8_unlike_r1 ++ (wsX8_unlike_r2 ++ (wsX8_unlike_r3 ++ (wsX8_unlike_r4 ++ (wsX8_unlike_r5 ++ wsX8_unlike_r6))))) ++ wsX80 ++ wsX50 ++ wsX30 ++ wsX60 ++ wsX00 ++ wsX10)
def wsX8_cards_r1 : List Cond := [Cond.fieldLink RX8 12 "ExampleDrawers" "now" "LExampleDrawers$State;", Cond.fieldLink RX8 28 "ExampleDrawers" "rows" "LExampleDrawers$Rows;", Cond.methodLink RX8 48 yX8_isBit, Cond.static yX8_isBit, Cond.initialized RX8, Cond.code yX8_isBit cX8_isBit 1 (some .boolean), Cond.methodLink RX8 152 yX6_isOfBoth, Cond.instanceMethod yX6_isOfBoth, Cond.selects RX6 yX6_isOfBoth yX6_isOfBoth, Cond.initialized RX6, Cond.code yX6_isOfBoth cX6_isOfBoth 1 (some .boolean), Cond.fieldLink RX6 33 "ExampleDrawers$State" "asksBoth" "I", Cond.methodLink RX8 166 yX5_cardSet, Cond.instanceMethod yX5_cardSet, Cond.selects RX5 yX5_cardSet yX5_cardSet, Cond.initialized RX5, Cond.code yX5_cardSet cX5_cardSet 5 (some .int), Cond.fieldLink RX5 26 "ExampleDrawers$Rows" "size" "I", Cond.fieldLink RX5 14 "ExampleDrawers$Rows" "found" "LExampleDrawers$Numbers;", Cond.methodLink RX5 109 yX5_find, Cond.instanceMethod yX5_find, Cond.selects RX5 yX5_find yX5_find, Cond.code yX5_find cX5_find 7 (some .int), Cond.fieldLink RX5 33 "ExampleDrawers$Rows" "state" "LExampleDrawers$State;"]
def wsX8_cards_r2 : List Cond := [Cond.methodLink RX5 37 yX5_findTellers, Cond.instanceMethod yX5_findTellers, Cond.selects RX5 yX5_findTellers yX5_findTellers, Cond.code yX5_findTellers cX5_findTellers 6 none, Cond.fieldLink RX5 30 "ExampleDrawers$Rows" "leftOut" "I", Cond.fieldLink RX5 23 "ExampleDrawers$Rows" "tellers" "LExampleDrawers$Numbers;", Cond.methodLink RX5 66 yX3_fill, Cond.instanceMethod yX3_fill, Cond.selects RX3 yX3_fill yX3_fill, Cond.initialized RX3, Cond.code yX3_fill cX3_fill 3 none, Cond.fieldLink RX3 13 "ExampleDrawers$Numbers" "held" "[I", Cond.methodLink RX5 69 yX6_exampleOf, Cond.instanceMethod yX6_exampleOf, Cond.selects RX6 yX6_exampleOf yX6_exampleOf, Cond.code yX6_exampleOf cX6_exampleOf 2 (some (.object "ExampleDrawers$Example")), Cond.fieldLink RX6 12 "ExampleDrawers$State" "drawer0" "LExampleDrawers$Drawer;", Cond.fieldLink RX6 18 "ExampleDrawers$State" "drawer1" "LExampleDrawers$Drawer;", Cond.methodLink RX6 62 yX0_example, Cond.instanceMethod yX0_example, Cond.selects RX0 yX0_example yX0_example, Cond.initialized RX0, Cond.code yX0_example cX0_example 1 (some (.object "ExampleDrawers$Example")), Cond.fieldLink RX0 23 "ExampleDrawers$Drawer" "example" "LExampleDrawers$Example;"]
def wsX8_cards_r3 : List Cond := [Cond.methodLink RX5 73 yX6_isAsked, Cond.instanceMethod yX6_isAsked, Cond.selects RX6 yX6_isAsked yX6_isAsked, Cond.code yX6_isAsked cX6_isAsked 2 (some .boolean), Cond.methodLink RX6 47 yX0_hasColumn, Cond.instanceMethod yX0_hasColumn, Cond.selects RX0 yX0_hasColumn yX0_hasColumn, Cond.code yX0_hasColumn cX0_hasColumn 2 (some .boolean), Cond.fieldLink RX0 27 "ExampleDrawers$Drawer" "width" "I", Cond.methodLink RX6 51 yX6_isOfBoth, Cond.methodLink RX5 77 yX1_kindAt, Cond.instanceMethod yX1_kindAt, Cond.selects RX1 yX1_kindAt yX1_kindAt, Cond.initialized RX1, Cond.code yX1_kindAt cX1_kindAt 2 (some .int), Cond.fieldLink RX1 14 "ExampleDrawers$Example" "kinds" "LExampleDrawers$Numbers;", Cond.methodLink RX1 26 yX3_at, Cond.instanceMethod yX3_at, Cond.selects RX3 yX3_at yX3_at, Cond.code yX3_at cX3_at 2 (some .int), Cond.methodLink RX5 82 yX1_firstAt, Cond.instanceMethod yX1_firstAt, Cond.selects RX1 yX1_firstAt yX1_firstAt, Cond.code yX1_firstAt cX1_firstAt 2 (some .int)]
def wsX8_cards_r4 : List Cond := [Cond.fieldLink RX1 20 "ExampleDrawers$Example" "firsts" "LExampleDrawers$Numbers;", Cond.methodLink RX5 60 yX3_set, Cond.instanceMethod yX3_set, Cond.selects RX3 yX3_set yX3_set, Cond.code yX3_set cX3_set 3 none, Cond.methodLink RX5 41 yX6_drawer, Cond.instanceMethod yX6_drawer, Cond.selects RX6 yX6_drawer yX6_drawer, Cond.code yX6_drawer cX6_drawer 2 (some (.object "ExampleDrawers$Drawer")), Cond.methodLink RX5 47 yX0_size, Cond.instanceMethod yX0_size, Cond.selects RX0 yX0_size yX0_size, Cond.code yX0_size cX0_size 1 (some .int), Cond.fieldLink RX0 31 "ExampleDrawers$Drawer" "size" "I", Cond.methodLink RX5 52 yX6_isOfBoth, Cond.methodLink RX5 56 yX5_firstMisfit, Cond.instanceMethod yX5_firstMisfit, Cond.selects RX5 yX5_firstMisfit yX5_firstMisfit, Cond.code yX5_firstMisfit cX5_firstMisfit 3 (some .int), Cond.methodLink RX5 85 yX5_isFitted, Cond.instanceMethod yX5_isFitted, Cond.selects RX5 yX5_isFitted yX5_isFitted, Cond.code yX5_isFitted cX5_isFitted 8 (some .boolean), Cond.methodLink RX5 89 yX6_entry]
def wsX8_cards_r5 : List Cond := [Cond.instanceMethod yX6_entry, Cond.selects RX6 yX6_entry yX6_entry, Cond.code yX6_entry cX6_entry 3 (some .int), Cond.methodLink RX6 58 yX0_entry, Cond.instanceMethod yX0_entry, Cond.selects RX0 yX0_entry yX0_entry, Cond.code yX0_entry cX0_entry 3 (some .int), Cond.fieldLink RX0 14 "ExampleDrawers$Drawer" "entries" "LExampleDrawers$Numbers;", Cond.methodLink RX0 34 yX0_hasCard, Cond.instanceMethod yX0_hasCard, Cond.selects RX0 yX0_hasCard yX0_hasCard, Cond.code yX0_hasCard cX0_hasCard 2 (some .boolean), Cond.methodLink RX0 38 yX0_hasColumn, Cond.methodLink RX0 41 yX3_at, Cond.methodLink RX5 93 yX1_takesAlone, Cond.instanceMethod yX1_takesAlone, Cond.selects RX1 yX1_takesAlone yX1_takesAlone, Cond.code yX1_takesAlone cX1_takesAlone 5 (some .boolean), Cond.fieldLink RX1 23 "ExampleDrawers$Example" "seconds" "LExampleDrawers$Numbers;", Cond.methodLink RX5 63 yX3_at]
def wsX8_cards : List Cond := .code yX8_cards cX8_cards 2 (some .int) :: ((wsX8_cards_r1 ++ (wsX8_cards_r2 ++ (wsX8_cards_r3 ++ (wsX8_cards_r4 ++ wsX8_cards_r5)))) ++ wsX80 ++ wsX60 ++ wsX50 ++ wsX30 ++ wsX00 ++ wsX10)
def wsX8_why_r1 : List Cond := [Cond.fieldLink RX8 12 "ExampleDrawers" "now" "LExampleDrawers$State;", Cond.fieldLink RX8 28 "ExampleDrawers" "rows" "LExampleDrawers$Rows;", Cond.methodLink RX8 152 yX6_isOfBoth, Cond.instanceMethod yX6_isOfBoth, Cond.selects RX6 yX6_isOfBoth yX6_isOfBoth, Cond.initialized RX6, Cond.code yX6_isOfBoth cX6_isOfBoth 1 (some .boolean), Cond.fieldLink RX6 33 "ExampleDrawers$State" "asksBoth" "I", Cond.methodLink RX8 55 yX6_drawer, Cond.instanceMethod yX6_drawer, Cond.selects RX6 yX6_drawer yX6_drawer, Cond.code yX6_drawer cX6_drawer 2 (some (.object "ExampleDrawers$Drawer")), Cond.fieldLink RX6 12 "ExampleDrawers$State" "drawer0" "LExampleDrawers$Drawer;", Cond.fieldLink RX6 18 "ExampleDrawers$State" "drawer1" "LExampleDrawers$Drawer;", Cond.methodLink RX8 84 yX0_hasCard, Cond.instanceMethod yX0_hasCard, Cond.selects RX0 yX0_hasCard yX0_hasCard, Cond.initialized RX0, Cond.code yX0_hasCard cX0_hasCard 2 (some .boolean), Cond.fieldLink RX0 31 "ExampleDrawers$Drawer" "size" "I", Cond.methodLink RX8 169 yX5_explain, Cond.instanceMethod yX5_explain, Cond.selects RX5 yX5_explain yX5_explain, Cond.initialized RX5]
def wsX8_why_r2 : List Cond := [Cond.code yX5_explain cX5_explain 2 (some .int), Cond.methodLink RX5 37 yX5_findTellers, Cond.instanceMethod yX5_findTellers, Cond.selects RX5 yX5_findTellers yX5_findTellers, Cond.code yX5_findTellers cX5_findTellers 6 none, Cond.fieldLink RX5 30 "ExampleDrawers$Rows" "leftOut" "I", Cond.fieldLink RX5 23 "ExampleDrawers$Rows" "tellers" "LExampleDrawers$Numbers;", Cond.fieldLink RX5 33 "ExampleDrawers$Rows" "state" "LExampleDrawers$State;", Cond.methodLink RX5 66 yX3_fill, Cond.instanceMethod yX3_fill, Cond.selects RX3 yX3_fill yX3_fill, Cond.initialized RX3, Cond.code yX3_fill cX3_fill 3 none, Cond.fieldLink RX3 13 "ExampleDrawers$Numbers" "held" "[I", Cond.methodLink RX5 69 yX6_exampleOf, Cond.instanceMethod yX6_exampleOf, Cond.selects RX6 yX6_exampleOf yX6_exampleOf, Cond.code yX6_exampleOf cX6_exampleOf 2 (some (.object "ExampleDrawers$Example")), Cond.methodLink RX6 62 yX0_example, Cond.instanceMethod yX0_example, Cond.selects RX0 yX0_example yX0_example, Cond.code yX0_example cX0_example 1 (some (.object "ExampleDrawers$Example")), Cond.fieldLink RX0 23 "ExampleDrawers$Drawer" "example" "LExampleDrawers$Example;", Cond.methodLink RX5 73 yX6_isAsked]
def wsX8_why_r3 : List Cond := [Cond.instanceMethod yX6_isAsked, Cond.selects RX6 yX6_isAsked yX6_isAsked, Cond.code yX6_isAsked cX6_isAsked 2 (some .boolean), Cond.methodLink RX6 47 yX0_hasColumn, Cond.instanceMethod yX0_hasColumn, Cond.selects RX0 yX0_hasColumn yX0_hasColumn, Cond.code yX0_hasColumn cX0_hasColumn 2 (some .boolean), Cond.fieldLink RX0 27 "ExampleDrawers$Drawer" "width" "I", Cond.methodLink RX6 51 yX6_isOfBoth, Cond.methodLink RX5 77 yX1_kindAt, Cond.instanceMethod yX1_kindAt, Cond.selects RX1 yX1_kindAt yX1_kindAt, Cond.initialized RX1, Cond.code yX1_kindAt cX1_kindAt 2 (some .int), Cond.fieldLink RX1 14 "ExampleDrawers$Example" "kinds" "LExampleDrawers$Numbers;", Cond.methodLink RX1 26 yX3_at, Cond.instanceMethod yX3_at, Cond.selects RX3 yX3_at yX3_at, Cond.code yX3_at cX3_at 2 (some .int), Cond.methodLink RX5 82 yX1_firstAt, Cond.instanceMethod yX1_firstAt, Cond.selects RX1 yX1_firstAt yX1_firstAt, Cond.code yX1_firstAt cX1_firstAt 2 (some .int), Cond.fieldLink RX1 20 "ExampleDrawers$Example" "firsts" "LExampleDrawers$Numbers;"]
def wsX8_why_r4 : List Cond := [Cond.methodLink RX5 60 yX3_set, Cond.instanceMethod yX3_set, Cond.selects RX3 yX3_set yX3_set, Cond.code yX3_set cX3_set 3 none, Cond.methodLink RX5 56 yX5_firstMisfit, Cond.instanceMethod yX5_firstMisfit, Cond.selects RX5 yX5_firstMisfit yX5_firstMisfit, Cond.code yX5_firstMisfit cX5_firstMisfit 3 (some .int), Cond.methodLink RX5 85 yX5_isFitted, Cond.instanceMethod yX5_isFitted, Cond.selects RX5 yX5_isFitted yX5_isFitted, Cond.code yX5_isFitted cX5_isFitted 8 (some .boolean), Cond.methodLink RX5 89 yX6_entry, Cond.instanceMethod yX6_entry, Cond.selects RX6 yX6_entry yX6_entry, Cond.code yX6_entry cX6_entry 3 (some .int), Cond.methodLink RX6 58 yX0_entry, Cond.instanceMethod yX0_entry, Cond.selects RX0 yX0_entry yX0_entry, Cond.code yX0_entry cX0_entry 3 (some .int), Cond.fieldLink RX0 14 "ExampleDrawers$Drawer" "entries" "LExampleDrawers$Numbers;", Cond.methodLink RX0 34 yX0_hasCard, Cond.methodLink RX0 38 yX0_hasColumn, Cond.methodLink RX0 41 yX3_at]
def wsX8_why_r5 : List Cond := [Cond.methodLink RX5 93 yX1_takesAlone, Cond.instanceMethod yX1_takesAlone, Cond.selects RX1 yX1_takesAlone yX1_takesAlone, Cond.code yX1_takesAlone cX1_takesAlone 5 (some .boolean), Cond.fieldLink RX1 23 "ExampleDrawers$Example" "seconds" "LExampleDrawers$Numbers;", Cond.methodLink RX5 63 yX3_at]
def wsX8_why : List Cond := .code yX8_why cX8_why 5 (some .int) :: ((wsX8_why_r1 ++ (wsX8_why_r2 ++ (wsX8_why_r3 ++ (wsX8_why_r4 ++ wsX8_why_r5)))) ++ wsX80 ++ wsX60 ++ wsX00 ++ wsX50 ++ wsX30 ++ wsX10)
def wsX8_tightest_r1 : List Cond := [Cond.fieldLink RX8 28 "ExampleDrawers" "rows" "LExampleDrawers$Rows;", Cond.fieldLink RX8 12 "ExampleDrawers" "now" "LExampleDrawers$State;", Cond.methodLink RX8 48 yX8_isBit, Cond.static yX8_isBit, Cond.initialized RX8, Cond.code yX8_isBit cX8_isBit 1 (some .boolean), Cond.methodLink RX8 127 yX5_find, Cond.instanceMethod yX5_find, Cond.selects RX5 yX5_find yX5_find, Cond.initialized RX5, Cond.code yX5_find cX5_find 7 (some .int), Cond.fieldLink RX5 26 "ExampleDrawers$Rows" "size" "I", Cond.fieldLink RX5 33 "ExampleDrawers$Rows" "state" "LExampleDrawers$State;", Cond.fieldLink RX5 14 "ExampleDrawers$Rows" "found" "LExampleDrawers$Numbers;", Cond.methodLink RX5 37 yX5_findTellers, Cond.instanceMethod yX5_findTellers, Cond.selects RX5 yX5_findTellers yX5_findTellers, Cond.code yX5_findTellers cX5_findTellers 6 none, Cond.fieldLink RX5 30 "ExampleDrawers$Rows" "leftOut" "I", Cond.fieldLink RX5 23 "ExampleDrawers$Rows" "tellers" "LExampleDrawers$Numbers;", Cond.methodLink RX5 66 yX3_fill, Cond.instanceMethod yX3_fill, Cond.selects RX3 yX3_fill yX3_fill, Cond.initialized RX3]
def wsX8_tightest_r2 : List Cond := [Cond.code yX3_fill cX3_fill 3 none, Cond.fieldLink RX3 13 "ExampleDrawers$Numbers" "held" "[I", Cond.methodLink RX5 69 yX6_exampleOf, Cond.instanceMethod yX6_exampleOf, Cond.selects RX6 yX6_exampleOf yX6_exampleOf, Cond.initialized RX6, Cond.code yX6_exampleOf cX6_exampleOf 2 (some (.object "ExampleDrawers$Example")), Cond.fieldLink RX6 12 "ExampleDrawers$State" "drawer0" "LExampleDrawers$Drawer;", Cond.fieldLink RX6 18 "ExampleDrawers$State" "drawer1" "LExampleDrawers$Drawer;", Cond.methodLink RX6 62 yX0_example, Cond.instanceMethod yX0_example, Cond.selects RX0 yX0_example yX0_example, Cond.initialized RX0, Cond.code yX0_example cX0_example 1 (some (.object "ExampleDrawers$Example")), Cond.fieldLink RX0 23 "ExampleDrawers$Drawer" "example" "LExampleDrawers$Example;", Cond.methodLink RX5 73 yX6_isAsked, Cond.instanceMethod yX6_isAsked, Cond.selects RX6 yX6_isAsked yX6_isAsked, Cond.code yX6_isAsked cX6_isAsked 2 (some .boolean), Cond.methodLink RX6 47 yX0_hasColumn, Cond.instanceMethod yX0_hasColumn, Cond.selects RX0 yX0_hasColumn yX0_hasColumn, Cond.code yX0_hasColumn cX0_hasColumn 2 (some .boolean), Cond.fieldLink RX0 27 "ExampleDrawers$Drawer" "width" "I"]
def wsX8_tightest_r3 : List Cond := [Cond.methodLink RX6 51 yX6_isOfBoth, Cond.instanceMethod yX6_isOfBoth, Cond.selects RX6 yX6_isOfBoth yX6_isOfBoth, Cond.code yX6_isOfBoth cX6_isOfBoth 1 (some .boolean), Cond.fieldLink RX6 33 "ExampleDrawers$State" "asksBoth" "I", Cond.methodLink RX5 77 yX1_kindAt, Cond.instanceMethod yX1_kindAt, Cond.selects RX1 yX1_kindAt yX1_kindAt, Cond.initialized RX1, Cond.code yX1_kindAt cX1_kindAt 2 (some .int), Cond.fieldLink RX1 14 "ExampleDrawers$Example" "kinds" "LExampleDrawers$Numbers;", Cond.methodLink RX1 26 yX3_at, Cond.instanceMethod yX3_at, Cond.selects RX3 yX3_at yX3_at, Cond.code yX3_at cX3_at 2 (some .int), Cond.methodLink RX5 82 yX1_firstAt, Cond.instanceMethod yX1_firstAt, Cond.selects RX1 yX1_firstAt yX1_firstAt, Cond.code yX1_firstAt cX1_firstAt 2 (some .int), Cond.fieldLink RX1 20 "ExampleDrawers$Example" "firsts" "LExampleDrawers$Numbers;", Cond.methodLink RX5 60 yX3_set, Cond.instanceMethod yX3_set, Cond.selects RX3 yX3_set yX3_set, Cond.code yX3_set cX3_set 3 none]
def wsX8_tightest_r4 : List Cond := [Cond.methodLink RX5 41 yX6_drawer, Cond.instanceMethod yX6_drawer, Cond.selects RX6 yX6_drawer yX6_drawer, Cond.code yX6_drawer cX6_drawer 2 (some (.object "ExampleDrawers$Drawer")), Cond.methodLink RX5 47 yX0_size, Cond.instanceMethod yX0_size, Cond.selects RX0 yX0_size yX0_size, Cond.code yX0_size cX0_size 1 (some .int), Cond.fieldLink RX0 31 "ExampleDrawers$Drawer" "size" "I", Cond.methodLink RX5 52 yX6_isOfBoth, Cond.methodLink RX5 56 yX5_firstMisfit, Cond.instanceMethod yX5_firstMisfit, Cond.selects RX5 yX5_firstMisfit yX5_firstMisfit, Cond.code yX5_firstMisfit cX5_firstMisfit 3 (some .int), Cond.methodLink RX5 85 yX5_isFitted, Cond.instanceMethod yX5_isFitted, Cond.selects RX5 yX5_isFitted yX5_isFitted, Cond.code yX5_isFitted cX5_isFitted 8 (some .boolean), Cond.methodLink RX5 89 yX6_entry, Cond.instanceMethod yX6_entry, Cond.selects RX6 yX6_entry yX6_entry, Cond.code yX6_entry cX6_entry 3 (some .int), Cond.methodLink RX6 58 yX0_entry, Cond.instanceMethod yX0_entry]
def wsX8_tightest_r5 : List Cond := [Cond.selects RX0 yX0_entry yX0_entry, Cond.code yX0_entry cX0_entry 3 (some .int), Cond.fieldLink RX0 14 "ExampleDrawers$Drawer" "entries" "LExampleDrawers$Numbers;", Cond.methodLink RX0 34 yX0_hasCard, Cond.instanceMethod yX0_hasCard, Cond.selects RX0 yX0_hasCard yX0_hasCard, Cond.code yX0_hasCard cX0_hasCard 2 (some .boolean), Cond.methodLink RX0 38 yX0_hasColumn, Cond.methodLink RX0 41 yX3_at, Cond.methodLink RX5 93 yX1_takesAlone, Cond.instanceMethod yX1_takesAlone, Cond.selects RX1 yX1_takesAlone yX1_takesAlone, Cond.code yX1_takesAlone cX1_takesAlone 5 (some .boolean), Cond.fieldLink RX1 23 "ExampleDrawers$Example" "seconds" "LExampleDrawers$Numbers;", Cond.methodLink RX5 63 yX3_at, Cond.methodLink RX8 159 yX6_isAsked]
def wsX8_tightest : List Cond := .code yX8_tightest cX8_tightest 6 (some .int) :: ((wsX8_tightest_r1 ++ (wsX8_tightest_r2 ++ (wsX8_tightest_r3 ++ (wsX8_tightest_r4 ++ wsX8_tightest_r5)))) ++ wsX80 ++ wsX50 ++ wsX30 ++ wsX60 ++ wsX00 ++ wsX10)
def wsX8_count_r1 : List Cond := [Cond.fieldLink RX8 12 "ExampleDrawers" "now" "LExampleDrawers$State;", Cond.fieldLink RX8 19 "ExampleDrawers" "history" "LExampleDrawers$History;", Cond.fieldLink RX8 35 "ExampleDrawers" "text" "LExampleDrawers$Text;", Cond.methodLink RX8 55 yX6_drawer, Cond.instanceMethod yX6_drawer, Cond.selects RX6 yX6_drawer yX6_drawer, Cond.initialized RX6, Cond.code yX6_drawer cX6_drawer 2 (some (.object "ExampleDrawers$Drawer")), Cond.fieldLink RX6 12 "ExampleDrawers$State" "drawer0" "LExampleDrawers$Drawer;", Cond.fieldLink RX6 18 "ExampleDrawers$State" "drawer1" "LExampleDrawers$Drawer;", Cond.methodLink RX8 68 yX0_size, Cond.instanceMethod yX0_size, Cond.selects RX0 yX0_size yX0_size, Cond.initialized RX0, Cond.code yX0_size cX0_size 1 (some .int), Cond.fieldLink RX0 31 "ExampleDrawers$Drawer" "size" "I", Cond.methodLink RX8 172 yX0_width, Cond.instanceMethod yX0_width, Cond.selects RX0 yX0_width yX0_width, Cond.code yX0_width cX0_width 1 (some .int), Cond.fieldLink RX0 27 "ExampleDrawers$Drawer" "width" "I", Cond.methodLink RX8 152 yX6_isOfBoth, Cond.instanceMethod yX6_isOfBoth, Cond.selects RX6 yX6_isOfBoth yX6_isOfBoth]
def wsX8_count_r2 : List Cond := [Cond.code yX6_isOfBoth cX6_isOfBoth 1 (some .boolean), Cond.fieldLink RX6 33 "ExampleDrawers$State" "asksBoth" "I", Cond.methodLink RX8 101 yX0_example, Cond.instanceMethod yX0_example, Cond.selects RX0 yX0_example yX0_example, Cond.code yX0_example cX0_example 1 (some (.object "ExampleDrawers$Example")), Cond.fieldLink RX0 23 "ExampleDrawers$Drawer" "example" "LExampleDrawers$Example;", Cond.methodLink RX8 114 yX1_otherKinds, Cond.instanceMethod yX1_otherKinds, Cond.selects RX1 yX1_otherKinds yX1_otherKinds, Cond.initialized RX1, Cond.code yX1_otherKinds cX1_otherKinds 3 (some .int), Cond.fieldLink RX1 14 "ExampleDrawers$Example" "kinds" "LExampleDrawers$Numbers;", Cond.methodLink RX1 26 yX3_at, Cond.instanceMethod yX3_at, Cond.selects RX3 yX3_at yX3_at, Cond.initialized RX3, Cond.code yX3_at cX3_at 2 (some .int), Cond.fieldLink RX3 13 "ExampleDrawers$Numbers" "held" "[I", Cond.methodLink RX8 175 yX6_shownSet, Cond.instanceMethod yX6_shownSet, Cond.selects RX6 yX6_shownSet yX6_shownSet, Cond.code yX6_shownSet cX6_shownSet 1 (some .int), Cond.fieldLink RX6 37 "ExampleDrawers$State" "shown" "I"]
def wsX8_count_r3 : List Cond := [Cond.methodLink RX8 178 yX2_size, Cond.instanceMethod yX2_size, Cond.selects RX2 yX2_size yX2_size, Cond.initialized RX2, Cond.code yX2_size cX2_size 1 (some .int), Cond.fieldLink RX2 27 "ExampleDrawers$History" "size" "I", Cond.methodLink RX8 179 yX7_length, Cond.instanceMethod yX7_length, Cond.selects RX7 yX7_length yX7_length, Cond.initialized RX7, Cond.code yX7_length cX7_length 1 (some .int), Cond.fieldLink RX7 20 "ExampleDrawers$Text" "length" "I", Cond.methodLink RX8 182 yX6_orderColumn, Cond.instanceMethod yX6_orderColumn, Cond.selects RX6 yX6_orderColumn yX6_orderColumn, Cond.code yX6_orderColumn cX6_orderColumn 2 (some .int), Cond.fieldLink RX6 26 "ExampleDrawers$State" "orderColumns" "LExampleDrawers$Numbers;", Cond.methodLink RX6 40 yX3_at, Cond.methodLink RX8 185 yX6_isDownwards, Cond.instanceMethod yX6_isDownwards, Cond.selects RX6 yX6_isDownwards yX6_isDownwards, Cond.code yX6_isDownwards cX6_isDownwards 2 (some .boolean), Cond.fieldLink RX6 30 "ExampleDrawers$State" "orderDowns" "LExampleDrawers$Numbers;"]
def wsX8_count : List Cond := .code yX8_count cX8_count 2 (some .int) :: ((wsX8_count_r1 ++ (wsX8_count_r2 ++ wsX8_count_r3)) ++ wsX80 ++ wsX60 ++ wsX00 ++ wsX10 ++ wsX30 ++ wsX20 ++ wsX70)
def wsX8_undo_r1 : List Cond := [Cond.fieldLink RX8 19 "ExampleDrawers" "history" "LExampleDrawers$History;", Cond.fieldLink RX8 12 "ExampleDrawers" "now" "LExampleDrawers$State;", Cond.methodLink RX8 178 yX2_size, Cond.instanceMethod yX2_size, Cond.selects RX2 yX2_size yX2_size, Cond.initialized RX2, Cond.code yX2_size cX2_size 1 (some .int), Cond.fieldLink RX2 27 "ExampleDrawers$History" "size" "I", Cond.methodLink RX8 188 yX2_restore, Cond.instanceMethod yX2_restore, Cond.selects RX2 yX2_restore yX2_restore, Cond.code yX2_restore cX2_restore 2 none, Cond.fieldLink RX2 12 "ExampleDrawers$History" "latest" "LExampleDrawers$State;", Cond.fieldLink RX2 18 "ExampleDrawers$History" "second" "LExampleDrawers$State;", Cond.fieldLink RX2 21 "ExampleDrawers$History" "third" "LExampleDrawers$State;", Cond.fieldLink RX2 24 "ExampleDrawers$History" "oldest" "LExampleDrawers$State;", Cond.methodLink RX2 41 Lib.Math.max.name, Cond.static Lib.Math.max.name, Cond.initialized "java/lang/Math", Cond.code Lib.Math.max.name Lib.Math.max.code 2 (some .int), Cond.methodLink RX2 31 yX6_copyFrom, Cond.instanceMethod yX6_copyFrom, Cond.selects RX6 yX6_copyFrom yX6_copyFrom, Cond.initialized RX6]
def wsX8_undo_r2 : List Cond := [Cond.code yX6_copyFrom cX6_copyFrom 2 none, Cond.fieldLink RX6 12 "ExampleDrawers$State" "drawer0" "LExampleDrawers$Drawer;", Cond.fieldLink RX6 18 "ExampleDrawers$State" "drawer1" "LExampleDrawers$Drawer;", Cond.fieldLink RX6 26 "ExampleDrawers$State" "orderColumns" "LExampleDrawers$Numbers;", Cond.fieldLink RX6 30 "ExampleDrawers$State" "orderDowns" "LExampleDrawers$Numbers;", Cond.fieldLink RX6 33 "ExampleDrawers$State" "asksBoth" "I", Cond.fieldLink RX6 37 "ExampleDrawers$State" "shown" "I", Cond.methodLink RX6 66 yX0_copyFrom, Cond.instanceMethod yX0_copyFrom, Cond.selects RX0 yX0_copyFrom yX0_copyFrom, Cond.initialized RX0, Cond.code yX0_copyFrom cX0_copyFrom 2 none, Cond.fieldLink RX0 14 "ExampleDrawers$Drawer" "entries" "LExampleDrawers$Numbers;", Cond.fieldLink RX0 23 "ExampleDrawers$Drawer" "example" "LExampleDrawers$Example;", Cond.fieldLink RX0 27 "ExampleDrawers$Drawer" "width" "I", Cond.fieldLink RX0 31 "ExampleDrawers$Drawer" "size" "I", Cond.methodLink RX0 59 yX3_copyFrom, Cond.instanceMethod yX3_copyFrom, Cond.selects RX3 yX3_copyFrom yX3_copyFrom, Cond.initialized RX3, Cond.code yX3_copyFrom cX3_copyFrom 3 none, Cond.fieldLink RX3 13 "ExampleDrawers$Numbers" "held" "[I", Cond.methodLink RX3 23 yX3_at, Cond.instanceMethod yX3_at]
def wsX8_undo_r3 : List Cond := [Cond.selects RX3 yX3_at yX3_at, Cond.code yX3_at cX3_at 2 (some .int), Cond.methodLink RX0 63 yX1_copyFrom, Cond.instanceMethod yX1_copyFrom, Cond.selects RX1 yX1_copyFrom yX1_copyFrom, Cond.initialized RX1, Cond.code yX1_copyFrom cX1_copyFrom 2 none, Cond.fieldLink RX1 14 "ExampleDrawers$Example" "kinds" "LExampleDrawers$Numbers;", Cond.fieldLink RX1 20 "ExampleDrawers$Example" "firsts" "LExampleDrawers$Numbers;", Cond.fieldLink RX1 23 "ExampleDrawers$Example" "seconds" "LExampleDrawers$Numbers;", Cond.methodLink RX1 37 yX3_copyFrom, Cond.methodLink RX6 70 yX3_copyFrom]
def wsX8_undo : List Cond := .code yX8_undo cX8_undo 1 (some .int) :: ((wsX8_undo_r1 ++ (wsX8_undo_r2 ++ wsX8_undo_r3)) ++ wsX80 ++ wsX20 ++ wsX60 ++ wsX00 ++ wsX30 ++ wsX10)
def wsX8_type : List Cond := .code yX8_type cX8_type 2 (some .int) :: ([.fieldLink RX8 35 "ExampleDrawers" "text" "LExampleDrawers$Text;", .methodLink RX8 179 yX7_length, .instanceMethod yX7_length, .selects RX7 yX7_length yX7_length, .initialized RX7, .code yX7_length cX7_length 1 (some .int), .fieldLink RX7 20 "ExampleDrawers$Text" "length" "I", .methodLink RX8 191 yX7_append, .instanceMethod yX7_append, .selects RX7 yX7_append yX7_append, .code yX7_append cX7_append 2 (some .int), .fieldLink RX7 14 "ExampleDrawers$Text" "characters" "LExampleDrawers$Numbers;", .methodLink RX7 28 yX3_set, .instanceMethod yX3_set, .selects RX3 yX3_set yX3_set, .initialized RX3, .code yX3_set cX3_set 3 none, .fieldLink RX3 13 "ExampleDrawers$Numbers" "held" "[I"] ++ wsX80 ++ wsX70 ++ wsX30)
def wsX8_clearText : List Cond := .code yX8_clearText cX8_clearText 1 (some .int) :: ([.fieldLink RX8 35 "ExampleDrawers" "text" "LExampleDrawers$Text;", .methodLink RX8 194 yX7_empty, .instanceMethod yX7_empty, .selects RX7 yX7_empty yX7_empty, .initialized RX7, .code yX7_empty cX7_empty 2 (some .int), .fieldLink RX7 20 "ExampleDrawers$Text" "length" "I"] ++ wsX80 ++ wsX70)
def wsX8_fault_r1 : List Cond := [Cond.fieldLink RX8 44 "ExampleDrawers" "reading" "LExampleDrawers$Reading;", Cond.methodLink RX8 48 yX8_isBit, Cond.static yX8_isBit, Cond.initialized RX8, Cond.code yX8_isBit cX8_isBit 1 (some .boolean), Cond.methodLink RX8 197 yX4_start, Cond.instanceMethod yX4_start, Cond.selects RX4 yX4_start yX4_start, Cond.initialized RX4, Cond.code yX4_start cX4_start 2 none, Cond.fieldLink RX4 12 "ExampleDrawers$Reading" "example" "LExampleDrawers$Example;", Cond.fieldLink RX4 18 "ExampleDrawers$Reading" "cells" "I", Cond.fieldLink RX4 22 "ExampleDrawers$Reading" "place" "I", Cond.fieldLink RX4 25 "ExampleDrawers$Reading" "faultPlace" "I", Cond.fieldLink RX4 28 "ExampleDrawers$Reading" "faultReason" "I", Cond.fieldLink RX4 31 "ExampleDrawers$Reading" "text" "LExampleDrawers$Text;", Cond.methodLink RX4 35 yX1_wipe, Cond.instanceMethod yX1_wipe, Cond.selects RX1 yX1_wipe yX1_wipe, Cond.initialized RX1, Cond.code yX1_wipe cX1_wipe 1 none, Cond.fieldLink RX1 14 "ExampleDrawers$Example" "kinds" "LExampleDrawers$Numbers;", Cond.fieldLink RX1 20 "ExampleDrawers$Example" "firsts" "LExampleDrawers$Numbers;", Cond.fieldLink RX1 23 "ExampleDrawers$Example" "seconds" "LExampleDrawers$Numbers;"]
def wsX8_fault_r2 : List Cond := [Cond.methodLink RX1 33 yX3_fill, Cond.instanceMethod yX3_fill, Cond.selects RX3 yX3_fill yX3_fill, Cond.initialized RX3, Cond.code yX3_fill cX3_fill 3 none, Cond.fieldLink RX3 13 "ExampleDrawers$Numbers" "held" "[I", Cond.methodLink RX4 38 yX7_characterAt, Cond.instanceMethod yX7_characterAt, Cond.selects RX7 yX7_characterAt yX7_characterAt, Cond.initialized RX7, Cond.code yX7_characterAt cX7_characterAt 2 (some .int), Cond.fieldLink RX7 20 "ExampleDrawers$Text" "length" "I", Cond.fieldLink RX7 14 "ExampleDrawers$Text" "characters" "LExampleDrawers$Numbers;", Cond.methodLink RX7 24 yX3_at, Cond.instanceMethod yX3_at, Cond.selects RX3 yX3_at yX3_at, Cond.code yX3_at cX3_at 2 (some .int), Cond.methodLink RX4 44 yX4_readCell, Cond.instanceMethod yX4_readCell, Cond.selects RX4 yX4_readCell yX4_readCell, Cond.code yX4_readCell cX4_readCell 3 none, Cond.methodLink RX4 63 yX4_isDigit, Cond.static yX4_isDigit, Cond.code yX4_isDigit cX4_isDigit 1 (some .boolean)]
def wsX8_fault_r3 : List Cond := [Cond.methodLink RX4 67 yX4_readNumbers, Cond.instanceMethod yX4_readNumbers, Cond.selects RX4 yX4_readNumbers yX4_readNumbers, Cond.code yX4_readNumbers cX4_readNumbers 4 none, Cond.methodLink RX4 74 yX4_readNumber, Cond.instanceMethod yX4_readNumber, Cond.selects RX4 yX4_readNumber yX4_readNumber, Cond.code yX4_readNumber cX4_readNumber 4 (some .int), Cond.methodLink RX4 59 yX4_fail, Cond.instanceMethod yX4_fail, Cond.selects RX4 yX4_fail yX4_fail, Cond.code yX4_fail cX4_fail 3 none, Cond.methodLink RX4 70 yX1_fill, Cond.instanceMethod yX1_fill, Cond.selects RX1 yX1_fill yX1_fill, Cond.code yX1_fill cX1_fill 5 none, Cond.methodLink RX1 30 yX3_set, Cond.instanceMethod yX3_set, Cond.selects RX3 yX3_set yX3_set, Cond.code yX3_set cX3_set 3 none, Cond.methodLink RX4 48 yX4_hasFault, Cond.instanceMethod yX4_hasFault, Cond.selects RX4 yX4_hasFault yX4_hasFault, Cond.code yX4_hasFault cX4_hasFault 1 (some .boolean)]
def wsX8_fault_r4 : List Cond := [Cond.methodLink RX4 77 yX4_readBound, Cond.instanceMethod yX4_readBound, Cond.selects RX4 yX4_readBound yX4_readBound, Cond.code yX4_readBound cX4_readBound 4 none, Cond.methodLink RX4 80 yX4_isLetter, Cond.static yX4_isLetter, Cond.code yX4_isLetter cX4_isLetter 1 (some .boolean), Cond.methodLink RX4 52 yX4_readComma, Cond.instanceMethod yX4_readComma, Cond.selects RX4 yX4_readComma yX4_readComma, Cond.code yX4_readComma cX4_readComma 1 (some .boolean), Cond.methodLink RX4 55 yX7_length, Cond.instanceMethod yX7_length, Cond.selects RX7 yX7_length yX7_length, Cond.code yX7_length cX7_length 1 (some .int), Cond.methodLink RX8 200 yX4_hasFault, Cond.methodLink RX8 203 yX4_faultPlace, Cond.instanceMethod yX4_faultPlace, Cond.selects RX4 yX4_faultPlace yX4_faultPlace, Cond.code yX4_faultPlace cX4_faultPlace 1 (some .int), Cond.methodLink RX8 206 yX4_faultReason, Cond.instanceMethod yX4_faultReason, Cond.selects RX4 yX4_faultReason yX4_faultReason, Cond.code yX4_faultReason cX4_faultReason 1 (some .int)]
def wsX8_fault : List Cond := .code yX8_fault cX8_fault 2 (some .int) :: ((wsX8_fault_r1 ++ (wsX8_fault_r2 ++ (wsX8_fault_r3 ++ wsX8_fault_r4))) ++ wsX80 ++ wsX40 ++ wsX10 ++ wsX30 ++ wsX70)
def wsX8_read_r1 : List Cond := [Cond.fieldLink RX8 44 "ExampleDrawers" "reading" "LExampleDrawers$Reading;", Cond.fieldLink RX8 12 "ExampleDrawers" "now" "LExampleDrawers$State;", Cond.fieldLink RX8 19 "ExampleDrawers" "history" "LExampleDrawers$History;", Cond.fieldLink RX8 28 "ExampleDrawers" "rows" "LExampleDrawers$Rows;", Cond.methodLink RX8 48 yX8_isBit, Cond.static yX8_isBit, Cond.initialized RX8, Cond.code yX8_isBit cX8_isBit 1 (some .boolean), Cond.methodLink RX8 197 yX4_start, Cond.instanceMethod yX4_start, Cond.selects RX4 yX4_start yX4_start, Cond.initialized RX4, Cond.code yX4_start cX4_start 2 none, Cond.fieldLink RX4 12 "ExampleDrawers$Reading" "example" "LExampleDrawers$Example;", Cond.fieldLink RX4 18 "ExampleDrawers$Reading" "cells" "I", Cond.fieldLink RX4 22 "ExampleDrawers$Reading" "place" "I", Cond.fieldLink RX4 25 "ExampleDrawers$Reading" "faultPlace" "I", Cond.fieldLink RX4 28 "ExampleDrawers$Reading" "faultReason" "I", Cond.fieldLink RX4 31 "ExampleDrawers$Reading" "text" "LExampleDrawers$Text;", Cond.methodLink RX4 35 yX1_wipe, Cond.instanceMethod yX1_wipe, Cond.selects RX1 yX1_wipe yX1_wipe, Cond.initialized RX1, Cond.code yX1_wipe cX1_wipe 1 none]
def wsX8_read_r2 : List Cond := [Cond.fieldLink RX1 14 "ExampleDrawers$Example" "kinds" "LExampleDrawers$Numbers;", Cond.fieldLink RX1 20 "ExampleDrawers$Example" "firsts" "LExampleDrawers$Numbers;", Cond.fieldLink RX1 23 "ExampleDrawers$Example" "seconds" "LExampleDrawers$Numbers;", Cond.methodLink RX1 33 yX3_fill, Cond.instanceMethod yX3_fill, Cond.selects RX3 yX3_fill yX3_fill, Cond.initialized RX3, Cond.code yX3_fill cX3_fill 3 none, Cond.fieldLink RX3 13 "ExampleDrawers$Numbers" "held" "[I", Cond.methodLink RX4 38 yX7_characterAt, Cond.instanceMethod yX7_characterAt, Cond.selects RX7 yX7_characterAt yX7_characterAt, Cond.initialized RX7, Cond.code yX7_characterAt cX7_characterAt 2 (some .int), Cond.fieldLink RX7 20 "ExampleDrawers$Text" "length" "I", Cond.fieldLink RX7 14 "ExampleDrawers$Text" "characters" "LExampleDrawers$Numbers;", Cond.methodLink RX7 24 yX3_at, Cond.instanceMethod yX3_at, Cond.selects RX3 yX3_at yX3_at, Cond.code yX3_at cX3_at 2 (some .int), Cond.methodLink RX4 44 yX4_readCell, Cond.instanceMethod yX4_readCell, Cond.selects RX4 yX4_readCell yX4_readCell, Cond.code yX4_readCell cX4_readCell 3 none]
def wsX8_read_r3 : List Cond := [Cond.methodLink RX4 63 yX4_isDigit, Cond.static yX4_isDigit, Cond.code yX4_isDigit cX4_isDigit 1 (some .boolean), Cond.methodLink RX4 67 yX4_readNumbers, Cond.instanceMethod yX4_readNumbers, Cond.selects RX4 yX4_readNumbers yX4_readNumbers, Cond.code yX4_readNumbers cX4_readNumbers 4 none, Cond.methodLink RX4 74 yX4_readNumber, Cond.instanceMethod yX4_readNumber, Cond.selects RX4 yX4_readNumber yX4_readNumber, Cond.code yX4_readNumber cX4_readNumber 4 (some .int), Cond.methodLink RX4 59 yX4_fail, Cond.instanceMethod yX4_fail, Cond.selects RX4 yX4_fail yX4_fail, Cond.code yX4_fail cX4_fail 3 none, Cond.methodLink RX4 70 yX1_fill, Cond.instanceMethod yX1_fill, Cond.selects RX1 yX1_fill yX1_fill, Cond.code yX1_fill cX1_fill 5 none, Cond.methodLink RX1 30 yX3_set, Cond.instanceMethod yX3_set, Cond.selects RX3 yX3_set yX3_set, Cond.code yX3_set cX3_set 3 none, Cond.methodLink RX4 48 yX4_hasFault]
def wsX8_read_r4 : List Cond := [Cond.instanceMethod yX4_hasFault, Cond.selects RX4 yX4_hasFault yX4_hasFault, Cond.code yX4_hasFault cX4_hasFault 1 (some .boolean), Cond.methodLink RX4 77 yX4_readBound, Cond.instanceMethod yX4_readBound, Cond.selects RX4 yX4_readBound yX4_readBound, Cond.code yX4_readBound cX4_readBound 4 none, Cond.methodLink RX4 80 yX4_isLetter, Cond.static yX4_isLetter, Cond.code yX4_isLetter cX4_isLetter 1 (some .boolean), Cond.methodLink RX4 52 yX4_readComma, Cond.instanceMethod yX4_readComma, Cond.selects RX4 yX4_readComma yX4_readComma, Cond.code yX4_readComma cX4_readComma 1 (some .boolean), Cond.methodLink RX4 55 yX7_length, Cond.instanceMethod yX7_length, Cond.selects RX7 yX7_length yX7_length, Cond.code yX7_length cX7_length 1 (some .int), Cond.methodLink RX8 200 yX4_hasFault, Cond.methodLink RX8 209 yX4_cells, Cond.instanceMethod yX4_cells, Cond.selects RX4 yX4_cells yX4_cells, Cond.code yX4_cells cX4_cells 1 (some .int), Cond.methodLink RX8 55 yX6_drawer]
def wsX8_read_r5 : List Cond := [Cond.instanceMethod yX6_drawer, Cond.selects RX6 yX6_drawer yX6_drawer, Cond.initialized RX6, Cond.code yX6_drawer cX6_drawer 2 (some (.object "ExampleDrawers$Drawer")), Cond.fieldLink RX6 12 "ExampleDrawers$State" "drawer0" "LExampleDrawers$Drawer;", Cond.fieldLink RX6 18 "ExampleDrawers$State" "drawer1" "LExampleDrawers$Drawer;", Cond.methodLink RX8 172 yX0_width, Cond.instanceMethod yX0_width, Cond.selects RX0 yX0_width yX0_width, Cond.initialized RX0, Cond.code yX0_width cX0_width 1 (some .int), Cond.fieldLink RX0 27 "ExampleDrawers$Drawer" "width" "I", Cond.methodLink RX8 52 yX2_keep, Cond.instanceMethod yX2_keep, Cond.selects RX2 yX2_keep yX2_keep, Cond.initialized RX2, Cond.code yX2_keep cX2_keep 2 none, Cond.fieldLink RX2 24 "ExampleDrawers$History" "oldest" "LExampleDrawers$State;", Cond.fieldLink RX2 21 "ExampleDrawers$History" "third" "LExampleDrawers$State;", Cond.fieldLink RX2 18 "ExampleDrawers$History" "second" "LExampleDrawers$State;", Cond.fieldLink RX2 12 "ExampleDrawers$History" "latest" "LExampleDrawers$State;", Cond.fieldLink RX2 27 "ExampleDrawers$History" "size" "I", Cond.methodLink RX2 35 Lib.Math.min.name, Cond.static Lib.Math.min.name]
def wsX8_read_r6 : List Cond := [Cond.initialized "java/lang/Math", Cond.code Lib.Math.min.name Lib.Math.min.code 2 (some .int), Cond.methodLink RX2 31 yX6_copyFrom, Cond.instanceMethod yX6_copyFrom, Cond.selects RX6 yX6_copyFrom yX6_copyFrom, Cond.code yX6_copyFrom cX6_copyFrom 2 none, Cond.fieldLink RX6 26 "ExampleDrawers$State" "orderColumns" "LExampleDrawers$Numbers;", Cond.fieldLink RX6 30 "ExampleDrawers$State" "orderDowns" "LExampleDrawers$Numbers;", Cond.fieldLink RX6 33 "ExampleDrawers$State" "asksBoth" "I", Cond.fieldLink RX6 37 "ExampleDrawers$State" "shown" "I", Cond.methodLink RX6 66 yX0_copyFrom, Cond.instanceMethod yX0_copyFrom, Cond.selects RX0 yX0_copyFrom yX0_copyFrom, Cond.code yX0_copyFrom cX0_copyFrom 2 none, Cond.fieldLink RX0 14 "ExampleDrawers$Drawer" "entries" "LExampleDrawers$Numbers;", Cond.fieldLink RX0 23 "ExampleDrawers$Drawer" "example" "LExampleDrawers$Example;", Cond.fieldLink RX0 31 "ExampleDrawers$Drawer" "size" "I", Cond.methodLink RX0 59 yX3_copyFrom, Cond.instanceMethod yX3_copyFrom, Cond.selects RX3 yX3_copyFrom yX3_copyFrom, Cond.code yX3_copyFrom cX3_copyFrom 3 none, Cond.methodLink RX3 23 yX3_at, Cond.methodLink RX0 63 yX1_copyFrom, Cond.instanceMethod yX1_copyFrom]
def wsX8_read_r7 : List Cond := [Cond.selects RX1 yX1_copyFrom yX1_copyFrom, Cond.code yX1_copyFrom cX1_copyFrom 2 none, Cond.methodLink RX1 37 yX3_copyFrom, Cond.methodLink RX6 70 yX3_copyFrom, Cond.methodLink RX8 101 yX0_example, Cond.instanceMethod yX0_example, Cond.selects RX0 yX0_example yX0_example, Cond.code yX0_example cX0_example 1 (some (.object "ExampleDrawers$Example")), Cond.methodLink RX8 212 yX4_example, Cond.instanceMethod yX4_example, Cond.selects RX4 yX4_example yX4_example, Cond.code yX4_example cX4_example 1 (some (.object "ExampleDrawers$Example")), Cond.methodLink RX8 213 yX1_copyFrom, Cond.methodLink RX8 127 yX5_find, Cond.instanceMethod yX5_find, Cond.selects RX5 yX5_find yX5_find, Cond.initialized RX5, Cond.code yX5_find cX5_find 7 (some .int), Cond.fieldLink RX5 26 "ExampleDrawers$Rows" "size" "I", Cond.fieldLink RX5 33 "ExampleDrawers$Rows" "state" "LExampleDrawers$State;", Cond.fieldLink RX5 14 "ExampleDrawers$Rows" "found" "LExampleDrawers$Numbers;", Cond.methodLink RX5 37 yX5_findTellers, Cond.instanceMethod yX5_findTellers, Cond.selects RX5 yX5_findTellers yX5_findTellers]
def wsX8_read_r8 : List Cond := [Cond.code yX5_findTellers cX5_findTellers 6 none, Cond.fieldLink RX5 30 "ExampleDrawers$Rows" "leftOut" "I", Cond.fieldLink RX5 23 "ExampleDrawers$Rows" "tellers" "LExampleDrawers$Numbers;", Cond.methodLink RX5 66 yX3_fill, Cond.methodLink RX5 69 yX6_exampleOf, Cond.instanceMethod yX6_exampleOf, Cond.selects RX6 yX6_exampleOf yX6_exampleOf, Cond.code yX6_exampleOf cX6_exampleOf 2 (some (.object "ExampleDrawers$Example")), Cond.methodLink RX6 62 yX0_example, Cond.methodLink RX5 73 yX6_isAsked, Cond.instanceMethod yX6_isAsked, Cond.selects RX6 yX6_isAsked yX6_isAsked, Cond.code yX6_isAsked cX6_isAsked 2 (some .boolean), Cond.methodLink RX6 47 yX0_hasColumn, Cond.instanceMethod yX0_hasColumn, Cond.selects RX0 yX0_hasColumn yX0_hasColumn, Cond.code yX0_hasColumn cX0_hasColumn 2 (some .boolean), Cond.methodLink RX6 51 yX6_isOfBoth, Cond.instanceMethod yX6_isOfBoth, Cond.selects RX6 yX6_isOfBoth yX6_isOfBoth, Cond.code yX6_isOfBoth cX6_isOfBoth 1 (some .boolean), Cond.methodLink RX5 77 yX1_kindAt, Cond.instanceMethod yX1_kindAt, Cond.selects RX1 yX1_kindAt yX1_kindAt]
def wsX8_read_r9 : List Cond := [Cond.code yX1_kindAt cX1_kindAt 2 (some .int), Cond.methodLink RX1 26 yX3_at, Cond.methodLink RX5 82 yX1_firstAt, Cond.instanceMethod yX1_firstAt, Cond.selects RX1 yX1_firstAt yX1_firstAt, Cond.code yX1_firstAt cX1_firstAt 2 (some .int), Cond.methodLink RX5 60 yX3_set, Cond.methodLink RX5 41 yX6_drawer, Cond.methodLink RX5 47 yX0_size, Cond.instanceMethod yX0_size, Cond.selects RX0 yX0_size yX0_size, Cond.code yX0_size cX0_size 1 (some .int), Cond.methodLink RX5 52 yX6_isOfBoth, Cond.methodLink RX5 56 yX5_firstMisfit, Cond.instanceMethod yX5_firstMisfit, Cond.selects RX5 yX5_firstMisfit yX5_firstMisfit, Cond.code yX5_firstMisfit cX5_firstMisfit 3 (some .int), Cond.methodLink RX5 85 yX5_isFitted, Cond.instanceMethod yX5_isFitted, Cond.selects RX5 yX5_isFitted yX5_isFitted, Cond.code yX5_isFitted cX5_isFitted 8 (some .boolean), Cond.methodLink RX5 89 yX6_entry, Cond.instanceMethod yX6_entry, Cond.selects RX6 yX6_entry yX6_entry]
def wsX8_read_r10 : List Cond := [Cond.code yX6_entry cX6_entry 3 (some .int), Cond.methodLink RX6 58 yX0_entry, Cond.instanceMethod yX0_entry, Cond.selects RX0 yX0_entry yX0_entry, Cond.code yX0_entry cX0_entry 3 (some .int), Cond.methodLink RX0 34 yX0_hasCard, Cond.instanceMethod yX0_hasCard, Cond.selects RX0 yX0_hasCard yX0_hasCard, Cond.code yX0_hasCard cX0_hasCard 2 (some .boolean), Cond.methodLink RX0 38 yX0_hasColumn, Cond.methodLink RX0 41 yX3_at, Cond.methodLink RX5 93 yX1_takesAlone, Cond.instanceMethod yX1_takesAlone, Cond.selects RX1 yX1_takesAlone yX1_takesAlone, Cond.code yX1_takesAlone cX1_takesAlone 5 (some .boolean), Cond.methodLink RX5 63 yX3_at]
def wsX8_read : List Cond := .code yX8_read cX8_read 2 (some .int) :: ((wsX8_read_r1 ++ (wsX8_read_r2 ++ (wsX8_read_r3 ++ (wsX8_read_r4 ++ (wsX8_read_r5 ++ (wsX8_read_r6 ++ (wsX8_read_r7 ++ (wsX8_read_r8 ++ (wsX8_read_r9 ++ wsX8_read_r10))))))))) ++ wsX80 ++ wsX40 ++ wsX10 ++ wsX30 ++ wsX70 ++ wsX60 ++ wsX00 ++ wsX20 ++ wsX50)
def wsX9_init : List Cond := .code yX9_init cX9_init 1 none :: ([.methodLink RX9 1 objectInit, .instanceMethod objectInit, .code objectInit ⟨#[0xb1]⟩ 1 none, .arrayClass .int, .fieldLink RX9 7 "ExampleDrawersModel" "s" "[I", .fieldLink RX9 13 "ExampleDrawersModel" "past" "[I", .fieldLink RX9 16 "ExampleDrawersModel" "text" "[I", .fieldLink RX9 19 "ExampleDrawersModel" "firsts" "[I", .fieldLink RX9 22 "ExampleDrawersModel" "seconds" "[I", .fieldLink RX9 25 "ExampleDrawersModel" "told" "[I"] ++ wsX90)
def wsX9_in : List Cond := .code yX9_in cX9_in 3 (some .boolean) :: ([])
def wsX9_changes : List Cond := .code yX9_changes cX9_changes 2 none :: ([.fieldLink RX9 28 "ExampleDrawersModel" "pasts" "I", .fieldLink RX9 13 "ExampleDrawersModel" "past" "[I", .fieldLink RX9 7 "ExampleDrawersModel" "s" "[I"] ++ wsX90)
def wsX9_isDrawer : List Cond := .code yX9_isDrawer cX9_isDrawer 1 (some .boolean) :: ([.methodLink RX9 32 yX9_in, .static yX9_in, .initialized RX9, .code yX9_in cX9_in 3 (some .boolean)])
def wsX9_isColumn : List Cond := .code yX9_isColumn cX9_isColumn 3 (some .boolean) :: ([.fieldLink RX9 7 "ExampleDrawersModel" "s" "[I"] ++ wsX90)
def wsX9_isCard : List Cond := .code yX9_isCard cX9_isCard 3 (some .boolean) :: ([.fieldLink RX9 7 "ExampleDrawersModel" "s" "[I"] ++ wsX90)
def wsX9_valueAt : List Cond := .code yX9_valueAt cX9_valueAt 3 (some .int) :: ([])
def wsX9_cellAt : List Cond := .code yX9_cellAt cX9_cellAt 4 (some .int) :: ([.fieldLink RX9 7 "ExampleDrawersModel" "s" "[I"] ++ wsX90)
def wsX9_setsCell : List Cond := .code yX9_setsCell cX9_setsCell 6 none :: ([.fieldLink RX9 7 "ExampleDrawersModel" "s" "[I"] ++ wsX90)
def wsX9_columns : List Cond := .code yX9_columns cX9_columns 5 (some .int) :: ([.fieldLink RX9 7 "ExampleDrawersModel" "s" "[I", .methodLink RX9 36 yX9_isDrawer, .static yX9_isDrawer, .initialized RX9, .code yX9_isDrawer cX9_isDrawer 1 (some .boolean), .methodLink RX9 32 yX9_in, .static yX9_in, .code yX9_in cX9_in 3 (some .boolean), .methodLink RX9 40 yX9_changes, .instanceMethod yX9_changes, .selects RX9 yX9_changes yX9_changes, .code yX9_changes cX9_changes 2 none, .fieldLink RX9 28 "ExampleDrawersModel" "pasts" "I", .fieldLink RX9 13 "ExampleDrawersModel" "past" "[I", .methodLink RX9 43 yX9_setsCell, .instanceMethod yX9_setsCell, .selects RX9 yX9_setsCell yX9_setsCell, .code yX9_setsCell cX9_setsCell 6 none] ++ wsX90)
def wsX9_card : List Cond := .code yX9_card cX9_card 8 (some .int) :: ([.fieldLink RX9 7 "ExampleDrawersModel" "s" "[I", .methodLink RX9 36 yX9_isDrawer, .static yX9_isDrawer, .initialized RX9, .code yX9_isDrawer cX9_isDrawer 1 (some .boolean), .methodLink RX9 32 yX9_in, .static yX9_in, .code yX9_in cX9_in 3 (some .boolean), .methodLink RX9 40 yX9_changes, .instanceMethod yX9_changes, .selects RX9 yX9_changes yX9_changes, .code yX9_changes cX9_changes 2 none, .fieldLink RX9 28 "ExampleDrawersModel" "pasts" "I", .fieldLink RX9 13 "ExampleDrawersModel" "past" "[I", .methodLink RX9 47 yX9_valueAt, .static yX9_valueAt, .code yX9_valueAt cX9_valueAt 3 (some .int)] ++ wsX90)
def wsX9_put_r1 : List Cond := [Cond.fieldLink RX9 7 "ExampleDrawersModel" "s" "[I", Cond.methodLink RX9 36 yX9_isDrawer, Cond.static yX9_isDrawer, Cond.initialized RX9, Cond.code yX9_isDrawer cX9_isDrawer 1 (some .boolean), Cond.methodLink RX9 32 yX9_in, Cond.static yX9_in, Cond.code yX9_in cX9_in 3 (some .boolean), Cond.methodLink RX9 51 yX9_isCard, Cond.instanceMethod yX9_isCard, Cond.selects RX9 yX9_isCard yX9_isCard, Cond.code yX9_isCard cX9_isCard 3 (some .boolean), Cond.methodLink RX9 55 yX9_isColumn, Cond.instanceMethod yX9_isColumn, Cond.selects RX9 yX9_isColumn yX9_isColumn, Cond.code yX9_isColumn cX9_isColumn 3 (some .boolean), Cond.methodLink RX9 40 yX9_changes, Cond.instanceMethod yX9_changes, Cond.selects RX9 yX9_changes yX9_changes, Cond.code yX9_changes cX9_changes 2 none, Cond.fieldLink RX9 28 "ExampleDrawersModel" "pasts" "I", Cond.fieldLink RX9 13 "ExampleDrawersModel" "past" "[I", Cond.methodLink RX9 47 yX9_valueAt, Cond.static yX9_valueAt]
def wsX9_put_r2 : List Cond := [Cond.code yX9_valueAt cX9_valueAt 3 (some .int)]
def wsX9_put : List Cond := .code yX9_put cX9_put 6 (some .int) :: ((wsX9_put_r1 ++ wsX9_put_r2) ++ wsX90)
def wsX9_drop : List Cond := .code yX9_drop cX9_drop 4 (some .int) :: ([.fieldLink RX9 7 "ExampleDrawersModel" "s" "[I", .methodLink RX9 36 yX9_isDrawer, .static yX9_isDrawer, .initialized RX9, .code yX9_isDrawer cX9_isDrawer 1 (some .boolean), .methodLink RX9 32 yX9_in, .static yX9_in, .code yX9_in cX9_in 3 (some .boolean), .methodLink RX9 51 yX9_isCard, .instanceMethod yX9_isCard, .selects RX9 yX9_isCard yX9_isCard, .code yX9_isCard cX9_isCard 3 (some .boolean), .methodLink RX9 40 yX9_changes, .instanceMethod yX9_changes, .selects RX9 yX9_changes yX9_changes, .code yX9_changes cX9_changes 2 none, .fieldLink RX9 28 "ExampleDrawersModel" "pasts" "I", .fieldLink RX9 13 "ExampleDrawersModel" "past" "[I", .methodLink RX9 47 yX9_valueAt, .static yX9_valueAt, .code yX9_valueAt cX9_valueAt 3 (some .int)] ++ wsX90)
def wsX9_valueOf : List Cond := .code yX9_valueOf cX9_valueOf 4 (some .int) :: ([.fieldLink RX9 7 "ExampleDrawersModel" "s" "[I", .methodLink RX9 36 yX9_isDrawer, .static yX9_isDrawer, .initialized RX9, .code yX9_isDrawer cX9_isDrawer 1 (some .boolean), .methodLink RX9 32 yX9_in, .static yX9_in, .code yX9_in cX9_in 3 (some .boolean), .methodLink RX9 51 yX9_isCard, .instanceMethod yX9_isCard, .selects RX9 yX9_isCard yX9_isCard, .code yX9_isCard cX9_isCard 3 (some .boolean), .methodLink RX9 55 yX9_isColumn, .instanceMethod yX9_isColumn, .selects RX9 yX9_isColumn yX9_isColumn, .code yX9_isColumn cX9_isColumn 3 (some .boolean), .methodLink RX9 47 yX9_valueAt, .static yX9_valueAt, .code yX9_valueAt cX9_valueAt 3 (some .int)] ++ wsX90)
def wsX9_isCell : List Cond := .code yX9_isCell cX9_isCell 4 (some .boolean) :: ([.methodLink RX9 32 yX9_in, .static yX9_in, .initialized RX9, .code yX9_in cX9_in 3 (some .boolean)])
def wsX9_cell_r1 : List Cond := [Cond.methodLink RX9 36 yX9_isDrawer, Cond.static yX9_isDrawer, Cond.initialized RX9, Cond.code yX9_isDrawer cX9_isDrawer 1 (some .boolean), Cond.methodLink RX9 32 yX9_in, Cond.static yX9_in, Cond.code yX9_in cX9_in 3 (some .boolean), Cond.methodLink RX9 55 yX9_isColumn, Cond.instanceMethod yX9_isColumn, Cond.selects RX9 yX9_isColumn yX9_isColumn, Cond.code yX9_isColumn cX9_isColumn 3 (some .boolean), Cond.fieldLink RX9 7 "ExampleDrawersModel" "s" "[I", Cond.methodLink RX9 58 yX9_isCell, Cond.static yX9_isCell, Cond.code yX9_isCell cX9_isCell 4 (some .boolean), Cond.methodLink RX9 40 yX9_changes, Cond.instanceMethod yX9_changes, Cond.selects RX9 yX9_changes yX9_changes, Cond.code yX9_changes cX9_changes 2 none, Cond.fieldLink RX9 28 "ExampleDrawersModel" "pasts" "I", Cond.fieldLink RX9 13 "ExampleDrawersModel" "past" "[I", Cond.methodLink RX9 61 yX9_cellAt, Cond.instanceMethod yX9_cellAt, Cond.selects RX9 yX9_cellAt yX9_cellAt]
def wsX9_cell_r2 : List Cond := [Cond.code yX9_cellAt cX9_cellAt 4 (some .int), Cond.methodLink RX9 43 yX9_setsCell, Cond.instanceMethod yX9_setsCell, Cond.selects RX9 yX9_setsCell yX9_setsCell, Cond.code yX9_setsCell cX9_setsCell 6 none]
def wsX9_cell : List Cond := .code yX9_cell cX9_cell 7 (some .int) :: ((wsX9_cell_r1 ++ wsX9_cell_r2) ++ wsX90)
def wsX9_others : List Cond := .code yX9_others cX9_others 4 (some .int) :: ([.fieldLink RX9 7 "ExampleDrawersModel" "s" "[I", .methodLink RX9 61 yX9_cellAt, .instanceMethod yX9_cellAt, .selects RX9 yX9_cellAt yX9_cellAt, .initialized RX9, .code yX9_cellAt cX9_cellAt 4 (some .int)] ++ wsX90)
def wsX9_clear_r1 : List Cond := [Cond.methodLink RX9 36 yX9_isDrawer, Cond.static yX9_isDrawer, Cond.initialized RX9, Cond.code yX9_isDrawer cX9_isDrawer 1 (some .boolean), Cond.methodLink RX9 32 yX9_in, Cond.static yX9_in, Cond.code yX9_in cX9_in 3 (some .boolean), Cond.methodLink RX9 40 yX9_changes, Cond.instanceMethod yX9_changes, Cond.selects RX9 yX9_changes yX9_changes, Cond.code yX9_changes cX9_changes 2 none, Cond.fieldLink RX9 28 "ExampleDrawersModel" "pasts" "I", Cond.fieldLink RX9 13 "ExampleDrawersModel" "past" "[I", Cond.fieldLink RX9 7 "ExampleDrawersModel" "s" "[I", Cond.methodLink RX9 64 yX9_others, Cond.instanceMethod yX9_others, Cond.selects RX9 yX9_others yX9_others, Cond.code yX9_others cX9_others 4 (some .int), Cond.methodLink RX9 61 yX9_cellAt, Cond.instanceMethod yX9_cellAt, Cond.selects RX9 yX9_cellAt yX9_cellAt, Cond.code yX9_cellAt cX9_cellAt 4 (some .int), Cond.methodLink RX9 43 yX9_setsCell, Cond.instanceMethod yX9_setsCell]
def wsX9_clear_r2 : List Cond := [Cond.selects RX9 yX9_setsCell yX9_setsCell, Cond.code yX9_setsCell cX9_setsCell 6 none]
def wsX9_clear : List Cond := .code yX9_clear cX9_clear 4 (some .int) :: ((wsX9_clear_r1 ++ wsX9_clear_r2) ++ wsX90)
def wsX9_both : List Cond := .code yX9_both cX9_both 3 (some .int) :: ([.fieldLink RX9 7 "ExampleDrawersModel" "s" "[I", .methodLink RX9 32 yX9_in, .static yX9_in, .initialized RX9, .code yX9_in cX9_in 3 (some .boolean), .methodLink RX9 40 yX9_changes, .instanceMethod yX9_changes, .selects RX9 yX9_changes yX9_changes, .code yX9_changes cX9_changes 2 none, .fieldLink RX9 28 "ExampleDrawersModel" "pasts" "I", .fieldLink RX9 13 "ExampleDrawersModel" "past" "[I"] ++ wsX90)
def wsX9_isAsked : List Cond := .code yX9_isAsked cX9_isAsked 2 (some .boolean) :: ([.fieldLink RX9 7 "ExampleDrawersModel" "s" "[I", .methodLink RX9 55 yX9_isColumn, .instanceMethod yX9_isColumn, .selects RX9 yX9_isColumn yX9_isColumn, .initialized RX9, .code yX9_isColumn cX9_isColumn 3 (some .boolean)] ++ wsX90)
def wsX9_at : List Cond := .code yX9_at cX9_at 4 (some .int) :: ([.fieldLink RX9 7 "ExampleDrawersModel" "s" "[I", .methodLink RX9 47 yX9_valueAt, .static yX9_valueAt, .initialized RX9, .code yX9_valueAt cX9_valueAt 3 (some .int)] ++ wsX90)
def wsX9_fitsOne : List Cond := .code yX9_fitsOne cX9_fitsOne 4 (some .boolean) :: ([.methodLink RX9 32 yX9_in, .static yX9_in, .initialized RX9, .code yX9_in cX9_in 3 (some .boolean)])
def wsX9_teller : List Cond := .code yX9_teller cX9_teller 3 (some .int) :: ([.methodLink RX9 82 yX9_isAsked, .instanceMethod yX9_isAsked, .selects RX9 yX9_isAsked yX9_isAsked, .initialized RX9, .code yX9_isAsked cX9_isAsked 2 (some .boolean), .fieldLink RX9 7 "ExampleDrawersModel" "s" "[I", .methodLink RX9 55 yX9_isColumn, .instanceMethod yX9_isColumn, .selects RX9 yX9_isColumn yX9_isColumn, .code yX9_isColumn cX9_isColumn 3 (some .boolean), .methodLink RX9 61 yX9_cellAt, .instanceMethod yX9_cellAt, .selects RX9 yX9_cellAt yX9_cellAt, .code yX9_cellAt cX9_cellAt 4 (some .int)] ++ wsX90)
def wsX9_fitsCell_r1 : List Cond := [Cond.methodLink RX9 61 yX9_cellAt, Cond.instanceMethod yX9_cellAt, Cond.selects RX9 yX9_cellAt yX9_cellAt, Cond.initialized RX9, Cond.code yX9_cellAt cX9_cellAt 4 (some .int), Cond.fieldLink RX9 7 "ExampleDrawersModel" "s" "[I", Cond.methodLink RX9 85 yX9_at, Cond.instanceMethod yX9_at, Cond.selects RX9 yX9_at yX9_at, Cond.code yX9_at cX9_at 4 (some .int), Cond.methodLink RX9 47 yX9_valueAt, Cond.static yX9_valueAt, Cond.code yX9_valueAt cX9_valueAt 3 (some .int), Cond.methodLink RX9 78 yX9_fitsOne, Cond.static yX9_fitsOne, Cond.code yX9_fitsOne cX9_fitsOne 4 (some .boolean), Cond.methodLink RX9 32 yX9_in, Cond.static yX9_in, Cond.code yX9_in cX9_in 3 (some .boolean), Cond.methodLink RX9 88 yX9_teller, Cond.instanceMethod yX9_teller, Cond.selects RX9 yX9_teller yX9_teller, Cond.code yX9_teller cX9_teller 3 (some .int), Cond.methodLink RX9 82 yX9_isAsked]
def wsX9_fitsCell_r2 : List Cond := [Cond.instanceMethod yX9_isAsked, Cond.selects RX9 yX9_isAsked yX9_isAsked, Cond.code yX9_isAsked cX9_isAsked 2 (some .boolean), Cond.methodLink RX9 55 yX9_isColumn, Cond.instanceMethod yX9_isColumn, Cond.selects RX9 yX9_isColumn yX9_isColumn, Cond.code yX9_isColumn cX9_isColumn 3 (some .boolean)]
def wsX9_fitsCell : List Cond := .code yX9_fitsCell cX9_fitsCell 10 (some .boolean) :: ((wsX9_fitsCell_r1 ++ wsX9_fitsCell_r2) ++ wsX90)
def wsX9_unfit_r1 : List Cond := [Cond.methodLink RX9 82 yX9_isAsked, Cond.instanceMethod yX9_isAsked, Cond.selects RX9 yX9_isAsked yX9_isAsked, Cond.initialized RX9, Cond.code yX9_isAsked cX9_isAsked 2 (some .boolean), Cond.fieldLink RX9 7 "ExampleDrawersModel" "s" "[I", Cond.methodLink RX9 55 yX9_isColumn, Cond.instanceMethod yX9_isColumn, Cond.selects RX9 yX9_isColumn yX9_isColumn, Cond.code yX9_isColumn cX9_isColumn 3 (some .boolean), Cond.methodLink RX9 91 yX9_fitsCell, Cond.instanceMethod yX9_fitsCell, Cond.selects RX9 yX9_fitsCell yX9_fitsCell, Cond.code yX9_fitsCell cX9_fitsCell 10 (some .boolean), Cond.methodLink RX9 61 yX9_cellAt, Cond.instanceMethod yX9_cellAt, Cond.selects RX9 yX9_cellAt yX9_cellAt, Cond.code yX9_cellAt cX9_cellAt 4 (some .int), Cond.methodLink RX9 85 yX9_at, Cond.instanceMethod yX9_at, Cond.selects RX9 yX9_at yX9_at, Cond.code yX9_at cX9_at 4 (some .int), Cond.methodLink RX9 47 yX9_valueAt, Cond.static yX9_valueAt]
def wsX9_unfit_r2 : List Cond := [Cond.code yX9_valueAt cX9_valueAt 3 (some .int), Cond.methodLink RX9 78 yX9_fitsOne, Cond.static yX9_fitsOne, Cond.code yX9_fitsOne cX9_fitsOne 4 (some .boolean), Cond.methodLink RX9 32 yX9_in, Cond.static yX9_in, Cond.code yX9_in cX9_in 3 (some .boolean), Cond.methodLink RX9 88 yX9_teller, Cond.instanceMethod yX9_teller, Cond.selects RX9 yX9_teller yX9_teller, Cond.code yX9_teller cX9_teller 3 (some .int)]
def wsX9_unfit : List Cond := .code yX9_unfit cX9_unfit 4 (some .int) :: ((wsX9_unfit_r1 ++ wsX9_unfit_r2) ++ wsX90)
def wsX9_isBehind : List Cond := .code yX9_isBehind cX9_isBehind 8 (some .boolean) :: ([.fieldLink RX9 7 "ExampleDrawersModel" "s" "[I", .methodLink RX9 82 yX9_isAsked, .instanceMethod yX9_isAsked, .selects RX9 yX9_isAsked yX9_isAsked, .initialized RX9, .code yX9_isAsked cX9_isAsked 2 (some .boolean), .methodLink RX9 55 yX9_isColumn, .instanceMethod yX9_isColumn, .selects RX9 yX9_isColumn yX9_isColumn, .code yX9_isColumn cX9_isColumn 3 (some .boolean), .methodLink RX9 85 yX9_at, .instanceMethod yX9_at, .selects RX9 yX9_at yX9_at, .code yX9_at cX9_at 4 (some .int), .methodLink RX9 47 yX9_valueAt, .static yX9_valueAt, .code yX9_valueAt cX9_valueAt 3 (some .int)] ++ wsX90)
def wsX9_lays : List Cond := .code yX9_lays cX9_lays 4 none :: ([.fieldLink RX9 71 "ExampleDrawersModel" "rows" "I", .fieldLink RX9 19 "ExampleDrawersModel" "firsts" "[I", .fieldLink RX9 22 "ExampleDrawersModel" "seconds" "[I", .methodLink RX9 94 yX9_isBehind, .instanceMethod yX9_isBehind, .selects RX9 yX9_isBehind yX9_isBehind, .initialized RX9, .code yX9_isBehind cX9_isBehind 8 (some .boolean), .fieldLink RX9 7 "ExampleDrawersModel" "s" "[I", .methodLink RX9 82 yX9_isAsked, .instanceMethod yX9_isAsked, .selects RX9 yX9_isAsked yX9_isAsked, .code yX9_isAsked cX9_isAsked 2 (some .boolean), .methodLink RX9 55 yX9_isColumn, .instanceMethod yX9_isColumn, .selects RX9 yX9_isColumn yX9_isColumn, .code yX9_isColumn cX9_isColumn 3 (some .boolean), .methodLink RX9 85 yX9_at, .instanceMethod yX9_at, .selects RX9 yX9_at yX9_at, .code yX9_at cX9_at 4 (some .int), .methodLink RX9 47 yX9_valueAt, .static yX9_valueAt, .code yX9_valueAt cX9_valueAt 3 (some .int)] ++ wsX90)
def wsX9_finds_r1 : List Cond := [Cond.fieldLink RX9 71 "ExampleDrawersModel" "rows" "I", Cond.fieldLink RX9 7 "ExampleDrawersModel" "s" "[I", Cond.methodLink RX9 97 yX9_unfit, Cond.instanceMethod yX9_unfit, Cond.selects RX9 yX9_unfit yX9_unfit, Cond.initialized RX9, Cond.code yX9_unfit cX9_unfit 4 (some .int), Cond.methodLink RX9 82 yX9_isAsked, Cond.instanceMethod yX9_isAsked, Cond.selects RX9 yX9_isAsked yX9_isAsked, Cond.code yX9_isAsked cX9_isAsked 2 (some .boolean), Cond.methodLink RX9 55 yX9_isColumn, Cond.instanceMethod yX9_isColumn, Cond.selects RX9 yX9_isColumn yX9_isColumn, Cond.code yX9_isColumn cX9_isColumn 3 (some .boolean), Cond.methodLink RX9 91 yX9_fitsCell, Cond.instanceMethod yX9_fitsCell, Cond.selects RX9 yX9_fitsCell yX9_fitsCell, Cond.code yX9_fitsCell cX9_fitsCell 10 (some .boolean), Cond.methodLink RX9 61 yX9_cellAt, Cond.instanceMethod yX9_cellAt, Cond.selects RX9 yX9_cellAt yX9_cellAt, Cond.code yX9_cellAt cX9_cellAt 4 (some .int), Cond.methodLink RX9 85 yX9_at]
def wsX9_finds_r2 : List Cond := [Cond.instanceMethod yX9_at, Cond.selects RX9 yX9_at yX9_at, Cond.code yX9_at cX9_at 4 (some .int), Cond.methodLink RX9 47 yX9_valueAt, Cond.static yX9_valueAt, Cond.code yX9_valueAt cX9_valueAt 3 (some .int), Cond.methodLink RX9 78 yX9_fitsOne, Cond.static yX9_fitsOne, Cond.code yX9_fitsOne cX9_fitsOne 4 (some .boolean), Cond.methodLink RX9 32 yX9_in, Cond.static yX9_in, Cond.code yX9_in cX9_in 3 (some .boolean), Cond.methodLink RX9 88 yX9_teller, Cond.instanceMethod yX9_teller, Cond.selects RX9 yX9_teller yX9_teller, Cond.code yX9_teller cX9_teller 3 (some .int), Cond.methodLink RX9 101 yX9_lays, Cond.instanceMethod yX9_lays, Cond.selects RX9 yX9_lays yX9_lays, Cond.code yX9_lays cX9_lays 4 none, Cond.fieldLink RX9 19 "ExampleDrawersModel" "firsts" "[I", Cond.fieldLink RX9 22 "ExampleDrawersModel" "seconds" "[I", Cond.methodLink RX9 94 yX9_isBehind, Cond.instanceMethod yX9_isBehind]
def wsX9_finds_r3 : List Cond := [Cond.selects RX9 yX9_isBehind yX9_isBehind, Cond.code yX9_isBehind cX9_isBehind 8 (some .boolean)]
def wsX9_finds : List Cond := .code yX9_finds cX9_finds 4 none :: ((wsX9_finds_r1 ++ (wsX9_finds_r2 ++ wsX9_finds_r3)) ++ wsX90)
def wsX9_order_r1 : List Cond := [Cond.fieldLink RX9 7 "ExampleDrawersModel" "s" "[I", Cond.fieldLink RX9 71 "ExampleDrawersModel" "rows" "I", Cond.methodLink RX9 32 yX9_in, Cond.static yX9_in, Cond.initialized RX9, Cond.code yX9_in cX9_in 3 (some .boolean), Cond.methodLink RX9 40 yX9_changes, Cond.instanceMethod yX9_changes, Cond.selects RX9 yX9_changes yX9_changes, Cond.code yX9_changes cX9_changes 2 none, Cond.fieldLink RX9 28 "ExampleDrawersModel" "pasts" "I", Cond.fieldLink RX9 13 "ExampleDrawersModel" "past" "[I", Cond.methodLink RX9 68 yX9_finds, Cond.instanceMethod yX9_finds, Cond.selects RX9 yX9_finds yX9_finds, Cond.code yX9_finds cX9_finds 4 none, Cond.methodLink RX9 97 yX9_unfit, Cond.instanceMethod yX9_unfit, Cond.selects RX9 yX9_unfit yX9_unfit, Cond.code yX9_unfit cX9_unfit 4 (some .int), Cond.methodLink RX9 82 yX9_isAsked, Cond.instanceMethod yX9_isAsked, Cond.selects RX9 yX9_isAsked yX9_isAsked, Cond.code yX9_isAsked cX9_isAsked 2 (some .boolean)]
def wsX9_order_r2 : List Cond := [Cond.methodLink RX9 55 yX9_isColumn, Cond.instanceMethod yX9_isColumn, Cond.selects RX9 yX9_isColumn yX9_isColumn, Cond.code yX9_isColumn cX9_isColumn 3 (some .boolean), Cond.methodLink RX9 91 yX9_fitsCell, Cond.instanceMethod yX9_fitsCell, Cond.selects RX9 yX9_fitsCell yX9_fitsCell, Cond.code yX9_fitsCell cX9_fitsCell 10 (some .boolean), Cond.methodLink RX9 61 yX9_cellAt, Cond.instanceMethod yX9_cellAt, Cond.selects RX9 yX9_cellAt yX9_cellAt, Cond.code yX9_cellAt cX9_cellAt 4 (some .int), Cond.methodLink RX9 85 yX9_at, Cond.instanceMethod yX9_at, Cond.selects RX9 yX9_at yX9_at, Cond.code yX9_at cX9_at 4 (some .int), Cond.methodLink RX9 47 yX9_valueAt, Cond.static yX9_valueAt, Cond.code yX9_valueAt cX9_valueAt 3 (some .int), Cond.methodLink RX9 78 yX9_fitsOne, Cond.static yX9_fitsOne, Cond.code yX9_fitsOne cX9_fitsOne 4 (some .boolean), Cond.methodLink RX9 88 yX9_teller, Cond.instanceMethod yX9_teller]
def wsX9_order_r3 : List Cond := [Cond.selects RX9 yX9_teller yX9_teller, Cond.code yX9_teller cX9_teller 3 (some .int), Cond.methodLink RX9 101 yX9_lays, Cond.instanceMethod yX9_lays, Cond.selects RX9 yX9_lays yX9_lays, Cond.code yX9_lays cX9_lays 4 none, Cond.fieldLink RX9 19 "ExampleDrawersModel" "firsts" "[I", Cond.fieldLink RX9 22 "ExampleDrawersModel" "seconds" "[I", Cond.methodLink RX9 94 yX9_isBehind, Cond.instanceMethod yX9_isBehind, Cond.selects RX9 yX9_isBehind yX9_isBehind, Cond.code yX9_isBehind cX9_isBehind 8 (some .boolean)]
def wsX9_order : List Cond := .code yX9_order cX9_order 4 (some .int) :: ((wsX9_order_r1 ++ (wsX9_order_r2 ++ wsX9_order_r3)) ++ wsX90)
def wsX9_areAlike : List Cond := .code yX9_areAlike cX9_areAlike 6 (some .boolean) :: ([.fieldLink RX9 7 "ExampleDrawersModel" "s" "[I", .fieldLink RX9 19 "ExampleDrawersModel" "firsts" "[I", .fieldLink RX9 22 "ExampleDrawersModel" "seconds" "[I", .methodLink RX9 82 yX9_isAsked, .instanceMethod yX9_isAsked, .selects RX9 yX9_isAsked yX9_isAsked, .initialized RX9, .code yX9_isAsked cX9_isAsked 2 (some .boolean), .methodLink RX9 55 yX9_isColumn, .instanceMethod yX9_isColumn, .selects RX9 yX9_isColumn yX9_isColumn, .code yX9_isColumn cX9_isColumn 3 (some .boolean), .methodLink RX9 85 yX9_at, .instanceMethod yX9_at, .selects RX9 yX9_at yX9_at, .code yX9_at cX9_at 4 (some .int), .methodLink RX9 47 yX9_valueAt, .static yX9_valueAt, .code yX9_valueAt cX9_valueAt 3 (some .int)] ++ wsX90)
def wsX9_unlikeNow_r1 : List Cond := [Cond.fieldLink RX9 71 "ExampleDrawersModel" "rows" "I", Cond.methodLink RX9 68 yX9_finds, Cond.instanceMethod yX9_finds, Cond.selects RX9 yX9_finds yX9_finds, Cond.initialized RX9, Cond.code yX9_finds cX9_finds 4 none, Cond.fieldLink RX9 7 "ExampleDrawersModel" "s" "[I", Cond.methodLink RX9 97 yX9_unfit, Cond.instanceMethod yX9_unfit, Cond.selects RX9 yX9_unfit yX9_unfit, Cond.code yX9_unfit cX9_unfit 4 (some .int), Cond.methodLink RX9 82 yX9_isAsked, Cond.instanceMethod yX9_isAsked, Cond.selects RX9 yX9_isAsked yX9_isAsked, Cond.code yX9_isAsked cX9_isAsked 2 (some .boolean), Cond.methodLink RX9 55 yX9_isColumn, Cond.instanceMethod yX9_isColumn, Cond.selects RX9 yX9_isColumn yX9_isColumn, Cond.code yX9_isColumn cX9_isColumn 3 (some .boolean), Cond.methodLink RX9 91 yX9_fitsCell, Cond.instanceMethod yX9_fitsCell, Cond.selects RX9 yX9_fitsCell yX9_fitsCell, Cond.code yX9_fitsCell cX9_fitsCell 10 (some .boolean), Cond.methodLink RX9 61 yX9_cellAt]
def wsX9_unlikeNow_r2 : List Cond := [Cond.instanceMethod yX9_cellAt, Cond.selects RX9 yX9_cellAt yX9_cellAt, Cond.code yX9_cellAt cX9_cellAt 4 (some .int), Cond.methodLink RX9 85 yX9_at, Cond.instanceMethod yX9_at, Cond.selects RX9 yX9_at yX9_at, Cond.code yX9_at cX9_at 4 (some .int), Cond.methodLink RX9 47 yX9_valueAt, Cond.static yX9_valueAt, Cond.code yX9_valueAt cX9_valueAt 3 (some .int), Cond.methodLink RX9 78 yX9_fitsOne, Cond.static yX9_fitsOne, Cond.code yX9_fitsOne cX9_fitsOne 4 (some .boolean), Cond.methodLink RX9 32 yX9_in, Cond.static yX9_in, Cond.code yX9_in cX9_in 3 (some .boolean), Cond.methodLink RX9 88 yX9_teller, Cond.instanceMethod yX9_teller, Cond.selects RX9 yX9_teller yX9_teller, Cond.code yX9_teller cX9_teller 3 (some .int), Cond.methodLink RX9 101 yX9_lays, Cond.instanceMethod yX9_lays, Cond.selects RX9 yX9_lays yX9_lays, Cond.code yX9_lays cX9_lays 4 none]
def wsX9_unlikeNow_r3 : List Cond := [Cond.fieldLink RX9 19 "ExampleDrawersModel" "firsts" "[I", Cond.fieldLink RX9 22 "ExampleDrawersModel" "seconds" "[I", Cond.methodLink RX9 94 yX9_isBehind, Cond.instanceMethod yX9_isBehind, Cond.selects RX9 yX9_isBehind yX9_isBehind, Cond.code yX9_isBehind cX9_isBehind 8 (some .boolean), Cond.methodLink RX9 105 yX9_areAlike, Cond.instanceMethod yX9_areAlike, Cond.selects RX9 yX9_areAlike yX9_areAlike, Cond.code yX9_areAlike cX9_areAlike 6 (some .boolean)]
def wsX9_unlikeNow : List Cond := .code yX9_unlikeNow cX9_unlikeNow 5 (some .int) :: ((wsX9_unlikeNow_r1 ++ (wsX9_unlikeNow_r2 ++ wsX9_unlikeNow_r3)) ++ wsX90)
def wsX9_show_r1 : List Cond := [Cond.fieldLink RX9 7 "ExampleDrawersModel" "s" "[I", Cond.methodLink RX9 32 yX9_in, Cond.static yX9_in, Cond.initialized RX9, Cond.code yX9_in cX9_in 3 (some .boolean), Cond.methodLink RX9 40 yX9_changes, Cond.instanceMethod yX9_changes, Cond.selects RX9 yX9_changes yX9_changes, Cond.code yX9_changes cX9_changes 2 none, Cond.fieldLink RX9 28 "ExampleDrawersModel" "pasts" "I", Cond.fieldLink RX9 13 "ExampleDrawersModel" "past" "[I", Cond.methodLink RX9 74 yX9_unlikeNow, Cond.instanceMethod yX9_unlikeNow, Cond.selects RX9 yX9_unlikeNow yX9_unlikeNow, Cond.code yX9_unlikeNow cX9_unlikeNow 5 (some .int), Cond.fieldLink RX9 71 "ExampleDrawersModel" "rows" "I", Cond.methodLink RX9 68 yX9_finds, Cond.instanceMethod yX9_finds, Cond.selects RX9 yX9_finds yX9_finds, Cond.code yX9_finds cX9_finds 4 none, Cond.methodLink RX9 97 yX9_unfit, Cond.instanceMethod yX9_unfit, Cond.selects RX9 yX9_unfit yX9_unfit, Cond.code yX9_unfit cX9_unfit 4 (some .int)]
def wsX9_show_r2 : List Cond := [Cond.methodLink RX9 82 yX9_isAsked, Cond.instanceMethod yX9_isAsked, Cond.selects RX9 yX9_isAsked yX9_isAsked, Cond.code yX9_isAsked cX9_isAsked 2 (some .boolean), Cond.methodLink RX9 55 yX9_isColumn, Cond.instanceMethod yX9_isColumn, Cond.selects RX9 yX9_isColumn yX9_isColumn, Cond.code yX9_isColumn cX9_isColumn 3 (some .boolean), Cond.methodLink RX9 91 yX9_fitsCell, Cond.instanceMethod yX9_fitsCell, Cond.selects RX9 yX9_fitsCell yX9_fitsCell, Cond.code yX9_fitsCell cX9_fitsCell 10 (some .boolean), Cond.methodLink RX9 61 yX9_cellAt, Cond.instanceMethod yX9_cellAt, Cond.selects RX9 yX9_cellAt yX9_cellAt, Cond.code yX9_cellAt cX9_cellAt 4 (some .int), Cond.methodLink RX9 85 yX9_at, Cond.instanceMethod yX9_at, Cond.selects RX9 yX9_at yX9_at, Cond.code yX9_at cX9_at 4 (some .int), Cond.methodLink RX9 47 yX9_valueAt, Cond.static yX9_valueAt, Cond.code yX9_valueAt cX9_valueAt 3 (some .int), Cond.methodLink RX9 78 yX9_fitsOne]
def wsX9_show_r3 : List Cond := [Cond.static yX9_fitsOne, Cond.code yX9_fitsOne cX9_fitsOne 4 (some .boolean), Cond.methodLink RX9 88 yX9_teller, Cond.instanceMethod yX9_teller, Cond.selects RX9 yX9_teller yX9_teller, Cond.code yX9_teller cX9_teller 3 (some .int), Cond.methodLink RX9 101 yX9_lays, Cond.instanceMethod yX9_lays, Cond.selects RX9 yX9_lays yX9_lays, Cond.code yX9_lays cX9_lays 4 none, Cond.fieldLink RX9 19 "ExampleDrawersModel" "firsts" "[I", Cond.fieldLink RX9 22 "ExampleDrawersModel" "seconds" "[I", Cond.methodLink RX9 94 yX9_isBehind, Cond.instanceMethod yX9_isBehind, Cond.selects RX9 yX9_isBehind yX9_isBehind, Cond.code yX9_isBehind cX9_isBehind 8 (some .boolean), Cond.methodLink RX9 105 yX9_areAlike, Cond.instanceMethod yX9_areAlike, Cond.selects RX9 yX9_areAlike yX9_areAlike, Cond.code yX9_areAlike cX9_areAlike 6 (some .boolean)]
def wsX9_show : List Cond := .code yX9_show cX9_show 2 (some .int) :: ((wsX9_show_r1 ++ (wsX9_show_r2 ++ wsX9_show_r3)) ++ wsX90)
def wsX9_cellOf : List Cond := .code yX9_cellOf cX9_cellOf 8 (some .int) :: ([.fieldLink RX9 7 "ExampleDrawersModel" "s" "[I", .methodLink RX9 36 yX9_isDrawer, .static yX9_isDrawer, .initialized RX9, .code yX9_isDrawer cX9_isDrawer 1 (some .boolean), .methodLink RX9 32 yX9_in, .static yX9_in, .code yX9_in cX9_in 3 (some .boolean), .methodLink RX9 55 yX9_isColumn, .instanceMethod yX9_isColumn, .selects RX9 yX9_isColumn yX9_isColumn, .code yX9_isColumn cX9_isColumn 3 (some .boolean), .methodLink RX9 61 yX9_cellAt, .instanceMethod yX9_cellAt, .selects RX9 yX9_cellAt yX9_cellAt, .code yX9_cellAt cX9_cellAt 4 (some .int), .methodLink RX9 47 yX9_valueAt, .static yX9_valueAt, .code yX9_valueAt cX9_valueAt 3 (some .int), .methodLink RX9 78 yX9_fitsOne, .static yX9_fitsOne, .code yX9_fitsOne cX9_fitsOne 4 (some .boolean)] ++ wsX90)
def wsX9_many_r1 : List Cond := [Cond.fieldLink RX9 71 "ExampleDrawersModel" "rows" "I", Cond.methodLink RX9 68 yX9_finds, Cond.instanceMethod yX9_finds, Cond.selects RX9 yX9_finds yX9_finds, Cond.initialized RX9, Cond.code yX9_finds cX9_finds 4 none, Cond.fieldLink RX9 7 "ExampleDrawersModel" "s" "[I", Cond.methodLink RX9 97 yX9_unfit, Cond.instanceMethod yX9_unfit, Cond.selects RX9 yX9_unfit yX9_unfit, Cond.code yX9_unfit cX9_unfit 4 (some .int), Cond.methodLink RX9 82 yX9_isAsked, Cond.instanceMethod yX9_isAsked, Cond.selects RX9 yX9_isAsked yX9_isAsked, Cond.code yX9_isAsked cX9_isAsked 2 (some .boolean), Cond.methodLink RX9 55 yX9_isColumn, Cond.instanceMethod yX9_isColumn, Cond.selects RX9 yX9_isColumn yX9_isColumn, Cond.code yX9_isColumn cX9_isColumn 3 (some .boolean), Cond.methodLink RX9 91 yX9_fitsCell, Cond.instanceMethod yX9_fitsCell, Cond.selects RX9 yX9_fitsCell yX9_fitsCell, Cond.code yX9_fitsCell cX9_fitsCell 10 (some .boolean), Cond.methodLink RX9 61 yX9_cellAt]
def wsX9_many_r2 : List Cond := [Cond.instanceMethod yX9_cellAt, Cond.selects RX9 yX9_cellAt yX9_cellAt, Cond.code yX9_cellAt cX9_cellAt 4 (some .int), Cond.methodLink RX9 85 yX9_at, Cond.instanceMethod yX9_at, Cond.selects RX9 yX9_at yX9_at, Cond.code yX9_at cX9_at 4 (some .int), Cond.methodLink RX9 47 yX9_valueAt, Cond.static yX9_valueAt, Cond.code yX9_valueAt cX9_valueAt 3 (some .int), Cond.methodLink RX9 78 yX9_fitsOne, Cond.static yX9_fitsOne, Cond.code yX9_fitsOne cX9_fitsOne 4 (some .boolean), Cond.methodLink RX9 32 yX9_in, Cond.static yX9_in, Cond.code yX9_in cX9_in 3 (some .boolean), Cond.methodLink RX9 88 yX9_teller, Cond.instanceMethod yX9_teller, Cond.selects RX9 yX9_teller yX9_teller, Cond.code yX9_teller cX9_teller 3 (some .int), Cond.methodLink RX9 101 yX9_lays, Cond.instanceMethod yX9_lays, Cond.selects RX9 yX9_lays yX9_lays, Cond.code yX9_lays cX9_lays 4 none]
def wsX9_many_r3 : List Cond := [Cond.fieldLink RX9 19 "ExampleDrawersModel" "firsts" "[I", Cond.fieldLink RX9 22 "ExampleDrawersModel" "seconds" "[I", Cond.methodLink RX9 94 yX9_isBehind, Cond.instanceMethod yX9_isBehind, Cond.selects RX9 yX9_isBehind yX9_isBehind, Cond.code yX9_isBehind cX9_isBehind 8 (some .boolean)]
def wsX9_many : List Cond := .code yX9_many cX9_many 1 (some .int) :: ((wsX9_many_r1 ++ (wsX9_many_r2 ++ wsX9_many_r3)) ++ wsX90)
def wsX9_unlike_r1 : List Cond := [Cond.methodLink RX9 74 yX9_unlikeNow, Cond.instanceMethod yX9_unlikeNow, Cond.selects RX9 yX9_unlikeNow yX9_unlikeNow, Cond.initialized RX9, Cond.code yX9_unlikeNow cX9_unlikeNow 5 (some .int), Cond.fieldLink RX9 71 "ExampleDrawersModel" "rows" "I", Cond.methodLink RX9 68 yX9_finds, Cond.instanceMethod yX9_finds, Cond.selects RX9 yX9_finds yX9_finds, Cond.code yX9_finds cX9_finds 4 none, Cond.fieldLink RX9 7 "ExampleDrawersModel" "s" "[I", Cond.methodLink RX9 97 yX9_unfit, Cond.instanceMethod yX9_unfit, Cond.selects RX9 yX9_unfit yX9_unfit, Cond.code yX9_unfit cX9_unfit 4 (some .int), Cond.methodLink RX9 82 yX9_isAsked, Cond.instanceMethod yX9_isAsked, Cond.selects RX9 yX9_isAsked yX9_isAsked, Cond.code yX9_isAsked cX9_isAsked 2 (some .boolean), Cond.methodLink RX9 55 yX9_isColumn, Cond.instanceMethod yX9_isColumn, Cond.selects RX9 yX9_isColumn yX9_isColumn, Cond.code yX9_isColumn cX9_isColumn 3 (some .boolean), Cond.methodLink RX9 91 yX9_fitsCell]
def wsX9_unlike_r2 : List Cond := [Cond.instanceMethod yX9_fitsCell, Cond.selects RX9 yX9_fitsCell yX9_fitsCell, Cond.code yX9_fitsCell cX9_fitsCell 10 (some .boolean), Cond.methodLink RX9 61 yX9_cellAt, Cond.instanceMethod yX9_cellAt, Cond.selects RX9 yX9_cellAt yX9_cellAt, Cond.code yX9_cellAt cX9_cellAt 4 (some .int), Cond.methodLink RX9 85 yX9_at, Cond.instanceMethod yX9_at, Cond.selects RX9 yX9_at yX9_at, Cond.code yX9_at cX9_at 4 (some .int), Cond.methodLink RX9 47 yX9_valueAt, Cond.static yX9_valueAt, Cond.code yX9_valueAt cX9_valueAt 3 (some .int), Cond.methodLink RX9 78 yX9_fitsOne, Cond.static yX9_fitsOne, Cond.code yX9_fitsOne cX9_fitsOne 4 (some .boolean), Cond.methodLink RX9 32 yX9_in, Cond.static yX9_in, Cond.code yX9_in cX9_in 3 (some .boolean), Cond.methodLink RX9 88 yX9_teller, Cond.instanceMethod yX9_teller, Cond.selects RX9 yX9_teller yX9_teller, Cond.code yX9_teller cX9_teller 3 (some .int)]
def wsX9_unlike_r3 : List Cond := [Cond.methodLink RX9 101 yX9_lays, Cond.instanceMethod yX9_lays, Cond.selects RX9 yX9_lays yX9_lays, Cond.code yX9_lays cX9_lays 4 none, Cond.fieldLink RX9 19 "ExampleDrawersModel" "firsts" "[I", Cond.fieldLink RX9 22 "ExampleDrawersModel" "seconds" "[I", Cond.methodLink RX9 94 yX9_isBehind, Cond.instanceMethod yX9_isBehind, Cond.selects RX9 yX9_isBehind yX9_isBehind, Cond.code yX9_isBehind cX9_isBehind 8 (some .boolean), Cond.methodLink RX9 105 yX9_areAlike, Cond.instanceMethod yX9_areAlike, Cond.selects RX9 yX9_areAlike yX9_areAlike, Cond.code yX9_areAlike cX9_areAlike 6 (some .boolean)]
def wsX9_unlike : List Cond := .code yX9_unlike cX9_unlike 1 (some .int) :: ((wsX9_unlike_r1 ++ (wsX9_unlike_r2 ++ wsX9_unlike_r3)) ++ wsX90)
def wsX9_row_r1 : List Cond := [Cond.fieldLink RX9 71 "ExampleDrawersModel" "rows" "I", Cond.fieldLink RX9 7 "ExampleDrawersModel" "s" "[I", Cond.fieldLink RX9 19 "ExampleDrawersModel" "firsts" "[I", Cond.fieldLink RX9 22 "ExampleDrawersModel" "seconds" "[I", Cond.methodLink RX9 32 yX9_in, Cond.static yX9_in, Cond.initialized RX9, Cond.code yX9_in cX9_in 3 (some .boolean), Cond.methodLink RX9 68 yX9_finds, Cond.instanceMethod yX9_finds, Cond.selects RX9 yX9_finds yX9_finds, Cond.code yX9_finds cX9_finds 4 none, Cond.methodLink RX9 97 yX9_unfit, Cond.instanceMethod yX9_unfit, Cond.selects RX9 yX9_unfit yX9_unfit, Cond.code yX9_unfit cX9_unfit 4 (some .int), Cond.methodLink RX9 82 yX9_isAsked, Cond.instanceMethod yX9_isAsked, Cond.selects RX9 yX9_isAsked yX9_isAsked, Cond.code yX9_isAsked cX9_isAsked 2 (some .boolean), Cond.methodLink RX9 55 yX9_isColumn, Cond.instanceMethod yX9_isColumn, Cond.selects RX9 yX9_isColumn yX9_isColumn, Cond.code yX9_isColumn cX9_isColumn 3 (some .boolean)]
def wsX9_row_r2 : List Cond := [Cond.methodLink RX9 91 yX9_fitsCell, Cond.instanceMethod yX9_fitsCell, Cond.selects RX9 yX9_fitsCell yX9_fitsCell, Cond.code yX9_fitsCell cX9_fitsCell 10 (some .boolean), Cond.methodLink RX9 61 yX9_cellAt, Cond.instanceMethod yX9_cellAt, Cond.selects RX9 yX9_cellAt yX9_cellAt, Cond.code yX9_cellAt cX9_cellAt 4 (some .int), Cond.methodLink RX9 85 yX9_at, Cond.instanceMethod yX9_at, Cond.selects RX9 yX9_at yX9_at, Cond.code yX9_at cX9_at 4 (some .int), Cond.methodLink RX9 47 yX9_valueAt, Cond.static yX9_valueAt, Cond.code yX9_valueAt cX9_valueAt 3 (some .int), Cond.methodLink RX9 78 yX9_fitsOne, Cond.static yX9_fitsOne, Cond.code yX9_fitsOne cX9_fitsOne 4 (some .boolean), Cond.methodLink RX9 88 yX9_teller, Cond.instanceMethod yX9_teller, Cond.selects RX9 yX9_teller yX9_teller, Cond.code yX9_teller cX9_teller 3 (some .int), Cond.methodLink RX9 101 yX9_lays, Cond.instanceMethod yX9_lays]
def wsX9_row_r3 : List Cond := [Cond.selects RX9 yX9_lays yX9_lays, Cond.code yX9_lays cX9_lays 4 none, Cond.methodLink RX9 94 yX9_isBehind, Cond.instanceMethod yX9_isBehind, Cond.selects RX9 yX9_isBehind yX9_isBehind, Cond.code yX9_isBehind cX9_isBehind 8 (some .boolean)]
def wsX9_row : List Cond := .code yX9_row cX9_row 4 (some .int) :: ((wsX9_row_r1 ++ (wsX9_row_r2 ++ wsX9_row_r3)) ++ wsX90)
def wsX9_isFirstOf : List Cond := .code yX9_isFirstOf cX9_isFirstOf 5 (some .boolean) :: ([.fieldLink RX9 19 "ExampleDrawersModel" "firsts" "[I", .fieldLink RX9 22 "ExampleDrawersModel" "seconds" "[I", .methodLink RX9 85 yX9_at, .instanceMethod yX9_at, .selects RX9 yX9_at yX9_at, .initialized RX9, .code yX9_at cX9_at 4 (some .int), .fieldLink RX9 7 "ExampleDrawersModel" "s" "[I", .methodLink RX9 47 yX9_valueAt, .static yX9_valueAt, .code yX9_valueAt cX9_valueAt 3 (some .int)] ++ wsX90)
def wsX9_total_r1 : List Cond := [Cond.fieldLink RX9 71 "ExampleDrawersModel" "rows" "I", Cond.fieldLink RX9 19 "ExampleDrawersModel" "firsts" "[I", Cond.fieldLink RX9 22 "ExampleDrawersModel" "seconds" "[I", Cond.methodLink RX9 32 yX9_in, Cond.static yX9_in, Cond.initialized RX9, Cond.code yX9_in cX9_in 3 (some .boolean), Cond.methodLink RX9 82 yX9_isAsked, Cond.instanceMethod yX9_isAsked, Cond.selects RX9 yX9_isAsked yX9_isAsked, Cond.code yX9_isAsked cX9_isAsked 2 (some .boolean), Cond.fieldLink RX9 7 "ExampleDrawersModel" "s" "[I", Cond.methodLink RX9 55 yX9_isColumn, Cond.instanceMethod yX9_isColumn, Cond.selects RX9 yX9_isColumn yX9_isColumn, Cond.code yX9_isColumn cX9_isColumn 3 (some .boolean), Cond.methodLink RX9 68 yX9_finds, Cond.instanceMethod yX9_finds, Cond.selects RX9 yX9_finds yX9_finds, Cond.code yX9_finds cX9_finds 4 none, Cond.methodLink RX9 97 yX9_unfit, Cond.instanceMethod yX9_unfit, Cond.selects RX9 yX9_unfit yX9_unfit, Cond.code yX9_unfit cX9_unfit 4 (some .int)]
def wsX9_total_r2 : List Cond := [Cond.methodLink RX9 91 yX9_fitsCell, Cond.instanceMethod yX9_fitsCell, Cond.selects RX9 yX9_fitsCell yX9_fitsCell, Cond.code yX9_fitsCell cX9_fitsCell 10 (some .boolean), Cond.methodLink RX9 61 yX9_cellAt, Cond.instanceMethod yX9_cellAt, Cond.selects RX9 yX9_cellAt yX9_cellAt, Cond.code yX9_cellAt cX9_cellAt 4 (some .int), Cond.methodLink RX9 85 yX9_at, Cond.instanceMethod yX9_at, Cond.selects RX9 yX9_at yX9_at, Cond.code yX9_at cX9_at 4 (some .int), Cond.methodLink RX9 47 yX9_valueAt, Cond.static yX9_valueAt, Cond.code yX9_valueAt cX9_valueAt 3 (some .int), Cond.methodLink RX9 78 yX9_fitsOne, Cond.static yX9_fitsOne, Cond.code yX9_fitsOne cX9_fitsOne 4 (some .boolean), Cond.methodLink RX9 88 yX9_teller, Cond.instanceMethod yX9_teller, Cond.selects RX9 yX9_teller yX9_teller, Cond.code yX9_teller cX9_teller 3 (some .int), Cond.methodLink RX9 101 yX9_lays, Cond.instanceMethod yX9_lays]
def wsX9_total_r3 : List Cond := [Cond.selects RX9 yX9_lays yX9_lays, Cond.code yX9_lays cX9_lays 4 none, Cond.methodLink RX9 94 yX9_isBehind, Cond.instanceMethod yX9_isBehind, Cond.selects RX9 yX9_isBehind yX9_isBehind, Cond.code yX9_isBehind cX9_isBehind 8 (some .boolean), Cond.methodLink RX9 108 yX9_isFirstOf, Cond.instanceMethod yX9_isFirstOf, Cond.selects RX9 yX9_isFirstOf yX9_isFirstOf, Cond.code yX9_isFirstOf cX9_isFirstOf 5 (some .boolean)]
def wsX9_total : List Cond := .code yX9_total cX9_total 10 (some .int) :: ((wsX9_total_r1 ++ (wsX9_total_r2 ++ wsX9_total_r3)) ++ wsX90)
def wsX9_cards_r1 : List Cond := [Cond.fieldLink RX9 7 "ExampleDrawersModel" "s" "[I", Cond.fieldLink RX9 71 "ExampleDrawersModel" "rows" "I", Cond.fieldLink RX9 19 "ExampleDrawersModel" "firsts" "[I", Cond.fieldLink RX9 22 "ExampleDrawersModel" "seconds" "[I", Cond.methodLink RX9 36 yX9_isDrawer, Cond.static yX9_isDrawer, Cond.initialized RX9, Cond.code yX9_isDrawer cX9_isDrawer 1 (some .boolean), Cond.methodLink RX9 32 yX9_in, Cond.static yX9_in, Cond.code yX9_in cX9_in 3 (some .boolean), Cond.methodLink RX9 68 yX9_finds, Cond.instanceMethod yX9_finds, Cond.selects RX9 yX9_finds yX9_finds, Cond.code yX9_finds cX9_finds 4 none, Cond.methodLink RX9 97 yX9_unfit, Cond.instanceMethod yX9_unfit, Cond.selects RX9 yX9_unfit yX9_unfit, Cond.code yX9_unfit cX9_unfit 4 (some .int), Cond.methodLink RX9 82 yX9_isAsked, Cond.instanceMethod yX9_isAsked, Cond.selects RX9 yX9_isAsked yX9_isAsked, Cond.code yX9_isAsked cX9_isAsked 2 (some .boolean), Cond.methodLink RX9 55 yX9_isColumn]
def wsX9_cards_r2 : List Cond := [Cond.instanceMethod yX9_isColumn, Cond.selects RX9 yX9_isColumn yX9_isColumn, Cond.code yX9_isColumn cX9_isColumn 3 (some .boolean), Cond.methodLink RX9 91 yX9_fitsCell, Cond.instanceMethod yX9_fitsCell, Cond.selects RX9 yX9_fitsCell yX9_fitsCell, Cond.code yX9_fitsCell cX9_fitsCell 10 (some .boolean), Cond.methodLink RX9 61 yX9_cellAt, Cond.instanceMethod yX9_cellAt, Cond.selects RX9 yX9_cellAt yX9_cellAt, Cond.code yX9_cellAt cX9_cellAt 4 (some .int), Cond.methodLink RX9 85 yX9_at, Cond.instanceMethod yX9_at, Cond.selects RX9 yX9_at yX9_at, Cond.code yX9_at cX9_at 4 (some .int), Cond.methodLink RX9 47 yX9_valueAt, Cond.static yX9_valueAt, Cond.code yX9_valueAt cX9_valueAt 3 (some .int), Cond.methodLink RX9 78 yX9_fitsOne, Cond.static yX9_fitsOne, Cond.code yX9_fitsOne cX9_fitsOne 4 (some .boolean), Cond.methodLink RX9 88 yX9_teller, Cond.instanceMethod yX9_teller, Cond.selects RX9 yX9_teller yX9_teller]
def wsX9_cards_r3 : List Cond := [Cond.code yX9_teller cX9_teller 3 (some .int), Cond.methodLink RX9 101 yX9_lays, Cond.instanceMethod yX9_lays, Cond.selects RX9 yX9_lays yX9_lays, Cond.code yX9_lays cX9_lays 4 none, Cond.methodLink RX9 94 yX9_isBehind, Cond.instanceMethod yX9_isBehind, Cond.selects RX9 yX9_isBehind yX9_isBehind, Cond.code yX9_isBehind cX9_isBehind 8 (some .boolean)]
def wsX9_cards : List Cond := .code yX9_cards cX9_cards 4 (some .int) :: ((wsX9_cards_r1 ++ (wsX9_cards_r2 ++ wsX9_cards_r3)) ++ wsX90)
def wsX9_why_r1 : List Cond := [Cond.fieldLink RX9 7 "ExampleDrawersModel" "s" "[I", Cond.methodLink RX9 51 yX9_isCard, Cond.instanceMethod yX9_isCard, Cond.selects RX9 yX9_isCard yX9_isCard, Cond.initialized RX9, Cond.code yX9_isCard cX9_isCard 3 (some .boolean), Cond.methodLink RX9 97 yX9_unfit, Cond.instanceMethod yX9_unfit, Cond.selects RX9 yX9_unfit yX9_unfit, Cond.code yX9_unfit cX9_unfit 4 (some .int), Cond.methodLink RX9 82 yX9_isAsked, Cond.instanceMethod yX9_isAsked, Cond.selects RX9 yX9_isAsked yX9_isAsked, Cond.code yX9_isAsked cX9_isAsked 2 (some .boolean), Cond.methodLink RX9 55 yX9_isColumn, Cond.instanceMethod yX9_isColumn, Cond.selects RX9 yX9_isColumn yX9_isColumn, Cond.code yX9_isColumn cX9_isColumn 3 (some .boolean), Cond.methodLink RX9 91 yX9_fitsCell, Cond.instanceMethod yX9_fitsCell, Cond.selects RX9 yX9_fitsCell yX9_fitsCell, Cond.code yX9_fitsCell cX9_fitsCell 10 (some .boolean), Cond.methodLink RX9 61 yX9_cellAt, Cond.instanceMethod yX9_cellAt]
def wsX9_why_r2 : List Cond := [Cond.selects RX9 yX9_cellAt yX9_cellAt, Cond.code yX9_cellAt cX9_cellAt 4 (some .int), Cond.methodLink RX9 85 yX9_at, Cond.instanceMethod yX9_at, Cond.selects RX9 yX9_at yX9_at, Cond.code yX9_at cX9_at 4 (some .int), Cond.methodLink RX9 47 yX9_valueAt, Cond.static yX9_valueAt, Cond.code yX9_valueAt cX9_valueAt 3 (some .int), Cond.methodLink RX9 78 yX9_fitsOne, Cond.static yX9_fitsOne, Cond.code yX9_fitsOne cX9_fitsOne 4 (some .boolean), Cond.methodLink RX9 32 yX9_in, Cond.static yX9_in, Cond.code yX9_in cX9_in 3 (some .boolean), Cond.methodLink RX9 88 yX9_teller, Cond.instanceMethod yX9_teller, Cond.selects RX9 yX9_teller yX9_teller, Cond.code yX9_teller cX9_teller 3 (some .int)]
def wsX9_why : List Cond := .code yX9_why cX9_why 3 (some .int) :: ((wsX9_why_r1 ++ wsX9_why_r2) ++ wsX90)
def wsX9_tightest_r1 : List Cond := [Cond.fieldLink RX9 7 "ExampleDrawersModel" "s" "[I", Cond.methodLink RX9 32 yX9_in, Cond.static yX9_in, Cond.initialized RX9, Cond.code yX9_in cX9_in 3 (some .boolean), Cond.methodLink RX9 111 yX9_many, Cond.instanceMethod yX9_many, Cond.selects RX9 yX9_many yX9_many, Cond.code yX9_many cX9_many 1 (some .int), Cond.fieldLink RX9 71 "ExampleDrawersModel" "rows" "I", Cond.methodLink RX9 68 yX9_finds, Cond.instanceMethod yX9_finds, Cond.selects RX9 yX9_finds yX9_finds, Cond.code yX9_finds cX9_finds 4 none, Cond.methodLink RX9 97 yX9_unfit, Cond.instanceMethod yX9_unfit, Cond.selects RX9 yX9_unfit yX9_unfit, Cond.code yX9_unfit cX9_unfit 4 (some .int), Cond.methodLink RX9 82 yX9_isAsked, Cond.instanceMethod yX9_isAsked, Cond.selects RX9 yX9_isAsked yX9_isAsked, Cond.code yX9_isAsked cX9_isAsked 2 (some .boolean), Cond.methodLink RX9 55 yX9_isColumn, Cond.instanceMethod yX9_isColumn]
def wsX9_tightest_r2 : List Cond := [Cond.selects RX9 yX9_isColumn yX9_isColumn, Cond.code yX9_isColumn cX9_isColumn 3 (some .boolean), Cond.methodLink RX9 91 yX9_fitsCell, Cond.instanceMethod yX9_fitsCell, Cond.selects RX9 yX9_fitsCell yX9_fitsCell, Cond.code yX9_fitsCell cX9_fitsCell 10 (some .boolean), Cond.methodLink RX9 61 yX9_cellAt, Cond.instanceMethod yX9_cellAt, Cond.selects RX9 yX9_cellAt yX9_cellAt, Cond.code yX9_cellAt cX9_cellAt 4 (some .int), Cond.methodLink RX9 85 yX9_at, Cond.instanceMethod yX9_at, Cond.selects RX9 yX9_at yX9_at, Cond.code yX9_at cX9_at 4 (some .int), Cond.methodLink RX9 47 yX9_valueAt, Cond.static yX9_valueAt, Cond.code yX9_valueAt cX9_valueAt 3 (some .int), Cond.methodLink RX9 78 yX9_fitsOne, Cond.static yX9_fitsOne, Cond.code yX9_fitsOne cX9_fitsOne 4 (some .boolean), Cond.methodLink RX9 88 yX9_teller, Cond.instanceMethod yX9_teller, Cond.selects RX9 yX9_teller yX9_teller, Cond.code yX9_teller cX9_teller 3 (some .int)]
def wsX9_tightest_r3 : List Cond := [Cond.methodLink RX9 101 yX9_lays, Cond.instanceMethod yX9_lays, Cond.selects RX9 yX9_lays yX9_lays, Cond.code yX9_lays cX9_lays 4 none, Cond.fieldLink RX9 19 "ExampleDrawersModel" "firsts" "[I", Cond.fieldLink RX9 22 "ExampleDrawersModel" "seconds" "[I", Cond.methodLink RX9 94 yX9_isBehind, Cond.instanceMethod yX9_isBehind, Cond.selects RX9 yX9_isBehind yX9_isBehind, Cond.code yX9_isBehind cX9_isBehind 8 (some .boolean)]
def wsX9_tightest : List Cond := .code yX9_tightest cX9_tightest 8 (some .int) :: ((wsX9_tightest_r1 ++ (wsX9_tightest_r2 ++ wsX9_tightest_r3)) ++ wsX90)
def wsX9_count : List Cond := .code yX9_count cX9_count 2 (some .int) :: ([.fieldLink RX9 7 "ExampleDrawersModel" "s" "[I", .fieldLink RX9 28 "ExampleDrawersModel" "pasts" "I", .fieldLink RX9 114 "ExampleDrawersModel" "typed" "I", .methodLink RX9 64 yX9_others, .instanceMethod yX9_others, .selects RX9 yX9_others yX9_others, .initialized RX9, .code yX9_others cX9_others 4 (some .int), .methodLink RX9 61 yX9_cellAt, .instanceMethod yX9_cellAt, .selects RX9 yX9_cellAt yX9_cellAt, .code yX9_cellAt cX9_cellAt 4 (some .int)] ++ wsX90)
def wsX9_undo : List Cond := .code yX9_undo cX9_undo 2 (some .int) :: ([.fieldLink RX9 28 "ExampleDrawersModel" "pasts" "I", .fieldLink RX9 7 "ExampleDrawersModel" "s" "[I", .fieldLink RX9 13 "ExampleDrawersModel" "past" "[I"] ++ wsX90)
def wsX9_type : List Cond := .code yX9_type cX9_type 2 (some .int) :: ([.fieldLink RX9 114 "ExampleDrawersModel" "typed" "I", .fieldLink RX9 16 "ExampleDrawersModel" "text" "[I", .methodLink RX9 32 yX9_in, .static yX9_in, .initialized RX9, .code yX9_in cX9_in 3 (some .boolean)] ++ wsX90)
def wsX9_clearText : List Cond := .code yX9_clearText cX9_clearText 2 (some .int) :: ([.fieldLink RX9 114 "ExampleDrawersModel" "typed" "I"] ++ wsX90)
def wsX9_isAt : List Cond := .code yX9_isAt cX9_isAt 3 (some .boolean) :: ([.fieldLink RX9 117 "ExampleDrawersModel" "spot" "I", .fieldLink RX9 114 "ExampleDrawersModel" "typed" "I", .fieldLink RX9 16 "ExampleDrawersModel" "text" "[I", .methodLink RX9 32 yX9_in, .static yX9_in, .initialized RX9, .code yX9_in cX9_in 3 (some .boolean)] ++ wsX90)
def wsX9_passes : List Cond := .code yX9_passes cX9_passes 4 (some .boolean) :: ([.fieldLink RX9 117 "ExampleDrawersModel" "spot" "I", .methodLink RX9 120 yX9_isAt, .instanceMethod yX9_isAt, .selects RX9 yX9_isAt yX9_isAt, .initialized RX9, .code yX9_isAt cX9_isAt 3 (some .boolean), .fieldLink RX9 114 "ExampleDrawersModel" "typed" "I", .fieldLink RX9 16 "ExampleDrawersModel" "text" "[I", .methodLink RX9 32 yX9_in, .static yX9_in, .code yX9_in cX9_in 3 (some .boolean)] ++ wsX90)
def wsX9_numbered : List Cond := .code yX9_numbered cX9_numbered 2 (some .boolean) :: ([.fieldLink RX9 117 "ExampleDrawersModel" "spot" "I", .fieldLink RX9 123 "ExampleDrawersModel" "number" "I", .fieldLink RX9 16 "ExampleDrawersModel" "text" "[I", .methodLink RX9 120 yX9_isAt, .instanceMethod yX9_isAt, .selects RX9 yX9_isAt yX9_isAt, .initialized RX9, .code yX9_isAt cX9_isAt 3 (some .boolean), .fieldLink RX9 114 "ExampleDrawersModel" "typed" "I", .methodLink RX9 32 yX9_in, .static yX9_in, .code yX9_in cX9_in 3 (some .boolean)] ++ wsX90)
def wsX9_tells : List Cond := .code yX9_tells cX9_tells 4 (some .boolean) :: ([.fieldLink RX9 25 "ExampleDrawersModel" "told" "[I", .fieldLink RX9 126 "ExampleDrawersModel" "cells" "I"] ++ wsX90)
def wsX9_fails : List Cond := .code yX9_fails cX9_fails 2 (some .boolean) :: ([.fieldLink RX9 129 "ExampleDrawersModel" "reason" "I"] ++ wsX90)
def wsX9_compares_r1 : List Cond := [Cond.fieldLink RX9 16 "ExampleDrawersModel" "text" "[I", Cond.fieldLink RX9 117 "ExampleDrawersModel" "spot" "I", Cond.fieldLink RX9 123 "ExampleDrawersModel" "number" "I", Cond.methodLink RX9 132 yX9_passes, Cond.instanceMethod yX9_passes, Cond.selects RX9 yX9_passes yX9_passes, Cond.initialized RX9, Cond.code yX9_passes cX9_passes 4 (some .boolean), Cond.methodLink RX9 120 yX9_isAt, Cond.instanceMethod yX9_isAt, Cond.selects RX9 yX9_isAt yX9_isAt, Cond.code yX9_isAt cX9_isAt 3 (some .boolean), Cond.fieldLink RX9 114 "ExampleDrawersModel" "typed" "I", Cond.methodLink RX9 32 yX9_in, Cond.static yX9_in, Cond.code yX9_in cX9_in 3 (some .boolean), Cond.methodLink RX9 135 yX9_tells, Cond.instanceMethod yX9_tells, Cond.selects RX9 yX9_tells yX9_tells, Cond.code yX9_tells cX9_tells 4 (some .boolean), Cond.fieldLink RX9 25 "ExampleDrawersModel" "told" "[I", Cond.fieldLink RX9 126 "ExampleDrawersModel" "cells" "I", Cond.methodLink RX9 138 yX9_numbered, Cond.instanceMethod yX9_numbered]
def wsX9_compares_r2 : List Cond := [Cond.selects RX9 yX9_numbered yX9_numbered, Cond.code yX9_numbered cX9_numbered 2 (some .boolean), Cond.methodLink RX9 142 yX9_fails, Cond.instanceMethod yX9_fails, Cond.selects RX9 yX9_fails yX9_fails, Cond.code yX9_fails cX9_fails 2 (some .boolean), Cond.fieldLink RX9 129 "ExampleDrawersModel" "reason" "I"]
def wsX9_compares : List Cond := .code yX9_compares cX9_compares 3 (some .boolean) :: ((wsX9_compares_r1 ++ wsX9_compares_r2) ++ wsX90)
def wsX9_ranges_r1 : List Cond := [Cond.fieldLink RX9 123 "ExampleDrawersModel" "number" "I", Cond.fieldLink RX9 117 "ExampleDrawersModel" "spot" "I", Cond.methodLink RX9 132 yX9_passes, Cond.instanceMethod yX9_passes, Cond.selects RX9 yX9_passes yX9_passes, Cond.initialized RX9, Cond.code yX9_passes cX9_passes 4 (some .boolean), Cond.methodLink RX9 120 yX9_isAt, Cond.instanceMethod yX9_isAt, Cond.selects RX9 yX9_isAt yX9_isAt, Cond.code yX9_isAt cX9_isAt 3 (some .boolean), Cond.fieldLink RX9 114 "ExampleDrawersModel" "typed" "I", Cond.fieldLink RX9 16 "ExampleDrawersModel" "text" "[I", Cond.methodLink RX9 32 yX9_in, Cond.static yX9_in, Cond.code yX9_in cX9_in 3 (some .boolean), Cond.methodLink RX9 135 yX9_tells, Cond.instanceMethod yX9_tells, Cond.selects RX9 yX9_tells yX9_tells, Cond.code yX9_tells cX9_tells 4 (some .boolean), Cond.fieldLink RX9 25 "ExampleDrawersModel" "told" "[I", Cond.fieldLink RX9 126 "ExampleDrawersModel" "cells" "I", Cond.methodLink RX9 138 yX9_numbered, Cond.instanceMethod yX9_numbered]
def wsX9_ranges_r2 : List Cond := [Cond.selects RX9 yX9_numbered yX9_numbered, Cond.code yX9_numbered cX9_numbered 2 (some .boolean), Cond.methodLink RX9 142 yX9_fails, Cond.instanceMethod yX9_fails, Cond.selects RX9 yX9_fails yX9_fails, Cond.code yX9_fails cX9_fails 2 (some .boolean), Cond.fieldLink RX9 129 "ExampleDrawersModel" "reason" "I"]
def wsX9_ranges : List Cond := .code yX9_ranges cX9_ranges 3 (some .boolean) :: ((wsX9_ranges_r1 ++ wsX9_ranges_r2) ++ wsX90)
def wsX9_readsCell_r1 : List Cond := [Cond.fieldLink RX9 117 "ExampleDrawersModel" "spot" "I", Cond.fieldLink RX9 123 "ExampleDrawersModel" "number" "I", Cond.fieldLink RX9 16 "ExampleDrawersModel" "text" "[I", Cond.methodLink RX9 132 yX9_passes, Cond.instanceMethod yX9_passes, Cond.selects RX9 yX9_passes yX9_passes, Cond.initialized RX9, Cond.code yX9_passes cX9_passes 4 (some .boolean), Cond.methodLink RX9 120 yX9_isAt, Cond.instanceMethod yX9_isAt, Cond.selects RX9 yX9_isAt yX9_isAt, Cond.code yX9_isAt cX9_isAt 3 (some .boolean), Cond.fieldLink RX9 114 "ExampleDrawersModel" "typed" "I", Cond.methodLink RX9 32 yX9_in, Cond.static yX9_in, Cond.code yX9_in cX9_in 3 (some .boolean), Cond.methodLink RX9 135 yX9_tells, Cond.instanceMethod yX9_tells, Cond.selects RX9 yX9_tells yX9_tells, Cond.code yX9_tells cX9_tells 4 (some .boolean), Cond.fieldLink RX9 25 "ExampleDrawersModel" "told" "[I", Cond.fieldLink RX9 126 "ExampleDrawersModel" "cells" "I", Cond.methodLink RX9 138 yX9_numbered, Cond.instanceMethod yX9_numbered]
def wsX9_readsCell_r2 : List Cond := [Cond.selects RX9 yX9_numbered yX9_numbered, Cond.code yX9_numbered cX9_numbered 2 (some .boolean), Cond.methodLink RX9 142 yX9_fails, Cond.instanceMethod yX9_fails, Cond.selects RX9 yX9_fails yX9_fails, Cond.code yX9_fails cX9_fails 2 (some .boolean), Cond.fieldLink RX9 129 "ExampleDrawersModel" "reason" "I", Cond.methodLink RX9 145 yX9_compares, Cond.instanceMethod yX9_compares, Cond.selects RX9 yX9_compares yX9_compares, Cond.code yX9_compares cX9_compares 3 (some .boolean), Cond.methodLink RX9 148 yX9_ranges, Cond.instanceMethod yX9_ranges, Cond.selects RX9 yX9_ranges yX9_ranges, Cond.code yX9_ranges cX9_ranges 3 (some .boolean)]
def wsX9_readsCell : List Cond := .code yX9_readsCell cX9_readsCell 2 (some .boolean) :: ((wsX9_readsCell_r1 ++ wsX9_readsCell_r2) ++ wsX90)
def wsX9_isRight_r1 : List Cond := [Cond.fieldLink RX9 117 "ExampleDrawersModel" "spot" "I", Cond.fieldLink RX9 126 "ExampleDrawersModel" "cells" "I", Cond.fieldLink RX9 114 "ExampleDrawersModel" "typed" "I", Cond.methodLink RX9 151 yX9_readsCell, Cond.instanceMethod yX9_readsCell, Cond.selects RX9 yX9_readsCell yX9_readsCell, Cond.initialized RX9, Cond.code yX9_readsCell cX9_readsCell 2 (some .boolean), Cond.fieldLink RX9 123 "ExampleDrawersModel" "number" "I", Cond.fieldLink RX9 16 "ExampleDrawersModel" "text" "[I", Cond.methodLink RX9 132 yX9_passes, Cond.instanceMethod yX9_passes, Cond.selects RX9 yX9_passes yX9_passes, Cond.code yX9_passes cX9_passes 4 (some .boolean), Cond.methodLink RX9 120 yX9_isAt, Cond.instanceMethod yX9_isAt, Cond.selects RX9 yX9_isAt yX9_isAt, Cond.code yX9_isAt cX9_isAt 3 (some .boolean), Cond.methodLink RX9 32 yX9_in, Cond.static yX9_in, Cond.code yX9_in cX9_in 3 (some .boolean), Cond.methodLink RX9 135 yX9_tells, Cond.instanceMethod yX9_tells, Cond.selects RX9 yX9_tells yX9_tells]
def wsX9_isRight_r2 : List Cond := [Cond.code yX9_tells cX9_tells 4 (some .boolean), Cond.fieldLink RX9 25 "ExampleDrawersModel" "told" "[I", Cond.methodLink RX9 138 yX9_numbered, Cond.instanceMethod yX9_numbered, Cond.selects RX9 yX9_numbered yX9_numbered, Cond.code yX9_numbered cX9_numbered 2 (some .boolean), Cond.methodLink RX9 142 yX9_fails, Cond.instanceMethod yX9_fails, Cond.selects RX9 yX9_fails yX9_fails, Cond.code yX9_fails cX9_fails 2 (some .boolean), Cond.fieldLink RX9 129 "ExampleDrawersModel" "reason" "I", Cond.methodLink RX9 145 yX9_compares, Cond.instanceMethod yX9_compares, Cond.selects RX9 yX9_compares yX9_compares, Cond.code yX9_compares cX9_compares 3 (some .boolean), Cond.methodLink RX9 148 yX9_ranges, Cond.instanceMethod yX9_ranges, Cond.selects RX9 yX9_ranges yX9_ranges, Cond.code yX9_ranges cX9_ranges 3 (some .boolean)]
def wsX9_isRight : List Cond := .code yX9_isRight cX9_isRight 2 (some .boolean) :: ((wsX9_isRight_r1 ++ wsX9_isRight_r2) ++ wsX90)
def wsX9_fault_r1 : List Cond := [Cond.fieldLink RX9 117 "ExampleDrawersModel" "spot" "I", Cond.fieldLink RX9 129 "ExampleDrawersModel" "reason" "I", Cond.methodLink RX9 32 yX9_in, Cond.static yX9_in, Cond.initialized RX9, Cond.code yX9_in cX9_in 3 (some .boolean), Cond.methodLink RX9 154 yX9_isRight, Cond.instanceMethod yX9_isRight, Cond.selects RX9 yX9_isRight yX9_isRight, Cond.code yX9_isRight cX9_isRight 2 (some .boolean), Cond.fieldLink RX9 126 "ExampleDrawersModel" "cells" "I", Cond.fieldLink RX9 114 "ExampleDrawersModel" "typed" "I", Cond.methodLink RX9 151 yX9_readsCell, Cond.instanceMethod yX9_readsCell, Cond.selects RX9 yX9_readsCell yX9_readsCell, Cond.code yX9_readsCell cX9_readsCell 2 (some .boolean), Cond.fieldLink RX9 123 "ExampleDrawersModel" "number" "I", Cond.fieldLink RX9 16 "ExampleDrawersModel" "text" "[I", Cond.methodLink RX9 132 yX9_passes, Cond.instanceMethod yX9_passes, Cond.selects RX9 yX9_passes yX9_passes, Cond.code yX9_passes cX9_passes 4 (some .boolean), Cond.methodLink RX9 120 yX9_isAt, Cond.instanceMethod yX9_isAt]
def wsX9_fault_r2 : List Cond := [Cond.selects RX9 yX9_isAt yX9_isAt, Cond.code yX9_isAt cX9_isAt 3 (some .boolean), Cond.methodLink RX9 135 yX9_tells, Cond.instanceMethod yX9_tells, Cond.selects RX9 yX9_tells yX9_tells, Cond.code yX9_tells cX9_tells 4 (some .boolean), Cond.fieldLink RX9 25 "ExampleDrawersModel" "told" "[I", Cond.methodLink RX9 138 yX9_numbered, Cond.instanceMethod yX9_numbered, Cond.selects RX9 yX9_numbered yX9_numbered, Cond.code yX9_numbered cX9_numbered 2 (some .boolean), Cond.methodLink RX9 142 yX9_fails, Cond.instanceMethod yX9_fails, Cond.selects RX9 yX9_fails yX9_fails, Cond.code yX9_fails cX9_fails 2 (some .boolean), Cond.methodLink RX9 145 yX9_compares, Cond.instanceMethod yX9_compares, Cond.selects RX9 yX9_compares yX9_compares, Cond.code yX9_compares cX9_compares 3 (some .boolean), Cond.methodLink RX9 148 yX9_ranges, Cond.instanceMethod yX9_ranges, Cond.selects RX9 yX9_ranges yX9_ranges, Cond.code yX9_ranges cX9_ranges 3 (some .boolean)]
def wsX9_fault : List Cond := .code yX9_fault cX9_fault 2 (some .int) :: ((wsX9_fault_r1 ++ wsX9_fault_r2) ++ wsX90)
def wsX9_read_r1 : List Cond := [Cond.fieldLink RX9 126 "ExampleDrawersModel" "cells" "I", Cond.fieldLink RX9 7 "ExampleDrawersModel" "s" "[I", Cond.fieldLink RX9 25 "ExampleDrawersModel" "told" "[I", Cond.fieldLink RX9 71 "ExampleDrawersModel" "rows" "I", Cond.methodLink RX9 36 yX9_isDrawer, Cond.static yX9_isDrawer, Cond.initialized RX9, Cond.code yX9_isDrawer cX9_isDrawer 1 (some .boolean), Cond.methodLink RX9 32 yX9_in, Cond.static yX9_in, Cond.code yX9_in cX9_in 3 (some .boolean), Cond.methodLink RX9 154 yX9_isRight, Cond.instanceMethod yX9_isRight, Cond.selects RX9 yX9_isRight yX9_isRight, Cond.code yX9_isRight cX9_isRight 2 (some .boolean), Cond.fieldLink RX9 117 "ExampleDrawersModel" "spot" "I", Cond.fieldLink RX9 114 "ExampleDrawersModel" "typed" "I", Cond.methodLink RX9 151 yX9_readsCell, Cond.instanceMethod yX9_readsCell, Cond.selects RX9 yX9_readsCell yX9_readsCell, Cond.code yX9_readsCell cX9_readsCell 2 (some .boolean), Cond.fieldLink RX9 123 "ExampleDrawersModel" "number" "I", Cond.fieldLink RX9 16 "ExampleDrawersModel" "text" "[I", Cond.methodLink RX9 132 yX9_passes]
def wsX9_read_r2 : List Cond := [Cond.instanceMethod yX9_passes, Cond.selects RX9 yX9_passes yX9_passes, Cond.code yX9_passes cX9_passes 4 (some .boolean), Cond.methodLink RX9 120 yX9_isAt, Cond.instanceMethod yX9_isAt, Cond.selects RX9 yX9_isAt yX9_isAt, Cond.code yX9_isAt cX9_isAt 3 (some .boolean), Cond.methodLink RX9 135 yX9_tells, Cond.instanceMethod yX9_tells, Cond.selects RX9 yX9_tells yX9_tells, Cond.code yX9_tells cX9_tells 4 (some .boolean), Cond.methodLink RX9 138 yX9_numbered, Cond.instanceMethod yX9_numbered, Cond.selects RX9 yX9_numbered yX9_numbered, Cond.code yX9_numbered cX9_numbered 2 (some .boolean), Cond.methodLink RX9 142 yX9_fails, Cond.instanceMethod yX9_fails, Cond.selects RX9 yX9_fails yX9_fails, Cond.code yX9_fails cX9_fails 2 (some .boolean), Cond.fieldLink RX9 129 "ExampleDrawersModel" "reason" "I", Cond.methodLink RX9 145 yX9_compares, Cond.instanceMethod yX9_compares, Cond.selects RX9 yX9_compares yX9_compares, Cond.code yX9_compares cX9_compares 3 (some .boolean)]
def wsX9_read_r3 : List Cond := [Cond.methodLink RX9 148 yX9_ranges, Cond.instanceMethod yX9_ranges, Cond.selects RX9 yX9_ranges yX9_ranges, Cond.code yX9_ranges cX9_ranges 3 (some .boolean), Cond.methodLink RX9 40 yX9_changes, Cond.instanceMethod yX9_changes, Cond.selects RX9 yX9_changes yX9_changes, Cond.code yX9_changes cX9_changes 2 none, Cond.fieldLink RX9 28 "ExampleDrawersModel" "pasts" "I", Cond.fieldLink RX9 13 "ExampleDrawersModel" "past" "[I", Cond.methodLink RX9 43 yX9_setsCell, Cond.instanceMethod yX9_setsCell, Cond.selects RX9 yX9_setsCell yX9_setsCell, Cond.code yX9_setsCell cX9_setsCell 6 none, Cond.methodLink RX9 68 yX9_finds, Cond.instanceMethod yX9_finds, Cond.selects RX9 yX9_finds yX9_finds, Cond.code yX9_finds cX9_finds 4 none, Cond.methodLink RX9 97 yX9_unfit, Cond.instanceMethod yX9_unfit, Cond.selects RX9 yX9_unfit yX9_unfit, Cond.code yX9_unfit cX9_unfit 4 (some .int), Cond.methodLink RX9 82 yX9_isAsked, Cond.instanceMethod yX9_isAsked]
def wsX9_read_r4 : List Cond := [Cond.selects RX9 yX9_isAsked yX9_isAsked, Cond.code yX9_isAsked cX9_isAsked 2 (some .boolean), Cond.methodLink RX9 55 yX9_isColumn, Cond.instanceMethod yX9_isColumn, Cond.selects RX9 yX9_isColumn yX9_isColumn, Cond.code yX9_isColumn cX9_isColumn 3 (some .boolean), Cond.methodLink RX9 91 yX9_fitsCell, Cond.instanceMethod yX9_fitsCell, Cond.selects RX9 yX9_fitsCell yX9_fitsCell, Cond.code yX9_fitsCell cX9_fitsCell 10 (some .boolean), Cond.methodLink RX9 61 yX9_cellAt, Cond.instanceMethod yX9_cellAt, Cond.selects RX9 yX9_cellAt yX9_cellAt, Cond.code yX9_cellAt cX9_cellAt 4 (some .int), Cond.methodLink RX9 85 yX9_at, Cond.instanceMethod yX9_at, Cond.selects RX9 yX9_at yX9_at, Cond.code yX9_at cX9_at 4 (some .int), Cond.methodLink RX9 47 yX9_valueAt, Cond.static yX9_valueAt, Cond.code yX9_valueAt cX9_valueAt 3 (some .int), Cond.methodLink RX9 78 yX9_fitsOne, Cond.static yX9_fitsOne, Cond.code yX9_fitsOne cX9_fitsOne 4 (some .boolean)]
def wsX9_read_r5 : List Cond := [Cond.methodLink RX9 88 yX9_teller, Cond.instanceMethod yX9_teller, Cond.selects RX9 yX9_teller yX9_teller, Cond.code yX9_teller cX9_teller 3 (some .int), Cond.methodLink RX9 101 yX9_lays, Cond.instanceMethod yX9_lays, Cond.selects RX9 yX9_lays yX9_lays, Cond.code yX9_lays cX9_lays 4 none, Cond.fieldLink RX9 19 "ExampleDrawersModel" "firsts" "[I", Cond.fieldLink RX9 22 "ExampleDrawersModel" "seconds" "[I", Cond.methodLink RX9 94 yX9_isBehind, Cond.instanceMethod yX9_isBehind, Cond.selects RX9 yX9_isBehind yX9_isBehind, Cond.code yX9_isBehind cX9_isBehind 8 (some .boolean)]
def wsX9_read : List Cond := .code yX9_read cX9_read 4 (some .int) :: ((wsX9_read_r1 ++ (wsX9_read_r2 ++ (wsX9_read_r3 ++ (wsX9_read_r4 ++ wsX9_read_r5)))) ++ wsX90)
def wsJ9_max_7cf53 : List Cond := .code yJ9_max_7cf53 cJ9_max_7cf53 2 (some .int) :: ([])
def wsJ9_min_7cf53 : List Cond := .code yJ9_min_7cf53 cJ9_min_7cf53 2 (some .int) :: ([])
def wsL_law_r1 : List Cond := [Cond.classLink RL 7 RX8, Cond.instantiable RX8 5, Cond.initialized RX8, Cond.classLink RL 10 RX9, Cond.instantiable RX9 13, Cond.initialized RX9, Cond.methodLink RL 9 yX8_init, Cond.instanceMethod yX8_init, Cond.code yX8_init cX8_init 1 none, Cond.methodLink RX8 3 objectInit, Cond.instanceMethod objectInit, Cond.code objectInit ⟨#[0xb1]⟩ 1 none, Cond.classLink RX8 9 RX6, Cond.instantiable RX6 6, Cond.initialized RX6, Cond.fieldLink RX8 12 "ExampleDrawers" "now" "LExampleDrawers$State;", Cond.classLink RX8 16 RX2, Cond.instantiable RX2 5, Cond.initialized RX2, Cond.fieldLink RX8 19 "ExampleDrawers" "history" "LExampleDrawers$History;", Cond.classLink RX8 23 RX5, Cond.instantiable RX5 6, Cond.initialized RX5, Cond.fieldLink RX8 28 "ExampleDrawers" "rows" "LExampleDrawers$Rows;"]
def wsL_law_r2 : List Cond := [Cond.classLink RX8 32 RX7, Cond.instantiable RX7 2, Cond.initialized RX7, Cond.fieldLink RX8 35 "ExampleDrawers" "text" "LExampleDrawers$Text;", Cond.classLink RX8 39 RX4, Cond.instantiable RX4 6, Cond.initialized RX4, Cond.fieldLink RX8 44 "ExampleDrawers" "reading" "LExampleDrawers$Reading;", Cond.instanceMethod yX6_init, Cond.code yX6_init cX6_init 1 none, Cond.methodLink RX6 3 objectInit, Cond.classLink RX6 9 RX0, Cond.instantiable RX0 4, Cond.initialized RX0, Cond.fieldLink RX6 12 "ExampleDrawers$State" "drawer0" "LExampleDrawers$Drawer;", Cond.fieldLink RX6 18 "ExampleDrawers$State" "drawer1" "LExampleDrawers$Drawer;", Cond.classLink RX6 21 RX3, Cond.instantiable RX3 1, Cond.initialized RX3, Cond.fieldLink RX6 26 "ExampleDrawers$State" "orderColumns" "LExampleDrawers$Numbers;", Cond.fieldLink RX6 30 "ExampleDrawers$State" "orderDowns" "LExampleDrawers$Numbers;", Cond.fieldLink RX6 33 "ExampleDrawers$State" "asksBoth" "I", Cond.fieldLink RX6 37 "ExampleDrawers$State" "shown" "I", Cond.instanceMethod yX0_init]
def wsL_law_r3 : List Cond := [Cond.code yX0_init cX0_init 1 none, Cond.methodLink RX0 3 objectInit, Cond.classLink RX0 9 RX3, Cond.fieldLink RX0 14 "ExampleDrawers$Drawer" "entries" "LExampleDrawers$Numbers;", Cond.classLink RX0 20 RX1, Cond.instantiable RX1 3, Cond.initialized RX1, Cond.fieldLink RX0 23 "ExampleDrawers$Drawer" "example" "LExampleDrawers$Example;", Cond.fieldLink RX0 27 "ExampleDrawers$Drawer" "width" "I", Cond.fieldLink RX0 31 "ExampleDrawers$Drawer" "size" "I", Cond.methodLink RX0 11 yX3_init, Cond.instanceMethod yX3_init, Cond.code yX3_init cX3_init 3 none, Cond.methodLink RX3 1 objectInit, Cond.methodLink RX3 7 Lib.Math.max.name, Cond.static Lib.Math.max.name, Cond.initialized "java/lang/Math", Cond.code Lib.Math.max.name Lib.Math.max.code 2 (some .int), Cond.arrayClass .int, Cond.fieldLink RX3 13 "ExampleDrawers$Numbers" "held" "[I", Cond.methodLink RX3 19 yX3_fill, Cond.instanceMethod yX3_fill, Cond.selects RX3 yX3_fill yX3_fill, Cond.code yX3_fill cX3_fill 3 none]
def wsL_law_r4 : List Cond := [Cond.instanceMethod yX1_init, Cond.code yX1_init cX1_init 1 none, Cond.methodLink RX1 3 objectInit, Cond.classLink RX1 9 RX3, Cond.fieldLink RX1 14 "ExampleDrawers$Example" "kinds" "LExampleDrawers$Numbers;", Cond.fieldLink RX1 20 "ExampleDrawers$Example" "firsts" "LExampleDrawers$Numbers;", Cond.fieldLink RX1 23 "ExampleDrawers$Example" "seconds" "LExampleDrawers$Numbers;", Cond.methodLink RX1 11 yX3_init, Cond.methodLink RX6 23 yX3_init, Cond.instanceMethod yX2_init, Cond.code yX2_init cX2_init 1 none, Cond.methodLink RX2 3 objectInit, Cond.classLink RX2 9 RX6, Cond.fieldLink RX2 12 "ExampleDrawers$History" "latest" "LExampleDrawers$State;", Cond.fieldLink RX2 18 "ExampleDrawers$History" "second" "LExampleDrawers$State;", Cond.fieldLink RX2 21 "ExampleDrawers$History" "third" "LExampleDrawers$State;", Cond.fieldLink RX2 24 "ExampleDrawers$History" "oldest" "LExampleDrawers$State;", Cond.fieldLink RX2 27 "ExampleDrawers$History" "size" "I", Cond.methodLink RX8 25 yX5_init, Cond.instanceMethod yX5_init, Cond.code yX5_init cX5_init 2 none, Cond.methodLink RX5 3 objectInit, Cond.classLink RX5 9 RX3, Cond.fieldLink RX5 14 "ExampleDrawers$Rows" "found" "LExampleDrawers$Numbers;"]
def wsL_law_r5 : List Cond := [Cond.fieldLink RX5 20 "ExampleDrawers$Rows" "marks" "LExampleDrawers$Numbers;", Cond.fieldLink RX5 23 "ExampleDrawers$Rows" "tellers" "LExampleDrawers$Numbers;", Cond.fieldLink RX5 26 "ExampleDrawers$Rows" "size" "I", Cond.fieldLink RX5 30 "ExampleDrawers$Rows" "leftOut" "I", Cond.fieldLink RX5 33 "ExampleDrawers$Rows" "state" "LExampleDrawers$State;", Cond.methodLink RX5 11 yX3_init, Cond.instanceMethod yX7_init, Cond.code yX7_init cX7_init 1 none, Cond.methodLink RX7 3 objectInit, Cond.classLink RX7 9 RX3, Cond.fieldLink RX7 14 "ExampleDrawers$Text" "characters" "LExampleDrawers$Numbers;", Cond.fieldLink RX7 20 "ExampleDrawers$Text" "length" "I", Cond.methodLink RX7 11 yX3_init, Cond.methodLink RX8 41 yX4_init, Cond.instanceMethod yX4_init, Cond.code yX4_init cX4_init 2 none, Cond.methodLink RX4 3 objectInit, Cond.classLink RX4 9 RX1, Cond.fieldLink RX4 12 "ExampleDrawers$Reading" "example" "LExampleDrawers$Example;", Cond.fieldLink RX4 18 "ExampleDrawers$Reading" "cells" "I", Cond.fieldLink RX4 22 "ExampleDrawers$Reading" "place" "I", Cond.fieldLink RX4 25 "ExampleDrawers$Reading" "faultPlace" "I", Cond.fieldLink RX4 28 "ExampleDrawers$Reading" "faultReason" "I", Cond.fieldLink RX4 31 "ExampleDrawers$Reading" "text" "LExampleDrawers$Text;"]
def wsL_law_r6 : List Cond := [Cond.methodLink RL 12 yX9_init, Cond.instanceMethod yX9_init, Cond.code yX9_init cX9_init 1 none, Cond.methodLink RX9 1 objectInit, Cond.fieldLink RX9 7 "ExampleDrawersModel" "s" "[I", Cond.fieldLink RX9 13 "ExampleDrawersModel" "past" "[I", Cond.fieldLink RX9 16 "ExampleDrawersModel" "text" "[I", Cond.fieldLink RX9 19 "ExampleDrawersModel" "firsts" "[I", Cond.fieldLink RX9 22 "ExampleDrawersModel" "seconds" "[I", Cond.fieldLink RX9 25 "ExampleDrawersModel" "told" "[I", Cond.methodLink RL 13 yX8_columns, Cond.instanceMethod yX8_columns, Cond.selects RX8 yX8_columns yX8_columns, Cond.code yX8_columns cX8_columns 3 (some .int), Cond.methodLink RX8 48 yX8_isBit, Cond.static yX8_isBit, Cond.code yX8_isBit cX8_isBit 1 (some .boolean), Cond.methodLink RX8 52 yX2_keep, Cond.instanceMethod yX2_keep, Cond.selects RX2 yX2_keep yX2_keep, Cond.code yX2_keep cX2_keep 2 none, Cond.methodLink RX2 35 Lib.Math.min.name, Cond.static Lib.Math.min.name, Cond.code Lib.Math.min.name Lib.Math.min.code 2 (some .int)]
def wsL_law_r7 : List Cond := [Cond.methodLink RX2 31 yX6_copyFrom, Cond.instanceMethod yX6_copyFrom, Cond.selects RX6 yX6_copyFrom yX6_copyFrom, Cond.code yX6_copyFrom cX6_copyFrom 2 none, Cond.methodLink RX6 66 yX0_copyFrom, Cond.instanceMethod yX0_copyFrom, Cond.selects RX0 yX0_copyFrom yX0_copyFrom, Cond.code yX0_copyFrom cX0_copyFrom 2 none, Cond.methodLink RX0 59 yX3_copyFrom, Cond.instanceMethod yX3_copyFrom, Cond.selects RX3 yX3_copyFrom yX3_copyFrom, Cond.code yX3_copyFrom cX3_copyFrom 3 none, Cond.methodLink RX3 23 yX3_at, Cond.instanceMethod yX3_at, Cond.selects RX3 yX3_at yX3_at, Cond.code yX3_at cX3_at 2 (some .int), Cond.methodLink RX0 63 yX1_copyFrom, Cond.instanceMethod yX1_copyFrom, Cond.selects RX1 yX1_copyFrom yX1_copyFrom, Cond.code yX1_copyFrom cX1_copyFrom 2 none, Cond.methodLink RX1 37 yX3_copyFrom, Cond.methodLink RX6 70 yX3_copyFrom, Cond.methodLink RX8 55 yX6_drawer, Cond.instanceMethod yX6_drawer]
def wsL_law_r8 : List Cond := [Cond.selects RX6 yX6_drawer yX6_drawer, Cond.code yX6_drawer cX6_drawer 2 (some (.object "ExampleDrawers$Drawer")), Cond.methodLink RX8 59 yX0_remake, Cond.instanceMethod yX0_remake, Cond.selects RX0 yX0_remake yX0_remake, Cond.code yX0_remake cX0_remake 3 (some .int), Cond.methodLink RX0 45 yX1_wipe, Cond.instanceMethod yX1_wipe, Cond.selects RX1 yX1_wipe yX1_wipe, Cond.code yX1_wipe cX1_wipe 1 none, Cond.methodLink RX1 33 yX3_fill, Cond.methodLink RL 17 yX9_columns, Cond.instanceMethod yX9_columns, Cond.selects RX9 yX9_columns yX9_columns, Cond.code yX9_columns cX9_columns 5 (some .int), Cond.methodLink RX9 36 yX9_isDrawer, Cond.static yX9_isDrawer, Cond.code yX9_isDrawer cX9_isDrawer 1 (some .boolean), Cond.methodLink RX9 32 yX9_in, Cond.static yX9_in, Cond.code yX9_in cX9_in 3 (some .boolean), Cond.methodLink RX9 40 yX9_changes, Cond.instanceMethod yX9_changes, Cond.selects RX9 yX9_changes yX9_changes]
def wsL_law_r9 : List Cond := [Cond.code yX9_changes cX9_changes 2 none, Cond.fieldLink RX9 28 "ExampleDrawersModel" "pasts" "I", Cond.methodLink RX9 43 yX9_setsCell, Cond.instanceMethod yX9_setsCell, Cond.selects RX9 yX9_setsCell yX9_setsCell, Cond.code yX9_setsCell cX9_setsCell 6 none, Cond.methodLink RL 18 yX8_card, Cond.instanceMethod yX8_card, Cond.selects RX8 yX8_card yX8_card, Cond.code yX8_card cX8_card 7 (some .int), Cond.methodLink RX8 65 yX8_isEntry, Cond.static yX8_isEntry, Cond.code yX8_isEntry cX8_isEntry 1 (some .boolean), Cond.methodLink RX8 68 yX0_size, Cond.instanceMethod yX0_size, Cond.selects RX0 yX0_size yX0_size, Cond.code yX0_size cX0_size 1 (some .int), Cond.methodLink RX8 72 yX0_add, Cond.instanceMethod yX0_add, Cond.selects RX0 yX0_add yX0_add, Cond.code yX0_add cX0_add 6 (some .int), Cond.methodLink RX0 48 yX3_set, Cond.instanceMethod yX3_set, Cond.selects RX3 yX3_set yX3_set]
def wsL_law_r10 : List Cond := [Cond.code yX3_set cX3_set 3 none, Cond.methodLink RL 22 yX9_card, Cond.instanceMethod yX9_card, Cond.selects RX9 yX9_card yX9_card, Cond.code yX9_card cX9_card 8 (some .int), Cond.methodLink RX9 47 yX9_valueAt, Cond.static yX9_valueAt, Cond.code yX9_valueAt cX9_valueAt 3 (some .int), Cond.methodLink RL 23 yX8_put, Cond.instanceMethod yX8_put, Cond.selects RX8 yX8_put yX8_put, Cond.code yX8_put cX8_put 5 (some .int), Cond.methodLink RX8 76 yX8_isPlace, Cond.instanceMethod yX8_isPlace, Cond.selects RX8 yX8_isPlace yX8_isPlace, Cond.code yX8_isPlace cX8_isPlace 4 (some .boolean), Cond.methodLink RX8 94 yX8_isCell, Cond.instanceMethod yX8_isCell, Cond.selects RX8 yX8_isCell yX8_isCell, Cond.code yX8_isCell cX8_isCell 3 (some .boolean), Cond.methodLink RX8 217 yX0_hasColumn, Cond.instanceMethod yX0_hasColumn, Cond.selects RX0 yX0_hasColumn yX0_hasColumn, Cond.code yX0_hasColumn cX0_hasColumn 2 (some .boolean)]
def wsL_law_r11 : List Cond := [Cond.methodLink RX8 84 yX0_hasCard, Cond.instanceMethod yX0_hasCard, Cond.selects RX0 yX0_hasCard yX0_hasCard, Cond.code yX0_hasCard cX0_hasCard 2 (some .boolean), Cond.methodLink RX8 80 yX0_replace, Cond.instanceMethod yX0_replace, Cond.selects RX0 yX0_replace yX0_replace, Cond.code yX0_replace cX0_replace 5 (some .int), Cond.methodLink RX0 51 yX0_entry, Cond.instanceMethod yX0_entry, Cond.selects RX0 yX0_entry yX0_entry, Cond.code yX0_entry cX0_entry 3 (some .int), Cond.methodLink RX0 34 yX0_hasCard, Cond.methodLink RX0 38 yX0_hasColumn, Cond.methodLink RX0 41 yX3_at, Cond.methodLink RL 27 yX9_put, Cond.instanceMethod yX9_put, Cond.selects RX9 yX9_put yX9_put, Cond.code yX9_put cX9_put 6 (some .int), Cond.methodLink RX9 51 yX9_isCard, Cond.instanceMethod yX9_isCard, Cond.selects RX9 yX9_isCard yX9_isCard, Cond.code yX9_isCard cX9_isCard 3 (some .boolean), Cond.methodLink RX9 55 yX9_isColumn]
def wsL_law_r12 : List Cond := [Cond.instanceMethod yX9_isColumn, Cond.selects RX9 yX9_isColumn yX9_isColumn, Cond.code yX9_isColumn cX9_isColumn 3 (some .boolean), Cond.methodLink RL 28 yX8_drop, Cond.instanceMethod yX8_drop, Cond.selects RX8 yX8_drop yX8_drop, Cond.code yX8_drop cX8_drop 3 (some .int), Cond.methodLink RX8 87 yX0_remove, Cond.instanceMethod yX0_remove, Cond.selects RX0 yX0_remove yX0_remove, Cond.code yX0_remove cX0_remove 3 (some .int), Cond.methodLink RL 31 yX9_drop, Cond.instanceMethod yX9_drop, Cond.selects RX9 yX9_drop yX9_drop, Cond.code yX9_drop cX9_drop 4 (some .int), Cond.methodLink RL 32 yX8_valueOf, Cond.instanceMethod yX8_valueOf, Cond.selects RX8 yX8_valueOf yX8_valueOf, Cond.code yX8_valueOf cX8_valueOf 4 (some .int), Cond.methodLink RX8 90 yX0_entry, Cond.methodLink RL 36 yX9_valueOf, Cond.instanceMethod yX9_valueOf, Cond.selects RX9 yX9_valueOf yX9_valueOf, Cond.code yX9_valueOf cX9_valueOf 4 (some .int)]
def wsL_law_r13 : List Cond := [Cond.methodLink RL 37 yX8_cell, Cond.instanceMethod yX8_cell, Cond.selects RX8 yX8_cell yX8_cell, Cond.code yX8_cell cX8_cell 8 (some .int), Cond.methodLink RX8 98 yX8_isContent, Cond.static yX8_isContent, Cond.code yX8_isContent cX8_isContent 3 (some .boolean), Cond.methodLink RX8 220 yX8_greatestFirst, Cond.static yX8_greatestFirst, Cond.code yX8_greatestFirst cX8_greatestFirst 1 (some .int), Cond.methodLink RX8 101 yX0_example, Cond.instanceMethod yX0_example, Cond.selects RX0 yX0_example yX0_example, Cond.code yX0_example cX0_example 1 (some (.object "ExampleDrawers$Example")), Cond.methodLink RX8 105 yX1_kindAt, Cond.instanceMethod yX1_kindAt, Cond.selects RX1 yX1_kindAt yX1_kindAt, Cond.code yX1_kindAt cX1_kindAt 2 (some .int), Cond.methodLink RX1 26 yX3_at, Cond.methodLink RX8 110 yX1_fill, Cond.instanceMethod yX1_fill, Cond.selects RX1 yX1_fill yX1_fill, Cond.code yX1_fill cX1_fill 5 none, Cond.methodLink RX1 30 yX3_set]
def wsL_law_r14 : List Cond := [Cond.methodLink RL 40 yX9_cell, Cond.instanceMethod yX9_cell, Cond.selects RX9 yX9_cell yX9_cell, Cond.code yX9_cell cX9_cell 7 (some .int), Cond.methodLink RX9 58 yX9_isCell, Cond.static yX9_isCell, Cond.code yX9_isCell cX9_isCell 4 (some .boolean), Cond.methodLink RX9 61 yX9_cellAt, Cond.instanceMethod yX9_cellAt, Cond.selects RX9 yX9_cellAt yX9_cellAt, Cond.code yX9_cellAt cX9_cellAt 4 (some .int), Cond.methodLink RL 41 yX8_clear, Cond.instanceMethod yX8_clear, Cond.selects RX8 yX8_clear yX8_clear, Cond.code yX8_clear cX8_clear 4 (some .int), Cond.methodLink RX8 114 yX1_otherKinds, Cond.instanceMethod yX1_otherKinds, Cond.selects RX1 yX1_otherKinds yX1_otherKinds, Cond.code yX1_otherKinds cX1_otherKinds 3 (some .int), Cond.methodLink RX8 117 yX1_wipe, Cond.methodLink RL 45 yX9_clear, Cond.instanceMethod yX9_clear, Cond.selects RX9 yX9_clear yX9_clear, Cond.code yX9_clear cX9_clear 4 (some .int)]
def wsL_law_r15 : List Cond := [Cond.methodLink RX9 64 yX9_others, Cond.instanceMethod yX9_others, Cond.selects RX9 yX9_others yX9_others, Cond.code yX9_others cX9_others 4 (some .int), Cond.methodLink RL 46 yX8_both, Cond.instanceMethod yX8_both, Cond.selects RX8 yX8_both yX8_both, Cond.code yX8_both cX8_both 2 (some .int), Cond.methodLink RX8 120 yX6_askBoth, Cond.instanceMethod yX6_askBoth, Cond.selects RX6 yX6_askBoth yX6_askBoth, Cond.code yX6_askBoth cX6_askBoth 3 (some .int), Cond.methodLink RL 49 yX9_both, Cond.instanceMethod yX9_both, Cond.selects RX9 yX9_both yX9_both, Cond.code yX9_both cX9_both 3 (some .int), Cond.methodLink RL 50 yX8_order, Cond.instanceMethod yX8_order, Cond.selects RX8 yX8_order yX8_order, Cond.code yX8_order cX8_order 4 (some .int), Cond.methodLink RX8 123 yX6_setOrder, Cond.instanceMethod yX6_setOrder, Cond.selects RX6 yX6_setOrder yX6_setOrder, Cond.code yX6_setOrder cX6_setOrder 4 none]
def wsL_law_r16 : List Cond := [Cond.methodLink RX6 44 yX3_set, Cond.methodLink RX8 127 yX5_find, Cond.instanceMethod yX5_find, Cond.selects RX5 yX5_find yX5_find, Cond.code yX5_find cX5_find 7 (some .int), Cond.methodLink RX5 37 yX5_findTellers, Cond.instanceMethod yX5_findTellers, Cond.selects RX5 yX5_findTellers yX5_findTellers, Cond.code yX5_findTellers cX5_findTellers 6 none, Cond.methodLink RX5 66 yX3_fill, Cond.methodLink RX5 69 yX6_exampleOf, Cond.instanceMethod yX6_exampleOf, Cond.selects RX6 yX6_exampleOf yX6_exampleOf, Cond.code yX6_exampleOf cX6_exampleOf 2 (some (.object "ExampleDrawers$Example")), Cond.methodLink RX6 62 yX0_example, Cond.methodLink RX5 73 yX6_isAsked, Cond.instanceMethod yX6_isAsked, Cond.selects RX6 yX6_isAsked yX6_isAsked, Cond.code yX6_isAsked cX6_isAsked 2 (some .boolean), Cond.methodLink RX6 47 yX0_hasColumn, Cond.methodLink RX6 51 yX6_isOfBoth, Cond.instanceMethod yX6_isOfBoth, Cond.selects RX6 yX6_isOfBoth yX6_isOfBoth, Cond.code yX6_isOfBoth cX6_isOfBoth 1 (some .boolean)]
def wsL_law_r17 : List Cond := [Cond.methodLink RX5 77 yX1_kindAt, Cond.methodLink RX5 82 yX1_firstAt, Cond.instanceMethod yX1_firstAt, Cond.selects RX1 yX1_firstAt yX1_firstAt, Cond.code yX1_firstAt cX1_firstAt 2 (some .int), Cond.methodLink RX5 60 yX3_set, Cond.methodLink RX5 41 yX6_drawer, Cond.methodLink RX5 47 yX0_size, Cond.methodLink RX5 52 yX6_isOfBoth, Cond.methodLink RX5 56 yX5_firstMisfit, Cond.instanceMethod yX5_firstMisfit, Cond.selects RX5 yX5_firstMisfit yX5_firstMisfit, Cond.code yX5_firstMisfit cX5_firstMisfit 3 (some .int), Cond.methodLink RX5 85 yX5_isFitted, Cond.instanceMethod yX5_isFitted, Cond.selects RX5 yX5_isFitted yX5_isFitted, Cond.code yX5_isFitted cX5_isFitted 8 (some .boolean), Cond.methodLink RX5 89 yX6_entry, Cond.instanceMethod yX6_entry, Cond.selects RX6 yX6_entry yX6_entry, Cond.code yX6_entry cX6_entry 3 (some .int), Cond.methodLink RX6 58 yX0_entry, Cond.methodLink RX5 93 yX1_takesAlone, Cond.instanceMethod yX1_takesAlone]
def wsL_law_r18 : List Cond := [Cond.selects RX1 yX1_takesAlone yX1_takesAlone, Cond.code yX1_takesAlone cX1_takesAlone 5 (some .boolean), Cond.methodLink RX5 63 yX3_at, Cond.methodLink RL 53 yX9_order, Cond.instanceMethod yX9_order, Cond.selects RX9 yX9_order yX9_order, Cond.code yX9_order cX9_order 4 (some .int), Cond.fieldLink RX9 71 "ExampleDrawersModel" "rows" "I", Cond.methodLink RX9 68 yX9_finds, Cond.instanceMethod yX9_finds, Cond.selects RX9 yX9_finds yX9_finds, Cond.code yX9_finds cX9_finds 4 none, Cond.methodLink RX9 97 yX9_unfit, Cond.instanceMethod yX9_unfit, Cond.selects RX9 yX9_unfit yX9_unfit, Cond.code yX9_unfit cX9_unfit 4 (some .int), Cond.methodLink RX9 82 yX9_isAsked, Cond.instanceMethod yX9_isAsked, Cond.selects RX9 yX9_isAsked yX9_isAsked, Cond.code yX9_isAsked cX9_isAsked 2 (some .boolean), Cond.methodLink RX9 91 yX9_fitsCell, Cond.instanceMethod yX9_fitsCell, Cond.selects RX9 yX9_fitsCell yX9_fitsCell, Cond.code yX9_fitsCell cX9_fitsCell 10 (some .boolean)]
def wsL_law_r19 : List Cond := [Cond.methodLink RX9 85 yX9_at, Cond.instanceMethod yX9_at, Cond.selects RX9 yX9_at yX9_at, Cond.code yX9_at cX9_at 4 (some .int), Cond.methodLink RX9 78 yX9_fitsOne, Cond.static yX9_fitsOne, Cond.code yX9_fitsOne cX9_fitsOne 4 (some .boolean), Cond.methodLink RX9 88 yX9_teller, Cond.instanceMethod yX9_teller, Cond.selects RX9 yX9_teller yX9_teller, Cond.code yX9_teller cX9_teller 3 (some .int), Cond.methodLink RX9 101 yX9_lays, Cond.instanceMethod yX9_lays, Cond.selects RX9 yX9_lays yX9_lays, Cond.code yX9_lays cX9_lays 4 none, Cond.methodLink RX9 94 yX9_isBehind, Cond.instanceMethod yX9_isBehind, Cond.selects RX9 yX9_isBehind yX9_isBehind, Cond.code yX9_isBehind cX9_isBehind 8 (some .boolean), Cond.methodLink RL 54 yX8_show, Cond.instanceMethod yX8_show, Cond.selects RX8 yX8_show yX8_show, Cond.code yX8_show cX8_show 2 (some .int), Cond.methodLink RX8 130 yX6_setShown]
def wsL_law_r20 : List Cond := [Cond.instanceMethod yX6_setShown, Cond.selects RX6 yX6_setShown yX6_setShown, Cond.code yX6_setShown cX6_setShown 2 none, Cond.methodLink RX8 134 yX5_countUnlike, Cond.instanceMethod yX5_countUnlike, Cond.selects RX5 yX5_countUnlike yX5_countUnlike, Cond.code yX5_countUnlike cX5_countUnlike 6 (some .int), Cond.methodLink RX5 109 yX5_find, Cond.methodLink RX5 123 yX5_firstAlike, Cond.instanceMethod yX5_firstAlike, Cond.selects RX5 yX5_firstAlike yX5_firstAlike, Cond.code yX5_firstAlike cX5_firstAlike 4 (some .int), Cond.methodLink RX5 126 yX5_isAlike, Cond.instanceMethod yX5_isAlike, Cond.selects RX5 yX5_isAlike yX5_isAlike, Cond.code yX5_isAlike cX5_isAlike 7 (some .boolean), Cond.methodLink RX5 130 yX0_entry, Cond.methodLink RX5 131 yX6_isShown, Cond.instanceMethod yX6_isShown, Cond.selects RX6 yX6_isShown yX6_isShown, Cond.code yX6_isShown cX6_isShown 2 (some .boolean), Cond.methodLink RX6 55 yX6_isAsked, Cond.methodLink RX5 120 yX5_markNew, Cond.instanceMethod yX5_markNew]
def wsL_law_r21 : List Cond := [Cond.selects RX5 yX5_markNew yX5_markNew, Cond.code yX5_markNew cX5_markNew 3 (some .int), Cond.methodLink RL 57 yX9_show, Cond.instanceMethod yX9_show, Cond.selects RX9 yX9_show yX9_show, Cond.code yX9_show cX9_show 2 (some .int), Cond.methodLink RX9 74 yX9_unlikeNow, Cond.instanceMethod yX9_unlikeNow, Cond.selects RX9 yX9_unlikeNow yX9_unlikeNow, Cond.code yX9_unlikeNow cX9_unlikeNow 5 (some .int), Cond.methodLink RX9 105 yX9_areAlike, Cond.instanceMethod yX9_areAlike, Cond.selects RX9 yX9_areAlike yX9_areAlike, Cond.code yX9_areAlike cX9_areAlike 6 (some .boolean), Cond.methodLink RL 58 yX8_cellOf, Cond.instanceMethod yX8_cellOf, Cond.selects RX8 yX8_cellOf yX8_cellOf, Cond.code yX8_cellOf cX8_cellOf 5 (some .int), Cond.methodLink RX8 137 yX1_firstAt, Cond.methodLink RX8 140 yX1_secondAt, Cond.instanceMethod yX1_secondAt, Cond.selects RX1 yX1_secondAt yX1_secondAt, Cond.code yX1_secondAt cX1_secondAt 2 (some .int), Cond.methodLink RX8 143 yX0_countFitting]
def wsL_law_r22 : List Cond := [Cond.instanceMethod yX0_countFitting, Cond.selects RX0 yX0_countFitting yX0_countFitting, Cond.code yX0_countFitting cX0_countFitting 4 (some .int), Cond.methodLink RX0 55 yX1_takesAlone, Cond.methodLink RL 61 yX9_cellOf, Cond.instanceMethod yX9_cellOf, Cond.selects RX9 yX9_cellOf yX9_cellOf, Cond.code yX9_cellOf cX9_cellOf 8 (some .int), Cond.methodLink RL 62 yX8_many, Cond.instanceMethod yX8_many, Cond.selects RX8 yX8_many yX8_many, Cond.code yX8_many cX8_many 1 (some .int), Cond.methodLink RL 66 yX9_many, Cond.instanceMethod yX9_many, Cond.selects RX9 yX9_many yX9_many, Cond.code yX9_many cX9_many 1 (some .int), Cond.methodLink RL 67 yX8_row, Cond.instanceMethod yX8_row, Cond.selects RX8 yX8_row yX8_row, Cond.code yX8_row cX8_row 5 (some .int), Cond.methodLink RX8 146 yX8_isAboutRow, Cond.static yX8_isAboutRow, Cond.code yX8_isAboutRow cX8_isAboutRow 1 (some .boolean), Cond.methodLink RX8 149 yX5_inOrder]
def wsL_law_r23 : List Cond := [Cond.instanceMethod yX5_inOrder, Cond.selects RX5 yX5_inOrder yX5_inOrder, Cond.code yX5_inOrder cX5_inOrder 5 (some .int), Cond.methodLink RX5 96 yX5_isAhead, Cond.instanceMethod yX5_isAhead, Cond.selects RX5 yX5_isAhead yX5_isAhead, Cond.code yX5_isAhead cX5_isAhead 4 (some .boolean), Cond.methodLink RX5 99 yX5_compareBy, Cond.instanceMethod yX5_compareBy, Cond.selects RX5 yX5_compareBy yX5_compareBy, Cond.code yX5_compareBy cX5_compareBy 6 (some .int), Cond.methodLink RX5 103 yX6_orderColumn, Cond.instanceMethod yX6_orderColumn, Cond.selects RX6 yX6_orderColumn yX6_orderColumn, Cond.code yX6_orderColumn cX6_orderColumn 2 (some .int), Cond.methodLink RX6 40 yX3_at, Cond.methodLink RX5 106 yX6_isDownwards, Cond.instanceMethod yX6_isDownwards, Cond.selects RX6 yX6_isDownwards yX6_isDownwards, Cond.code yX6_isDownwards cX6_isDownwards 2 (some .boolean), Cond.methodLink RX8 152 yX6_isOfBoth, Cond.methodLink RX8 156 yX5_tellerOf, Cond.instanceMethod yX5_tellerOf, Cond.selects RX5 yX5_tellerOf yX5_tellerOf]
def wsL_law_r24 : List Cond := [Cond.code yX5_tellerOf cX5_tellerOf 2 (some .int), Cond.methodLink RX8 159 yX6_isAsked, Cond.methodLink RX8 162 yX6_entry, Cond.methodLink RL 70 yX9_row, Cond.instanceMethod yX9_row, Cond.selects RX9 yX9_row yX9_row, Cond.code yX9_row cX9_row 4 (some .int), Cond.methodLink RL 71 yX8_total, Cond.instanceMethod yX8_total, Cond.selects RX8 yX8_total yX8_total, Cond.code yX8_total cX8_total 3 (some .int), Cond.methodLink RX8 163 yX5_sumUp, Cond.instanceMethod yX5_sumUp, Cond.selects RX5 yX5_sumUp yX5_sumUp, Cond.code yX5_sumUp cX5_sumUp 10 (some .int), Cond.methodLink RX5 112 Lib.Math.min.name, Cond.methodLink RX5 117 Lib.Math.max.name, Cond.methodLink RL 74 yX9_total, Cond.instanceMethod yX9_total, Cond.selects RX9 yX9_total yX9_total, Cond.code yX9_total cX9_total 10 (some .int), Cond.methodLink RX9 108 yX9_isFirstOf, Cond.instanceMethod yX9_isFirstOf, Cond.selects RX9 yX9_isFirstOf yX9_isFirstOf]
def wsL_law_r25 : List Cond := [Cond.code yX9_isFirstOf cX9_isFirstOf 5 (some .boolean), Cond.methodLink RL 75 yX8_unlike, Cond.instanceMethod yX8_unlike, Cond.selects RX8 yX8_unlike yX8_unlike, Cond.code yX8_unlike cX8_unlike 1 (some .int), Cond.methodLink RL 78 yX9_unlike, Cond.instanceMethod yX9_unlike, Cond.selects RX9 yX9_unlike yX9_unlike, Cond.code yX9_unlike cX9_unlike 1 (some .int), Cond.methodLink RL 79 yX8_cards, Cond.instanceMethod yX8_cards, Cond.selects RX8 yX8_cards yX8_cards, Cond.code yX8_cards cX8_cards 2 (some .int), Cond.methodLink RX8 166 yX5_cardSet, Cond.instanceMethod yX5_cardSet, Cond.selects RX5 yX5_cardSet yX5_cardSet, Cond.code yX5_cardSet cX5_cardSet 5 (some .int), Cond.methodLink RL 82 yX9_cards, Cond.instanceMethod yX9_cards, Cond.selects RX9 yX9_cards yX9_cards, Cond.code yX9_cards cX9_cards 4 (some .int), Cond.methodLink RL 83 yX8_why, Cond.instanceMethod yX8_why, Cond.selects RX8 yX8_why yX8_why]
def wsL_law_r26 : List Cond := [Cond.code yX8_why cX8_why 5 (some .int), Cond.methodLink RX8 169 yX5_explain, Cond.instanceMethod yX5_explain, Cond.selects RX5 yX5_explain yX5_explain, Cond.code yX5_explain cX5_explain 2 (some .int), Cond.methodLink RL 86 yX9_why, Cond.instanceMethod yX9_why, Cond.selects RX9 yX9_why yX9_why, Cond.code yX9_why cX9_why 3 (some .int), Cond.methodLink RL 87 yX8_tightest, Cond.instanceMethod yX8_tightest, Cond.selects RX8 yX8_tightest yX8_tightest, Cond.code yX8_tightest cX8_tightest 6 (some .int), Cond.methodLink RL 90 yX9_tightest, Cond.instanceMethod yX9_tightest, Cond.selects RX9 yX9_tightest yX9_tightest, Cond.code yX9_tightest cX9_tightest 8 (some .int), Cond.methodLink RX9 111 yX9_many, Cond.methodLink RL 91 yX8_count, Cond.instanceMethod yX8_count, Cond.selects RX8 yX8_count yX8_count, Cond.code yX8_count cX8_count 2 (some .int), Cond.methodLink RX8 172 yX0_width, Cond.instanceMethod yX0_width]
def wsL_law_r27 : List Cond := [Cond.selects RX0 yX0_width yX0_width, Cond.code yX0_width cX0_width 1 (some .int), Cond.methodLink RX8 175 yX6_shownSet, Cond.instanceMethod yX6_shownSet, Cond.selects RX6 yX6_shownSet yX6_shownSet, Cond.code yX6_shownSet cX6_shownSet 1 (some .int), Cond.methodLink RX8 178 yX2_size, Cond.instanceMethod yX2_size, Cond.selects RX2 yX2_size yX2_size, Cond.code yX2_size cX2_size 1 (some .int), Cond.methodLink RX8 179 yX7_length, Cond.instanceMethod yX7_length, Cond.selects RX7 yX7_length yX7_length, Cond.code yX7_length cX7_length 1 (some .int), Cond.methodLink RX8 182 yX6_orderColumn, Cond.methodLink RX8 185 yX6_isDownwards, Cond.methodLink RL 94 yX9_count, Cond.instanceMethod yX9_count, Cond.selects RX9 yX9_count yX9_count, Cond.code yX9_count cX9_count 2 (some .int), Cond.fieldLink RX9 114 "ExampleDrawersModel" "typed" "I", Cond.methodLink RL 95 yX8_undo, Cond.instanceMethod yX8_undo, Cond.selects RX8 yX8_undo yX8_undo]
def wsL_law_r28 : List Cond := [Cond.code yX8_undo cX8_undo 1 (some .int), Cond.methodLink RX8 188 yX2_restore, Cond.instanceMethod yX2_restore, Cond.selects RX2 yX2_restore yX2_restore, Cond.code yX2_restore cX2_restore 2 none, Cond.methodLink RX2 41 Lib.Math.max.name, Cond.methodLink RL 98 yX9_undo, Cond.instanceMethod yX9_undo, Cond.selects RX9 yX9_undo yX9_undo, Cond.code yX9_undo cX9_undo 2 (some .int), Cond.methodLink RL 99 yX8_type, Cond.instanceMethod yX8_type, Cond.selects RX8 yX8_type yX8_type, Cond.code yX8_type cX8_type 2 (some .int), Cond.methodLink RX8 191 yX7_append, Cond.instanceMethod yX7_append, Cond.selects RX7 yX7_append yX7_append, Cond.code yX7_append cX7_append 2 (some .int), Cond.methodLink RX7 28 yX3_set, Cond.methodLink RL 102 yX9_type, Cond.instanceMethod yX9_type, Cond.selects RX9 yX9_type yX9_type, Cond.code yX9_type cX9_type 2 (some .int), Cond.methodLink RL 103 yX8_clearText]
def wsL_law_r29 : List Cond := [Cond.instanceMethod yX8_clearText, Cond.selects RX8 yX8_clearText yX8_clearText, Cond.code yX8_clearText cX8_clearText 1 (some .int), Cond.methodLink RX8 194 yX7_empty, Cond.instanceMethod yX7_empty, Cond.selects RX7 yX7_empty yX7_empty, Cond.code yX7_empty cX7_empty 2 (some .int), Cond.methodLink RL 106 yX9_clearText, Cond.instanceMethod yX9_clearText, Cond.selects RX9 yX9_clearText yX9_clearText, Cond.code yX9_clearText cX9_clearText 2 (some .int), Cond.methodLink RL 107 yX8_fault, Cond.instanceMethod yX8_fault, Cond.selects RX8 yX8_fault yX8_fault, Cond.code yX8_fault cX8_fault 2 (some .int), Cond.methodLink RX8 197 yX4_start, Cond.instanceMethod yX4_start, Cond.selects RX4 yX4_start yX4_start, Cond.code yX4_start cX4_start 2 none, Cond.methodLink RX4 35 yX1_wipe, Cond.methodLink RX4 38 yX7_characterAt, Cond.instanceMethod yX7_characterAt, Cond.selects RX7 yX7_characterAt yX7_characterAt, Cond.code yX7_characterAt cX7_characterAt 2 (some .int)]
def wsL_law_r30 : List Cond := [Cond.methodLink RX7 24 yX3_at, Cond.methodLink RX4 44 yX4_readCell, Cond.instanceMethod yX4_readCell, Cond.selects RX4 yX4_readCell yX4_readCell, Cond.code yX4_readCell cX4_readCell 3 none, Cond.methodLink RX4 63 yX4_isDigit, Cond.static yX4_isDigit, Cond.code yX4_isDigit cX4_isDigit 1 (some .boolean), Cond.methodLink RX4 67 yX4_readNumbers, Cond.instanceMethod yX4_readNumbers, Cond.selects RX4 yX4_readNumbers yX4_readNumbers, Cond.code yX4_readNumbers cX4_readNumbers 4 none, Cond.methodLink RX4 74 yX4_readNumber, Cond.instanceMethod yX4_readNumber, Cond.selects RX4 yX4_readNumber yX4_readNumber, Cond.code yX4_readNumber cX4_readNumber 4 (some .int), Cond.methodLink RX4 59 yX4_fail, Cond.instanceMethod yX4_fail, Cond.selects RX4 yX4_fail yX4_fail, Cond.code yX4_fail cX4_fail 3 none, Cond.methodLink RX4 70 yX1_fill, Cond.methodLink RX4 48 yX4_hasFault, Cond.instanceMethod yX4_hasFault, Cond.selects RX4 yX4_hasFault yX4_hasFault]
def wsL_law_r31 : List Cond := [Cond.code yX4_hasFault cX4_hasFault 1 (some .boolean), Cond.methodLink RX4 77 yX4_readBound, Cond.instanceMethod yX4_readBound, Cond.selects RX4 yX4_readBound yX4_readBound, Cond.code yX4_readBound cX4_readBound 4 none, Cond.methodLink RX4 80 yX4_isLetter, Cond.static yX4_isLetter, Cond.code yX4_isLetter cX4_isLetter 1 (some .boolean), Cond.methodLink RX4 52 yX4_readComma, Cond.instanceMethod yX4_readComma, Cond.selects RX4 yX4_readComma yX4_readComma, Cond.code yX4_readComma cX4_readComma 1 (some .boolean), Cond.methodLink RX4 55 yX7_length, Cond.methodLink RX8 200 yX4_hasFault, Cond.methodLink RX8 203 yX4_faultPlace, Cond.instanceMethod yX4_faultPlace, Cond.selects RX4 yX4_faultPlace yX4_faultPlace, Cond.code yX4_faultPlace cX4_faultPlace 1 (some .int), Cond.methodLink RX8 206 yX4_faultReason, Cond.instanceMethod yX4_faultReason, Cond.selects RX4 yX4_faultReason yX4_faultReason, Cond.code yX4_faultReason cX4_faultReason 1 (some .int), Cond.methodLink RL 110 yX9_fault, Cond.instanceMethod yX9_fault]
def wsL_law_r32 : List Cond := [Cond.selects RX9 yX9_fault yX9_fault, Cond.code yX9_fault cX9_fault 2 (some .int), Cond.fieldLink RX9 117 "ExampleDrawersModel" "spot" "I", Cond.fieldLink RX9 129 "ExampleDrawersModel" "reason" "I", Cond.methodLink RX9 154 yX9_isRight, Cond.instanceMethod yX9_isRight, Cond.selects RX9 yX9_isRight yX9_isRight, Cond.code yX9_isRight cX9_isRight 2 (some .boolean), Cond.fieldLink RX9 126 "ExampleDrawersModel" "cells" "I", Cond.methodLink RX9 151 yX9_readsCell, Cond.instanceMethod yX9_readsCell, Cond.selects RX9 yX9_readsCell yX9_readsCell, Cond.code yX9_readsCell cX9_readsCell 2 (some .boolean), Cond.fieldLink RX9 123 "ExampleDrawersModel" "number" "I", Cond.methodLink RX9 132 yX9_passes, Cond.instanceMethod yX9_passes, Cond.selects RX9 yX9_passes yX9_passes, Cond.code yX9_passes cX9_passes 4 (some .boolean), Cond.methodLink RX9 120 yX9_isAt, Cond.instanceMethod yX9_isAt, Cond.selects RX9 yX9_isAt yX9_isAt, Cond.code yX9_isAt cX9_isAt 3 (some .boolean), Cond.methodLink RX9 135 yX9_tells, Cond.instanceMethod yX9_tells]
def wsL_law_r33 : List Cond := [Cond.selects RX9 yX9_tells yX9_tells, Cond.code yX9_tells cX9_tells 4 (some .boolean), Cond.methodLink RX9 138 yX9_numbered, Cond.instanceMethod yX9_numbered, Cond.selects RX9 yX9_numbered yX9_numbered, Cond.code yX9_numbered cX9_numbered 2 (some .boolean), Cond.methodLink RX9 142 yX9_fails, Cond.instanceMethod yX9_fails, Cond.selects RX9 yX9_fails yX9_fails, Cond.code yX9_fails cX9_fails 2 (some .boolean), Cond.methodLink RX9 145 yX9_compares, Cond.instanceMethod yX9_compares, Cond.selects RX9 yX9_compares yX9_compares, Cond.code yX9_compares cX9_compares 3 (some .boolean), Cond.methodLink RX9 148 yX9_ranges, Cond.instanceMethod yX9_ranges, Cond.selects RX9 yX9_ranges yX9_ranges, Cond.code yX9_ranges cX9_ranges 3 (some .boolean), Cond.methodLink RL 111 yX8_read, Cond.instanceMethod yX8_read, Cond.selects RX8 yX8_read yX8_read, Cond.code yX8_read cX8_read 2 (some .int), Cond.methodLink RX8 209 yX4_cells, Cond.instanceMethod yX4_cells]
def wsL_law_r34 : List Cond := [Cond.selects RX4 yX4_cells yX4_cells, Cond.code yX4_cells cX4_cells 1 (some .int), Cond.methodLink RX8 212 yX4_example, Cond.instanceMethod yX4_example, Cond.selects RX4 yX4_example yX4_example, Cond.code yX4_example cX4_example 1 (some (.object "ExampleDrawers$Example")), Cond.methodLink RX8 213 yX1_copyFrom, Cond.methodLink RL 114 yX9_read, Cond.instanceMethod yX9_read, Cond.selects RX9 yX9_read yX9_read, Cond.code yX9_read cX9_read 4 (some .int)]
def wsL_law : List Cond := (wsL_law_r1 ++ (wsL_law_r2 ++ (wsL_law_r3 ++ (wsL_law_r4 ++ (wsL_law_r5 ++ (wsL_law_r6 ++ (wsL_law_r7 ++ (wsL_law_r8 ++ (wsL_law_r9 ++ (wsL_law_r10 ++ (wsL_law_r11 ++ (wsL_law_r12 ++ (wsL_law_r13 ++ (wsL_law_r14 ++ (wsL_law_r15 ++ (wsL_law_r16 ++ (wsL_law_r17 ++ (wsL_law_r18 ++ (wsL_law_r19 ++ (wsL_law_r20 ++ (wsL_law_r21 ++ (wsL_law_r22 ++ (wsL_law_r23 ++ (wsL_law_r24 ++ (wsL_law_r25 ++ (wsL_law_r26 ++ (wsL_law_r27 ++ (wsL_law_r28 ++ (wsL_law_r29 ++ (wsL_law_r30 ++ (wsL_law_r31 ++ (wsL_law_r32 ++ (wsL_law_r33 ++ wsL_law_r34))))))))))))))))))))))))))))))))) ++ wsX80 ++ wsX90 ++ wsX60 ++ wsX20 ++ wsX50 ++ wsX70 ++ wsX40 ++ wsX00 ++ wsX30 ++ wsX10 ++ ([] : List Cond)
end
section
abbrev vwCl : List vw_C := [(RX0, TX0, 4), (RX1, TX1, 3), (RX2, TX2, 5), (RX3, TX3, 1), (RX4, TX4, 6), (RX5, TX5, 6), (RX6, TX6, 6), (RX7, TX7, 2), (RX8, TX8, 5), (RX9, TX9, 13)]
/-! the world: 152 cells whose ints lie in one flat memory, by positions -/
abbrev mw_M : Type := Nat → Int32
abbrev mw_Sh : Type := (Nat × Nat × Nat) ⊕ (Nat × List (Nat ⊕ Nat))
abbrev mw_GG : Type := (Nat → Nat) × va_G × ClassId
def mw_S : List mw_Sh := [.inr (6, [.inl 1, .inl 11, .inl 21, .inl 23, .inr 124, .inr 129]), .inr (0, [.inl 2, .inl 4, .inr 0, .inr 2]), .inr (3, [.inl 3]), .inl (48, 4, 1), .inr (1, [.inl 5, .inl 7, .inl 9]), .inr (3, [.inl 6]), .inl (4, 100, 3), .inr (3, [.inl 8]), .inl (4, 101, 3), .inr (3, [.inl 10]), .inl (4, 102, 3), .inr (0, [.inl 12, .inl 14, .inr 1, .inr 3]), .inr (3, [.inl 13]), .inl (48, 52, 1), .inr (1, [.inl 15, .inl 17, .inl 19]), .inr (3, [.inl 16]), .inl (4, 112, 3), .inr (3, [.inl 18]), .inl (4, 113, 3), .inr (3, [.inl 20]), .inl (4, 114, 3), .inr (3, [.inl 22]), .inl (2, 125, 2), .inr (3, [.inl 24]), .inl (2, 126, 2), .inr (6, [.inl 26, .inl 36, .inl 46, .inl 48, .inr 254, .inr 259]), .inr (0, [.inl 27, .inl 29, .inr 130, .inr 132]), .inr (3, [.inl 28]), .inl (48, 134, 1), .inr (1, [.inl 30, .inl 32, .inl 34]), .inr (3, [.inl 31]), .inl (4, 230, 3), .inr (3, [.inl 33]), .inl (4, 231, 3), .inr (3, [.inl 35]), .inl (4, 232, 3), .inr (0, [.inl 37, .inl 39, .inr 131, .inr 133]), .inr (3, [.inl 38]), .inl (48, 182, 1), .inr (1, [.inl 40, .inl 42, .inl 44]), .inr (3, [.inl 41]), .inl (4, 242, 3), .inr (3, [.inl 43]), .inl (4, 243, 3), .inr (3, [.inl 45]), .inl (4, 244, 3), .inr (3, [.inl 47]), .inl (2, 255, 2), .inr (3, [.inl 49]), .inl (2, 256, 2), .inr (6, [.inl 51, .inl 61, .inl 71, .inl 73, .inr 384, .inr 389]), .inr (0, [.inl 52, .inl 54, .inr 260, .inr 262]), .inr (3, [.inl 53]), .inl (48, 264, 1), .inr (1, [.inl 55, .inl 57, .inl 59]), .inr (3, [.inl 56]), .inl (4, 360, 3), .inr (3, [.inl 58]), .inl (4, 361, 3), .inr (3, [.inl 60]), .inl (4, 362, 3), .inr (0, [.inl 62, .inl 64, .inr 261, .inr 263]), .inr (3, [.inl 63]), .inl (48, 312, 1), .inr (1, [.inl 65, .inl 67, .inl 69]), .inr (3, [.inl 66]), .inl (4, 372, 3), .inr (3, [.inl 68]), .inl (4, 373, 3), .inr (3, [.inl 70]), .inl (4, 374, 3), .inr (3, [.inl 72]), .inl (2, 385, 2), .inr (3, [.inl 74]), .inl (2, 386, 2), .inr (6, [.inl 76, .inl 86, .inl 96, .inl 98, .inr 514, .inr 519]), .inr (0, [.inl 77, .inl 79, .inr 390, .inr 392]), .inr (3, [.inl 78]), .inl (48, 394, 1), .inr (1, [.inl 80, .inl 82, .inl 84]), .inr (3, [.inl 81]), .inl (4, 490, 3), .inr (3, [.inl 83]), .inl (4, 491, 3), .inr (3, [.inl 85]), .inl (4, 492, 3), .inr (0, [.inl 87, .inl 89, .inr 391, .inr 393]), .inr (3, [.inl 88]), .inl (48, 442, 1), .inr (1, [.inl 90, .inl 92, .inl 94]), .inr (3, [.inl 91]), .inl (4, 502, 3), .inr (3, [.inl 93]), .inl (4, 503, 3), .inr (3, [.inl 95]), .inl (4, 504, 3), .inr (3, [.inl 97]), .inl (2, 515, 2), .inr (3, [.inl 99]), .inl (2, 516, 2), .inr (6, [.inl 101, .inl 111, .inl 121, .inl 123, .inr 644, .inr 649]), .inr (0, [.inl 102, .inl 104, .inr 520, .inr 522]), .inr (3, [.inl 103]), .inl (48, 524, 1), .inr (1, [.inl 105, .inl 107, .inl 109]), .inr (3, [.inl 106]), .inl (4, 620, 3), .inr (3, [.inl 108]), .inl (4, 621, 3), .inr (3, [.inl 110]), .inl (4, 622, 3), .inr (0, [.inl 112, .inl 114, .inr 521, .inr 523]), .inr (3, [.inl 113]), .inl (48, 572, 1), .inr (1, [.inl 115, .inl 117, .inl 119]), .inr (3, [.inl 116]), .inl (4, 632, 3), .inr (3, [.inl 118]), .inl (4, 633, 3), .inr (3, [.inl 120]), .inl (4, 634, 3), .inr (3, [.inl 122]), .inl (2, 645, 2), .inr (3, [.inl 124]), .inl (2, 646, 2), .inr (2, [.inl 25, .inl 50, .inl 75, .inl 100, .inr 650]), .inr (5, [.inl 0, .inl 127, .inl 129, .inl 131, .inr 651, .inr 652]), .inr (3, [.inl 128]), .inl (144, 700, 1), .inr (3, [.inl 130]), .inl (144, 850, 1), .inr (3, [.inl 132]), .inl (4, 660, 1), .inr (7, [.inl 134, .inr 653]), .inr (3, [.inl 135]), .inl (60, 1000, 1), .inr (4, [.inl 133, .inl 137, .inr 654, .inr 655, .inr 656, .inr 657]), .inr (1, [.inl 138, .inl 140, .inl 142]), .inr (3, [.inl 139]), .inl (4, 670, 3), .inr (3, [.inl 141]), .inl (4, 671, 3), .inr (3, [.inl 143]), .inl (4, 672, 3), .inr (8, [.inl 0, .inl 125, .inl 126, .inl 133, .inl 136]), .inr (9, [.inl 146, .inl 147, .inr 1100, .inl 148, .inr 1101, .inl 149, .inl 150, .inr 1102, .inr 1103, .inr 1104, .inr 1105, .inr 1106, .inl 151]), .inl (130, 2000, 1), .inl (520, 3000, 1), .inl (60, 1200, 1), .inl (144, 1300, 1), .inl (144, 1450, 1), .inl (12, 1110, 1)]
def mw_pos (sh : mw_Sh) : List Nat := match sh with
  | .inl (n, b, t) => (List.range n).map (fun i => b + t * i)
  | .inr (_, fs) => fs.filterMap (fun f => match f with | .inl _ => none | .inr q => some q)
def mw_fv (ad : Nat → Nat) (M : mw_M) (f : Nat ⊕ Nat) : Value := match f with
  | .inl t => .ref (ad t)
  | .inr q => .int (M q)
def mw_e (G : mw_GG) (M : mw_M) (sh : mw_Sh) : va_E := match sh with
  | .inl (n, b, t) => .inl (G.2.2, (n, .inl (fun i => M (b + t * i))))
  | .inr (ci, fs) => .inr (ci, fs.map (mw_fv G.1 M))
def mw_l (G : mw_GG) (M : mw_M) : va_W := mw_S.zipIdx.map (fun q => (G.1 q.2, mw_e G M q.1))
def mw_W (G : mw_GG) (M : mw_M) (H : Heap) : Prop := va_P G.2.1 vwCl (mw_l G M) H
/-- the addresses are apart -/
def mw_G (G : mw_GG) : Prop := ∀ i j : Nat, i < 152 → j < 152 → G.1 i = G.1 j → i = j
/-- the addresses of the world -/
def mw_A (G : mw_GG) : Nat → Prop := fun q => ∃ c, c < 152 ∧ q = G.1 c
def mw_K (G : mw_GG) (U : State) : Prop := va_K G.2.1 vwCl [(G.2.2, .int)] U
theorem mw_len : mw_S.length = 152 := by decide +kernel
theorem mw_lt {c : Nat} {sh : mw_Sh} (h : mw_S[c]? = some sh) : c < 152 := by
  have := (List.getElem?_eq_some_iff.mp h).1
  rw [mw_len] at this
  exact this
theorem mw_l_at {G : mw_GG} {M : mw_M} {c : Nat} {sh : mw_Sh} (h : mw_S[c]? = some sh) : (mw_l G M)[c]? = some (G.1 c, mw_e G M sh) := by
  unfold mw_l
  rw [List.getElem?_map, List.getElem?_zipIdx, h]
  simp
theorem mw_l_of {G : mw_GG} {M : mw_M} {c : Nat} {q : Nat × va_E} (h : (mw_l G M)[c]? = some q) : ∃ sh, mw_S[c]? = some sh ∧ q = (G.1 c, mw_e G M sh) := by
  unfold mw_l at h
  rw [List.getElem?_map, List.getElem?_zipIdx] at h
  cases hs : mw_S[c]? with
  | none => rw [hs] at h; simp at h
  | some sh =>
    rw [hs] at h
    simp at h
    exact ⟨sh, rfl, h.symm⟩
theorem mw_D {G : mw_GG} {M : mw_M} (hG : mw_G G) : va_D (mw_A G) (mw_l G M) := by
  refine ⟨fun i j x y hi hj hxy => ?_, fun k q hk => ?_⟩
  · obtain ⟨s1, h1, e1⟩ := mw_l_of hi
    obtain ⟨s2, h2, e2⟩ := mw_l_of hj
    subst e1; subst e2
    exact hG i j (mw_lt h1) (mw_lt h2) hxy
  · obtain ⟨s1, h1, e1⟩ := mw_l_of hk
    subst e1
    exact ⟨k, mw_lt h1, rfl⟩
theorem mw_arr {cA : ClassId} {n : Nat} {f g : Nat → Int32} (h : ∀ i, i < n → f i = g i) : vp_cell cA (n, .inl f) = vp_cell cA (n, .inl g) := by
  rw [vp_cell_i, vp_cell_i]
  unfold arrV
  congr 1
  congr 1
  funext j
  show Value.int (f j.val) = Value.int (g j.val)
  rw [h j.val j.isLt]
theorem mw_cong {G : mw_GG} {M M' : mw_M} {a : Nat} {sh : mw_Sh} {H : Heap} (hp : ∀ q ∈ mw_pos sh, M q = M' q) (h : va_at G.2.1 vwCl (a, mw_e G M sh) H) : va_at G.2.1 vwCl (a, mw_e G M' sh) H := by
  rcases sh with ⟨n, b, t⟩ | ⟨ci, fs⟩
  · have e : vp_cell G.2.2 (n, .inl (fun i => M (b + t * i))) = vp_cell G.2.2 (n, .inl (fun i => M' (b + t * i))) := mw_arr (fun i hi => hp _ (List.mem_map.mpr ⟨i, List.mem_range.mpr hi, rfl⟩))
    show H[a]? = some (vp_cell G.2.2 (n, .inl (fun i => M' (b + t * i))))
    rw [← e]
    exact h
  · have e : fs.map (mw_fv G.1 M) = fs.map (mw_fv G.1 M') := by
      refine List.map_congr_left (fun f hf => ?_)
      rcases f with t | q
      · rfl
      · show Value.int (M q) = Value.int (M' q)
        rw [hp q (List.mem_filterMap.mpr ⟨.inr q, hf, rfl⟩)]
    show va_at G.2.1 vwCl (a, .inr (ci, fs.map (mw_fv G.1 M'))) H
    rw [← e]
    exact h
/-- the memory matters only where a cell has a position -/
theorem mw_W.congr {G : mw_GG} {M M' : mw_M} {H : Heap} (h : mw_W G M H) (hp : ∀ (c : Nat) (sh : mw_Sh), mw_S[c]? = some sh → ∀ q ∈ mw_pos sh, M q = M' q) : mw_W G M' H := by
  intro c q hq
  obtain ⟨sh, h1, e⟩ := mw_l_of hq
  subst e
  exact mw_cong (hp c sh h1) (h c _ (mw_l_at h1))
theorem mw_W.eq {G : mw_GG} {M M' : mw_M} {H : Heap} (h : mw_W G M H) (e : ∀ q, M q = M' q) : mw_W G M' H := h.congr (fun _ _ _ q _ => e q)
/-- whose a position is -/
def mw_own (q : Nat) : Nat :=
  if q < 650 then
    (let j := q / 130; let k := q % 130
     if k < 2 then 25 * j + 1 + 10 * k else if k < 4 then 25 * j + 1 + 10 * (k - 2) else if k < 100 then 25 * j + 3 + 10 * ((k - 4) / 48)
     else if k < 124 then 25 * j + 6 + 10 * ((k - 100) / 12) + 2 * ((k - 100) % 3) else if k < 125 then 25 * j else if k < 129 then 25 * j + 22 + 2 * ((k - 125) % 2) else 25 * j)
  else if q < 651 then 125 else if q < 653 then 126 else if q < 654 then 133 else if q < 658 then 136 else if q < 664 then 132
  else if q < 682 then 139 + 2 * ((q - 670) % 3) else if q < 844 then 128 else if q < 994 then 130 else if q < 1060 then 135 else if q < 1107 then 145
  else if q < 1122 then 151 else if q < 1260 then 148 else if q < 1444 then 149 else if q < 1594 then 150 else if q < 2130 then 146 else 147
theorem mw_own_ok : mw_S.zipIdx.all (fun q => (mw_pos q.1).all (fun k => mw_own k == q.2)) = true := by decide +kernel
theorem mw_owned {c : Nat} {sh : mw_Sh} (h : mw_S[c]? = some sh) {q : Nat} (hq : q ∈ mw_pos sh) : mw_own q = c := by
  have h1 := List.all_eq_true.mp mw_own_ok (sh, c) (by rw [List.mem_zipIdx_iff_getElem?]; exact h)
  have h2 := List.all_eq_true.mp h1 q hq
  exact beq_iff_eq.mp h2
def mw_fine (sh : mw_Sh) : Bool := match sh with
  | .inl (_, _, t) => decide (0 < t)
  | .inr (_, fs) => (List.range fs.length).all (fun i => (List.range fs.length).all (fun j => decide (i = j ∨ fs[i]? ≠ fs[j]?)))
theorem mw_fine_ok : mw_S.all mw_fine = true := by decide +kernel
theorem mw_arr_t {c n b t : Nat} (h : mw_S[c]? = some (.inl (n, b, t))) : 0 < t := by
  have h1 := List.all_eq_true.mp mw_fine_ok _ (List.mem_of_getElem? h)
  exact of_decide_eq_true h1
theorem mw_obj_nd {c ci : Nat} {fs : List (Nat ⊕ Nat)} (h : mw_S[c]? = some (.inr (ci, fs))) {i j : Nat} {f : Nat ⊕ Nat} (hi : fs[i]? = some f) (hj : fs[j]? = some f) : i = j := by
  have h1 := List.all_eq_true.mp mw_fine_ok _ (List.mem_of_getElem? h)
  have li := (List.getElem?_eq_some_iff.mp hi).1
  have lj := (List.getElem?_eq_some_iff.mp hj).1
  have h2 := List.all_eq_true.mp h1 i (List.mem_range.mpr li)
  have h3 := of_decide_eq_true (List.all_eq_true.mp h2 j (List.mem_range.mpr lj))
  rcases h3 with h3 | h3
  · exact h3
  · exact absurd (hi.trans hj.symm) h3
/-- a cell is written: the others hold what they held -/
theorem mw_set {G : mw_GG} {M : mw_M} {c q : Nat} {sh : mw_Sh} {e : va_E} {x : Int32} {H : Heap} (hs : mw_S[c]? = some sh) (hq : q ∈ mw_pos sh) (he : e = mw_e G (upd M q x) sh) (h : va_P G.2.1 vwCl ((mw_l G M).set c (G.1 c, e)) H) : mw_W G (upd M q x) H := by
  intro c2 z hz
  obtain ⟨sh2, h1, e2⟩ := mw_l_of hz
  subst e2
  have hl : c < (mw_l G M).length := (List.getElem?_eq_some_iff.mp (mw_l_at (G := G) (M := M) hs)).1
  by_cases hc : c2 = c
  · subst hc
    cases hs.symm.trans h1
    have h2 := h c2 (G.1 c2, e) (List.getElem?_set_self hl)
    rw [he] at h2
    exact h2
  · have h2 := h c2 (G.1 c2, mw_e G M sh2) (by rw [List.getElem?_set_ne (Ne.symm hc)]; exact mw_l_at h1)
    refine mw_cong (fun k hk => ?_) h2
    have hn : k ≠ q := fun z => hc (by rw [← mw_owned h1 hk, z]; exact mw_owned hs hq)
    unfold upd
    rw [if_neg hn]
theorem mw_e_arr {G : mw_GG} {M : mw_M} {c n b t i : Nat} {x : Int32} (h : mw_S[c]? = some (.inl (n, b, t))) : (Sum.inl (G.2.2, (n, Sum.inl (upd (fun i => M (b + t * i)) i x))) : va_E) = mw_e G (upd M (b + t * i) x) (.inl (n, b, t)) := by
  have ht := mw_arr_t h
  have e : upd (fun i => M (b + t * i)) i x = fun i2 => upd M (b + t * i) x (b + t * i2) := by
    funext k
    unfold upd
    by_cases hk : k = i
    · subst hk
      simp
    · have hn : ¬ b + t * k = b + t * i := fun z => hk (Nat.eq_of_mul_eq_mul_left ht (Nat.add_left_cancel z))
      rw [if_neg hk, if_neg hn]
  show _ = (Sum.inl (G.2.2, (n, Sum.inl (fun i2 => upd M (b + t * i) x (b + t * i2)))) : va_E)
  rw [e]
theorem mw_e_obj {G : mw_GG} {M : mw_M} {c ci j q : Nat} {fs : List (Nat ⊕ Nat)} {x : Int32} (h : mw_S[c]? = some (.inr (ci, fs))) (hj : fs[j]? = some (.inr q)) : (Sum.inr (ci, (fs.map (mw_fv G.1 M)).set j (.int x)) : va_E) = mw_e G (upd M q x) (.inr (ci, fs)) := by
  have e : (fs.map (mw_fv G.1 M)).set j (.int x) = fs.map (mw_fv G.1 (upd M q x)) := by
    apply List.ext_getElem?
    intro k
    have hjl := (List.getElem?_eq_some_iff.mp hj).1
    by_cases hk : k = j
    · subst hk
      rw [List.getElem?_set_self (by rw [List.length_map]; exact hjl), List.getElem?_map, hj]
      simp [mw_fv, upd]
    · rw [List.getElem?_set_ne (Ne.symm hk), List.getElem?_map, List.getElem?_map]
      cases hf : fs[k]? with
      | none => rfl
      | some f =>
        rcases f with t | q2
        · rfl
        · have hn : ¬ q2 = q := fun z => hk (mw_obj_nd h (z ▸ hf) hj)
          simp [mw_fv, upd, hn]
  show _ = (Sum.inr (ci, fs.map (mw_fv G.1 (upd M q x))) : va_E)
  rw [e]
end
section
/-! the machine over the flat memory: from every heap that holds M, with these locals and this stack, the machine comes to Q -/
def mw_ll : Nat → List (Option Value) → List (Nat × Value)
  | _, [] => []
  | i, none :: r => mw_ll (i + 1) r
  | i, some v :: r => (i, v) :: mw_ll (i + 1) r
theorem mw_ll_mem : ∀ (ls : List (Option Value)) (k j : Nat) (v : Value), (j, v) ∈ mw_ll k ls ↔ ∃ i, j = k + i ∧ ls[i]? = some (some v)
  | [], k, j, v => by simp [mw_ll]
  | none :: r, k, j, v => by
    rw [mw_ll, mw_ll_mem r (k + 1) j v]
    constructor
    · rintro ⟨i, h1, h2⟩
      exact ⟨i + 1, by omega, by rw [List.getElem?_cons_succ]; exact h2⟩
    · rintro ⟨i, h1, h2⟩
      cases i with
      | zero => simp at h2
      | succ i => exact ⟨i, by omega, by rw [List.getElem?_cons_succ] at h2; exact h2⟩
  | some w :: r, k, j, v => by
    rw [mw_ll, List.mem_cons, mw_ll_mem r (k + 1) j v]
    constructor
    · rintro (h | ⟨i, h1, h2⟩)
      · cases h
        exact ⟨0, by omega, rfl⟩
      · exact ⟨i + 1, by omega, by rw [List.getElem?_cons_succ]; exact h2⟩
    · rintro ⟨i, h1, h2⟩
      cases i with
      | zero =>
        rw [List.getElem?_cons_zero] at h2
        cases h2
        exact Or.inl (by rw [h1]; rfl)
      | succ i => exact Or.inr ⟨i, by omega, by rw [List.getElem?_cons_succ] at h2; exact h2⟩
def mw_L (la : Array Slot) (ls : List (Option Value)) : Prop := lv_has la ls.length (mw_ll 0 ls) ∧ ∀ v, some v ∈ ls → v.category = 1
theorem mw_L.at {la : Array Slot} {ls : List (Option Value)} (h : mw_L la ls) {i : Nat} {v : Value} (hi : ls[i]? = some (some v)) : la[i]? = some (.val v) := h.1.2.2 (i, v) ((mw_ll_mem ls 0 i v).mpr ⟨i, by omega, hi⟩)
theorem mw_L.set {la la2 : Array Slot} {ls : List (Option Value)} (h : mw_L la ls) {i : Nat} {v : Value} (hc : v.category = 1) (h2 : lv_has la2 ls.length ((i, v) :: (mw_ll 0 ls).filter (fun q => !(q.1 == i) && !(q.1 + 1 == i && q.2.category == 2)))) : mw_L la2 (ls.set i (some v)) := by
  refine ⟨⟨by rw [List.length_set]; exact h2.1, h2.2.1, fun q hq => ?_⟩, fun w hw => ?_⟩
  · obtain ⟨j, w⟩ := q
    obtain ⟨k, e, hk⟩ := (mw_ll_mem _ 0 j w).mp hq
    rw [Nat.zero_add] at e
    subst e
    apply h2.2.2
    by_cases hji : j = i
    · subst hji
      have hl : j < ls.length := by
        have := (List.getElem?_eq_some_iff.mp hk).1
        rwa [List.length_set] at this
      rw [List.getElem?_set_self hl] at hk
      cases hk
      exact List.mem_cons_self
    · rw [List.getElem?_set_ne (Ne.symm hji)] at hk
      refine List.mem_cons_of_mem _ (List.mem_filter.mpr ⟨(mw_ll_mem ls 0 j w).mpr ⟨j, by omega, hk⟩, ?_⟩)
      have hcat : w.category = 1 := h.2 w (List.mem_of_getElem? hk)
      simp [hji, hcat]
  · rcases List.mem_or_eq_of_mem_set hw with h3 | h3
    · exact h.2 w h3
    · cases h3
      exact hc
theorem mw_L.sub {la : Array Slot} {ls ls2 : List (Option Value)} (h : mw_L la ls) (hl : ls2.length = ls.length) (hs : ∀ (i : Nat) (v : Value), ls2[i]? = some (some v) → ls[i]? = some (some v)) : mw_L la ls2 := by
  refine ⟨⟨by rw [hl]; exact h.1.1, h.1.2.1, fun q hq => ?_⟩, fun v hv => ?_⟩
  · obtain ⟨j, w⟩ := q
    obtain ⟨k, e, hk⟩ := (mw_ll_mem _ 0 j w).mp hq
    rw [Nat.zero_add] at e
    subst e
    exact h.at (hs j w hk)
  · obtain ⟨i, hi⟩ := List.getElem?_of_mem hv
    exact h.2 v (List.mem_of_getElem? (hs i v hi))
def vv (p : Program) (l : Launch) (e : Env) (R : Room) (s : State) (m : MethodId) (args : Array Value) (below : List Frame) (meth : Method) (c : Code) (G : mw_GG) (cells slots : Nat) (Q : State → Prop) (M : mw_M) (pc : Nat) (ls : List (Option Value)) (st : List Value) : Prop :=
  ∀ (H : Heap) (locs : List Loc) (la : Array Slot), mw_W G M H → va_S (mw_A G) s.heap H locs → mw_L la ls → W p l e R s m args below meth c H locs cells slots Q (F0 m pc la st)
def vv_C (p : Program) (s : State) (m : MethodId) (args : Array Value) (c : Code) (G : mw_GG) (cc : ByteArray) (nL : Nat) (Ts : List Cond) (own : String) : Prop :=
  CallFix p m c cc nL s args Ts own ∧ mw_K G s ∧ mw_G G
section VV
variable {p : Program} {l : Launch} {e : Env} {R : Room} {s : State} {m : MethodId} {args : Array Value} {below : List Frame} {meth : Method} {c : Code} {G : mw_GG} {cells slots : Nat} {Q : State → Prop}
variable {cc : ByteArray} {nL : Nat} {Ts : List Cond} {own : String} {M : mw_M} {pc : Nat} {ls : List (Option Value)} {st : List Value}
theorem vv_iconst (C : vv_C p s m args c G cc nL Ts own) {n : Int} {v : Int32} (hd : decode cc pc = .ok (.iconst n, 1)) (hv : Int32.ofInt n = v) (k : vv p l e R s m args below meth c G cells slots Q M (pc + 1) ls (.int v :: st)) : vv p l e R s m args below meth c G cells slots Q M pc ls st := fun H locs la hW hS hL => lv_iconst C.1.1 C.1.2.1 hd hv (k H locs la hW hS hL)
theorem vv_bipush (C : vv_C p s m args c G cc nL Ts own) {n : Int} {v : Int32} (hd : decode cc pc = .ok (.bipush n, 2)) (hv : (Int8.ofInt n).toInt32 = v) (k : vv p l e R s m args below meth c G cells slots Q M (pc + 2) ls (.int v :: st)) : vv p l e R s m args below meth c G cells slots Q M pc ls st := fun H locs la hW hS hL => lv_bipush C.1.1 C.1.2.1 hd hv (k H locs la hW hS hL)
theorem vv_sipush (C : vv_C p s m args c G cc nL Ts own) {n : Int} {v : Int32} (hd : decode cc pc = .ok (.sipush n, 3)) (hv : (Int16.ofInt n).toInt32 = v) (k : vv p l e R s m args below meth c G cells slots Q M (pc + 3) ls (.int v :: st)) : vv p l e R s m args below meth c G cells slots Q M pc ls st := fun H locs la hW hS hL => lv_sipush C.1.1 C.1.2.1 hd hv (k H locs la hW hS hL)
theorem vv_iload_n (C : vv_C p s m args c G cc nL Ts own) {f : Fin 4} (i : Nat) {x : Int32} (hd : decode cc pc = .ok (.iload_n f, 1)) (hi : (f : Nat) = i) (hl : ls[i]? = some (some (.int x))) (k : vv p l e R s m args below meth c G cells slots Q M (pc + 1) ls (.int x :: st)) : vv p l e R s m args below meth c G cells slots Q M pc ls st := fun H locs la hW hS hL => lv_iload_n C.1.1 C.1.2.1 hd hi (hL.at hl) (k H locs la hW hS hL)
theorem vv_iload (C : vv_C p s m args c G cc nL Ts own) (i : Nat) {x : Int32} (hd : decode cc pc = .ok (.iload i, 2)) (hl : ls[i]? = some (some (.int x))) (k : vv p l e R s m args below meth c G cells slots Q M (pc + 2) ls (.int x :: st)) : vv p l e R s m args below meth c G cells slots Q M pc ls st := fun H locs la hW hS hL => lv_iload C.1.1 C.1.2.1 hd (hL.at hl) (k H locs la hW hS hL)
theorem vv_istore_n (C : vv_C p s m args c G cc nL Ts own) {f : Fin 4} (i : Nat) {x : Int32} {ls2 : List (Option Value)} (hd : decode cc pc = .ok (.istore_n f, 1)) (hi : (f : Nat) = i) (hn : i < ls.length) (hs : ls.set i (some (.int x)) = ls2) (k : vv p l e R s m args below meth c G cells slots Q M (pc + 1) ls2 st) : vv p l e R s m args below meth c G cells slots Q M pc ls (.int x :: st) := fun H locs la hW hS hL => lv_istore_n C.1.1 C.1.2.1 hd hi hL.1 hn rfl (fun la2 h2 => k H locs la2 hW hS (hs ▸ hL.set rfl h2))
theorem vv_istore (C : vv_C p s m args c G cc nL Ts own) (i : Nat) {x : Int32} {ls2 : List (Option Value)} (hd : decode cc pc = .ok (.istore i, 2)) (hn : i < ls.length) (hs : ls.set i (some (.int x)) = ls2) (k : vv p l e R s m args below meth c G cells slots Q M (pc + 2) ls2 st) : vv p l e R s m args below meth c G cells slots Q M pc ls (.int x :: st) := fun H locs la hW hS hL => lv_istore C.1.1 C.1.2.1 hd hL.1 hn rfl (fun la2 h2 => k H locs la2 hW hS (hs ▸ hL.set rfl h2))
theorem vv_aload_n (C : vv_C p s m args c G cc nL Ts own) {f : Fin 4} (i : Nat) {x : Nat} (hd : decode cc pc = .ok (.aload_n f, 1)) (hi : (f : Nat) = i) (hl : ls[i]? = some (some (.ref x))) (k : vv p l e R s m args below meth c G cells slots Q M (pc + 1) ls (.ref x :: st)) : vv p l e R s m args below meth c G cells slots Q M pc ls st := fun H locs la hW hS hL => lv_aload_n C.1.1 C.1.2.1 hd hi (hL.at hl) (k H locs la hW hS hL)
theorem vv_aload (C : vv_C p s m args c G cc nL Ts own) (i : Nat) {x : Nat} (hd : decode cc pc = .ok (.aload i, 2)) (hl : ls[i]? = some (some (.ref x))) (k : vv p l e R s m args below meth c G cells slots Q M (pc + 2) ls (.ref x :: st)) : vv p l e R s m args below meth c G cells slots Q M pc ls st := fun H locs la hW hS hL => lv_aload C.1.1 C.1.2.1 hd (hL.at hl) (k H locs la hW hS hL)
theorem vv_astore_n (C : vv_C p s m args c G cc nL Ts own) {f : Fin 4} (i : Nat) {x : Nat} {ls2 : List (Option Value)} (hd : decode cc pc = .ok (.astore_n f, 1)) (hi : (f : Nat) = i) (hn : i < ls.length) (hs : ls.set i (some (.ref x)) = ls2) (k : vv p l e R s m args below meth c G cells slots Q M (pc + 1) ls2 st) : vv p l e R s m args below meth c G cells slots Q M pc ls (.ref x :: st) := fun H locs la hW hS hL => lv_astore_n C.1.1 C.1.2.1 hd hi hL.1 hn rfl (fun la2 h2 => k H locs la2 hW hS (hs ▸ hL.set rfl h2))
theorem vv_astore (C : vv_C p s m args c G cc nL Ts own) (i : Nat) {x : Nat} {ls2 : List (Option Value)} (hd : decode cc pc = .ok (.astore i, 2)) (hn : i < ls.length) (hs : ls.set i (some (.ref x)) = ls2) (k : vv p l e R s m args below meth c G cells slots Q M (pc + 2) ls2 st) : vv p l e R s m args below meth c G cells slots Q M pc ls (.ref x :: st) := fun H locs la hW hS hL => lv_astore C.1.1 C.1.2.1 hd hL.1 hn rfl (fun la2 h2 => k H locs la2 hW hS (hs ▸ hL.set rfl h2))
theorem vv_iinc (C : vv_C p s m args c G cc nL Ts own) (i : Nat) {n : Int} {x v : Int32} {ls2 : List (Option Value)} (hd : decode cc pc = .ok (.iinc i n, 3)) (hl : ls[i]? = some (some (.int x))) (hv : x + Int32.ofInt n = v) (hs : ls.set i (some (.int v)) = ls2) (k : vv p l e R s m args below meth c G cells slots Q M (pc + 3) ls2 st) : vv p l e R s m args below meth c G cells slots Q M pc ls st := fun H locs la hW hS hL => by
  obtain ⟨j, hj⟩ := List.getElem?_of_mem ((mw_ll_mem ls 0 i (.int x)).mpr ⟨i, by omega, hl⟩)
  exact lv_iinc C.1.1 C.1.2.1 hd hL.1 hj hv (List.getElem?_eq_some_iff.mp hl).1 rfl (fun la2 h2 => k H locs la2 hW hS (hs ▸ hL.set rfl h2))
theorem vv_iadd (C : vv_C p s m args c G cc nL Ts own) {x y : Int32} (hd : decode cc pc = .ok (.iadd, 1)) (k : vv p l e R s m args below meth c G cells slots Q M (pc + 1) ls (.int (x + y) :: st)) : vv p l e R s m args below meth c G cells slots Q M pc ls (.int y :: .int x :: st) := fun H locs la hW hS hL => lv_iadd C.1.1 C.1.2.1 hd (k H locs la hW hS hL)
theorem vv_isub (C : vv_C p s m args c G cc nL Ts own) {x y : Int32} (hd : decode cc pc = .ok (.isub, 1)) (k : vv p l e R s m args below meth c G cells slots Q M (pc + 1) ls (.int (x - y) :: st)) : vv p l e R s m args below meth c G cells slots Q M pc ls (.int y :: .int x :: st) := fun H locs la hW hS hL => lv_isub C.1.1 C.1.2.1 hd (k H locs la hW hS hL)
theorem vv_imul (C : vv_C p s m args c G cc nL Ts own) {x y : Int32} (hd : decode cc pc = .ok (.imul, 1)) (k : vv p l e R s m args below meth c G cells slots Q M (pc + 1) ls (.int (x * y) :: st)) : vv p l e R s m args below meth c G cells slots Q M pc ls (.int y :: .int x :: st) := fun H locs la hW hS hL => lv_imul C.1.1 C.1.2.1 hd (k H locs la hW hS hL)
theorem vv_iand (C : vv_C p s m args c G cc nL Ts own) {x y : Int32} (hd : decode cc pc = .ok (.iand, 1)) (k : vv p l e R s m args below meth c G cells slots Q M (pc + 1) ls (.int (x &&& y) :: st)) : vv p l e R s m args below meth c G cells slots Q M pc ls (.int y :: .int x :: st) := fun H locs la hW hS hL => lv_iand C.1.1 C.1.2.1 hd (k H locs la hW hS hL)
theorem vv_ior (C : vv_C p s m args c G cc nL Ts own) {x y : Int32} (hd : decode cc pc = .ok (.ior, 1)) (k : vv p l e R s m args below meth c G cells slots Q M (pc + 1) ls (.int (x ||| y) :: st)) : vv p l e R s m args below meth c G cells slots Q M pc ls (.int y :: .int x :: st) := fun H locs la hW hS hL => lv_ior C.1.1 C.1.2.1 hd (k H locs la hW hS hL)
theorem vv_ishl (C : vv_C p s m args c G cc nL Ts own) {x y : Int32} (hd : decode cc pc = .ok (.ishl, 1)) (k : vv p l e R s m args below meth c G cells slots Q M (pc + 1) ls (.int (x <<< (y &&& 31)) :: st)) : vv p l e R s m args below meth c G cells slots Q M pc ls (.int y :: .int x :: st) := fun H locs la hW hS hL => lv_ishl C.1.1 C.1.2.1 hd (k H locs la hW hS hL)
theorem vv_ishr (C : vv_C p s m args c G cc nL Ts own) {x y : Int32} (hd : decode cc pc = .ok (.ishr, 1)) (k : vv p l e R s m args below meth c G cells slots Q M (pc + 1) ls (.int (x >>> (y &&& 31)) :: st)) : vv p l e R s m args below meth c G cells slots Q M pc ls (.int y :: .int x :: st) := fun H locs la hW hS hL => lv_ishr C.1.1 C.1.2.1 hd (k H locs la hW hS hL)
theorem vv_idiv (C : vv_C p s m args c G cc nL Ts own) {x y : Int32} (hd : decode cc pc = .ok (.idiv, 1)) (hne : ¬ y = 0) (k : vv p l e R s m args below meth c G cells slots Q M (pc + 1) ls (.int (x / y) :: st)) : vv p l e R s m args below meth c G cells slots Q M pc ls (.int y :: .int x :: st) := fun H locs la hW hS hL => lv_idiv C.1.1 C.1.2.1 hd hne (k H locs la hW hS hL)
theorem vv_irem (C : vv_C p s m args c G cc nL Ts own) {x y : Int32} (hd : decode cc pc = .ok (.irem, 1)) (hne : ¬ y = 0) (k : vv p l e R s m args below meth c G cells slots Q M (pc + 1) ls (.int (x - x / y * y) :: st)) : vv p l e R s m args below meth c G cells slots Q M pc ls (.int y :: .int x :: st) := fun H locs la hW hS hL => lv_irem C.1.1 C.1.2.1 hd hne (k H locs la hW hS hL)
theorem vv_ineg (C : vv_C p s m args c G cc nL Ts own) {x : Int32} (hd : decode cc pc = .ok (.ineg, 1)) (k : vv p l e R s m args below meth c G cells slots Q M (pc + 1) ls (.int (-x) :: st)) : vv p l e R s m args below meth c G cells slots Q M pc ls (.int x :: st) := fun H locs la hW hS hL => lv_ineg C.1.1 C.1.2.1 hd (k H locs la hW hS hL)
theorem vv_dup (C : vv_C p s m args c G cc nL Ts own) {v : Value} (hd : decode cc pc = .ok (.dup, 1)) (hc : v.category = 1) (k : vv p l e R s m args below meth c G cells slots Q M (pc + 1) ls (v :: v :: st)) : vv p l e R s m args below meth c G cells slots Q M pc ls (v :: st) := fun H locs la hW hS hL => lv_dup C.1.1 C.1.2.1 hd hc (k H locs la hW hS hL)
theorem vv_pop (C : vv_C p s m args c G cc nL Ts own) {v : Value} (hd : decode cc pc = .ok (.pop, 1)) (hc : v.category = 1) (k : vv p l e R s m args below meth c G cells slots Q M (pc + 1) ls st) : vv p l e R s m args below meth c G cells slots Q M pc ls (v :: st) := fun H locs la hW hS hL => lv_pop C.1.1 C.1.2.1 hd hc (k H locs la hW hS hL)
theorem vv_dup2 (C : vv_C p s m args c G cc nL Ts own) {v w : Value} (hd : decode cc pc = .ok (.dup2, 1)) (hc : v.category = 1) (hc2 : w.category = 1) (k : vv p l e R s m args below meth c G cells slots Q M (pc + 1) ls (v :: w :: v :: w :: st)) : vv p l e R s m args below meth c G cells slots Q M pc ls (v :: w :: st) := fun H locs la hW hS hL => lv_dup2_11 C.1.1 C.1.2.1 hd hc hc2 (k H locs la hW hS hL)
theorem vv_goto (C : vv_C p s m args c G cc nL Ts own) {off : Int} (tgt : Nat) (hd : decode cc pc = .ok (.goto off, 3)) (ht : (pc : Int) + off = (tgt : Int)) (k : vv p l e R s m args below meth c G cells slots Q M tgt ls st) : vv p l e R s m args below meth c G cells slots Q M pc ls st := fun H locs la hW hS hL => lv_goto C.1.1 C.1.2.1 hd ht (k H locs la hW hS hL)
theorem vv_if_eq (C : vv_C p s m args c G cc nL Ts own) {x : Int32} {off : Int} (tgt : Nat) (hd : decode cc pc = .ok (.ifCond .eq off, 3)) (ht : (pc : Int) + off = (tgt : Int)) (kt : x = 0 → vv p l e R s m args below meth c G cells slots Q M tgt ls st) (kf : ¬ x = 0 → vv p l e R s m args below meth c G cells slots Q M (pc + 3) ls st) : vv p l e R s m args below meth c G cells slots Q M pc ls (.int x :: st) := fun H locs la hW hS hL => lv_if_eq C.1.1 C.1.2.1 hd ht (fun z => kt z H locs la hW hS hL) (fun z => kf z H locs la hW hS hL)
theorem vv_icmp_eq (C : vv_C p s m args c G cc nL Ts own) {x y : Int32} {off : Int} (tgt : Nat) (hd : decode cc pc = .ok (.if_icmp .eq off, 3)) (ht : (pc : Int) + off = (tgt : Int)) (kt : x = y → vv p l e R s m args below meth c G cells slots Q M tgt ls st) (kf : ¬ x = y → vv p l e R s m args below meth c G cells slots Q M (pc + 3) ls st) : vv p l e R s m args below meth c G cells slots Q M pc ls (.int y :: .int x :: st) := fun H locs la hW hS hL => lv_icmp_eq C.1.1 C.1.2.1 hd ht (fun z => kt z H locs la hW hS hL) (fun z => kf z H locs la hW hS hL)
theorem vv_if_ne (C : vv_C p s m args c G cc nL Ts own) {x : Int32} {off : Int} (tgt : Nat) (hd : decode cc pc = .ok (.ifCond .ne off, 3)) (ht : (pc : Int) + off = (tgt : Int)) (kt : ¬ x = 0 → vv p l e R s m args below meth c G cells slots Q M tgt ls st) (kf : x = 0 → vv p l e R s m args below meth c G cells slots Q M (pc + 3) ls st) : vv p l e R s m args below meth c G cells slots Q M pc ls (.int x :: st) := fun H locs la hW hS hL => lv_if_ne C.1.1 C.1.2.1 hd ht (fun z => kt z H locs la hW hS hL) (fun z => kf z H locs la hW hS hL)
theorem vv_icmp_ne (C : vv_C p s m args c G cc nL Ts own) {x y : Int32} {off : Int} (tgt : Nat) (hd : decode cc pc = .ok (.if_icmp .ne off, 3)) (ht : (pc : Int) + off = (tgt : Int)) (kt : ¬ x = y → vv p l e R s m args below meth c G cells slots Q M tgt ls st) (kf : x = y → vv p l e R s m args below meth c G cells slots Q M (pc + 3) ls st) : vv p l e R s m args below meth c G cells slots Q M pc ls (.int y :: .int x :: st) := fun H locs la hW hS hL => lv_icmp_ne C.1.1 C.1.2.1 hd ht (fun z => kt z H locs la hW hS hL) (fun z => kf z H locs la hW hS hL)
theorem vv_if_lt (C : vv_C p s m args c G cc nL Ts own) {x : Int32} {off : Int} (tgt : Nat) (hd : decode cc pc = .ok (.ifCond .lt off, 3)) (ht : (pc : Int) + off = (tgt : Int)) (kt : x < 0 → vv p l e R s m args below meth c G cells slots Q M tgt ls st) (kf : ¬ x < 0 → vv p l e R s m args below meth c G cells slots Q M (pc + 3) ls st) : vv p l e R s m args below meth c G cells slots Q M pc ls (.int x :: st) := fun H locs la hW hS hL => lv_if_lt C.1.1 C.1.2.1 hd ht (fun z => kt z H locs la hW hS hL) (fun z => kf z H locs la hW hS hL)
theorem vv_icmp_lt (C : vv_C p s m args c G cc nL Ts own) {x y : Int32} {off : Int} (tgt : Nat) (hd : decode cc pc = .ok (.if_icmp .lt off, 3)) (ht : (pc : Int) + off = (tgt : Int)) (kt : x < y → vv p l e R s m args below meth c G cells slots Q M tgt ls st) (kf : ¬ x < y → vv p l e R s m args below meth c G cells slots Q M (pc + 3) ls st) : vv p l e R s m args below meth c G cells slots Q M pc ls (.int y :: .int x :: st) := fun H locs la hW hS hL => lv_icmp_lt C.1.1 C.1.2.1 hd ht (fun z => kt z H locs la hW hS hL) (fun z => kf z H locs la hW hS hL)
theorem vv_if_ge (C : vv_C p s m args c G cc nL Ts own) {x : Int32} {off : Int} (tgt : Nat) (hd : decode cc pc = .ok (.ifCond .ge off, 3)) (ht : (pc : Int) + off = (tgt : Int)) (kt : 0 ≤ x → vv p l e R s m args below meth c G cells slots Q M tgt ls st) (kf : ¬ 0 ≤ x → vv p l e R s m args below meth c G cells slots Q M (pc + 3) ls st) : vv p l e R s m args below meth c G cells slots Q M pc ls (.int x :: st) := fun H locs la hW hS hL => lv_if_ge C.1.1 C.1.2.1 hd ht (fun z => kt z H locs la hW hS hL) (fun z => kf z H locs la hW hS hL)
theorem vv_icmp_ge (C : vv_C p s m args c G cc nL Ts own) {x y : Int32} {off : Int} (tgt : Nat) (hd : decode cc pc = .ok (.if_icmp .ge off, 3)) (ht : (pc : Int) + off = (tgt : Int)) (kt : y ≤ x → vv p l e R s m args below meth c G cells slots Q M tgt ls st) (kf : ¬ y ≤ x → vv p l e R s m args below meth c G cells slots Q M (pc + 3) ls st) : vv p l e R s m args below meth c G cells slots Q M pc ls (.int y :: .int x :: st) := fun H locs la hW hS hL => lv_icmp_ge C.1.1 C.1.2.1 hd ht (fun z => kt z H locs la hW hS hL) (fun z => kf z H locs la hW hS hL)
theorem vv_if_gt (C : vv_C p s m args c G cc nL Ts own) {x : Int32} {off : Int} (tgt : Nat) (hd : decode cc pc = .ok (.ifCond .gt off, 3)) (ht : (pc : Int) + off = (tgt : Int)) (kt : 0 < x → vv p l e R s m args below meth c G cells slots Q M tgt ls st) (kf : ¬ 0 < x → vv p l e R s m args below meth c G cells slots Q M (pc + 3) ls st) : vv p l e R s m args below meth c G cells slots Q M pc ls (.int x :: st) := fun H locs la hW hS hL => lv_if_gt C.1.1 C.1.2.1 hd ht (fun z => kt z H locs la hW hS hL) (fun z => kf z H locs la hW hS hL)
theorem vv_icmp_gt (C : vv_C p s m args c G cc nL Ts own) {x y : Int32} {off : Int} (tgt : Nat) (hd : decode cc pc = .ok (.if_icmp .gt off, 3)) (ht : (pc : Int) + off = (tgt : Int)) (kt : y < x → vv p l e R s m args below meth c G cells slots Q M tgt ls st) (kf : ¬ y < x → vv p l e R s m args below meth c G cells slots Q M (pc + 3) ls st) : vv p l e R s m args below meth c G cells slots Q M pc ls (.int y :: .int x :: st) := fun H locs la hW hS hL => lv_icmp_gt C.1.1 C.1.2.1 hd ht (fun z => kt z H locs la hW hS hL) (fun z => kf z H locs la hW hS hL)
theorem vv_if_le (C : vv_C p s m args c G cc nL Ts own) {x : Int32} {off : Int} (tgt : Nat) (hd : decode cc pc = .ok (.ifCond .le off, 3)) (ht : (pc : Int) + off = (tgt : Int)) (kt : x ≤ 0 → vv p l e R s m args below meth c G cells slots Q M tgt ls st) (kf : ¬ x ≤ 0 → vv p l e R s m args below meth c G cells slots Q M (pc + 3) ls st) : vv p l e R s m args below meth c G cells slots Q M pc ls (.int x :: st) := fun H locs la hW hS hL => lv_if_le C.1.1 C.1.2.1 hd ht (fun z => kt z H locs la hW hS hL) (fun z => kf z H locs la hW hS hL)
theorem vv_icmp_le (C : vv_C p s m args c G cc nL Ts own) {x y : Int32} {off : Int} (tgt : Nat) (hd : decode cc pc = .ok (.if_icmp .le off, 3)) (ht : (pc : Int) + off = (tgt : Int)) (kt : x ≤ y → vv p l e R s m args below meth c G cells slots Q M tgt ls st) (kf : ¬ x ≤ y → vv p l e R s m args below meth c G cells slots Q M (pc + 3) ls st) : vv p l e R s m args below meth c G cells slots Q M pc ls (.int y :: .int x :: st) := fun H locs la hW hS hL => lv_icmp_le C.1.1 C.1.2.1 hd ht (fun z => kt z H locs la hW hS hL) (fun z => kf z H locs la hW hS hL)
/-- a truth value -/
def bI (q : Prop) [Decidable q] : Int32 := if q then 1 else 0
theorem bI_t {q : Prop} [Decidable q] (h : q) : bI q = 1 := if_pos h
theorem bI_f {q : Prop} [Decidable q] (h : ¬ q) : bI q = 0 := if_neg h
theorem bI_0 {q : Prop} [Decidable q] : bI q = 0 ↔ ¬ q := by
  by_cases h : q
  · rw [bI_t h]; exact ⟨fun z => absurd z (by decide), fun z => absurd h z⟩
  · rw [bI_f h]; exact ⟨fun _ => h, fun _ => rfl⟩
theorem bI_c {q r : Prop} [Decidable q] [Decidable r] (h : q ↔ r) : bI q = bI r := by
  by_cases z : q
  · rw [bI_t z, bI_t (h.mp z)]
  · rw [bI_f z, bI_f (fun w => z (h.mpr w))]
theorem bI_n {q : Prop} [Decidable q] : narrow .boolean (.int (bI q)) = .int (bI q) := by
  by_cases h : q
  · rw [bI_t h]; decide
  · rw [bI_f h]; decide
theorem vv_bif_eq (C : vv_C p s m args c G cc nL Ts own) {q : Prop} [Decidable q] {off : Int} (tgt : Nat) (hd : decode cc pc = .ok (.ifCond .eq off, 3)) (ht : (pc : Int) + off = (tgt : Int)) (kt : ¬ q → vv p l e R s m args below meth c G cells slots Q M tgt ls st) (kf : q → vv p l e R s m args below meth c G cells slots Q M (pc + 3) ls st) : vv p l e R s m args below meth c G cells slots Q M pc ls (.int (bI q) :: st) := fun H locs la hW hS hL => lv_if_eq C.1.1 C.1.2.1 hd ht (fun z => kt (bI_0.mp z) H locs la hW hS hL) (fun z => kf (Classical.not_not.mp (fun w => z (bI_0.mpr w))) H locs la hW hS hL)
theorem vv_bif_ne (C : vv_C p s m args c G cc nL Ts own) {q : Prop} [Decidable q] {off : Int} (tgt : Nat) (hd : decode cc pc = .ok (.ifCond .ne off, 3)) (ht : (pc : Int) + off = (tgt : Int)) (kt : q → vv p l e R s m args below meth c G cells slots Q M tgt ls st) (kf : ¬ q → vv p l e R s m args below meth c G cells slots Q M (pc + 3) ls st) : vv p l e R s m args below meth c G cells slots Q M pc ls (.int (bI q) :: st) := fun H locs la hW hS hL => lv_if_ne C.1.1 C.1.2.1 hd ht (fun z => kt (Classical.not_not.mp (fun w => z (bI_0.mpr w))) H locs la hW hS hL) (fun z => kf (bI_0.mp z) H locs la hW hS hL)
theorem vv_tsOut (C : vv_C p s m args c G cc nL Ts own) {dflt lo hi : Int} {offs : Array Int} {len : Nat} {x : Int32} (tgt : Nat) (hd : decode cc pc = .ok (.tableswitch dflt lo hi offs, len)) (h : x.toInt < lo ∨ hi < x.toInt) (ht : (pc : Int) + dflt = (tgt : Int)) (k : vv p l e R s m args below meth c G cells slots Q M tgt ls st) : vv p l e R s m args below meth c G cells slots Q M pc ls (.int x :: st) := fun H locs la hW hS hL => lv_tableOut C.1.1 C.1.2.1 hd h ht (k H locs la hW hS hL)
theorem vv_tsIn (C : vv_C p s m args c G cc nL Ts own) {dflt lo hi : Int} {offs : Array Int} {len : Nat} {x : Int32} (v : Int32) {off : Int} (tgt : Nat) (hd : decode cc pc = .ok (.tableswitch dflt lo hi offs, len)) (hv : x = v) (h1 : ¬ v.toInt < lo) (h2 : ¬ hi < v.toInt) (ho : offs[(v.toInt - lo).toNat]? = some off) (ht : (pc : Int) + off = (tgt : Int)) (k : vv p l e R s m args below meth c G cells slots Q M tgt ls st) : vv p l e R s m args below meth c G cells slots Q M pc ls (.int x :: st) := fun H locs la hW hS hL => lv_tableIn C.1.1 C.1.2.1 hd (by rw [hv]; exact h1) (by rw [hv]; exact h2) (by rw [hv]; exact ho) ht (k H locs la hW hS hL)
theorem vv_lookup (C : vv_C p s m args c G cc nL Ts own) {dflt : Int} {ps : Array (Int × Int)} {len : Nat} {x : Int32} {off : Int} (tgt : Nat) (hd : decode cc pc = .ok (.lookupswitch dflt ps, len)) (hp : (ps.toList.zip (ps.toList.drop 1)).all (fun (a, next) => a.1 < next.1) = true) (ho : Op.lookupswitch.offset ps.toList dflt x.toInt = off) (ht : (pc : Int) + off = (tgt : Int)) (k : vv p l e R s m args below meth c G cells slots Q M tgt ls st) : vv p l e R s m args below meth c G cells slots Q M pc ls (.int x :: st) := fun H locs la hW hS hL => lv_lookup C.1.1 C.1.2.1 hd hp ho ht (k H locs la hW hS hL)
theorem vv_memEq {M2 : mw_M} (h : ∀ q, M2 q = M q) (k : vv p l e R s m args below meth c G cells slots Q M2 pc ls st) : vv p l e R s m args below meth c G cells slots Q M pc ls st := fun H locs la hW hS hL => k H locs la (hW.eq (fun q => (h q).symm)) hS hL
theorem vv_memTo {M2 : mw_M} (h : ∀ (c : Nat) (sh : mw_Sh), mw_S[c]? = some sh → ∀ q ∈ mw_pos sh, M q = M2 q) (k : vv p l e R s m args below meth c G cells slots Q M2 pc ls st) : vv p l e R s m args below meth c G cells slots Q M pc ls st := fun H locs la hW hS hL => k H locs la (hW.congr h) hS hL
theorem vv_lsTo {ls2 : List (Option Value)} (hl : ls2.length = ls.length) (hs : ∀ (i : Nat) (v : Value), ls2[i]? = some (some v) → ls[i]? = some (some v)) (k : vv p l e R s m args below meth c G cells slots Q M pc ls2 st) : vv p l e R s m args below meth c G cells slots Q M pc ls st := fun H locs la hW hS hL => k H locs la hW hS (hL.sub hl hs)
theorem mw_map_at {ad : Nat → Nat} {M : mw_M} {fs : List (Nat ⊕ Nat)} {j : Nat} {f : Nat ⊕ Nat} (h : fs[j]? = some f) : (fs.map (mw_fv ad M))[j]? = some (mw_fv ad M f) := by rw [List.getElem?_map, h]; rfl
theorem vv_getf (C : vv_C p s m args c G cc nL Ts own) {Cn : String} {T : u_T} {N ci index a : Nat} {fs : List (Nat ⊕ Nat)} {f : Nat ⊕ Nat} (hs : mw_S[a]? = some (.inr (ci, fs))) (j : Nat) (hf : fs[j]? = some f) (hc : vwCl[ci]? = some (Cn, T, N)) (hj : j < N) (hin : ∀ w ∈ u_ws Cn T N, w ∈ Ts) (hlink : (Cond.fieldLink own index Cn (T j).2.1 (T j).2.2.1) ∈ Ts) (hT : (T j).1 = Cn) (hd : decode cc pc = .ok (.getfield index, 3)) (k : vv p l e R s m args below meth c G cells slots Q M (pc + 3) ls (mw_fv G.1 M f :: st)) : vv p l e R s m args below meth c G cells slots Q M pc ls (.ref (G.1 a) :: st) := fun H locs la hW hS hL =>
  va_get C.1.1 C.1.2.1 C.1.2.2.2.2 hin C.1.2.2.2.1 C.2.1 hW a (mw_l_at hs) hc j hj (C.1.2.2.2.2 _ hlink) (fun x hx => by rw [hT] at hx; exact hx) (mw_map_at hf) hd (k H locs la hW hS hL)
theorem vv_putf (C : vv_C p s m args c G cc nL Ts own) {Cn : String} {T : u_T} {N ci index a q : Nat} {x : Int32} {fs : List (Nat ⊕ Nat)} {ty0 : Nat → FieldType} (hs : mw_S[a]? = some (.inr (ci, fs))) (j : Nat) (hf : fs[j]? = some (.inr q)) (hc : vwCl[ci]? = some (Cn, T, N)) (hj : j < N) (hin : ∀ w ∈ u_ws Cn T N, w ∈ Ts) (hlink : (Cond.fieldLink own index Cn (T j).2.1 (T j).2.2.1) ∈ Ts) (hT : (T j).1 = Cn)
    (hty : ∀ k, k < N → parseFieldDescriptor (T k).2.2.1 = some (ty0 k)) (hnm : ∀ a, a < N → ∀ b, b < N → a ≠ b → (T a).2.1 ≠ (T b).2.1) (hfin : (T j).2.2.2 = false) (hI : parseFieldDescriptor (T j).2.2.1 = some .int) (hd : decode cc pc = .ok (.putfield index, 3)) (k : vv p l e R s m args below meth c G cells slots Q (upd M q x) (pc + 3) ls st) : vv p l e R s m args below meth c G cells slots Q M pc ls (.int x :: .ref (G.1 a) :: st) := fun H locs la hW hS hL =>
  va_put C.1.1 C.1.2.1 C.1.2.2.2.2 hin ty0 hty hnm C.1.2.2.2.1 C.2.1 hW (mw_D C.2.2) hS a (mw_l_at hs) hc j hj (C.1.2.2.2.2 _ hlink) (fun x hx => by rw [hT] at hx; exact hx) hfin hI rfl rfl (by rw [List.length_map]; exact (List.getElem?_eq_some_iff.mp hf).1) hd (fun H1 locs1 hP hD hS1 => k H1 locs1 la (mw_set hs (List.mem_filterMap.mpr ⟨.inr q, List.mem_of_getElem? hf, rfl⟩) (mw_e_obj hs hf) hP) hS1 hL)
theorem vv_iald (C : vv_C p s m args c G cc nL Ts own) {a n b t : Nat} (hs : mw_S[a]? = some (.inl (n, b, t))) {i : Int32} (hi : vp_in i n) (hd : decode cc pc = .ok (.iaload, 1)) (k : vv p l e R s m args below meth c G cells slots Q M (pc + 1) ls (.int (M (b + t * i.toNatClampNeg)) :: st)) : vv p l e R s m args below meth c G cells slots Q M pc ls (.int i :: .ref (G.1 a) :: st) := fun H locs la hW hS hL =>
  va_iald C.1.1 C.1.2.1 C.2.1 hW a 0 (mw_l_at hs) rfl hi hd (k H locs la hW hS hL)
theorem vv_iast (C : vv_C p s m args c G cc nL Ts own) {a n b t : Nat} (hs : mw_S[a]? = some (.inl (n, b, t))) {i x : Int32} (hi : vp_in i n) (hd : decode cc pc = .ok (.iastore, 1)) (k : vv p l e R s m args below meth c G cells slots Q (upd M (b + t * i.toNatClampNeg) x) (pc + 1) ls st) : vv p l e R s m args below meth c G cells slots Q M pc ls (.int x :: .int i :: .ref (G.1 a) :: st) := fun H locs la hW hS hL =>
  va_iast C.1.1 C.1.2.1 C.2.1 hW (mw_D C.2.2) hS a 0 (mw_l_at hs) rfl hi hd (fun H1 locs1 hP hD hS1 => k H1 locs1 la (mw_set hs (List.mem_map.mpr ⟨_, List.mem_range.mpr (Nat.not_le.mp (fun z => hi (Or.inr z))), rfl⟩) (mw_e_arr hs) hP) hS1 hL)
theorem vv_alen (C : vv_C p s m args c G cc nL Ts own) {a n b t : Nat} (hs : mw_S[a]? = some (.inl (n, b, t))) {v : Int32} (hv : Int32.ofNat n = v) (hd : decode cc pc = .ok (.arraylength, 1)) (k : vv p l e R s m args below meth c G cells slots Q M (pc + 1) ls (.int v :: st)) : vv p l e R s m args below meth c G cells slots Q M pc ls (.ref (G.1 a) :: st) := fun H locs la hW hS hL =>
  va_alen C.1.1 C.1.2.1 C.2.1 hW a 0 (mw_l_at hs) rfl hv hd (k H locs la hW hS hL)
/-- what a method over the flat memory does: Qr says of its answer and of the memory behind it -/
def mw_Q (G : mw_GG) (Qr : Option Value → mw_M → Prop) (st : State) (oc : Outcome) (t : State) : Prop := (∃ r M2, oc = .returned r ∧ Qr r M2 ∧ mw_W G M2 t.heap) ∧ va_F (mw_A G) st t
def mw_Pc (G : mw_GG) (vs : List Value) (M : mw_M) : Array Value → State → Prop := va_Pc vs (fun U => mw_W G M U.heap ∧ mw_K G U)
def mw_Met (l : Launch) (y : MethodName) (ws : List Cond) (rm : Room) (G : mw_GG) (vs : List Value) (M : mw_M) (Qr : Option Value → mw_M → Prop) : Prop := mw_G G → Met l y ws rm (mw_Pc G vs M) (fun _ st oc t => mw_Q G Qr st oc t) 0 0 (mw_A G)
theorem mw_blind {vs : List Value} : FrameBlind (mw_Pc G vs M) := fun a U g mk hq => ⟨hq.1, hq.2.1, va_K.moved (u := U) (U := U.calling g mk a) (Vm.Alike.refl U.vm) hq.2.2⟩
theorem mw_go {rest : List Value} {la : Array Slot} {st0 : List Value} {H : Heap} {locs : List Loc} {Qr : Option Value → mw_M → Prop} (hr : va_Run p l e R s m args below meth c H locs cells slots 0 0 (F0 m pc la st0) rest (mw_Q G Qr) (mw_A G)) (hS : va_S (mw_A G) s.heap H locs) (hL : mw_L la ls)
    (kk : ∀ r M2, Qr r M2 → vv p l e R s m args below meth c G cells slots Q M2 (pc + 3) ls (r.toList ++ rest)) : W p l e R s m args below meth c H locs cells slots Q (F0 m pc la st0) := by
  intro T hT X
  obtain ⟨v, st₀, t, T', L, h0, X', hL2, e1, e2, ⟨⟨r, M2, hv, hp, hb⟩, hz, hk⟩, stp⟩ := hr T hT X
  cases hv
  rw [h0] at hz hk
  obtain ⟨t2, a1, b1⟩ := kk v M2 hp T'.heap (locs ++ L) la (by rw [e1]; exact hb)
    ⟨Nat.le_trans hS.1 (by rw [e1]; exact hz), fun q h1 h2 => by rw [e1, hk q (Nat.lt_of_lt_of_le h1 hS.1) h2]; exact hS.2.1 q h1 h2, fun q hq => by
      rcases List.mem_append.mp hq with h | h
      · exact hS.2.2 q h
      · exact hL2 q h⟩ hL T' rfl X'
  exact ⟨t2, stp t2 a1, b1⟩
theorem vv_callV (C : vv_C p s m args c G cc nL Ts own) {y : MethodName} {ws : List Cond} {rm : Room} {a : Nat} (As : List Value) {Qr : Option Value → mw_M → Prop} (hM : mw_Met l y ws rm G (.ref (G.1 a) :: As) M Qr) {Cn : String} {T : u_T} {N ci index maxL n : Nat} {bytes : ByteArray} {ret : Option FieldType} {fs : List (Nat ⊕ Nat)} (hs : mw_S[a]? = some (.inr (ci, fs))) (hc : vwCl[ci]? = some (Cn, T, N))
    (cw : CallW R s args own Cn index y bytes maxL ret ws rm 0 0 n) (hn : As.length = n) (hlen : ls.length = nL) {stk : List Value} (hst : stk = As.reverse ++ .ref (G.1 a) :: st) (hcat : (st.map fun v => v.category).sum ≤ 8) (hd : decode cc pc = .ok (.invokevirtual index, 3)) (hf : cells ≤ R.cells ∧ slots ≤ R.slots)
    (kk : ∀ r M2, Qr r M2 → vv p l e R s m args below meth c G cells slots Q M2 (pc + 3) ls (r.toList ++ st)) : vv p l e R s m args below meth c G cells slots Q M pc ls stk := fun H locs la hW hS hL => by
  refine mw_go (va_runV (As := As) (rest := st) C.1 (hM C.2.2) cw ⟨mw_blind, va_recv (q := (Cn, T, N)) C.2.1 hW hc (mw_l_at hs), fun U hU hW2 => ⟨rfl, by rw [hU]; exact hW, va_K.moved hW2.alike C.2.1⟩⟩ rfl hn ?_ hst (lv_room hcat) hd hf) hS hL kk
  rw [← hlen]; exact hL.1.1
theorem vv_callS (C : vv_C p s m args c G cc nL Ts own) {y : MethodName} {ws : List Cond} {rm : Room} (As : List Value) {Qr : Option Value → mw_M → Prop} (hM : mw_Met l y ws rm G As M Qr) {index maxL n : Nat} {bytes : ByteArray} {ret : Option FieldType}
    (cw : CallB R s args own index y bytes maxL ret ws rm 0 0 n ∧ (Cond.static y).before args s = true) (hn : As.length = n) (hlen : ls.length = nL) {stk : List Value} (hst : stk = As.reverse ++ st) (hcat : (st.map fun v => v.category).sum ≤ 8) (hd : decode cc pc = .ok (.invokestatic index, 3)) (hf : cells ≤ R.cells ∧ slots ≤ R.slots)
    (kk : ∀ r M2, Qr r M2 → vv p l e R s m args below meth c G cells slots Q M2 (pc + 3) ls (r.toList ++ st)) : vv p l e R s m args below meth c G cells slots Q M pc ls stk := fun H locs la hW hS hL => by
  refine mw_go (va_runS (As := As) (rest := st) C.1 (hM C.2.2) cw ⟨mw_blind, fun U hU hW2 => ⟨rfl, by rw [hU]; exact hW, va_K.moved hW2.alike C.2.1⟩⟩ rfl hn ?_ hst (lv_room hcat) hd hf) hS hL kk
  rw [← hlen]; exact hL.1.1
end VV
section VE
variable {p : Program} {l : Launch} {e : Env} {R : Room} {s : State} {m : MethodId} {args : Array Value} {below : List Frame} {meth : Method} {c : Code} {G : mw_GG} {Qr : Option Value → mw_M → Prop}
variable {cc : ByteArray} {nL : Nat} {Ts : List Cond} {own : String} {M : mw_M} {pc : Nat} {ls : List (Option Value)}
/-- where a method's own walk ends -/
abbrev mw_E (below : List Frame) (args : Array Value) (s : State) (G : mw_GG) (Qr : Option Value → mw_M → Prop) : State → Prop := MQ below (fun _ st oc t => mw_Q G Qr st oc t) args s 0 0 (mw_A G)
/-- a method's end's own facts -/
def vv_R (meth : Method) (ret : Option FieldType) : Prop := meth.sig.returnType = ret ∧ meth.locks = false
theorem vv_iret (C : vv_C p s m args c G cc nL Ts own) (hR : vv_R meth (some .int)) {v : Int32} (hd : decode cc pc = .ok (.ireturn, 1)) (hq : Qr (some (.int v)) M) : vv p l e R s m args below meth c G 0 0 (mw_E below args s G Qr) M pc ls [.int v] := fun H locs la hW hS hL =>
  W.iret C.1.1 C.1.2.1 hR.1 (fun t ht hW2 => ⟨⟨_, M, rfl, hq, by rw [ht]; exact hW⟩, hS.F ht⟩) hS.2.2 hd hR.2
theorem vv_zret (C : vv_C p s m args c G cc nL Ts own) (hR : vv_R meth (some .boolean)) {q : Prop} [Decidable q] (hd : decode cc pc = .ok (.ireturn, 1)) (hq : Qr (some (.int (bI q))) M) : vv p l e R s m args below meth c G 0 0 (mw_E below args s G Qr) M pc ls [.int (bI q)] := fun H locs la hW hS hL =>
  W.zret C.1.1 C.1.2.1 hR.1 bI_n (fun t ht hW2 => ⟨⟨_, M, rfl, hq, by rw [ht]; exact hW⟩, hS.F ht⟩) hS.2.2 hd hR.2
theorem vv_zret1 (C : vv_C p s m args c G cc nL Ts own) (hR : vv_R meth (some .boolean)) (hd : decode cc pc = .ok (.ireturn, 1)) (hq : Qr (some (.int 1)) M) : vv p l e R s m args below meth c G 0 0 (mw_E below args s G Qr) M pc ls [.int 1] := fun H locs la hW hS hL =>
  W.zret C.1.1 C.1.2.1 hR.1 rfl (fun t ht hW2 => ⟨⟨_, M, rfl, hq, by rw [ht]; exact hW⟩, hS.F ht⟩) hS.2.2 hd hR.2
theorem vv_zret0 (C : vv_C p s m args c G cc nL Ts own) (hR : vv_R meth (some .boolean)) (hd : decode cc pc = .ok (.ireturn, 1)) (hq : Qr (some (.int 0)) M) : vv p l e R s m args below meth c G 0 0 (mw_E below args s G Qr) M pc ls [.int 0] := fun H locs la hW hS hL =>
  W.zret C.1.1 C.1.2.1 hR.1 rfl (fun t ht hW2 => ⟨⟨_, M, rfl, hq, by rw [ht]; exact hW⟩, hS.F ht⟩) hS.2.2 hd hR.2
theorem vv_vret (C : vv_C p s m args c G cc nL Ts own) (hR : vv_R meth none) (hd : decode cc pc = .ok (.return_, 1)) (hq : Qr none M) : vv p l e R s m args below meth c G 0 0 (mw_E below args s G Qr) M pc ls [] := fun H locs la hW hS hL =>
  W.vret C.1.1 C.1.2.1 hR.1 (fun t ht hW2 => ⟨⟨_, M, rfl, hq, by rw [ht]; exact hW⟩, hS.F ht⟩) hS.2.2 hd hR.2
theorem vv_aret (C : vv_C p s m args c G cc nL Ts own) {Cn : String} (hR : vv_R meth (some (.object Cn))) {a : Nat} (hd : decode cc pc = .ok (.areturn, 1)) (hq : Qr (some (.ref a)) M) : vv p l e R s m args below meth c G 0 0 (mw_E below args s G Qr) M pc ls [.ref a] := fun H locs la hW hS hL =>
  W.aret C.1.1 C.1.2.1 hR.1 (Or.inl ⟨_, rfl⟩) (Or.inr ⟨_, rfl⟩) (fun t ht hW2 => ⟨⟨_, M, rfl, hq, by rw [ht]; exact hW⟩, hS.F ht⟩) hS.2.2 hd hR.2
end VE
def mw_one (vs : List Value) : Bool := vs.all (fun v => match v with | .int _ => true | .ref _ => true | _ => false)
theorem mw_one_cat {vs : List Value} (h : mw_one vs = true) : ∀ v ∈ vs, v.category = 1 := by
  intro v hv
  have h1 := List.all_eq_true.mp h v hv
  cases v <;> first | rfl | simp at h1
theorem mw_args_ll : ∀ (vs : List Value) (k n : Nat), (∀ v ∈ vs, v.category = 1) → lv_args k vs = mw_ll k (vs.map some ++ List.replicate n none)
  | [], k, n, _ => by
    have h : ∀ n k, mw_ll k (List.replicate n none) = [] := by
      intro n
      induction n with
      | zero => intro k; rfl
      | succ n ih => intro k; rw [List.replicate_succ, mw_ll]; exact ih (k + 1)
    simp [lv_args, h]
  | v :: vs, k, n, h => by
    have hv : v.category = 1 := h v List.mem_cons_self
    rw [lv_args, if_neg (by omega), List.map_cons, List.cons_append, mw_ll, mw_args_ll vs (k + 1) n (fun w hw => h w (List.mem_cons_of_mem _ hw))]
theorem mw_slots : ∀ (vs : List Value), (∀ v ∈ vs, v.category = 1) → (lg_sl vs).length = vs.length
  | [], _ => rfl
  | v :: vs, h => by
    have hv : v.category = 1 := h v List.mem_cons_self
    have := mw_slots vs (fun w hw => h w (List.mem_cons_of_mem _ hw))
    unfold lg_sl at this ⊢
    rw [List.flatMap_cons, List.length_append, this, if_neg (by omega)]
    simp; omega
/-- a method's contract out of its walk over the flat memory -/
theorem mw_ofV {l : Launch} {y : MethodName} {ws ws' : List Cond} {rm : Room} {G : mw_GG} {vs : List Value} {M : mw_M} {Qr : Option Value → mw_M → Prop} {cc : ByteArray} (maxL : Nat) {ret : Option FieldType} (hy : plainName y.cls = true) (hw : ws = Cond.code y cc maxL ret :: ws') (h1 : mw_one vs = true) (hn : vs.length ≤ maxL)
    (body : ∀ p e s m args below meth c, vv_C p s m args c G cc maxL ws y.cls → vv_R meth ret → meth.name = y.name → vv p l e rm s m args below meth c G 0 0 (mw_E below args s G Qr) M 0 (vs.map some ++ List.replicate (maxL - vs.length) none) []) : mw_Met l y ws rm G vs M Qr := by
  intro hG
  refine Met.ofW (cc := cc) (maxL := maxL) (ret := ret) hy hw ?_
  intro p e s m args below meth c s₁ B hml hv
  obtain ⟨rfl, hW, hK⟩ := hv
  have hc := mw_one_cat h1
  have hsl := mw_slots vs hc
  have hl := lv_entry vs (n := maxL) (by rw [hsl]; exact hn)
  rw [lg_entry_eq]
  have C : vv_C p s m vs.toArray c G cc maxL ws y.cls := ⟨⟨B.exec, B.bytes, hml, findClass_of_methodNamed B.named, atoms_spec (ws := ws) B.pre⟩, hK, hG⟩
  refine body p e s m _ below meth c C ⟨B.returns, B.notSynchronized⟩ (name_of_methodNamed B.named B.method).1 s.heap [] _ hW va_S.rf ?_
  refine ⟨?_, fun v hv => ?_⟩
  · rw [← mw_args_ll vs 0 (maxL - vs.length) hc]
    have e : (vs.map some ++ List.replicate (maxL - vs.length) (none : Option Value)).length = maxL := by simp; omega
    rw [e]
    exact hl
  · rcases List.mem_append.mp hv with h | h
    · obtain ⟨w, hw2, e⟩ := List.mem_map.mp h
      exact Option.some.inj e ▸ hc w hw2
    · exact absurd (List.eq_of_mem_replicate h) (by simp)
end
section
/-! shapes by name, answers by kind, shorter rows -/
def mw_Nu (a n b t : Nat) : Prop := mw_S[a]? = some (.inr (3, [.inl (a + 1)])) ∧ mw_S[a + 1]? = some (.inl (n, b, t))
def mw_Ex (x b : Nat) : Prop := mw_S[x]? = some (.inr (1, [.inl (x + 1), .inl (x + 3), .inl (x + 5)])) ∧ mw_Nu (x + 1) 4 b 3 ∧ mw_Nu (x + 3) 4 (b + 1) 3 ∧ mw_Nu (x + 5) 4 (b + 2) 3
def mw_Dr (x P d : Nat) : Prop := mw_S[x]? = some (.inr (0, [.inl (x + 1), .inl (x + 3), .inr (P + d), .inr (P + 2 + d)])) ∧ mw_Nu (x + 1) 48 (P + 4 + 48 * d) 1 ∧ mw_Ex (x + 3) (P + 100 + 12 * d)
def mw_St (x P : Nat) : Prop := mw_S[x]? = some (.inr (6, [.inl (x + 1), .inl (x + 11), .inl (x + 21), .inl (x + 23), .inr (P + 124), .inr (P + 129)])) ∧ mw_Dr (x + 1) P 0 ∧ mw_Dr (x + 11) P 1 ∧ mw_Nu (x + 21) 2 (P + 125) 2 ∧ mw_Nu (x + 23) 2 (P + 126) 2
/-- the drawers of the state that is now -/
def mw_Dw (d : Nat) : Prop := mw_S[1 + 10 * d]? = some (.inr (0, [.inl (2 + 10 * d), .inl (4 + 10 * d), .inr d, .inr (2 + d)])) ∧ mw_Nu (2 + 10 * d) 48 (4 + 48 * d) 1 ∧ mw_Ex (4 + 10 * d) (100 + 12 * d)
def ck_S (c : Nat) (sh : mw_Sh) : Bool := decide (mw_S[c]? = some sh)
def ck_Nu (a n b t : Nat) : Bool := ck_S a (.inr (3, [.inl (a + 1)])) && ck_S (a + 1) (.inl (n, b, t))
def ck_Ex (x b : Nat) : Bool := ck_S x (.inr (1, [.inl (x + 1), .inl (x + 3), .inl (x + 5)])) && (ck_Nu (x + 1) 4 b 3 && (ck_Nu (x + 3) 4 (b + 1) 3 && ck_Nu (x + 5) 4 (b + 2) 3))
def ck_Dr (x P d : Nat) : Bool := ck_S x (.inr (0, [.inl (x + 1), .inl (x + 3), .inr (P + d), .inr (P + 2 + d)])) && (ck_Nu (x + 1) 48 (P + 4 + 48 * d) 1 && ck_Ex (x + 3) (P + 100 + 12 * d))
def ck_St (x P : Nat) : Bool := ck_S x (.inr (6, [.inl (x + 1), .inl (x + 11), .inl (x + 21), .inl (x + 23), .inr (P + 124), .inr (P + 129)])) && (ck_Dr (x + 1) P 0 && (ck_Dr (x + 11) P 1 && (ck_Nu (x + 21) 2 (P + 125) 2 && ck_Nu (x + 23) 2 (P + 126) 2)))
def ck_Dw (d : Nat) : Bool := ck_S (1 + 10 * d) (.inr (0, [.inl (2 + 10 * d), .inl (4 + 10 * d), .inr d, .inr (2 + d)])) && (ck_Nu (2 + 10 * d) 48 (4 + 48 * d) 1 && ck_Ex (4 + 10 * d) (100 + 12 * d))
theorem ck_and {a b : Bool} (h : (a && b) = true) : a = true ∧ b = true := by
  cases a <;> cases b <;> simp_all
theorem mw_Nu_d {a n b t : Nat} (h : ck_Nu a n b t = true) : mw_Nu a n b t := ⟨of_decide_eq_true (ck_and h).1, of_decide_eq_true (ck_and h).2⟩
theorem mw_Ex_d {x b : Nat} (h : ck_Ex x b = true) : mw_Ex x b := ⟨of_decide_eq_true (ck_and h).1, mw_Nu_d (ck_and (ck_and h).2).1, mw_Nu_d (ck_and (ck_and (ck_and h).2).2).1, mw_Nu_d (ck_and (ck_and (ck_and h).2).2).2⟩
theorem mw_Dr_d {x P d : Nat} (h : ck_Dr x P d = true) : mw_Dr x P d := ⟨of_decide_eq_true (ck_and h).1, mw_Nu_d (ck_and (ck_and h).2).1, mw_Ex_d (ck_and (ck_and h).2).2⟩
theorem mw_St_d {x P : Nat} (h : ck_St x P = true) : mw_St x P := ⟨of_decide_eq_true (ck_and h).1, mw_Dr_d (ck_and (ck_and h).2).1, mw_Dr_d (ck_and (ck_and (ck_and h).2).2).1, mw_Nu_d (ck_and (ck_and (ck_and (ck_and h).2).2).2).1, mw_Nu_d (ck_and (ck_and (ck_and (ck_and h).2).2).2).2⟩
theorem mw_Dw_c {d : Nat} (h : ck_Dw d = true) : mw_Dw d := ⟨of_decide_eq_true (ck_and h).1, mw_Nu_d (ck_and (ck_and h).2).1, mw_Ex_d (ck_and (ck_and h).2).2⟩
theorem mw_Ex_137 : mw_Ex 137 670 := mw_Ex_d (by decide +kernel)
theorem ck_St_all : (List.range 5).all (fun j => ck_St (25 * j) (130 * j)) = true := by decide +kernel
theorem ck_Dw_all : (List.range 2).all ck_Dw = true := by decide +kernel
theorem mw_St_j {j : Nat} (hj : j < 5) : mw_St (25 * j) (130 * j) := mw_St_d (List.all_eq_true.mp ck_St_all j (List.mem_range.mpr hj))
theorem mw_Dw_d {d : Nat} (h : d < 2) : mw_Dw d := mw_Dw_c (List.all_eq_true.mp ck_Dw_all d (List.mem_range.mpr h))
theorem mw_arr_n_all : mw_S.all (fun sh => match sh with | .inl (n, _, _) => decide (n < 1000) | .inr _ => true) = true := by decide +kernel
theorem mw_arr_n {c n b t : Nat} (h : mw_S[c]? = some (.inl (n, b, t))) : n < 1000 := of_decide_eq_true (List.all_eq_true.mp mw_arr_n_all _ (List.mem_of_getElem? h))
def qI (x : Int32) (M2 : mw_M) : Option Value → mw_M → Prop := fun r M => r = some (.int x) ∧ M = M2
def qR (a : Nat) (M2 : mw_M) : Option Value → mw_M → Prop := fun r M => r = some (.ref a) ∧ M = M2
def qV (M2 : mw_M) : Option Value → mw_M → Prop := fun r M => r = none ∧ M = M2
def qIP (post : Int32 → mw_M → Prop) : Option Value → mw_M → Prop := fun r M => ∃ x, r = some (.int x) ∧ post x M
def qVP (post : mw_M → Prop) : Option Value → mw_M → Prop := fun r M => r = none ∧ post M
theorem qI_of {x y : Int32} {M M2 : mw_M} (h : y = x) (hm : M = M2) : qI x M2 (some (.int y)) M := ⟨by rw [h], hm⟩
theorem qR_of {x y : Nat} {M M2 : mw_M} (h : y = x) (hm : M = M2) : qR x M2 (some (.ref y)) M := ⟨by rw [h], hm⟩
theorem qV_of {M M2 : mw_M} (hm : M = M2) : qV M2 none M := ⟨rfl, hm⟩
theorem qIP_of {y : Int32} {M : mw_M} {post : Int32 → mw_M → Prop} (h : post y M) : qIP post (some (.int y)) M := ⟨y, rfl, h⟩
theorem qVP_of {M : mw_M} {post : mw_M → Prop} (h : post M) : qVP post none M := ⟨rfl, h⟩
section VX
variable {p : Program} {l : Launch} {e : Env} {R : Room} {s : State} {m : MethodId} {args : Array Value} {below : List Frame} {meth : Method} {c : Code} {G : mw_GG} {cells slots : Nat} {Q : State → Prop}
variable {cc : ByteArray} {nL : Nat} {Ts : List Cond} {own : String} {M : mw_M} {pc : Nat} {ls : List (Option Value)} {st : List Value}
theorem vv_geti (C : vv_C p s m args c G cc nL Ts own) {Cn : String} {T : u_T} {N ci index a q : Nat} {fs : List (Nat ⊕ Nat)} (hs : mw_S[a]? = some (.inr (ci, fs))) (j : Nat) (hf : fs[j]? = some (.inr q)) (hc : vwCl[ci]? = some (Cn, T, N)) (hj : j < N) (hin : ∀ w ∈ u_ws Cn T N, w ∈ Ts) (hlink : (Cond.fieldLink own index Cn (T j).2.1 (T j).2.2.1) ∈ Ts) (hT : (T j).1 = Cn) (hd : decode cc pc = .ok (.getfield index, 3)) (k : vv p l e R s m args below meth c G cells slots Q M (pc + 3) ls (.int (M q) :: st)) : vv p l e R s m args below meth c G cells slots Q M pc ls (.ref (G.1 a) :: st) := vv_getf C hs j hf hc hj hin hlink hT hd k
theorem vv_getr (C : vv_C p s m args c G cc nL Ts own) {Cn : String} {T : u_T} {N ci index a q : Nat} {fs : List (Nat ⊕ Nat)} (hs : mw_S[a]? = some (.inr (ci, fs))) (j : Nat) (hf : fs[j]? = some (.inl q)) (hc : vwCl[ci]? = some (Cn, T, N)) (hj : j < N) (hin : ∀ w ∈ u_ws Cn T N, w ∈ Ts) (hlink : (Cond.fieldLink own index Cn (T j).2.1 (T j).2.2.1) ∈ Ts) (hT : (T j).1 = Cn) (hd : decode cc pc = .ok (.getfield index, 3)) (k : vv p l e R s m args below meth c G cells slots Q M (pc + 3) ls (.ref (G.1 q) :: st)) : vv p l e R s m args below meth c G cells slots Q M pc ls (.ref (G.1 a) :: st) := vv_getf C hs j hf hc hj hin hlink hT hd k
theorem vv_top {x y : Int32} (h : x = y) (k : vv p l e R s m args below meth c G cells slots Q M pc ls (.int y :: st)) : vv p l e R s m args below meth c G cells slots Q M pc ls (.int x :: st) := by rw [h]; exact k
theorem vv_topM {x y : Int32} (h : x = y) (k : ∀ z, z = y → vv p l e R s m args below meth c G cells slots Q M pc ls (.int z :: st)) : vv p l e R s m args below meth c G cells slots Q M pc ls (.int x :: st) := by rw [h]; exact k y rfl
theorem vv_loc {ls2 : List (Option Value)} (h : ls = ls2) (k : vv p l e R s m args below meth c G cells slots Q M pc ls2 st) : vv p l e R s m args below meth c G cells slots Q M pc ls st := by rw [h]; exact k
theorem vv_mem {M2 : mw_M} (h : M = M2) (k : vv p l e R s m args below meth c G cells slots Q M2 pc ls st) : vv p l e R s m args below meth c G cells slots Q M pc ls st := by rw [h]; exact k
theorem mw_in {n j : Nat} {i : Int32} (hi : i = nI j) (hj : j < n) (hn : n < 1000) : vp_in i n := by
  rw [hi]; exact vp_in_nI hj (by omega)
theorem vv_ald (C : vv_C p s m args c G cc nL Ts own) {a n b t j q : Nat} (hs : mw_S[a]? = some (.inl (n, b, t))) {i : Int32} (hi : i = nI j) (hj : j < n) (hq : b + t * j = q) (hd : decode cc pc = .ok (.iaload, 1)) (k : vv p l e R s m args below meth c G cells slots Q M (pc + 1) ls (.int (M q) :: st)) : vv p l e R s m args below meth c G cells slots Q M pc ls (.int i :: .ref (G.1 a) :: st) := by
  have hn := mw_arr_n hs
  have e : i.toNatClampNeg = j := by rw [hi]; exact nI_clamp (by omega)
  refine vv_iald C hs (mw_in hi hj hn) hd ?_
  rw [e, hq]
  exact k
theorem vv_ast (C : vv_C p s m args c G cc nL Ts own) {a n b t j q : Nat} (hs : mw_S[a]? = some (.inl (n, b, t))) {i x : Int32} (hi : i = nI j) (hj : j < n) (hq : b + t * j = q) (hd : decode cc pc = .ok (.iastore, 1)) (k : vv p l e R s m args below meth c G cells slots Q (upd M q x) (pc + 1) ls st) : vv p l e R s m args below meth c G cells slots Q M pc ls (.int x :: .int i :: .ref (G.1 a) :: st) := by
  have hn := mw_arr_n hs
  have e : i.toNatClampNeg = j := by rw [hi]; exact nI_clamp (by omega)
  refine vv_iast C hs (mw_in hi hj hn) hd ?_
  rw [e, hq]
  exact k
theorem vv_callVI (C : vv_C p s m args c G cc nL Ts own) {y : MethodName} {ws : List Cond} {rm : Room} {a : Nat} (As : List Value) {x : Int32} {M2 : mw_M} (hM : mw_Met l y ws rm G (.ref (G.1 a) :: As) M (qI x M2)) {Cn : String} {T : u_T} {N ci index maxL n : Nat} {bytes : ByteArray} {ret : Option FieldType} {fs : List (Nat ⊕ Nat)} (hs : mw_S[a]? = some (.inr (ci, fs))) (hc : vwCl[ci]? = some (Cn, T, N))
    (cw : CallW R s args own Cn index y bytes maxL ret ws rm 0 0 n) (hn : As.length = n) (hlen : ls.length = nL) {stk : List Value} (hst : stk = As.reverse ++ .ref (G.1 a) :: st) (hcat : (st.map fun v => v.category).sum ≤ 8) (hd : decode cc pc = .ok (.invokevirtual index, 3)) (hf : cells ≤ R.cells ∧ slots ≤ R.slots)
    (kk : vv p l e R s m args below meth c G cells slots Q M2 (pc + 3) ls (.int x :: st)) : vv p l e R s m args below meth c G cells slots Q M pc ls stk := vv_callV C As hM hs hc cw hn hlen hst hcat hd hf (fun r M3 hq => by obtain ⟨rfl, rfl⟩ := hq; exact kk)
theorem vv_callSI (C : vv_C p s m args c G cc nL Ts own) {y : MethodName} {ws : List Cond} {rm : Room} (As : List Value) {x : Int32} {M2 : mw_M} (hM : mw_Met l y ws rm G As M (qI x M2)) {index maxL n : Nat} {bytes : ByteArray} {ret : Option FieldType}
    (cw : CallB R s args own index y bytes maxL ret ws rm 0 0 n ∧ (Cond.static y).before args s = true) (hn : As.length = n) (hlen : ls.length = nL) {stk : List Value} (hst : stk = As.reverse ++ st) (hcat : (st.map fun v => v.category).sum ≤ 8) (hd : decode cc pc = .ok (.invokestatic index, 3)) (hf : cells ≤ R.cells ∧ slots ≤ R.slots)
    (kk : vv p l e R s m args below meth c G cells slots Q M2 (pc + 3) ls (.int x :: st)) : vv p l e R s m args below meth c G cells slots Q M pc ls stk := vv_callS C As hM cw hn hlen hst hcat hd hf (fun r M3 hq => by obtain ⟨rfl, rfl⟩ := hq; exact kk)
theorem vv_callVR (C : vv_C p s m args c G cc nL Ts own) {y : MethodName} {ws : List Cond} {rm : Room} {a : Nat} (As : List Value) {x : Nat} {M2 : mw_M} (hM : mw_Met l y ws rm G (.ref (G.1 a) :: As) M (qR x M2)) {Cn : String} {T : u_T} {N ci index maxL n : Nat} {bytes : ByteArray} {ret : Option FieldType} {fs : List (Nat ⊕ Nat)} (hs : mw_S[a]? = some (.inr (ci, fs))) (hc : vwCl[ci]? = some (Cn, T, N))
    (cw : CallW R s args own Cn index y bytes maxL ret ws rm 0 0 n) (hn : As.length = n) (hlen : ls.length = nL) {stk : List Value} (hst : stk = As.reverse ++ .ref (G.1 a) :: st) (hcat : (st.map fun v => v.category).sum ≤ 8) (hd : decode cc pc = .ok (.invokevirtual index, 3)) (hf : cells ≤ R.cells ∧ slots ≤ R.slots)
    (kk : vv p l e R s m args below meth c G cells slots Q M2 (pc + 3) ls (.ref x :: st)) : vv p l e R s m args below meth c G cells slots Q M pc ls stk := vv_callV C As hM hs hc cw hn hlen hst hcat hd hf (fun r M3 hq => by obtain ⟨rfl, rfl⟩ := hq; exact kk)
theorem vv_callSR (C : vv_C p s m args c G cc nL Ts own) {y : MethodName} {ws : List Cond} {rm : Room} (As : List Value) {x : Nat} {M2 : mw_M} (hM : mw_Met l y ws rm G As M (qR x M2)) {index maxL n : Nat} {bytes : ByteArray} {ret : Option FieldType}
    (cw : CallB R s args own index y bytes maxL ret ws rm 0 0 n ∧ (Cond.static y).before args s = true) (hn : As.length = n) (hlen : ls.length = nL) {stk : List Value} (hst : stk = As.reverse ++ st) (hcat : (st.map fun v => v.category).sum ≤ 8) (hd : decode cc pc = .ok (.invokestatic index, 3)) (hf : cells ≤ R.cells ∧ slots ≤ R.slots)
    (kk : vv p l e R s m args below meth c G cells slots Q M2 (pc + 3) ls (.ref x :: st)) : vv p l e R s m args below meth c G cells slots Q M pc ls stk := vv_callS C As hM cw hn hlen hst hcat hd hf (fun r M3 hq => by obtain ⟨rfl, rfl⟩ := hq; exact kk)
theorem vv_callVV (C : vv_C p s m args c G cc nL Ts own) {y : MethodName} {ws : List Cond} {rm : Room} {a : Nat} (As : List Value) {M2 : mw_M} (hM : mw_Met l y ws rm G (.ref (G.1 a) :: As) M (qV M2)) {Cn : String} {T : u_T} {N ci index maxL n : Nat} {bytes : ByteArray} {ret : Option FieldType} {fs : List (Nat ⊕ Nat)} (hs : mw_S[a]? = some (.inr (ci, fs))) (hc : vwCl[ci]? = some (Cn, T, N))
    (cw : CallW R s args own Cn index y bytes maxL ret ws rm 0 0 n) (hn : As.length = n) (hlen : ls.length = nL) {stk : List Value} (hst : stk = As.reverse ++ .ref (G.1 a) :: st) (hcat : (st.map fun v => v.category).sum ≤ 8) (hd : decode cc pc = .ok (.invokevirtual index, 3)) (hf : cells ≤ R.cells ∧ slots ≤ R.slots)
    (kk : vv p l e R s m args below meth c G cells slots Q M2 (pc + 3) ls st) : vv p l e R s m args below meth c G cells slots Q M pc ls stk := vv_callV C As hM hs hc cw hn hlen hst hcat hd hf (fun r M3 hq => by obtain ⟨rfl, rfl⟩ := hq; exact kk)
theorem vv_callSV (C : vv_C p s m args c G cc nL Ts own) {y : MethodName} {ws : List Cond} {rm : Room} (As : List Value) {M2 : mw_M} (hM : mw_Met l y ws rm G As M (qV M2)) {index maxL n : Nat} {bytes : ByteArray} {ret : Option FieldType}
    (cw : CallB R s args own index y bytes maxL ret ws rm 0 0 n ∧ (Cond.static y).before args s = true) (hn : As.length = n) (hlen : ls.length = nL) {stk : List Value} (hst : stk = As.reverse ++ st) (hcat : (st.map fun v => v.category).sum ≤ 8) (hd : decode cc pc = .ok (.invokestatic index, 3)) (hf : cells ≤ R.cells ∧ slots ≤ R.slots)
    (kk : vv p l e R s m args below meth c G cells slots Q M2 (pc + 3) ls st) : vv p l e R s m args below meth c G cells slots Q M pc ls stk := vv_callS C As hM cw hn hlen hst hcat hd hf (fun r M3 hq => by obtain ⟨rfl, rfl⟩ := hq; exact kk)
theorem vv_callVIP (C : vv_C p s m args c G cc nL Ts own) {y : MethodName} {ws : List Cond} {rm : Room} {a : Nat} (As : List Value) {post : Int32 → mw_M → Prop} (hM : mw_Met l y ws rm G (.ref (G.1 a) :: As) M (qIP post)) {Cn : String} {T : u_T} {N ci index maxL n : Nat} {bytes : ByteArray} {ret : Option FieldType} {fs : List (Nat ⊕ Nat)} (hs : mw_S[a]? = some (.inr (ci, fs))) (hc : vwCl[ci]? = some (Cn, T, N))
    (cw : CallW R s args own Cn index y bytes maxL ret ws rm 0 0 n) (hn : As.length = n) (hlen : ls.length = nL) {stk : List Value} (hst : stk = As.reverse ++ .ref (G.1 a) :: st) (hcat : (st.map fun v => v.category).sum ≤ 8) (hd : decode cc pc = .ok (.invokevirtual index, 3)) (hf : cells ≤ R.cells ∧ slots ≤ R.slots)
    (kk : ∀ x M2, post x M2 → vv p l e R s m args below meth c G cells slots Q M2 (pc + 3) ls (.int x :: st)) : vv p l e R s m args below meth c G cells slots Q M pc ls stk := vv_callV C As hM hs hc cw hn hlen hst hcat hd hf (fun r M3 hq => by obtain ⟨x, rfl, hq⟩ := hq; exact kk x M3 hq)
theorem vv_callVVP (C : vv_C p s m args c G cc nL Ts own) {y : MethodName} {ws : List Cond} {rm : Room} {a : Nat} (As : List Value) {post : mw_M → Prop} (hM : mw_Met l y ws rm G (.ref (G.1 a) :: As) M (qVP post)) {Cn : String} {T : u_T} {N ci index maxL n : Nat} {bytes : ByteArray} {ret : Option FieldType} {fs : List (Nat ⊕ Nat)} (hs : mw_S[a]? = some (.inr (ci, fs))) (hc : vwCl[ci]? = some (Cn, T, N))
    (cw : CallW R s args own Cn index y bytes maxL ret ws rm 0 0 n) (hn : As.length = n) (hlen : ls.length = nL) {stk : List Value} (hst : stk = As.reverse ++ .ref (G.1 a) :: st) (hcat : (st.map fun v => v.category).sum ≤ 8) (hd : decode cc pc = .ok (.invokevirtual index, 3)) (hf : cells ≤ R.cells ∧ slots ≤ R.slots)
    (kk : ∀ M2, post M2 → vv p l e R s m args below meth c G cells slots Q M2 (pc + 3) ls st) : vv p l e R s m args below meth c G cells slots Q M pc ls stk := vv_callV C As hM hs hc cw hn hlen hst hcat hd hf (fun r M3 hq => by obtain ⟨rfl, hq⟩ := hq; exact kk M3 hq)
theorem vv_mmax (C : vv_C p s m args c G cc nL Ts own) (hlen : ls.length = nL) {index : Nat} {x y : Int32} (h1 : Cond.methodLink own index Lib.Math.max.name ∈ Ts) (h2 : Cond.static Lib.Math.max.name ∈ Ts) (h3 : Cond.initialized "java/lang/Math" ∈ Ts) (h4 : Cond.code Lib.Math.max.name Lib.Math.max.code 2 (some .int) ∈ Ts) (hfr : 1 ≤ R.frames) (hlo : (st.map fun v => v.category).sum + 13 ≤ R.locals) (hc : cells ≤ R.cells) (hs : slots ≤ R.slots) (hd : decode cc pc = .ok (.invokestatic index, 3))
    (k : vv p l e R s m args below meth c G cells slots Q M (pc + 3) ls (.int (if x < y then y else x) :: st)) : vv p l e R s m args below meth c G cells slots Q M pc ls (.int y :: .int x :: st) := fun H locs la hW hS hL =>
  va_mmax C.1.1 C.1.2.1 (by rw [C.1.2.2.1, ← hlen]; exact hL.1.1.symm) C.1.2.2.2.1 (C.1.2.2.2.2 _ h1) (C.1.2.2.2.2 _ h2) (C.1.2.2.2.2 _ h3) (C.1.2.2.2.2 _ h4) hfr hlo hc hs hd (k H locs la hW hS hL)
theorem vv_mmin (C : vv_C p s m args c G cc nL Ts own) (hlen : ls.length = nL) {index : Nat} {x y : Int32} (h1 : Cond.methodLink own index Lib.Math.min.name ∈ Ts) (h2 : Cond.static Lib.Math.min.name ∈ Ts) (h3 : Cond.initialized "java/lang/Math" ∈ Ts) (h4 : Cond.code Lib.Math.min.name Lib.Math.min.code 2 (some .int) ∈ Ts) (hfr : 1 ≤ R.frames) (hlo : (st.map fun v => v.category).sum + 13 ≤ R.locals) (hc : cells ≤ R.cells) (hs : slots ≤ R.slots) (hd : decode cc pc = .ok (.invokestatic index, 3))
    (k : vv p l e R s m args below meth c G cells slots Q M (pc + 3) ls (.int (if y < x then y else x) :: st)) : vv p l e R s m args below meth c G cells slots Q M pc ls (.int y :: .int x :: st) := fun H locs la hW hS hL =>
  va_mmin C.1.1 C.1.2.1 (by rw [C.1.2.2.1, ← hlen]; exact hL.1.1.symm) C.1.2.2.2.1 (C.1.2.2.2.2 _ h1) (C.1.2.2.2.2 _ h2) (C.1.2.2.2.2 _ h3) (C.1.2.2.2.2 _ h4) hfr hlo hc hs hd (k H locs la hW hS hL)
theorem vv_topr {a b : Nat} (h : a = b) (k : vv p l e R s m args below meth c G cells slots Q M pc ls (.ref b :: st)) : vv p l e R s m args below meth c G cells slots Q M pc ls (.ref a :: st) := by rw [h]; exact k
end VX
end
section
set_option maxRecDepth 20000 in
theorem ggX0_init_X3_init : GoodIn wsX0_init wsX3_init := goodIn_r _ [16, 17, 2, 3, 18, 19, 20, 21, 22, 23, 24, 25, 26, 6, 27, 36] (by decide +kernel) (by decide +kernel)
set_option maxRecDepth 20000 in
theorem gX0_init_X3_init : GoodIn wsX0_init (wsX3_init) := ggX0_init_X3_init
set_option maxRecDepth 20000 in
theorem ggX0_init_X1_init : GoodIn wsX0_init wsX1_init := goodIn_r _ [29, 30, 2, 3, 31, 5, 6, 32, 33, 34, 35, 15, 16, 17, 18, 19, 20, 21, 22, 23, 24, 25, 26, 27, 36, 41, 42, 43] (by decide +kernel) (by decide +kernel)
set_option maxRecDepth 20000 in
theorem gX0_init_X1_init_n22 : GoodIn wsX0_init (wsX1_init) := ggX0_init_X1_init
theorem dX0_init_0 : decode cX0_init 0 = .ok (.aload_n 0, 1) := by decide +kernel
theorem dX0_init_1 : decode cX0_init 1 = .ok (.invokespecial 3, 3) := by decide +kernel
theorem dX0_init_4 : decode cX0_init 4 = .ok (.aload_n 0, 1) := by decide +kernel
theorem dX0_init_5 : decode cX0_init 5 = .ok (.new 9, 3) := by decide +kernel
theorem dX0_init_8 : decode cX0_init 8 = .ok (.dup, 1) := by decide +kernel
theorem dX0_init_9 : decode cX0_init 9 = .ok (.bipush 48, 2) := by decide +kernel
theorem dX0_init_11 : decode cX0_init 11 = .ok (.iconst (-1), 1) := by decide +kernel
theorem dX0_init_12 : decode cX0_init 12 = .ok (.invokespecial 11, 3) := by decide +kernel
theorem dX0_init_15 : decode cX0_init 15 = .ok (.putfield 14, 3) := by decide +kernel
theorem dX0_init_18 : decode cX0_init 18 = .ok (.aload_n 0, 1) := by decide +kernel
theorem dX0_init_19 : decode cX0_init 19 = .ok (.new 20, 3) := by decide +kernel
theorem dX0_init_22 : decode cX0_init 22 = .ok (.dup, 1) := by decide +kernel
theorem dX0_init_23 : decode cX0_init 23 = .ok (.invokespecial 22, 3) := by decide +kernel
theorem dX0_init_26 : decode cX0_init 26 = .ok (.putfield 23, 3) := by decide +kernel
theorem dX0_init_29 : decode cX0_init 29 = .ok (.aload_n 0, 1) := by decide +kernel
theorem dX0_init_30 : decode cX0_init 30 = .ok (.iconst 3, 1) := by decide +kernel
theorem dX0_init_31 : decode cX0_init 31 = .ok (.putfield 27, 3) := by decide +kernel
theorem dX0_init_34 : decode cX0_init 34 = .ok (.aload_n 0, 1) := by decide +kernel
theorem dX0_init_35 : decode cX0_init 35 = .ok (.iconst 0, 1) := by decide +kernel
theorem dX0_init_36 : decode cX0_init 36 = .ok (.putfield 31, 3) := by decide +kernel
theorem dX0_init_39 : decode cX0_init 39 = .ok (.return_, 1) := by decide +kernel
theorem dX0_width_0 : decode cX0_width 0 = .ok (.aload_n 0, 1) := by decide +kernel
theorem dX0_width_1 : decode cX0_width 1 = .ok (.getfield 27, 3) := by decide +kernel
theorem dX0_width_4 : decode cX0_width 4 = .ok (.ireturn, 1) := by decide +kernel
theorem dX0_size_0 : decode cX0_size 0 = .ok (.aload_n 0, 1) := by decide +kernel
theorem dX0_size_1 : decode cX0_size 1 = .ok (.getfield 31, 3) := by decide +kernel
theorem dX0_size_4 : decode cX0_size 4 = .ok (.ireturn, 1) := by decide +kernel
theorem dX0_example_0 : decode cX0_example 0 = .ok (.aload_n 0, 1) := by decide +kernel
theorem dX0_example_1 : decode cX0_example 1 = .ok (.getfield 23, 3) := by decide +kernel
theorem dX0_example_4 : decode cX0_example 4 = .ok (.areturn, 1) := by decide +kernel
theorem dX0_hasColumn_0 : decode cX0_hasColumn 0 = .ok (.iload_n 1, 1) := by decide +kernel
theorem dX0_hasColumn_1 : decode cX0_hasColumn 1 = .ok (.ifCond .lt 15, 3) := by decide +kernel
theorem dX0_hasColumn_4 : decode cX0_hasColumn 4 = .ok (.iload_n 1, 1) := by decide +kernel
theorem dX0_hasColumn_5 : decode cX0_hasColumn 5 = .ok (.aload_n 0, 1) := by decide +kernel
theorem dX0_hasColumn_6 : decode cX0_hasColumn 6 = .ok (.getfield 27, 3) := by decide +kernel
theorem dX0_hasColumn_9 : decode cX0_hasColumn 9 = .ok (.if_icmp .ge 7, 3) := by decide +kernel
theorem dX0_hasColumn_12 : decode cX0_hasColumn 12 = .ok (.iconst 1, 1) := by decide +kernel
theorem dX0_hasColumn_13 : decode cX0_hasColumn 13 = .ok (.goto 4, 3) := by decide +kernel
theorem dX0_hasColumn_16 : decode cX0_hasColumn 16 = .ok (.iconst 0, 1) := by decide +kernel
theorem dX0_hasColumn_17 : decode cX0_hasColumn 17 = .ok (.ireturn, 1) := by decide +kernel
theorem dX0_hasCard_0 : decode cX0_hasCard 0 = .ok (.iload_n 1, 1) := by decide +kernel
theorem dX0_hasCard_1 : decode cX0_hasCard 1 = .ok (.ifCond .lt 15, 3) := by decide +kernel
theorem dX0_hasCard_4 : decode cX0_hasCard 4 = .ok (.iload_n 1, 1) := by decide +kernel
theorem dX0_hasCard_5 : decode cX0_hasCard 5 = .ok (.aload_n 0, 1) := by decide +kernel
theorem dX0_hasCard_6 : decode cX0_hasCard 6 = .ok (.getfield 31, 3) := by decide +kernel
theorem dX0_hasCard_9 : decode cX0_hasCard 9 = .ok (.if_icmp .ge 7, 3) := by decide +kernel
theorem dX0_hasCard_12 : decode cX0_hasCard 12 = .ok (.iconst 1, 1) := by decide +kernel
theorem dX0_hasCard_13 : decode cX0_hasCard 13 = .ok (.goto 4, 3) := by decide +kernel
theorem dX0_hasCard_16 : decode cX0_hasCard 16 = .ok (.iconst 0, 1) := by decide +kernel
theorem dX0_hasCard_17 : decode cX0_hasCard 17 = .ok (.ireturn, 1) := by decide +kernel
set_option maxRecDepth 20000 in
theorem ggX0_entry_X0_hasCard : GoodIn wsX0_entry wsX0_hasCard := goodIn_r _ [6, 7, 19, 20, 21, 22] (by decide +kernel) (by decide +kernel)
set_option maxRecDepth 20000 in
theorem gX0_entry_X0_hasCard : GoodIn wsX0_entry (wsV RX0 34 RX0 yX0_hasCard wsX0_hasCard) := goodIn_app (goodIn_of _ (by decide +kernel)) ggX0_entry_X0_hasCard
set_option maxRecDepth 20000 in
theorem ggX0_entry_X0_hasColumn : GoodIn wsX0_entry wsX0_hasColumn := goodIn_r _ [11, 12, 19, 20, 21, 22] (by decide +kernel) (by decide +kernel)
set_option maxRecDepth 20000 in
theorem gX0_entry_X0_hasColumn : GoodIn wsX0_entry (wsV RX0 38 RX0 yX0_hasColumn wsX0_hasColumn) := goodIn_app (goodIn_of _ (by decide +kernel)) ggX0_entry_X0_hasColumn
set_option maxRecDepth 20000 in
theorem ggX0_entry_X3_at : GoodIn wsX0_entry wsX3_at := goodIn_r _ [17, 18, 23] (by decide +kernel) (by decide +kernel)
set_option maxRecDepth 20000 in
theorem gX0_entry_X3_at : GoodIn wsX0_entry (wsV RX0 41 RX3 yX3_at wsX3_at) := goodIn_app (goodIn_of _ (by decide +kernel)) ggX0_entry_X3_at
theorem dX0_entry_0 : decode cX0_entry 0 = .ok (.aload_n 0, 1) := by decide +kernel
theorem dX0_entry_1 : decode cX0_entry 1 = .ok (.iload_n 1, 1) := by decide +kernel
theorem dX0_entry_2 : decode cX0_entry 2 = .ok (.invokevirtual 34, 3) := by decide +kernel
theorem dX0_entry_5 : decode cX0_entry 5 = .ok (.ifCond .eq 11, 3) := by decide +kernel
theorem dX0_entry_8 : decode cX0_entry 8 = .ok (.aload_n 0, 1) := by decide +kernel
theorem dX0_entry_9 : decode cX0_entry 9 = .ok (.iload_n 2, 1) := by decide +kernel
theorem dX0_entry_10 : decode cX0_entry 10 = .ok (.invokevirtual 38, 3) := by decide +kernel
theorem dX0_entry_13 : decode cX0_entry 13 = .ok (.ifCond .ne 5, 3) := by decide +kernel
theorem dX0_entry_16 : decode cX0_entry 16 = .ok (.iconst (-1), 1) := by decide +kernel
theorem dX0_entry_17 : decode cX0_entry 17 = .ok (.ireturn, 1) := by decide +kernel
theorem dX0_entry_18 : decode cX0_entry 18 = .ok (.aload_n 0, 1) := by decide +kernel
theorem dX0_entry_19 : decode cX0_entry 19 = .ok (.getfield 14, 3) := by decide +kernel
theorem dX0_entry_22 : decode cX0_entry 22 = .ok (.iload_n 1, 1) := by decide +kernel
theorem dX0_entry_23 : decode cX0_entry 23 = .ok (.iconst 4, 1) := by decide +kernel
theorem dX0_entry_24 : decode cX0_entry 24 = .ok (.imul, 1) := by decide +kernel
theorem dX0_entry_25 : decode cX0_entry 25 = .ok (.iload_n 2, 1) := by decide +kernel
theorem dX0_entry_26 : decode cX0_entry 26 = .ok (.iadd, 1) := by decide +kernel
theorem dX0_entry_27 : decode cX0_entry 27 = .ok (.invokevirtual 41, 3) := by decide +kernel
theorem dX0_entry_30 : decode cX0_entry 30 = .ok (.ireturn, 1) := by decide +kernel
set_option maxRecDepth 20000 in
theorem ggX0_remake_X1_wipe : GoodIn wsX0_remake wsX1_wipe := goodIn_r _ [8, 9, 10, 11, 12, 13, 14, 15, 16, 17, 22, 23, 24, 25] (by decide +kernel) (by decide +kernel)
set_option maxRecDepth 20000 in
theorem gX0_remake_X1_wipe : GoodIn wsX0_remake (wsV RX0 45 RX1 yX1_wipe wsX1_wipe) := goodIn_app (goodIn_of _ (by decide +kernel)) ggX0_remake_X1_wipe
theorem dX0_remake_0 : decode cX0_remake 0 = .ok (.aload_n 0, 1) := by decide +kernel
theorem dX0_remake_1 : decode cX0_remake 1 = .ok (.getfield 31, 3) := by decide +kernel
theorem dX0_remake_4 : decode cX0_remake 4 = .ok (.istore_n 2, 1) := by decide +kernel
theorem dX0_remake_5 : decode cX0_remake 5 = .ok (.aload_n 0, 1) := by decide +kernel
theorem dX0_remake_6 : decode cX0_remake 6 = .ok (.iload_n 1, 1) := by decide +kernel
theorem dX0_remake_7 : decode cX0_remake 7 = .ok (.putfield 27, 3) := by decide +kernel
theorem dX0_remake_10 : decode cX0_remake 10 = .ok (.aload_n 0, 1) := by decide +kernel
theorem dX0_remake_11 : decode cX0_remake 11 = .ok (.iconst 0, 1) := by decide +kernel
theorem dX0_remake_12 : decode cX0_remake 12 = .ok (.putfield 31, 3) := by decide +kernel
theorem dX0_remake_15 : decode cX0_remake 15 = .ok (.aload_n 0, 1) := by decide +kernel
theorem dX0_remake_16 : decode cX0_remake 16 = .ok (.getfield 23, 3) := by decide +kernel
theorem dX0_remake_19 : decode cX0_remake 19 = .ok (.invokevirtual 45, 3) := by decide +kernel
theorem dX0_remake_22 : decode cX0_remake 22 = .ok (.iload_n 2, 1) := by decide +kernel
theorem dX0_remake_23 : decode cX0_remake 23 = .ok (.ireturn, 1) := by decide +kernel
set_option maxRecDepth 20000 in
theorem ggX0_add_X3_set : GoodIn wsX0_add wsX3_set := goodIn_r _ [7, 8, 13] (by decide +kernel) (by decide +kernel)
set_option maxRecDepth 20000 in
theorem gX0_add_X3_set : GoodIn wsX0_add (wsV RX0 48 RX3 yX3_set wsX3_set) := goodIn_app (goodIn_of _ (by decide +kernel)) ggX0_add_X3_set
theorem dX0_add_0 : decode cX0_add 0 = .ok (.aload_n 0, 1) := by decide +kernel
theorem dX0_add_1 : decode cX0_add 1 = .ok (.getfield 31, 3) := by decide +kernel
theorem dX0_add_4 : decode cX0_add 4 = .ok (.iconst 4, 1) := by decide +kernel
theorem dX0_add_5 : decode cX0_add 5 = .ok (.imul, 1) := by decide +kernel
theorem dX0_add_6 : decode cX0_add 6 = .ok (.istore 5, 2) := by decide +kernel
theorem dX0_add_8 : decode cX0_add 8 = .ok (.aload_n 0, 1) := by decide +kernel
theorem dX0_add_9 : decode cX0_add 9 = .ok (.getfield 14, 3) := by decide +kernel
theorem dX0_add_12 : decode cX0_add 12 = .ok (.iload 5, 2) := by decide +kernel
theorem dX0_add_14 : decode cX0_add 14 = .ok (.iload_n 1, 1) := by decide +kernel
theorem dX0_add_15 : decode cX0_add 15 = .ok (.invokevirtual 48, 3) := by decide +kernel
theorem dX0_add_18 : decode cX0_add 18 = .ok (.aload_n 0, 1) := by decide +kernel
theorem dX0_add_19 : decode cX0_add 19 = .ok (.getfield 14, 3) := by decide +kernel
theorem dX0_add_22 : decode cX0_add 22 = .ok (.iload 5, 2) := by decide +kernel
theorem dX0_add_24 : decode cX0_add 24 = .ok (.iconst 1, 1) := by decide +kernel
theorem dX0_add_25 : decode cX0_add 25 = .ok (.iadd, 1) := by decide +kernel
theorem dX0_add_26 : decode cX0_add 26 = .ok (.iload_n 2, 1) := by decide +kernel
theorem dX0_add_27 : decode cX0_add 27 = .ok (.invokevirtual 48, 3) := by decide +kernel
theorem dX0_add_30 : decode cX0_add 30 = .ok (.aload_n 0, 1) := by decide +kernel
theorem dX0_add_31 : decode cX0_add 31 = .ok (.getfield 14, 3) := by decide +kernel
theorem dX0_add_34 : decode cX0_add 34 = .ok (.iload 5, 2) := by decide +kernel
theorem dX0_add_36 : decode cX0_add 36 = .ok (.iconst 2, 1) := by decide +kernel
theorem dX0_add_37 : decode cX0_add 37 = .ok (.iadd, 1) := by decide +kernel
theorem dX0_add_38 : decode cX0_add 38 = .ok (.iload_n 3, 1) := by decide +kernel
theorem dX0_add_39 : decode cX0_add 39 = .ok (.invokevirtual 48, 3) := by decide +kernel
theorem dX0_add_42 : decode cX0_add 42 = .ok (.aload_n 0, 1) := by decide +kernel
theorem dX0_add_43 : decode cX0_add 43 = .ok (.getfield 14, 3) := by decide +kernel
theorem dX0_add_46 : decode cX0_add 46 = .ok (.iload 5, 2) := by decide +kernel
theorem dX0_add_48 : decode cX0_add 48 = .ok (.iconst 3, 1) := by decide +kernel
theorem dX0_add_49 : decode cX0_add 49 = .ok (.iadd, 1) := by decide +kernel
theorem dX0_add_50 : decode cX0_add 50 = .ok (.iload 4, 2) := by decide +kernel
theorem dX0_add_52 : decode cX0_add 52 = .ok (.invokevirtual 48, 3) := by decide +kernel
theorem dX0_add_55 : decode cX0_add 55 = .ok (.aload_n 0, 1) := by decide +kernel
theorem dX0_add_56 : decode cX0_add 56 = .ok (.dup, 1) := by decide +kernel
theorem dX0_add_57 : decode cX0_add 57 = .ok (.getfield 31, 3) := by decide +kernel
theorem dX0_add_60 : decode cX0_add 60 = .ok (.iconst 1, 1) := by decide +kernel
theorem dX0_add_61 : decode cX0_add 61 = .ok (.iadd, 1) := by decide +kernel
theorem dX0_add_62 : decode cX0_add 62 = .ok (.putfield 31, 3) := by decide +kernel
theorem dX0_add_65 : decode cX0_add 65 = .ok (.aload_n 0, 1) := by decide +kernel
theorem dX0_add_66 : decode cX0_add 66 = .ok (.getfield 31, 3) := by decide +kernel
theorem dX0_add_69 : decode cX0_add 69 = .ok (.iconst 1, 1) := by decide +kernel
theorem dX0_add_70 : decode cX0_add 70 = .ok (.isub, 1) := by decide +kernel
theorem dX0_add_71 : decode cX0_add 71 = .ok (.ireturn, 1) := by decide +kernel
set_option maxRecDepth 20000 in
theorem ggX0_replace_X0_entry : GoodIn wsX0_replace wsX0_entry := goodIn_r _ [6, 1, 7, 8, 9, 5, 10, 11, 12, 13, 14, 15, 16, 17, 18, 19, 20, 21, 22, 27, 28, 29, 30, 31] (by decide +kernel) (by decide +kernel)
set_option maxRecDepth 20000 in
theorem gX0_replace_X0_entry : GoodIn wsX0_replace (wsV RX0 51 RX0 yX0_entry wsX0_entry) := goodIn_app (goodIn_of _ (by decide +kernel)) ggX0_replace_X0_entry
set_option maxRecDepth 20000 in
theorem ggX0_replace_X3_set : GoodIn wsX0_replace wsX3_set := goodIn_r _ [26, 22, 31] (by decide +kernel) (by decide +kernel)
set_option maxRecDepth 20000 in
theorem gX0_replace_X3_set : GoodIn wsX0_replace (wsV RX0 48 RX3 yX3_set wsX3_set) := goodIn_app (goodIn_of _ (by decide +kernel)) ggX0_replace_X3_set
theorem dX0_replace_0 : decode cX0_replace 0 = .ok (.aload_n 0, 1) := by decide +kernel
theorem dX0_replace_1 : decode cX0_replace 1 = .ok (.iload_n 1, 1) := by decide +kernel
theorem dX0_replace_2 : decode cX0_replace 2 = .ok (.iload_n 2, 1) := by decide +kernel
theorem dX0_replace_3 : decode cX0_replace 3 = .ok (.invokevirtual 51, 3) := by decide +kernel
theorem dX0_replace_6 : decode cX0_replace 6 = .ok (.istore 4, 2) := by decide +kernel
theorem dX0_replace_8 : decode cX0_replace 8 = .ok (.aload_n 0, 1) := by decide +kernel
theorem dX0_replace_9 : decode cX0_replace 9 = .ok (.getfield 14, 3) := by decide +kernel
theorem dX0_replace_12 : decode cX0_replace 12 = .ok (.iload_n 1, 1) := by decide +kernel
theorem dX0_replace_13 : decode cX0_replace 13 = .ok (.iconst 4, 1) := by decide +kernel
theorem dX0_replace_14 : decode cX0_replace 14 = .ok (.imul, 1) := by decide +kernel
theorem dX0_replace_15 : decode cX0_replace 15 = .ok (.iload_n 2, 1) := by decide +kernel
theorem dX0_replace_16 : decode cX0_replace 16 = .ok (.iadd, 1) := by decide +kernel
theorem dX0_replace_17 : decode cX0_replace 17 = .ok (.iload_n 3, 1) := by decide +kernel
theorem dX0_replace_18 : decode cX0_replace 18 = .ok (.invokevirtual 48, 3) := by decide +kernel
theorem dX0_replace_21 : decode cX0_replace 21 = .ok (.iload 4, 2) := by decide +kernel
theorem dX0_replace_23 : decode cX0_replace 23 = .ok (.ireturn, 1) := by decide +kernel
set_option maxRecDepth 20000 in
theorem ggX0_remove_X3_at : GoodIn wsX0_remove wsX3_at := goodIn_r _ [7, 8, 17] (by decide +kernel) (by decide +kernel)
set_option maxRecDepth 20000 in
theorem gX0_remove_X3_at : GoodIn wsX0_remove (wsV RX0 41 RX3 yX3_at wsX3_at) := goodIn_app (goodIn_of _ (by decide +kernel)) ggX0_remove_X3_at
set_option maxRecDepth 20000 in
theorem ggX0_remove_X3_set : GoodIn wsX0_remove wsX3_set := goodIn_r _ [12, 8, 17] (by decide +kernel) (by decide +kernel)
set_option maxRecDepth 20000 in
theorem gX0_remove_X3_set : GoodIn wsX0_remove (wsV RX0 48 RX3 yX3_set wsX3_set) := goodIn_app (goodIn_of _ (by decide +kernel)) ggX0_remove_X3_set
theorem dX0_remove_0 : decode cX0_remove 0 = .ok (.aload_n 0, 1) := by decide +kernel
theorem dX0_remove_1 : decode cX0_remove 1 = .ok (.dup, 1) := by decide +kernel
theorem dX0_remove_2 : decode cX0_remove 2 = .ok (.getfield 31, 3) := by decide +kernel
theorem dX0_remove_5 : decode cX0_remove 5 = .ok (.iconst 1, 1) := by decide +kernel
theorem dX0_remove_6 : decode cX0_remove 6 = .ok (.isub, 1) := by decide +kernel
theorem dX0_remove_7 : decode cX0_remove 7 = .ok (.putfield 31, 3) := by decide +kernel
theorem dX0_remove_10 : decode cX0_remove 10 = .ok (.iload_n 1, 1) := by decide +kernel
theorem dX0_remove_11 : decode cX0_remove 11 = .ok (.iconst 4, 1) := by decide +kernel
theorem dX0_remove_12 : decode cX0_remove 12 = .ok (.imul, 1) := by decide +kernel
theorem dX0_remove_13 : decode cX0_remove 13 = .ok (.istore_n 2, 1) := by decide +kernel
theorem dX0_remove_14 : decode cX0_remove 14 = .ok (.iload_n 2, 1) := by decide +kernel
theorem dX0_remove_15 : decode cX0_remove 15 = .ok (.aload_n 0, 1) := by decide +kernel
theorem dX0_remove_16 : decode cX0_remove 16 = .ok (.getfield 31, 3) := by decide +kernel
theorem dX0_remove_19 : decode cX0_remove 19 = .ok (.iconst 4, 1) := by decide +kernel
theorem dX0_remove_20 : decode cX0_remove 20 = .ok (.imul, 1) := by decide +kernel
theorem dX0_remove_21 : decode cX0_remove 21 = .ok (.if_icmp .ge 27, 3) := by decide +kernel
theorem dX0_remove_24 : decode cX0_remove 24 = .ok (.aload_n 0, 1) := by decide +kernel
theorem dX0_remove_25 : decode cX0_remove 25 = .ok (.getfield 14, 3) := by decide +kernel
theorem dX0_remove_28 : decode cX0_remove 28 = .ok (.iload_n 2, 1) := by decide +kernel
theorem dX0_remove_29 : decode cX0_remove 29 = .ok (.aload_n 0, 1) := by decide +kernel
theorem dX0_remove_30 : decode cX0_remove 30 = .ok (.getfield 14, 3) := by decide +kernel
theorem dX0_remove_33 : decode cX0_remove 33 = .ok (.iload_n 2, 1) := by decide +kernel
theorem dX0_remove_34 : decode cX0_remove 34 = .ok (.iconst 4, 1) := by decide +kernel
theorem dX0_remove_35 : decode cX0_remove 35 = .ok (.iadd, 1) := by decide +kernel
theorem dX0_remove_36 : decode cX0_remove 36 = .ok (.invokevirtual 41, 3) := by decide +kernel
theorem dX0_remove_39 : decode cX0_remove 39 = .ok (.invokevirtual 48, 3) := by decide +kernel
theorem dX0_remove_42 : decode cX0_remove 42 = .ok (.iinc 2 1, 3) := by decide +kernel
theorem dX0_remove_45 : decode cX0_remove 45 = .ok (.goto (-31), 3) := by decide +kernel
theorem dX0_remove_48 : decode cX0_remove 48 = .ok (.aload_n 0, 1) := by decide +kernel
theorem dX0_remove_49 : decode cX0_remove 49 = .ok (.getfield 31, 3) := by decide +kernel
theorem dX0_remove_52 : decode cX0_remove 52 = .ok (.ireturn, 1) := by decide +kernel
set_option maxRecDepth 20000 in
theorem ggX0_countFitting_X0_entry : GoodIn wsX0_countFitting wsX0_entry := goodIn_r _ [7, 8, 9, 10, 11, 6, 12, 1, 13, 14, 15, 16, 17, 18, 19, 20, 21, 22, 23, 33, 34, 35, 36, 37] (by decide +kernel) (by decide +kernel)
set_option maxRecDepth 20000 in
theorem gX0_countFitting_X0_entry : GoodIn wsX0_countFitting (wsV RX0 51 RX0 yX0_entry wsX0_entry) := goodIn_app (goodIn_of _ (by decide +kernel)) ggX0_countFitting_X0_entry
set_option maxRecDepth 20000 in
theorem ggX0_countFitting_X1_takesAlone : GoodIn wsX0_countFitting wsX1_takesAlone := goodIn_r _ [28, 29, 30, 31, 32, 19, 20, 21, 22, 23, 38, 39, 40, 37] (by decide +kernel) (by decide +kernel)
set_option maxRecDepth 20000 in
theorem gX0_countFitting_X1_takesAlone : GoodIn wsX0_countFitting (wsV RX0 55 RX1 yX1_takesAlone wsX1_takesAlone) := goodIn_app (goodIn_of _ (by decide +kernel)) ggX0_countFitting_X1_takesAlone
theorem dX0_countFitting_0 : decode cX0_countFitting 0 = .ok (.iconst 0, 1) := by decide +kernel
theorem dX0_countFitting_1 : decode cX0_countFitting 1 = .ok (.istore_n 2, 1) := by decide +kernel
theorem dX0_countFitting_2 : decode cX0_countFitting 2 = .ok (.iconst 0, 1) := by decide +kernel
theorem dX0_countFitting_3 : decode cX0_countFitting 3 = .ok (.istore_n 3, 1) := by decide +kernel
theorem dX0_countFitting_4 : decode cX0_countFitting 4 = .ok (.iload_n 3, 1) := by decide +kernel
theorem dX0_countFitting_5 : decode cX0_countFitting 5 = .ok (.aload_n 0, 1) := by decide +kernel
theorem dX0_countFitting_6 : decode cX0_countFitting 6 = .ok (.getfield 31, 3) := by decide +kernel
theorem dX0_countFitting_9 : decode cX0_countFitting 9 = .ok (.if_icmp .ge 29, 3) := by decide +kernel
theorem dX0_countFitting_12 : decode cX0_countFitting 12 = .ok (.aload_n 0, 1) := by decide +kernel
theorem dX0_countFitting_13 : decode cX0_countFitting 13 = .ok (.getfield 23, 3) := by decide +kernel
theorem dX0_countFitting_16 : decode cX0_countFitting 16 = .ok (.iload_n 1, 1) := by decide +kernel
theorem dX0_countFitting_17 : decode cX0_countFitting 17 = .ok (.aload_n 0, 1) := by decide +kernel
theorem dX0_countFitting_18 : decode cX0_countFitting 18 = .ok (.iload_n 3, 1) := by decide +kernel
theorem dX0_countFitting_19 : decode cX0_countFitting 19 = .ok (.iload_n 1, 1) := by decide +kernel
theorem dX0_countFitting_20 : decode cX0_countFitting 20 = .ok (.invokevirtual 51, 3) := by decide +kernel
theorem dX0_countFitting_23 : decode cX0_countFitting 23 = .ok (.invokevirtual 55, 3) := by decide +kernel
theorem dX0_countFitting_26 : decode cX0_countFitting 26 = .ok (.ifCond .eq 6, 3) := by decide +kernel
theorem dX0_countFitting_29 : decode cX0_countFitting 29 = .ok (.iinc 2 1, 3) := by decide +kernel
theorem dX0_countFitting_32 : decode cX0_countFitting 32 = .ok (.iinc 3 1, 3) := by decide +kernel
theorem dX0_countFitting_35 : decode cX0_countFitting 35 = .ok (.goto (-31), 3) := by decide +kernel
theorem dX0_countFitting_38 : decode cX0_countFitting 38 = .ok (.iload_n 2, 1) := by decide +kernel
theorem dX0_countFitting_39 : decode cX0_countFitting 39 = .ok (.ireturn, 1) := by decide +kernel
set_option maxRecDepth 20000 in
theorem ggX0_copyFrom_X3_copyFrom : GoodIn wsX0_copyFrom wsX3_copyFrom := goodIn_r _ [9, 10, 11, 12, 13, 8, 14, 28] (by decide +kernel) (by decide +kernel)
set_option maxRecDepth 20000 in
theorem gX0_copyFrom_X3_copyFrom : GoodIn wsX0_copyFrom (wsV RX0 59 RX3 yX3_copyFrom wsX3_copyFrom) := goodIn_app (goodIn_of _ (by decide +kernel)) ggX0_copyFrom_X3_copyFrom
set_option maxRecDepth 20000 in
theorem ggX0_copyFrom_X1_copyFrom : GoodIn wsX0_copyFrom wsX1_copyFrom := goodIn_r _ [19, 20, 21, 22, 23, 6, 7, 8, 9, 10, 11, 12, 13, 14, 29, 30, 31, 28] (by decide +kernel) (by decide +kernel)
set_option maxRecDepth 20000 in
theorem gX0_copyFrom_X1_copyFrom : GoodIn wsX0_copyFrom (wsV RX0 63 RX1 yX1_copyFrom wsX1_copyFrom) := goodIn_app (goodIn_of _ (by decide +kernel)) ggX0_copyFrom_X1_copyFrom
theorem dX0_copyFrom_0 : decode cX0_copyFrom 0 = .ok (.aload_n 0, 1) := by decide +kernel
theorem dX0_copyFrom_1 : decode cX0_copyFrom 1 = .ok (.getfield 14, 3) := by decide +kernel
theorem dX0_copyFrom_4 : decode cX0_copyFrom 4 = .ok (.aload_n 1, 1) := by decide +kernel
theorem dX0_copyFrom_5 : decode cX0_copyFrom 5 = .ok (.getfield 14, 3) := by decide +kernel
theorem dX0_copyFrom_8 : decode cX0_copyFrom 8 = .ok (.invokevirtual 59, 3) := by decide +kernel
theorem dX0_copyFrom_11 : decode cX0_copyFrom 11 = .ok (.aload_n 0, 1) := by decide +kernel
theorem dX0_copyFrom_12 : decode cX0_copyFrom 12 = .ok (.getfield 23, 3) := by decide +kernel
theorem dX0_copyFrom_15 : decode cX0_copyFrom 15 = .ok (.aload_n 1, 1) := by decide +kernel
theorem dX0_copyFrom_16 : decode cX0_copyFrom 16 = .ok (.getfield 23, 3) := by decide +kernel
theorem dX0_copyFrom_19 : decode cX0_copyFrom 19 = .ok (.invokevirtual 63, 3) := by decide +kernel
theorem dX0_copyFrom_22 : decode cX0_copyFrom 22 = .ok (.aload_n 0, 1) := by decide +kernel
theorem dX0_copyFrom_23 : decode cX0_copyFrom 23 = .ok (.aload_n 1, 1) := by decide +kernel
theorem dX0_copyFrom_24 : decode cX0_copyFrom 24 = .ok (.getfield 27, 3) := by decide +kernel
theorem dX0_copyFrom_27 : decode cX0_copyFrom 27 = .ok (.putfield 27, 3) := by decide +kernel
theorem dX0_copyFrom_30 : decode cX0_copyFrom 30 = .ok (.aload_n 0, 1) := by decide +kernel
theorem dX0_copyFrom_31 : decode cX0_copyFrom 31 = .ok (.aload_n 1, 1) := by decide +kernel
theorem dX0_copyFrom_32 : decode cX0_copyFrom 32 = .ok (.getfield 31, 3) := by decide +kernel
theorem dX0_copyFrom_35 : decode cX0_copyFrom 35 = .ok (.putfield 31, 3) := by decide +kernel
theorem dX0_copyFrom_38 : decode cX0_copyFrom 38 = .ok (.return_, 1) := by decide +kernel
set_option maxRecDepth 20000 in
theorem ggX1_init_X3_init : GoodIn wsX1_init wsX3_init := goodIn_r _ [12, 13, 2, 3, 14, 15, 16, 17, 18, 19, 20, 21, 22, 6, 23, 24] (by decide +kernel) (by decide +kernel)
set_option maxRecDepth 20000 in
theorem gX1_init_X3_init : GoodIn wsX1_init (wsX3_init) := ggX1_init_X3_init
theorem dX1_init_0 : decode cX1_init 0 = .ok (.aload_n 0, 1) := by decide +kernel
theorem dX1_init_1 : decode cX1_init 1 = .ok (.invokespecial 3, 3) := by decide +kernel
theorem dX1_init_4 : decode cX1_init 4 = .ok (.aload_n 0, 1) := by decide +kernel
theorem dX1_init_5 : decode cX1_init 5 = .ok (.new 9, 3) := by decide +kernel
theorem dX1_init_8 : decode cX1_init 8 = .ok (.dup, 1) := by decide +kernel
theorem dX1_init_9 : decode cX1_init 9 = .ok (.iconst 4, 1) := by decide +kernel
theorem dX1_init_10 : decode cX1_init 10 = .ok (.iconst 0, 1) := by decide +kernel
theorem dX1_init_11 : decode cX1_init 11 = .ok (.invokespecial 11, 3) := by decide +kernel
theorem dX1_init_14 : decode cX1_init 14 = .ok (.putfield 14, 3) := by decide +kernel
theorem dX1_init_17 : decode cX1_init 17 = .ok (.aload_n 0, 1) := by decide +kernel
theorem dX1_init_18 : decode cX1_init 18 = .ok (.new 9, 3) := by decide +kernel
theorem dX1_init_21 : decode cX1_init 21 = .ok (.dup, 1) := by decide +kernel
theorem dX1_init_22 : decode cX1_init 22 = .ok (.iconst 4, 1) := by decide +kernel
theorem dX1_init_23 : decode cX1_init 23 = .ok (.iconst 0, 1) := by decide +kernel
theorem dX1_init_24 : decode cX1_init 24 = .ok (.invokespecial 11, 3) := by decide +kernel
theorem dX1_init_27 : decode cX1_init 27 = .ok (.putfield 20, 3) := by decide +kernel
theorem dX1_init_30 : decode cX1_init 30 = .ok (.aload_n 0, 1) := by decide +kernel
theorem dX1_init_31 : decode cX1_init 31 = .ok (.new 9, 3) := by decide +kernel
theorem dX1_init_34 : decode cX1_init 34 = .ok (.dup, 1) := by decide +kernel
theorem dX1_init_35 : decode cX1_init 35 = .ok (.iconst 4, 1) := by decide +kernel
theorem dX1_init_36 : decode cX1_init 36 = .ok (.iconst 0, 1) := by decide +kernel
theorem dX1_init_37 : decode cX1_init 37 = .ok (.invokespecial 11, 3) := by decide +kernel
theorem dX1_init_40 : decode cX1_init 40 = .ok (.putfield 23, 3) := by decide +kernel
theorem dX1_init_43 : decode cX1_init 43 = .ok (.return_, 1) := by decide +kernel
set_option maxRecDepth 20000 in
theorem ggX1_kindAt_X3_at : GoodIn wsX1_kindAt wsX3_at := goodIn_r _ [6, 7, 11] (by decide +kernel) (by decide +kernel)
set_option maxRecDepth 20000 in
theorem gX1_kindAt_X3_at : GoodIn wsX1_kindAt (wsV RX1 26 RX3 yX3_at wsX3_at) := goodIn_app (goodIn_of _ (by decide +kernel)) ggX1_kindAt_X3_at
theorem dX1_kindAt_0 : decode cX1_kindAt 0 = .ok (.aload_n 0, 1) := by decide +kernel
theorem dX1_kindAt_1 : decode cX1_kindAt 1 = .ok (.getfield 14, 3) := by decide +kernel
theorem dX1_kindAt_4 : decode cX1_kindAt 4 = .ok (.iload_n 1, 1) := by decide +kernel
theorem dX1_kindAt_5 : decode cX1_kindAt 5 = .ok (.invokevirtual 26, 3) := by decide +kernel
theorem dX1_kindAt_8 : decode cX1_kindAt 8 = .ok (.ireturn, 1) := by decide +kernel
set_option maxRecDepth 20000 in
theorem ggX1_firstAt_X3_at : GoodIn wsX1_firstAt wsX3_at := goodIn_r _ [6, 7, 11] (by decide +kernel) (by decide +kernel)
set_option maxRecDepth 20000 in
theorem gX1_firstAt_X3_at : GoodIn wsX1_firstAt (wsV RX1 26 RX3 yX3_at wsX3_at) := goodIn_app (goodIn_of _ (by decide +kernel)) ggX1_firstAt_X3_at
theorem dX1_firstAt_0 : decode cX1_firstAt 0 = .ok (.aload_n 0, 1) := by decide +kernel
theorem dX1_firstAt_1 : decode cX1_firstAt 1 = .ok (.getfield 20, 3) := by decide +kernel
theorem dX1_firstAt_4 : decode cX1_firstAt 4 = .ok (.iload_n 1, 1) := by decide +kernel
theorem dX1_firstAt_5 : decode cX1_firstAt 5 = .ok (.invokevirtual 26, 3) := by decide +kernel
theorem dX1_firstAt_8 : decode cX1_firstAt 8 = .ok (.ireturn, 1) := by decide +kernel
set_option maxRecDepth 20000 in
theorem ggX1_secondAt_X3_at : GoodIn wsX1_secondAt wsX3_at := goodIn_r _ [6, 7, 11] (by decide +kernel) (by decide +kernel)
set_option maxRecDepth 20000 in
theorem gX1_secondAt_X3_at : GoodIn wsX1_secondAt (wsV RX1 26 RX3 yX3_at wsX3_at) := goodIn_app (goodIn_of _ (by decide +kernel)) ggX1_secondAt_X3_at
theorem dX1_secondAt_0 : decode cX1_secondAt 0 = .ok (.aload_n 0, 1) := by decide +kernel
theorem dX1_secondAt_1 : decode cX1_secondAt 1 = .ok (.getfield 23, 3) := by decide +kernel
theorem dX1_secondAt_4 : decode cX1_secondAt 4 = .ok (.iload_n 1, 1) := by decide +kernel
theorem dX1_secondAt_5 : decode cX1_secondAt 5 = .ok (.invokevirtual 26, 3) := by decide +kernel
theorem dX1_secondAt_8 : decode cX1_secondAt 8 = .ok (.ireturn, 1) := by decide +kernel
set_option maxRecDepth 20000 in
theorem ggX1_fill_X3_set : GoodIn wsX1_fill wsX3_set := goodIn_r _ [8, 9, 13] (by decide +kernel) (by decide +kernel)
set_option maxRecDepth 20000 in
theorem gX1_fill_X3_set : GoodIn wsX1_fill (wsV RX1 30 RX3 yX3_set wsX3_set) := goodIn_app (goodIn_of _ (by decide +kernel)) ggX1_fill_X3_set
theorem dX1_fill_0 : decode cX1_fill 0 = .ok (.aload_n 0, 1) := by decide +kernel
theorem dX1_fill_1 : decode cX1_fill 1 = .ok (.getfield 14, 3) := by decide +kernel
theorem dX1_fill_4 : decode cX1_fill 4 = .ok (.iload_n 1, 1) := by decide +kernel
theorem dX1_fill_5 : decode cX1_fill 5 = .ok (.iload_n 2, 1) := by decide +kernel
theorem dX1_fill_6 : decode cX1_fill 6 = .ok (.invokevirtual 30, 3) := by decide +kernel
theorem dX1_fill_9 : decode cX1_fill 9 = .ok (.aload_n 0, 1) := by decide +kernel
theorem dX1_fill_10 : decode cX1_fill 10 = .ok (.getfield 20, 3) := by decide +kernel
theorem dX1_fill_13 : decode cX1_fill 13 = .ok (.iload_n 1, 1) := by decide +kernel
theorem dX1_fill_14 : decode cX1_fill 14 = .ok (.iload_n 3, 1) := by decide +kernel
theorem dX1_fill_15 : decode cX1_fill 15 = .ok (.invokevirtual 30, 3) := by decide +kernel
theorem dX1_fill_18 : decode cX1_fill 18 = .ok (.aload_n 0, 1) := by decide +kernel
theorem dX1_fill_19 : decode cX1_fill 19 = .ok (.getfield 23, 3) := by decide +kernel
theorem dX1_fill_22 : decode cX1_fill 22 = .ok (.iload_n 1, 1) := by decide +kernel
theorem dX1_fill_23 : decode cX1_fill 23 = .ok (.iload 4, 2) := by decide +kernel
theorem dX1_fill_25 : decode cX1_fill 25 = .ok (.invokevirtual 30, 3) := by decide +kernel
theorem dX1_fill_28 : decode cX1_fill 28 = .ok (.return_, 1) := by decide +kernel
set_option maxRecDepth 20000 in
theorem ggX1_wipe_X3_fill : GoodIn wsX1_wipe wsX3_fill := goodIn_r _ [8, 9, 13] (by decide +kernel) (by decide +kernel)
set_option maxRecDepth 20000 in
theorem gX1_wipe_X3_fill : GoodIn wsX1_wipe (wsV RX1 33 RX3 yX3_fill wsX3_fill) := goodIn_app (goodIn_of _ (by decide +kernel)) ggX1_wipe_X3_fill
theorem dX1_wipe_0 : decode cX1_wipe 0 = .ok (.aload_n 0, 1) := by decide +kernel
theorem dX1_wipe_1 : decode cX1_wipe 1 = .ok (.getfield 14, 3) := by decide +kernel
theorem dX1_wipe_4 : decode cX1_wipe 4 = .ok (.iconst 0, 1) := by decide +kernel
theorem dX1_wipe_5 : decode cX1_wipe 5 = .ok (.invokevirtual 33, 3) := by decide +kernel
theorem dX1_wipe_8 : decode cX1_wipe 8 = .ok (.aload_n 0, 1) := by decide +kernel
theorem dX1_wipe_9 : decode cX1_wipe 9 = .ok (.getfield 20, 3) := by decide +kernel
theorem dX1_wipe_12 : decode cX1_wipe 12 = .ok (.iconst 0, 1) := by decide +kernel
theorem dX1_wipe_13 : decode cX1_wipe 13 = .ok (.invokevirtual 33, 3) := by decide +kernel
theorem dX1_wipe_16 : decode cX1_wipe 16 = .ok (.aload_n 0, 1) := by decide +kernel
theorem dX1_wipe_17 : decode cX1_wipe 17 = .ok (.getfield 23, 3) := by decide +kernel
theorem dX1_wipe_20 : decode cX1_wipe 20 = .ok (.iconst 0, 1) := by decide +kernel
theorem dX1_wipe_21 : decode cX1_wipe 21 = .ok (.invokevirtual 33, 3) := by decide +kernel
theorem dX1_wipe_24 : decode cX1_wipe 24 = .ok (.return_, 1) := by decide +kernel
set_option maxRecDepth 20000 in
theorem ggX1_otherKinds_X3_at : GoodIn wsX1_otherKinds wsX3_at := goodIn_r _ [6, 7, 11] (by decide +kernel) (by decide +kernel)
set_option maxRecDepth 20000 in
theorem gX1_otherKinds_X3_at : GoodIn wsX1_otherKinds (wsV RX1 26 RX3 yX3_at wsX3_at) := goodIn_app (goodIn_of _ (by decide +kernel)) ggX1_otherKinds_X3_at
theorem dX1_otherKinds_0 : decode cX1_otherKinds 0 = .ok (.iconst 0, 1) := by decide +kernel
theorem dX1_otherKinds_1 : decode cX1_otherKinds 1 = .ok (.istore_n 1, 1) := by decide +kernel
theorem dX1_otherKinds_2 : decode cX1_otherKinds 2 = .ok (.iconst 0, 1) := by decide +kernel
theorem dX1_otherKinds_3 : decode cX1_otherKinds 3 = .ok (.istore_n 2, 1) := by decide +kernel
theorem dX1_otherKinds_4 : decode cX1_otherKinds 4 = .ok (.iload_n 2, 1) := by decide +kernel
theorem dX1_otherKinds_5 : decode cX1_otherKinds 5 = .ok (.iconst 4, 1) := by decide +kernel
theorem dX1_otherKinds_6 : decode cX1_otherKinds 6 = .ok (.if_icmp .ge 23, 3) := by decide +kernel
theorem dX1_otherKinds_9 : decode cX1_otherKinds 9 = .ok (.aload_n 0, 1) := by decide +kernel
theorem dX1_otherKinds_10 : decode cX1_otherKinds 10 = .ok (.getfield 14, 3) := by decide +kernel
theorem dX1_otherKinds_13 : decode cX1_otherKinds 13 = .ok (.iload_n 2, 1) := by decide +kernel
theorem dX1_otherKinds_14 : decode cX1_otherKinds 14 = .ok (.invokevirtual 26, 3) := by decide +kernel
theorem dX1_otherKinds_17 : decode cX1_otherKinds 17 = .ok (.ifCond .eq 6, 3) := by decide +kernel
theorem dX1_otherKinds_20 : decode cX1_otherKinds 20 = .ok (.iinc 1 1, 3) := by decide +kernel
theorem dX1_otherKinds_23 : decode cX1_otherKinds 23 = .ok (.iinc 2 1, 3) := by decide +kernel
theorem dX1_otherKinds_26 : decode cX1_otherKinds 26 = .ok (.goto (-22), 3) := by decide +kernel
theorem dX1_otherKinds_29 : decode cX1_otherKinds 29 = .ok (.iload_n 1, 1) := by decide +kernel
theorem dX1_otherKinds_30 : decode cX1_otherKinds 30 = .ok (.ireturn, 1) := by decide +kernel
set_option maxRecDepth 20000 in
theorem ggX1_takesAlone_X3_at : GoodIn wsX1_takesAlone wsX3_at := goodIn_r _ [8, 9, 13] (by decide +kernel) (by decide +kernel)
set_option maxRecDepth 20000 in
theorem gX1_takesAlone_X3_at : GoodIn wsX1_takesAlone (wsV RX1 26 RX3 yX3_at wsX3_at) := goodIn_app (goodIn_of _ (by decide +kernel)) ggX1_takesAlone_X3_at
theorem dX1_takesAlone_0 : decode cX1_takesAlone 0 = .ok (.aload_n 0, 1) := by decide +kernel
theorem dX1_takesAlone_1 : decode cX1_takesAlone 1 = .ok (.getfield 14, 3) := by decide +kernel
theorem dX1_takesAlone_4 : decode cX1_takesAlone 4 = .ok (.iload_n 1, 1) := by decide +kernel
theorem dX1_takesAlone_5 : decode cX1_takesAlone 5 = .ok (.invokevirtual 26, 3) := by decide +kernel
theorem dX1_takesAlone_8 : decode cX1_takesAlone 8 = .ok (.istore_n 3, 1) := by decide +kernel
theorem dX1_takesAlone_9 : decode cX1_takesAlone 9 = .ok (.aload_n 0, 1) := by decide +kernel
theorem dX1_takesAlone_10 : decode cX1_takesAlone 10 = .ok (.getfield 20, 3) := by decide +kernel
theorem dX1_takesAlone_13 : decode cX1_takesAlone 13 = .ok (.iload_n 1, 1) := by decide +kernel
theorem dX1_takesAlone_14 : decode cX1_takesAlone 14 = .ok (.invokevirtual 26, 3) := by decide +kernel
theorem dX1_takesAlone_17 : decode cX1_takesAlone 17 = .ok (.istore 4, 2) := by decide +kernel
theorem dX1_takesAlone_19 : decode cX1_takesAlone 19 = .ok (.iload_n 3, 1) := by decide +kernel
theorem dX1_takesAlone_20 : decode cX1_takesAlone 20 = .ok (.ifCond .eq 8, 3) := by decide +kernel
theorem dX1_takesAlone_23 : decode cX1_takesAlone 23 = .ok (.iload_n 3, 1) := by decide +kernel
theorem dX1_takesAlone_24 : decode cX1_takesAlone 24 = .ok (.iconst 1, 1) := by decide +kernel
theorem dX1_takesAlone_25 : decode cX1_takesAlone 25 = .ok (.if_icmp .ne 18, 3) := by decide +kernel
theorem dX1_takesAlone_28 : decode cX1_takesAlone 28 = .ok (.iload_n 3, 1) := by decide +kernel
theorem dX1_takesAlone_29 : decode cX1_takesAlone 29 = .ok (.ifCond .eq 8, 3) := by decide +kernel
theorem dX1_takesAlone_32 : decode cX1_takesAlone 32 = .ok (.iload_n 2, 1) := by decide +kernel
theorem dX1_takesAlone_33 : decode cX1_takesAlone 33 = .ok (.iconst (-1), 1) := by decide +kernel
theorem dX1_takesAlone_34 : decode cX1_takesAlone 34 = .ok (.if_icmp .ne 7, 3) := by decide +kernel
theorem dX1_takesAlone_37 : decode cX1_takesAlone 37 = .ok (.iconst 1, 1) := by decide +kernel
theorem dX1_takesAlone_38 : decode cX1_takesAlone 38 = .ok (.goto 4, 3) := by decide +kernel
theorem dX1_takesAlone_41 : decode cX1_takesAlone 41 = .ok (.iconst 0, 1) := by decide +kernel
theorem dX1_takesAlone_42 : decode cX1_takesAlone 42 = .ok (.ireturn, 1) := by decide +kernel
theorem dX1_takesAlone_43 : decode cX1_takesAlone 43 = .ok (.iload_n 2, 1) := by decide +kernel
theorem dX1_takesAlone_44 : decode cX1_takesAlone 44 = .ok (.iconst (-1), 1) := by decide +kernel
theorem dX1_takesAlone_45 : decode cX1_takesAlone 45 = .ok (.if_icmp .ne 5, 3) := by decide +kernel
theorem dX1_takesAlone_48 : decode cX1_takesAlone 48 = .ok (.iconst 0, 1) := by decide +kernel
theorem dX1_takesAlone_49 : decode cX1_takesAlone 49 = .ok (.ireturn, 1) := by decide +kernel
theorem dX1_takesAlone_50 : decode cX1_takesAlone 50 = .ok (.iload_n 3, 1) := by decide +kernel
theorem dX1_takesAlone_51 : decode cX1_takesAlone 51 = .ok (.tableswitch 115 2 8 #[41, 43, 55, 67, 79, 91, 41], 41) := by decide +kernel
theorem dX1_takesAlone_92 : decode cX1_takesAlone 92 = .ok (.iconst 1, 1) := by decide +kernel
theorem dX1_takesAlone_93 : decode cX1_takesAlone 93 = .ok (.ireturn, 1) := by decide +kernel
theorem dX1_takesAlone_94 : decode cX1_takesAlone 94 = .ok (.iload_n 2, 1) := by decide +kernel
theorem dX1_takesAlone_95 : decode cX1_takesAlone 95 = .ok (.iload 4, 2) := by decide +kernel
theorem dX1_takesAlone_97 : decode cX1_takesAlone 97 = .ok (.if_icmp .ne 7, 3) := by decide +kernel
theorem dX1_takesAlone_100 : decode cX1_takesAlone 100 = .ok (.iconst 1, 1) := by decide +kernel
theorem dX1_takesAlone_101 : decode cX1_takesAlone 101 = .ok (.goto 4, 3) := by decide +kernel
theorem dX1_takesAlone_104 : decode cX1_takesAlone 104 = .ok (.iconst 0, 1) := by decide +kernel
theorem dX1_takesAlone_105 : decode cX1_takesAlone 105 = .ok (.ireturn, 1) := by decide +kernel
theorem dX1_takesAlone_106 : decode cX1_takesAlone 106 = .ok (.iload_n 2, 1) := by decide +kernel
theorem dX1_takesAlone_107 : decode cX1_takesAlone 107 = .ok (.iload 4, 2) := by decide +kernel
theorem dX1_takesAlone_109 : decode cX1_takesAlone 109 = .ok (.if_icmp .eq 7, 3) := by decide +kernel
theorem dX1_takesAlone_112 : decode cX1_takesAlone 112 = .ok (.iconst 1, 1) := by decide +kernel
theorem dX1_takesAlone_113 : decode cX1_takesAlone 113 = .ok (.goto 4, 3) := by decide +kernel
theorem dX1_takesAlone_116 : decode cX1_takesAlone 116 = .ok (.iconst 0, 1) := by decide +kernel
theorem dX1_takesAlone_117 : decode cX1_takesAlone 117 = .ok (.ireturn, 1) := by decide +kernel
theorem dX1_takesAlone_118 : decode cX1_takesAlone 118 = .ok (.iload_n 2, 1) := by decide +kernel
theorem dX1_takesAlone_119 : decode cX1_takesAlone 119 = .ok (.iload 4, 2) := by decide +kernel
theorem dX1_takesAlone_121 : decode cX1_takesAlone 121 = .ok (.if_icmp .ge 7, 3) := by decide +kernel
theorem dX1_takesAlone_124 : decode cX1_takesAlone 124 = .ok (.iconst 1, 1) := by decide +kernel
theorem dX1_takesAlone_125 : decode cX1_takesAlone 125 = .ok (.goto 4, 3) := by decide +kernel
theorem dX1_takesAlone_128 : decode cX1_takesAlone 128 = .ok (.iconst 0, 1) := by decide +kernel
theorem dX1_takesAlone_129 : decode cX1_takesAlone 129 = .ok (.ireturn, 1) := by decide +kernel
theorem dX1_takesAlone_130 : decode cX1_takesAlone 130 = .ok (.iload_n 2, 1) := by decide +kernel
theorem dX1_takesAlone_131 : decode cX1_takesAlone 131 = .ok (.iload 4, 2) := by decide +kernel
theorem dX1_takesAlone_133 : decode cX1_takesAlone 133 = .ok (.if_icmp .le 7, 3) := by decide +kernel
theorem dX1_takesAlone_136 : decode cX1_takesAlone 136 = .ok (.iconst 1, 1) := by decide +kernel
theorem dX1_takesAlone_137 : decode cX1_takesAlone 137 = .ok (.goto 4, 3) := by decide +kernel
theorem dX1_takesAlone_140 : decode cX1_takesAlone 140 = .ok (.iconst 0, 1) := by decide +kernel
theorem dX1_takesAlone_141 : decode cX1_takesAlone 141 = .ok (.ireturn, 1) := by decide +kernel
theorem dX1_takesAlone_142 : decode cX1_takesAlone 142 = .ok (.iload_n 2, 1) := by decide +kernel
theorem dX1_takesAlone_143 : decode cX1_takesAlone 143 = .ok (.iload 4, 2) := by decide +kernel
theorem dX1_takesAlone_145 : decode cX1_takesAlone 145 = .ok (.if_icmp .lt 19, 3) := by decide +kernel
theorem dX1_takesAlone_148 : decode cX1_takesAlone 148 = .ok (.iload_n 2, 1) := by decide +kernel
theorem dX1_takesAlone_149 : decode cX1_takesAlone 149 = .ok (.aload_n 0, 1) := by decide +kernel
theorem dX1_takesAlone_150 : decode cX1_takesAlone 150 = .ok (.getfield 23, 3) := by decide +kernel
theorem dX1_takesAlone_153 : decode cX1_takesAlone 153 = .ok (.iload_n 1, 1) := by decide +kernel
theorem dX1_takesAlone_154 : decode cX1_takesAlone 154 = .ok (.invokevirtual 26, 3) := by decide +kernel
theorem dX1_takesAlone_157 : decode cX1_takesAlone 157 = .ok (.if_icmp .gt 7, 3) := by decide +kernel
theorem dX1_takesAlone_160 : decode cX1_takesAlone 160 = .ok (.iconst 1, 1) := by decide +kernel
theorem dX1_takesAlone_161 : decode cX1_takesAlone 161 = .ok (.goto 4, 3) := by decide +kernel
theorem dX1_takesAlone_164 : decode cX1_takesAlone 164 = .ok (.iconst 0, 1) := by decide +kernel
theorem dX1_takesAlone_165 : decode cX1_takesAlone 165 = .ok (.ireturn, 1) := by decide +kernel
theorem dX1_takesAlone_166 : decode cX1_takesAlone 166 = .ok (.iconst 0, 1) := by decide +kernel
theorem dX1_takesAlone_167 : decode cX1_takesAlone 167 = .ok (.ireturn, 1) := by decide +kernel
set_option maxRecDepth 20000 in
theorem ggX1_copyFrom_X3_copyFrom : GoodIn wsX1_copyFrom wsX3_copyFrom := goodIn_r _ [8, 9, 10, 11, 12, 7, 13, 17] (by decide +kernel) (by decide +kernel)
set_option maxRecDepth 20000 in
theorem gX1_copyFrom_X3_copyFrom : GoodIn wsX1_copyFrom (wsV RX1 37 RX3 yX3_copyFrom wsX3_copyFrom) := goodIn_app (goodIn_of _ (by decide +kernel)) ggX1_copyFrom_X3_copyFrom
theorem dX1_copyFrom_0 : decode cX1_copyFrom 0 = .ok (.aload_n 0, 1) := by decide +kernel
theorem dX1_copyFrom_1 : decode cX1_copyFrom 1 = .ok (.getfield 14, 3) := by decide +kernel
theorem dX1_copyFrom_4 : decode cX1_copyFrom 4 = .ok (.aload_n 1, 1) := by decide +kernel
theorem dX1_copyFrom_5 : decode cX1_copyFrom 5 = .ok (.getfield 14, 3) := by decide +kernel
theorem dX1_copyFrom_8 : decode cX1_copyFrom 8 = .ok (.invokevirtual 37, 3) := by decide +kernel
theorem dX1_copyFrom_11 : decode cX1_copyFrom 11 = .ok (.aload_n 0, 1) := by decide +kernel
theorem dX1_copyFrom_12 : decode cX1_copyFrom 12 = .ok (.getfield 20, 3) := by decide +kernel
theorem dX1_copyFrom_15 : decode cX1_copyFrom 15 = .ok (.aload_n 1, 1) := by decide +kernel
theorem dX1_copyFrom_16 : decode cX1_copyFrom 16 = .ok (.getfield 20, 3) := by decide +kernel
theorem dX1_copyFrom_19 : decode cX1_copyFrom 19 = .ok (.invokevirtual 37, 3) := by decide +kernel
theorem dX1_copyFrom_22 : decode cX1_copyFrom 22 = .ok (.aload_n 0, 1) := by decide +kernel
theorem dX1_copyFrom_23 : decode cX1_copyFrom 23 = .ok (.getfield 23, 3) := by decide +kernel
theorem dX1_copyFrom_26 : decode cX1_copyFrom 26 = .ok (.aload_n 1, 1) := by decide +kernel
theorem dX1_copyFrom_27 : decode cX1_copyFrom 27 = .ok (.getfield 23, 3) := by decide +kernel
theorem dX1_copyFrom_30 : decode cX1_copyFrom 30 = .ok (.invokevirtual 37, 3) := by decide +kernel
theorem dX1_copyFrom_33 : decode cX1_copyFrom 33 = .ok (.return_, 1) := by decide +kernel
set_option maxRecDepth 20000 in
theorem ggX2_init_X6_init : GoodIn wsX2_init wsX6_init := goodIn_r _ [13, 14, 2, 3, 15, 16, 17, 18, 19, 20, 21, 22, 23, 24, 25, 26, 27, 28, 29, 30, 31, 32, 33, 34, 35, 36, 37, 38, 39, 40, 41, 42, 43, 44, 45, 46, 47, 48, 49, 50, 51, 52, 53, 54, 55, 56, 57, 58, 59, 60, 72, 73, 74, 75, 61, 62, 63, 64, 65, 66, 76, 77, 78, 79] (by decide +kernel) (by decide +kernel)
set_option maxRecDepth 20000 in
theorem gX2_init_X6_init_n11 : GoodIn wsX2_init (wsX6_init) := ggX2_init_X6_init
theorem dX2_init_0 : decode cX2_init 0 = .ok (.aload_n 0, 1) := by decide +kernel
theorem dX2_init_1 : decode cX2_init 1 = .ok (.invokespecial 3, 3) := by decide +kernel
theorem dX2_init_4 : decode cX2_init 4 = .ok (.aload_n 0, 1) := by decide +kernel
theorem dX2_init_5 : decode cX2_init 5 = .ok (.new 9, 3) := by decide +kernel
theorem dX2_init_8 : decode cX2_init 8 = .ok (.dup, 1) := by decide +kernel
theorem dX2_init_9 : decode cX2_init 9 = .ok (.invokespecial 11, 3) := by decide +kernel
theorem dX2_init_12 : decode cX2_init 12 = .ok (.putfield 12, 3) := by decide +kernel
theorem dX2_init_15 : decode cX2_init 15 = .ok (.aload_n 0, 1) := by decide +kernel
theorem dX2_init_16 : decode cX2_init 16 = .ok (.new 9, 3) := by decide +kernel
theorem dX2_init_19 : decode cX2_init 19 = .ok (.dup, 1) := by decide +kernel
theorem dX2_init_20 : decode cX2_init 20 = .ok (.invokespecial 11, 3) := by decide +kernel
theorem dX2_init_23 : decode cX2_init 23 = .ok (.putfield 18, 3) := by decide +kernel
theorem dX2_init_26 : decode cX2_init 26 = .ok (.aload_n 0, 1) := by decide +kernel
theorem dX2_init_27 : decode cX2_init 27 = .ok (.new 9, 3) := by decide +kernel
theorem dX2_init_30 : decode cX2_init 30 = .ok (.dup, 1) := by decide +kernel
theorem dX2_init_31 : decode cX2_init 31 = .ok (.invokespecial 11, 3) := by decide +kernel
theorem dX2_init_34 : decode cX2_init 34 = .ok (.putfield 21, 3) := by decide +kernel
theorem dX2_init_37 : decode cX2_init 37 = .ok (.aload_n 0, 1) := by decide +kernel
theorem dX2_init_38 : decode cX2_init 38 = .ok (.new 9, 3) := by decide +kernel
theorem dX2_init_41 : decode cX2_init 41 = .ok (.dup, 1) := by decide +kernel
theorem dX2_init_42 : decode cX2_init 42 = .ok (.invokespecial 11, 3) := by decide +kernel
theorem dX2_init_45 : decode cX2_init 45 = .ok (.putfield 24, 3) := by decide +kernel
theorem dX2_init_48 : decode cX2_init 48 = .ok (.aload_n 0, 1) := by decide +kernel
theorem dX2_init_49 : decode cX2_init 49 = .ok (.iconst 0, 1) := by decide +kernel
theorem dX2_init_50 : decode cX2_init 50 = .ok (.putfield 27, 3) := by decide +kernel
theorem dX2_init_53 : decode cX2_init 53 = .ok (.return_, 1) := by decide +kernel
theorem dX2_size_0 : decode cX2_size 0 = .ok (.aload_n 0, 1) := by decide +kernel
theorem dX2_size_1 : decode cX2_size 1 = .ok (.getfield 27, 3) := by decide +kernel
theorem dX2_size_4 : decode cX2_size 4 = .ok (.ireturn, 1) := by decide +kernel
set_option maxRecDepth 20000 in
theorem ggX2_keep_X6_copyFrom : GoodIn wsX2_keep wsX6_copyFrom := goodIn_r _ [14, 15, 16, 17, 18, 19, 20, 21, 22, 23, 24, 25, 26, 27, 28, 29, 30, 31, 32, 33, 34, 35, 36, 37, 38, 39, 40, 41, 42, 43, 44, 45, 46, 47, 48, 49, 55, 56, 57, 58, 59, 60, 61, 62, 63, 64, 65, 66, 67, 68] (by decide +kernel) (by decide +kernel)
set_option maxRecDepth 20000 in
theorem gX2_keep_X6_copyFrom : GoodIn wsX2_keep (wsV RX2 31 RX6 yX6_copyFrom wsX6_copyFrom) := goodIn_app (goodIn_of _ (by decide +kernel)) ggX2_keep_X6_copyFrom
theorem dX2_keep_0 : decode cX2_keep 0 = .ok (.aload_n 0, 1) := by decide +kernel
theorem dX2_keep_1 : decode cX2_keep 1 = .ok (.getfield 24, 3) := by decide +kernel
theorem dX2_keep_4 : decode cX2_keep 4 = .ok (.aload_n 0, 1) := by decide +kernel
theorem dX2_keep_5 : decode cX2_keep 5 = .ok (.getfield 21, 3) := by decide +kernel
theorem dX2_keep_8 : decode cX2_keep 8 = .ok (.invokevirtual 31, 3) := by decide +kernel
theorem dX2_keep_11 : decode cX2_keep 11 = .ok (.aload_n 0, 1) := by decide +kernel
theorem dX2_keep_12 : decode cX2_keep 12 = .ok (.getfield 21, 3) := by decide +kernel
theorem dX2_keep_15 : decode cX2_keep 15 = .ok (.aload_n 0, 1) := by decide +kernel
theorem dX2_keep_16 : decode cX2_keep 16 = .ok (.getfield 18, 3) := by decide +kernel
theorem dX2_keep_19 : decode cX2_keep 19 = .ok (.invokevirtual 31, 3) := by decide +kernel
theorem dX2_keep_22 : decode cX2_keep 22 = .ok (.aload_n 0, 1) := by decide +kernel
theorem dX2_keep_23 : decode cX2_keep 23 = .ok (.getfield 18, 3) := by decide +kernel
theorem dX2_keep_26 : decode cX2_keep 26 = .ok (.aload_n 0, 1) := by decide +kernel
theorem dX2_keep_27 : decode cX2_keep 27 = .ok (.getfield 12, 3) := by decide +kernel
theorem dX2_keep_30 : decode cX2_keep 30 = .ok (.invokevirtual 31, 3) := by decide +kernel
theorem dX2_keep_33 : decode cX2_keep 33 = .ok (.aload_n 0, 1) := by decide +kernel
theorem dX2_keep_34 : decode cX2_keep 34 = .ok (.getfield 12, 3) := by decide +kernel
theorem dX2_keep_37 : decode cX2_keep 37 = .ok (.aload_n 1, 1) := by decide +kernel
theorem dX2_keep_38 : decode cX2_keep 38 = .ok (.invokevirtual 31, 3) := by decide +kernel
theorem dX2_keep_41 : decode cX2_keep 41 = .ok (.aload_n 0, 1) := by decide +kernel
theorem dX2_keep_42 : decode cX2_keep 42 = .ok (.aload_n 0, 1) := by decide +kernel
theorem dX2_keep_43 : decode cX2_keep 43 = .ok (.getfield 27, 3) := by decide +kernel
theorem dX2_keep_46 : decode cX2_keep 46 = .ok (.iconst 1, 1) := by decide +kernel
theorem dX2_keep_47 : decode cX2_keep 47 = .ok (.iadd, 1) := by decide +kernel
theorem dX2_keep_48 : decode cX2_keep 48 = .ok (.iconst 4, 1) := by decide +kernel
theorem dX2_keep_49 : decode cX2_keep 49 = .ok (.invokestatic 35, 3) := by decide +kernel
theorem dX2_keep_52 : decode cX2_keep 52 = .ok (.putfield 27, 3) := by decide +kernel
theorem dX2_keep_55 : decode cX2_keep 55 = .ok (.return_, 1) := by decide +kernel
set_option maxRecDepth 20000 in
theorem ggX2_restore_X6_copyFrom : GoodIn wsX2_restore wsX6_copyFrom := goodIn_r _ [14, 15, 16, 17, 18, 19, 20, 21, 22, 23, 24, 25, 26, 27, 28, 29, 30, 31, 32, 33, 34, 35, 36, 37, 38, 39, 40, 41, 42, 43, 44, 45, 46, 47, 48, 49, 55, 56, 57, 58, 59, 60, 61, 62, 63, 64, 65, 66, 67, 68] (by decide +kernel) (by decide +kernel)
set_option maxRecDepth 20000 in
theorem gX2_restore_X6_copyFrom : GoodIn wsX2_restore (wsV RX2 31 RX6 yX6_copyFrom wsX6_copyFrom) := goodIn_app (goodIn_of _ (by decide +kernel)) ggX2_restore_X6_copyFrom
theorem dX2_restore_0 : decode cX2_restore 0 = .ok (.aload_n 1, 1) := by decide +kernel
theorem dX2_restore_1 : decode cX2_restore 1 = .ok (.aload_n 0, 1) := by decide +kernel
theorem dX2_restore_2 : decode cX2_restore 2 = .ok (.getfield 12, 3) := by decide +kernel
theorem dX2_restore_5 : decode cX2_restore 5 = .ok (.invokevirtual 31, 3) := by decide +kernel
theorem dX2_restore_8 : decode cX2_restore 8 = .ok (.aload_n 0, 1) := by decide +kernel
theorem dX2_restore_9 : decode cX2_restore 9 = .ok (.getfield 12, 3) := by decide +kernel
theorem dX2_restore_12 : decode cX2_restore 12 = .ok (.aload_n 0, 1) := by decide +kernel
theorem dX2_restore_13 : decode cX2_restore 13 = .ok (.getfield 18, 3) := by decide +kernel
theorem dX2_restore_16 : decode cX2_restore 16 = .ok (.invokevirtual 31, 3) := by decide +kernel
theorem dX2_restore_19 : decode cX2_restore 19 = .ok (.aload_n 0, 1) := by decide +kernel
theorem dX2_restore_20 : decode cX2_restore 20 = .ok (.getfield 18, 3) := by decide +kernel
theorem dX2_restore_23 : decode cX2_restore 23 = .ok (.aload_n 0, 1) := by decide +kernel
theorem dX2_restore_24 : decode cX2_restore 24 = .ok (.getfield 21, 3) := by decide +kernel
theorem dX2_restore_27 : decode cX2_restore 27 = .ok (.invokevirtual 31, 3) := by decide +kernel
theorem dX2_restore_30 : decode cX2_restore 30 = .ok (.aload_n 0, 1) := by decide +kernel
theorem dX2_restore_31 : decode cX2_restore 31 = .ok (.getfield 21, 3) := by decide +kernel
theorem dX2_restore_34 : decode cX2_restore 34 = .ok (.aload_n 0, 1) := by decide +kernel
theorem dX2_restore_35 : decode cX2_restore 35 = .ok (.getfield 24, 3) := by decide +kernel
theorem dX2_restore_38 : decode cX2_restore 38 = .ok (.invokevirtual 31, 3) := by decide +kernel
theorem dX2_restore_41 : decode cX2_restore 41 = .ok (.aload_n 0, 1) := by decide +kernel
theorem dX2_restore_42 : decode cX2_restore 42 = .ok (.aload_n 0, 1) := by decide +kernel
theorem dX2_restore_43 : decode cX2_restore 43 = .ok (.getfield 27, 3) := by decide +kernel
theorem dX2_restore_46 : decode cX2_restore 46 = .ok (.iconst 1, 1) := by decide +kernel
theorem dX2_restore_47 : decode cX2_restore 47 = .ok (.isub, 1) := by decide +kernel
theorem dX2_restore_48 : decode cX2_restore 48 = .ok (.iconst 0, 1) := by decide +kernel
theorem dX2_restore_49 : decode cX2_restore 49 = .ok (.invokestatic 41, 3) := by decide +kernel
theorem dX2_restore_52 : decode cX2_restore 52 = .ok (.putfield 27, 3) := by decide +kernel
theorem dX2_restore_55 : decode cX2_restore 55 = .ok (.return_, 1) := by decide +kernel
set_option maxRecDepth 20000 in
theorem ggX3_init_X3_fill : GoodIn wsX3_init wsX3_fill := goodIn_r _ [14, 9, 15] (by decide +kernel) (by decide +kernel)
set_option maxRecDepth 20000 in
theorem gX3_init_X3_fill : GoodIn wsX3_init (wsV RX3 19 RX3 yX3_fill wsX3_fill) := goodIn_app (goodIn_of _ (by decide +kernel)) ggX3_init_X3_fill
theorem dX3_init_0 : decode cX3_init 0 = .ok (.aload_n 0, 1) := by decide +kernel
theorem dX3_init_1 : decode cX3_init 1 = .ok (.invokespecial 1, 3) := by decide +kernel
theorem dX3_init_4 : decode cX3_init 4 = .ok (.aload_n 0, 1) := by decide +kernel
theorem dX3_init_5 : decode cX3_init 5 = .ok (.iload_n 1, 1) := by decide +kernel
theorem dX3_init_6 : decode cX3_init 6 = .ok (.iconst 0, 1) := by decide +kernel
theorem dX3_init_7 : decode cX3_init 7 = .ok (.invokestatic 7, 3) := by decide +kernel
theorem dX3_init_10 : decode cX3_init 10 = .ok (.newarray .int, 2) := by decide +kernel
theorem dX3_init_12 : decode cX3_init 12 = .ok (.putfield 13, 3) := by decide +kernel
theorem dX3_init_15 : decode cX3_init 15 = .ok (.aload_n 0, 1) := by decide +kernel
theorem dX3_init_16 : decode cX3_init 16 = .ok (.iload_n 2, 1) := by decide +kernel
theorem dX3_init_17 : decode cX3_init 17 = .ok (.invokevirtual 19, 3) := by decide +kernel
theorem dX3_init_20 : decode cX3_init 20 = .ok (.return_, 1) := by decide +kernel
theorem dX3_at_0 : decode cX3_at 0 = .ok (.iload_n 1, 1) := by decide +kernel
theorem dX3_at_1 : decode cX3_at 1 = .ok (.ifCond .lt 21, 3) := by decide +kernel
theorem dX3_at_4 : decode cX3_at 4 = .ok (.iload_n 1, 1) := by decide +kernel
theorem dX3_at_5 : decode cX3_at 5 = .ok (.aload_n 0, 1) := by decide +kernel
theorem dX3_at_6 : decode cX3_at 6 = .ok (.getfield 13, 3) := by decide +kernel
theorem dX3_at_9 : decode cX3_at 9 = .ok (.arraylength, 1) := by decide +kernel
theorem dX3_at_10 : decode cX3_at 10 = .ok (.if_icmp .ge 12, 3) := by decide +kernel
theorem dX3_at_13 : decode cX3_at 13 = .ok (.aload_n 0, 1) := by decide +kernel
theorem dX3_at_14 : decode cX3_at 14 = .ok (.getfield 13, 3) := by decide +kernel
theorem dX3_at_17 : decode cX3_at 17 = .ok (.iload_n 1, 1) := by decide +kernel
theorem dX3_at_18 : decode cX3_at 18 = .ok (.iaload, 1) := by decide +kernel
theorem dX3_at_19 : decode cX3_at 19 = .ok (.goto 4, 3) := by decide +kernel
theorem dX3_at_22 : decode cX3_at 22 = .ok (.iconst 0, 1) := by decide +kernel
theorem dX3_at_23 : decode cX3_at 23 = .ok (.ireturn, 1) := by decide +kernel
theorem dX3_set_0 : decode cX3_set 0 = .ok (.iload_n 1, 1) := by decide +kernel
theorem dX3_set_1 : decode cX3_set 1 = .ok (.ifCond .lt 19, 3) := by decide +kernel
theorem dX3_set_4 : decode cX3_set 4 = .ok (.iload_n 1, 1) := by decide +kernel
theorem dX3_set_5 : decode cX3_set 5 = .ok (.aload_n 0, 1) := by decide +kernel
theorem dX3_set_6 : decode cX3_set 6 = .ok (.getfield 13, 3) := by decide +kernel
theorem dX3_set_9 : decode cX3_set 9 = .ok (.arraylength, 1) := by decide +kernel
theorem dX3_set_10 : decode cX3_set 10 = .ok (.if_icmp .ge 10, 3) := by decide +kernel
theorem dX3_set_13 : decode cX3_set 13 = .ok (.aload_n 0, 1) := by decide +kernel
theorem dX3_set_14 : decode cX3_set 14 = .ok (.getfield 13, 3) := by decide +kernel
theorem dX3_set_17 : decode cX3_set 17 = .ok (.iload_n 1, 1) := by decide +kernel
theorem dX3_set_18 : decode cX3_set 18 = .ok (.iload_n 2, 1) := by decide +kernel
theorem dX3_set_19 : decode cX3_set 19 = .ok (.iastore, 1) := by decide +kernel
theorem dX3_set_20 : decode cX3_set 20 = .ok (.return_, 1) := by decide +kernel
theorem dX3_fill_0 : decode cX3_fill 0 = .ok (.iconst 0, 1) := by decide +kernel
theorem dX3_fill_1 : decode cX3_fill 1 = .ok (.istore_n 2, 1) := by decide +kernel
theorem dX3_fill_2 : decode cX3_fill 2 = .ok (.iload_n 2, 1) := by decide +kernel
theorem dX3_fill_3 : decode cX3_fill 3 = .ok (.aload_n 0, 1) := by decide +kernel
theorem dX3_fill_4 : decode cX3_fill 4 = .ok (.getfield 13, 3) := by decide +kernel
theorem dX3_fill_7 : decode cX3_fill 7 = .ok (.arraylength, 1) := by decide +kernel
theorem dX3_fill_8 : decode cX3_fill 8 = .ok (.if_icmp .ge 16, 3) := by decide +kernel
theorem dX3_fill_11 : decode cX3_fill 11 = .ok (.aload_n 0, 1) := by decide +kernel
theorem dX3_fill_12 : decode cX3_fill 12 = .ok (.getfield 13, 3) := by decide +kernel
theorem dX3_fill_15 : decode cX3_fill 15 = .ok (.iload_n 2, 1) := by decide +kernel
theorem dX3_fill_16 : decode cX3_fill 16 = .ok (.iload_n 1, 1) := by decide +kernel
theorem dX3_fill_17 : decode cX3_fill 17 = .ok (.iastore, 1) := by decide +kernel
theorem dX3_fill_18 : decode cX3_fill 18 = .ok (.iinc 2 1, 3) := by decide +kernel
theorem dX3_fill_21 : decode cX3_fill 21 = .ok (.goto (-19), 3) := by decide +kernel
theorem dX3_fill_24 : decode cX3_fill 24 = .ok (.return_, 1) := by decide +kernel
set_option maxRecDepth 20000 in
theorem ggX3_copyFrom_X3_at : GoodIn wsX3_copyFrom wsX3_at := goodIn_r _ [6, 1, 7] (by decide +kernel) (by decide +kernel)
set_option maxRecDepth 20000 in
theorem gX3_copyFrom_X3_at : GoodIn wsX3_copyFrom (wsV RX3 23 RX3 yX3_at wsX3_at) := goodIn_app (goodIn_of _ (by decide +kernel)) ggX3_copyFrom_X3_at
theorem dX3_copyFrom_0 : decode cX3_copyFrom 0 = .ok (.iconst 0, 1) := by decide +kernel
theorem dX3_copyFrom_1 : decode cX3_copyFrom 1 = .ok (.istore_n 2, 1) := by decide +kernel
theorem dX3_copyFrom_2 : decode cX3_copyFrom 2 = .ok (.iload_n 2, 1) := by decide +kernel
theorem dX3_copyFrom_3 : decode cX3_copyFrom 3 = .ok (.aload_n 0, 1) := by decide +kernel
theorem dX3_copyFrom_4 : decode cX3_copyFrom 4 = .ok (.getfield 13, 3) := by decide +kernel
theorem dX3_copyFrom_7 : decode cX3_copyFrom 7 = .ok (.arraylength, 1) := by decide +kernel
theorem dX3_copyFrom_8 : decode cX3_copyFrom 8 = .ok (.if_icmp .ge 20, 3) := by decide +kernel
theorem dX3_copyFrom_11 : decode cX3_copyFrom 11 = .ok (.aload_n 0, 1) := by decide +kernel
theorem dX3_copyFrom_12 : decode cX3_copyFrom 12 = .ok (.getfield 13, 3) := by decide +kernel
theorem dX3_copyFrom_15 : decode cX3_copyFrom 15 = .ok (.iload_n 2, 1) := by decide +kernel
theorem dX3_copyFrom_16 : decode cX3_copyFrom 16 = .ok (.aload_n 1, 1) := by decide +kernel
theorem dX3_copyFrom_17 : decode cX3_copyFrom 17 = .ok (.iload_n 2, 1) := by decide +kernel
theorem dX3_copyFrom_18 : decode cX3_copyFrom 18 = .ok (.invokevirtual 23, 3) := by decide +kernel
theorem dX3_copyFrom_21 : decode cX3_copyFrom 21 = .ok (.iastore, 1) := by decide +kernel
theorem dX3_copyFrom_22 : decode cX3_copyFrom 22 = .ok (.iinc 2 1, 3) := by decide +kernel
theorem dX3_copyFrom_25 : decode cX3_copyFrom 25 = .ok (.goto (-23), 3) := by decide +kernel
theorem dX3_copyFrom_28 : decode cX3_copyFrom 28 = .ok (.return_, 1) := by decide +kernel
set_option maxRecDepth 20000 in
theorem ggX4_init_X1_init : GoodIn wsX4_init wsX1_init := goodIn_r _ [14, 15, 2, 3, 16, 17, 18, 19, 20, 21, 22, 23, 24, 25, 26, 27, 28, 29, 30, 31, 32, 33, 34, 35, 45, 36, 37, 38] (by decide +kernel) (by decide +kernel)
set_option maxRecDepth 20000 in
theorem gX4_init_X1_init_n11 : GoodIn wsX4_init (wsX1_init) := ggX4_init_X1_init
theorem dX4_init_0 : decode cX4_init 0 = .ok (.aload_n 0, 1) := by decide +kernel
theorem dX4_init_1 : decode cX4_init 1 = .ok (.invokespecial 3, 3) := by decide +kernel
theorem dX4_init_4 : decode cX4_init 4 = .ok (.aload_n 0, 1) := by decide +kernel
theorem dX4_init_5 : decode cX4_init 5 = .ok (.new 9, 3) := by decide +kernel
theorem dX4_init_8 : decode cX4_init 8 = .ok (.dup, 1) := by decide +kernel
theorem dX4_init_9 : decode cX4_init 9 = .ok (.invokespecial 11, 3) := by decide +kernel
theorem dX4_init_12 : decode cX4_init 12 = .ok (.putfield 12, 3) := by decide +kernel
theorem dX4_init_15 : decode cX4_init 15 = .ok (.aload_n 0, 1) := by decide +kernel
theorem dX4_init_16 : decode cX4_init 16 = .ok (.iconst 0, 1) := by decide +kernel
theorem dX4_init_17 : decode cX4_init 17 = .ok (.putfield 18, 3) := by decide +kernel
theorem dX4_init_20 : decode cX4_init 20 = .ok (.aload_n 0, 1) := by decide +kernel
theorem dX4_init_21 : decode cX4_init 21 = .ok (.iconst 0, 1) := by decide +kernel
theorem dX4_init_22 : decode cX4_init 22 = .ok (.putfield 22, 3) := by decide +kernel
theorem dX4_init_25 : decode cX4_init 25 = .ok (.aload_n 0, 1) := by decide +kernel
theorem dX4_init_26 : decode cX4_init 26 = .ok (.iconst 0, 1) := by decide +kernel
theorem dX4_init_27 : decode cX4_init 27 = .ok (.putfield 25, 3) := by decide +kernel
theorem dX4_init_30 : decode cX4_init 30 = .ok (.aload_n 0, 1) := by decide +kernel
theorem dX4_init_31 : decode cX4_init 31 = .ok (.iconst 0, 1) := by decide +kernel
theorem dX4_init_32 : decode cX4_init 32 = .ok (.putfield 28, 3) := by decide +kernel
theorem dX4_init_35 : decode cX4_init 35 = .ok (.aload_n 0, 1) := by decide +kernel
theorem dX4_init_36 : decode cX4_init 36 = .ok (.aload_n 1, 1) := by decide +kernel
theorem dX4_init_37 : decode cX4_init 37 = .ok (.putfield 31, 3) := by decide +kernel
theorem dX4_init_40 : decode cX4_init 40 = .ok (.return_, 1) := by decide +kernel
theorem dX4_hasFault_0 : decode cX4_hasFault 0 = .ok (.aload_n 0, 1) := by decide +kernel
theorem dX4_hasFault_1 : decode cX4_hasFault 1 = .ok (.getfield 28, 3) := by decide +kernel
theorem dX4_hasFault_4 : decode cX4_hasFault 4 = .ok (.ifCond .eq 7, 3) := by decide +kernel
theorem dX4_hasFault_7 : decode cX4_hasFault 7 = .ok (.iconst 1, 1) := by decide +kernel
theorem dX4_hasFault_8 : decode cX4_hasFault 8 = .ok (.goto 4, 3) := by decide +kernel
theorem dX4_hasFault_11 : decode cX4_hasFault 11 = .ok (.iconst 0, 1) := by decide +kernel
theorem dX4_hasFault_12 : decode cX4_hasFault 12 = .ok (.ireturn, 1) := by decide +kernel
theorem dX4_faultPlace_0 : decode cX4_faultPlace 0 = .ok (.aload_n 0, 1) := by decide +kernel
theorem dX4_faultPlace_1 : decode cX4_faultPlace 1 = .ok (.getfield 25, 3) := by decide +kernel
theorem dX4_faultPlace_4 : decode cX4_faultPlace 4 = .ok (.ireturn, 1) := by decide +kernel
theorem dX4_faultReason_0 : decode cX4_faultReason 0 = .ok (.aload_n 0, 1) := by decide +kernel
theorem dX4_faultReason_1 : decode cX4_faultReason 1 = .ok (.getfield 28, 3) := by decide +kernel
theorem dX4_faultReason_4 : decode cX4_faultReason 4 = .ok (.ireturn, 1) := by decide +kernel
theorem dX4_cells_0 : decode cX4_cells 0 = .ok (.aload_n 0, 1) := by decide +kernel
theorem dX4_cells_1 : decode cX4_cells 1 = .ok (.getfield 18, 3) := by decide +kernel
theorem dX4_cells_4 : decode cX4_cells 4 = .ok (.ireturn, 1) := by decide +kernel
theorem dX4_example_0 : decode cX4_example 0 = .ok (.aload_n 0, 1) := by decide +kernel
theorem dX4_example_1 : decode cX4_example 1 = .ok (.getfield 12, 3) := by decide +kernel
theorem dX4_example_4 : decode cX4_example 4 = .ok (.areturn, 1) := by decide +kernel
set_option maxRecDepth 20000 in
theorem ggX4_start_X1_wipe : GoodIn wsX4_start wsX1_wipe := goodIn_r _ [11, 12, 13, 14, 15, 16, 17, 18, 19, 20, 85, 86, 87, 88] (by decide +kernel) (by decide +kernel)
set_option maxRecDepth 20000 in
theorem gX4_start_X1_wipe : GoodIn wsX4_start (wsV RX4 35 RX1 yX1_wipe wsX1_wipe) := goodIn_app (goodIn_of _ (by decide +kernel)) ggX4_start_X1_wipe
set_option maxRecDepth 20000 in
theorem ggX4_start_X7_characterAt : GoodIn wsX4_start wsX7_characterAt := goodIn_r _ [25, 26, 27, 28, 29, 30, 18, 31, 20, 89, 90, 88] (by decide +kernel) (by decide +kernel)
set_option maxRecDepth 20000 in
theorem gX4_start_X7_characterAt : GoodIn wsX4_start (wsV RX4 38 RX7 yX7_characterAt wsX7_characterAt) := goodIn_app (goodIn_of _ (by decide +kernel)) ggX4_start_X7_characterAt
set_option maxRecDepth 20000 in
theorem ggX4_start_X4_readCell : GoodIn wsX4_start wsX4_readCell := goodIn_r _ [36, 3, 1, 2, 37, 38, 35, 39, 40, 41, 42, 43, 6, 44, 45, 46, 47, 21, 22, 23, 24, 25, 26, 27, 28, 29, 30, 18, 31, 20, 48, 49, 50, 51, 4, 5, 52, 53, 54, 10, 55, 12, 13, 14, 56, 57, 58, 59, 60, 61, 62, 63, 64, 65, 66, 67, 68, 69, 70, 79, 80, 81, 82, 83, 84, 89, 90, 88, 85, 86, 87] (by decide +kernel) (by decide +kernel)
set_option maxRecDepth 20000 in
theorem gX4_start_X4_readCell : GoodIn wsX4_start (wsV RX4 44 RX4 yX4_readCell wsX4_readCell) := goodIn_app (goodIn_of _ (by decide +kernel)) ggX4_start_X4_readCell
set_option maxRecDepth 20000 in
theorem ggX4_start_X4_hasFault : GoodIn wsX4_start wsX4_hasFault := goodIn_r _ [63, 5, 79, 80, 81, 82, 83, 84] (by decide +kernel) (by decide +kernel)
set_option maxRecDepth 20000 in
theorem gX4_start_X4_hasFault : GoodIn wsX4_start (wsV RX4 48 RX4 yX4_hasFault wsX4_hasFault) := goodIn_app (goodIn_of _ (by decide +kernel)) ggX4_start_X4_hasFault
set_option maxRecDepth 20000 in
theorem ggX4_start_X4_readComma : GoodIn wsX4_start wsX4_readComma := goodIn_r _ [74, 3, 6, 2, 75, 76, 77, 24, 78, 26, 21, 22, 23, 25, 27, 28, 29, 30, 18, 31, 20, 48, 49, 50, 35, 51, 4, 5, 60, 61, 62, 63, 79, 80, 81, 82, 83, 84, 89, 90, 88] (by decide +kernel) (by decide +kernel)
set_option maxRecDepth 20000 in
theorem gX4_start_X4_readComma : GoodIn wsX4_start (wsV RX4 52 RX4 yX4_readComma wsX4_readComma) := goodIn_app (goodIn_of _ (by decide +kernel)) ggX4_start_X4_readComma
theorem dX4_start_0 : decode cX4_start 0 = .ok (.aload_n 0, 1) := by decide +kernel
theorem dX4_start_1 : decode cX4_start 1 = .ok (.getfield 12, 3) := by decide +kernel
theorem dX4_start_4 : decode cX4_start 4 = .ok (.invokevirtual 35, 3) := by decide +kernel
theorem dX4_start_7 : decode cX4_start 7 = .ok (.aload_n 0, 1) := by decide +kernel
theorem dX4_start_8 : decode cX4_start 8 = .ok (.iconst 0, 1) := by decide +kernel
theorem dX4_start_9 : decode cX4_start 9 = .ok (.putfield 18, 3) := by decide +kernel
theorem dX4_start_12 : decode cX4_start 12 = .ok (.aload_n 0, 1) := by decide +kernel
theorem dX4_start_13 : decode cX4_start 13 = .ok (.iconst 0, 1) := by decide +kernel
theorem dX4_start_14 : decode cX4_start 14 = .ok (.putfield 22, 3) := by decide +kernel
theorem dX4_start_17 : decode cX4_start 17 = .ok (.aload_n 0, 1) := by decide +kernel
theorem dX4_start_18 : decode cX4_start 18 = .ok (.iconst 0, 1) := by decide +kernel
theorem dX4_start_19 : decode cX4_start 19 = .ok (.putfield 25, 3) := by decide +kernel
theorem dX4_start_22 : decode cX4_start 22 = .ok (.aload_n 0, 1) := by decide +kernel
theorem dX4_start_23 : decode cX4_start 23 = .ok (.iconst 0, 1) := by decide +kernel
theorem dX4_start_24 : decode cX4_start 24 = .ok (.putfield 28, 3) := by decide +kernel
theorem dX4_start_27 : decode cX4_start 27 = .ok (.iconst 1, 1) := by decide +kernel
theorem dX4_start_28 : decode cX4_start 28 = .ok (.istore_n 1, 1) := by decide +kernel
theorem dX4_start_29 : decode cX4_start 29 = .ok (.iload_n 1, 1) := by decide +kernel
theorem dX4_start_30 : decode cX4_start 30 = .ok (.ifCond .eq 59, 3) := by decide +kernel
theorem dX4_start_33 : decode cX4_start 33 = .ok (.aload_n 0, 1) := by decide +kernel
theorem dX4_start_34 : decode cX4_start 34 = .ok (.getfield 18, 3) := by decide +kernel
theorem dX4_start_37 : decode cX4_start 37 = .ok (.iconst 4, 1) := by decide +kernel
theorem dX4_start_38 : decode cX4_start 38 = .ok (.if_icmp .ge 51, 3) := by decide +kernel
theorem dX4_start_41 : decode cX4_start 41 = .ok (.aload_n 0, 1) := by decide +kernel
theorem dX4_start_42 : decode cX4_start 42 = .ok (.aload_n 0, 1) := by decide +kernel
theorem dX4_start_43 : decode cX4_start 43 = .ok (.getfield 31, 3) := by decide +kernel
theorem dX4_start_46 : decode cX4_start 46 = .ok (.aload_n 0, 1) := by decide +kernel
theorem dX4_start_47 : decode cX4_start 47 = .ok (.getfield 22, 3) := by decide +kernel
theorem dX4_start_50 : decode cX4_start 50 = .ok (.invokevirtual 38, 3) := by decide +kernel
theorem dX4_start_53 : decode cX4_start 53 = .ok (.invokevirtual 44, 3) := by decide +kernel
theorem dX4_start_56 : decode cX4_start 56 = .ok (.aload_n 0, 1) := by decide +kernel
theorem dX4_start_57 : decode cX4_start 57 = .ok (.dup, 1) := by decide +kernel
theorem dX4_start_58 : decode cX4_start 58 = .ok (.getfield 18, 3) := by decide +kernel
theorem dX4_start_61 : decode cX4_start 61 = .ok (.iconst 1, 1) := by decide +kernel
theorem dX4_start_62 : decode cX4_start 62 = .ok (.iadd, 1) := by decide +kernel
theorem dX4_start_63 : decode cX4_start 63 = .ok (.putfield 18, 3) := by decide +kernel
theorem dX4_start_66 : decode cX4_start 66 = .ok (.aload_n 0, 1) := by decide +kernel
theorem dX4_start_67 : decode cX4_start 67 = .ok (.invokevirtual 48, 3) := by decide +kernel
theorem dX4_start_70 : decode cX4_start 70 = .ok (.ifCond .ne 14, 3) := by decide +kernel
theorem dX4_start_73 : decode cX4_start 73 = .ok (.aload_n 0, 1) := by decide +kernel
theorem dX4_start_74 : decode cX4_start 74 = .ok (.invokevirtual 52, 3) := by decide +kernel
theorem dX4_start_77 : decode cX4_start 77 = .ok (.ifCond .eq 7, 3) := by decide +kernel
theorem dX4_start_80 : decode cX4_start 80 = .ok (.iconst 1, 1) := by decide +kernel
theorem dX4_start_81 : decode cX4_start 81 = .ok (.goto 4, 3) := by decide +kernel
theorem dX4_start_84 : decode cX4_start 84 = .ok (.iconst 0, 1) := by decide +kernel
theorem dX4_start_85 : decode cX4_start 85 = .ok (.istore_n 1, 1) := by decide +kernel
theorem dX4_start_86 : decode cX4_start 86 = .ok (.goto (-57), 3) := by decide +kernel
theorem dX4_start_89 : decode cX4_start 89 = .ok (.return_, 1) := by decide +kernel
set_option maxRecDepth 20000 in
theorem ggX4_readComma_X7_length : GoodIn wsX4_readComma wsX7_length := goodIn_r _ [8, 9, 38, 39] (by decide +kernel) (by decide +kernel)
set_option maxRecDepth 20000 in
theorem gX4_readComma_X7_length : GoodIn wsX4_readComma (wsV RX4 55 RX7 yX7_length wsX7_length) := goodIn_app (goodIn_of _ (by decide +kernel)) ggX4_readComma_X7_length
set_option maxRecDepth 20000 in
theorem ggX4_readComma_X7_characterAt : GoodIn wsX4_readComma wsX7_characterAt := goodIn_r _ [13, 9, 14, 15, 16, 17, 18, 19, 20, 38, 39, 40] (by decide +kernel) (by decide +kernel)
set_option maxRecDepth 20000 in
theorem gX4_readComma_X7_characterAt : GoodIn wsX4_readComma (wsV RX4 38 RX7 yX7_characterAt wsX7_characterAt) := goodIn_app (goodIn_of _ (by decide +kernel)) ggX4_readComma_X7_characterAt
set_option maxRecDepth 20000 in
theorem ggX4_readComma_X4_fail : GoodIn wsX4_readComma wsX4_fail := goodIn_r _ [25, 26, 27, 32, 33, 34, 35, 36, 37] (by decide +kernel) (by decide +kernel)
set_option maxRecDepth 20000 in
theorem gX4_readComma_X4_fail : GoodIn wsX4_readComma (wsV RX4 59 RX4 yX4_fail wsX4_fail) := goodIn_app (goodIn_of _ (by decide +kernel)) ggX4_readComma_X4_fail
set_option maxRecDepth 20000 in
theorem ggX4_readComma_X4_hasFault : GoodIn wsX4_readComma wsX4_hasFault := goodIn_r _ [31, 27, 32, 33, 34, 35, 36, 37] (by decide +kernel) (by decide +kernel)
set_option maxRecDepth 20000 in
theorem gX4_readComma_X4_hasFault : GoodIn wsX4_readComma (wsV RX4 48 RX4 yX4_hasFault wsX4_hasFault) := goodIn_app (goodIn_of _ (by decide +kernel)) ggX4_readComma_X4_hasFault
theorem dX4_readComma_0 : decode cX4_readComma 0 = .ok (.aload_n 0, 1) := by decide +kernel
theorem dX4_readComma_1 : decode cX4_readComma 1 = .ok (.getfield 22, 3) := by decide +kernel
theorem dX4_readComma_4 : decode cX4_readComma 4 = .ok (.aload_n 0, 1) := by decide +kernel
theorem dX4_readComma_5 : decode cX4_readComma 5 = .ok (.getfield 31, 3) := by decide +kernel
theorem dX4_readComma_8 : decode cX4_readComma 8 = .ok (.invokevirtual 55, 3) := by decide +kernel
theorem dX4_readComma_11 : decode cX4_readComma 11 = .ok (.if_icmp .lt 5, 3) := by decide +kernel
theorem dX4_readComma_14 : decode cX4_readComma 14 = .ok (.iconst 0, 1) := by decide +kernel
theorem dX4_readComma_15 : decode cX4_readComma 15 = .ok (.ireturn, 1) := by decide +kernel
theorem dX4_readComma_16 : decode cX4_readComma 16 = .ok (.aload_n 0, 1) := by decide +kernel
theorem dX4_readComma_17 : decode cX4_readComma 17 = .ok (.getfield 31, 3) := by decide +kernel
theorem dX4_readComma_20 : decode cX4_readComma 20 = .ok (.aload_n 0, 1) := by decide +kernel
theorem dX4_readComma_21 : decode cX4_readComma 21 = .ok (.getfield 22, 3) := by decide +kernel
theorem dX4_readComma_24 : decode cX4_readComma 24 = .ok (.invokevirtual 38, 3) := by decide +kernel
theorem dX4_readComma_27 : decode cX4_readComma 27 = .ok (.bipush 44, 2) := by decide +kernel
theorem dX4_readComma_29 : decode cX4_readComma 29 = .ok (.if_icmp .eq 15, 3) := by decide +kernel
theorem dX4_readComma_32 : decode cX4_readComma 32 = .ok (.aload_n 0, 1) := by decide +kernel
theorem dX4_readComma_33 : decode cX4_readComma 33 = .ok (.aload_n 0, 1) := by decide +kernel
theorem dX4_readComma_34 : decode cX4_readComma 34 = .ok (.getfield 22, 3) := by decide +kernel
theorem dX4_readComma_37 : decode cX4_readComma 37 = .ok (.iconst 1, 1) := by decide +kernel
theorem dX4_readComma_38 : decode cX4_readComma 38 = .ok (.invokevirtual 59, 3) := by decide +kernel
theorem dX4_readComma_41 : decode cX4_readComma 41 = .ok (.goto 20, 3) := by decide +kernel
theorem dX4_readComma_44 : decode cX4_readComma 44 = .ok (.aload_n 0, 1) := by decide +kernel
theorem dX4_readComma_45 : decode cX4_readComma 45 = .ok (.getfield 18, 3) := by decide +kernel
theorem dX4_readComma_48 : decode cX4_readComma 48 = .ok (.iconst 4, 1) := by decide +kernel
theorem dX4_readComma_49 : decode cX4_readComma 49 = .ok (.if_icmp .lt 12, 3) := by decide +kernel
theorem dX4_readComma_52 : decode cX4_readComma 52 = .ok (.aload_n 0, 1) := by decide +kernel
theorem dX4_readComma_53 : decode cX4_readComma 53 = .ok (.aload_n 0, 1) := by decide +kernel
theorem dX4_readComma_54 : decode cX4_readComma 54 = .ok (.getfield 22, 3) := by decide +kernel
theorem dX4_readComma_57 : decode cX4_readComma 57 = .ok (.iconst 3, 1) := by decide +kernel
theorem dX4_readComma_58 : decode cX4_readComma 58 = .ok (.invokevirtual 59, 3) := by decide +kernel
theorem dX4_readComma_61 : decode cX4_readComma 61 = .ok (.aload_n 0, 1) := by decide +kernel
theorem dX4_readComma_62 : decode cX4_readComma 62 = .ok (.dup, 1) := by decide +kernel
theorem dX4_readComma_63 : decode cX4_readComma 63 = .ok (.getfield 22, 3) := by decide +kernel
theorem dX4_readComma_66 : decode cX4_readComma 66 = .ok (.iconst 1, 1) := by decide +kernel
theorem dX4_readComma_67 : decode cX4_readComma 67 = .ok (.iadd, 1) := by decide +kernel
theorem dX4_readComma_68 : decode cX4_readComma 68 = .ok (.putfield 22, 3) := by decide +kernel
theorem dX4_readComma_71 : decode cX4_readComma 71 = .ok (.aload_n 0, 1) := by decide +kernel
theorem dX4_readComma_72 : decode cX4_readComma 72 = .ok (.invokevirtual 48, 3) := by decide +kernel
theorem dX4_readComma_75 : decode cX4_readComma 75 = .ok (.ifCond .ne 7, 3) := by decide +kernel
theorem dX4_readComma_78 : decode cX4_readComma 78 = .ok (.iconst 1, 1) := by decide +kernel
theorem dX4_readComma_79 : decode cX4_readComma 79 = .ok (.goto 4, 3) := by decide +kernel
theorem dX4_readComma_82 : decode cX4_readComma 82 = .ok (.iconst 0, 1) := by decide +kernel
theorem dX4_readComma_83 : decode cX4_readComma 83 = .ok (.ireturn, 1) := by decide +kernel
set_option maxRecDepth 20000 in
theorem ggX4_readCell_X4_isDigit : GoodIn wsX4_readCell wsX4_isDigit := goodIn_r _ [7] (by decide +kernel) (by decide +kernel)
set_option maxRecDepth 20000 in
theorem gX4_readCell_X4_isDigit : GoodIn wsX4_readCell (va_wsS RX4 63 yX4_isDigit wsX4_isDigit) := goodIn_app (goodIn_of _ (by decide +kernel)) ggX4_readCell_X4_isDigit
set_option maxRecDepth 20000 in
theorem ggX4_readCell_X4_readNumbers : GoodIn wsX4_readCell wsX4_readNumbers := goodIn_r _ [11, 1, 12, 2, 3, 13, 14, 15, 6, 16, 17, 18, 19, 20, 21, 22, 23, 24, 25, 26, 27, 28, 29, 4, 5, 7, 30, 31, 32, 33, 34, 35, 36, 37, 38, 39, 40, 41, 42, 43, 44, 45, 46, 47, 48, 49, 50, 51, 59, 60, 61, 62, 63, 64, 65, 66, 67, 68, 69, 70] (by decide +kernel) (by decide +kernel)
set_option maxRecDepth 20000 in
theorem gX4_readCell_X4_readNumbers : GoodIn wsX4_readCell (wsV RX4 67 RX4 yX4_readNumbers wsX4_readNumbers) := goodIn_app (goodIn_of _ (by decide +kernel)) ggX4_readCell_X4_readNumbers
set_option maxRecDepth 20000 in
theorem ggX4_readCell_X1_fill : GoodIn wsX4_readCell wsX1_fill := goodIn_r _ [40, 41, 42, 43, 44, 45, 46, 27, 47, 29, 68, 69, 70, 67] (by decide +kernel) (by decide +kernel)
set_option maxRecDepth 20000 in
theorem gX4_readCell_X1_fill : GoodIn wsX4_readCell (wsV RX4 70 RX1 yX1_fill wsX1_fill) := goodIn_app (goodIn_of _ (by decide +kernel)) ggX4_readCell_X1_fill
set_option maxRecDepth 20000 in
theorem ggX4_readCell_X4_readNumber : GoodIn wsX4_readCell wsX4_readNumber := goodIn_r _ [16, 12, 1, 17, 18, 19, 20, 21, 22, 23, 24, 25, 26, 27, 28, 29, 4, 5, 6, 7, 30, 31, 32, 33, 34, 35, 59, 60, 61, 62, 63, 64, 65, 66, 67] (by decide +kernel) (by decide +kernel)
set_option maxRecDepth 20000 in
theorem gX4_readCell_X4_readNumber : GoodIn wsX4_readCell (wsV RX4 74 RX4 yX4_readNumber wsX4_readNumber) := goodIn_app (goodIn_of _ (by decide +kernel)) ggX4_readCell_X4_readNumber
set_option maxRecDepth 20000 in
theorem ggX4_readCell_X4_readBound : GoodIn wsX4_readCell wsX4_readBound := goodIn_r _ [55, 12, 1, 2, 3, 17, 18, 19, 20, 21, 22, 23, 24, 25, 26, 27, 28, 29, 56, 57, 6, 58, 36, 37, 38, 39, 40, 41, 42, 43, 44, 45, 46, 47, 13, 14, 15, 16, 4, 5, 7, 30, 31, 32, 33, 34, 35, 59, 60, 61, 62, 63, 64, 65, 66, 67, 68, 69, 70] (by decide +kernel) (by decide +kernel)
set_option maxRecDepth 20000 in
theorem gX4_readCell_X4_readBound : GoodIn wsX4_readCell (wsV RX4 77 RX4 yX4_readBound wsX4_readBound) := goodIn_app (goodIn_of _ (by decide +kernel)) ggX4_readCell_X4_readBound
set_option maxRecDepth 20000 in
theorem ggX4_readCell_X4_isLetter : GoodIn wsX4_readCell wsX4_isLetter := goodIn_r _ [58] (by decide +kernel) (by decide +kernel)
set_option maxRecDepth 20000 in
theorem gX4_readCell_X4_isLetter : GoodIn wsX4_readCell (va_wsS RX4 80 yX4_isLetter wsX4_isLetter) := goodIn_app (goodIn_of _ (by decide +kernel)) ggX4_readCell_X4_isLetter
set_option maxRecDepth 20000 in
theorem ggX4_readCell_X4_fail : GoodIn wsX4_readCell wsX4_fail := goodIn_r _ [33, 34, 35, 59, 60, 61, 62, 63, 64] (by decide +kernel) (by decide +kernel)
set_option maxRecDepth 20000 in
theorem gX4_readCell_X4_fail : GoodIn wsX4_readCell (wsV RX4 59 RX4 yX4_fail wsX4_fail) := goodIn_app (goodIn_of _ (by decide +kernel)) ggX4_readCell_X4_fail
theorem dX4_readCell_0 : decode cX4_readCell 0 = .ok (.iload_n 1, 1) := by decide +kernel
theorem dX4_readCell_1 : decode cX4_readCell 1 = .ok (.invokestatic 63, 3) := by decide +kernel
theorem dX4_readCell_4 : decode cX4_readCell 4 = .ok (.ifCond .eq 8, 3) := by decide +kernel
theorem dX4_readCell_7 : decode cX4_readCell 7 = .ok (.aload_n 0, 1) := by decide +kernel
theorem dX4_readCell_8 : decode cX4_readCell 8 = .ok (.invokevirtual 67, 3) := by decide +kernel
theorem dX4_readCell_11 : decode cX4_readCell 11 = .ok (.return_, 1) := by decide +kernel
theorem dX4_readCell_12 : decode cX4_readCell 12 = .ok (.aload_n 0, 1) := by decide +kernel
theorem dX4_readCell_13 : decode cX4_readCell 13 = .ok (.getfield 22, 3) := by decide +kernel
theorem dX4_readCell_16 : decode cX4_readCell 16 = .ok (.istore_n 2, 1) := by decide +kernel
theorem dX4_readCell_17 : decode cX4_readCell 17 = .ok (.aload_n 0, 1) := by decide +kernel
theorem dX4_readCell_18 : decode cX4_readCell 18 = .ok (.dup, 1) := by decide +kernel
theorem dX4_readCell_19 : decode cX4_readCell 19 = .ok (.getfield 22, 3) := by decide +kernel
theorem dX4_readCell_22 : decode cX4_readCell 22 = .ok (.iconst 1, 1) := by decide +kernel
theorem dX4_readCell_23 : decode cX4_readCell 23 = .ok (.iadd, 1) := by decide +kernel
theorem dX4_readCell_24 : decode cX4_readCell 24 = .ok (.putfield 22, 3) := by decide +kernel
theorem dX4_readCell_27 : decode cX4_readCell 27 = .ok (.iload_n 1, 1) := by decide +kernel
theorem dX4_readCell_28 : decode cX4_readCell 28 = .ok (.lookupswitch 138 #[(33, 80), (35, 97), (42, 60), (60, 117), (62, 127), (95, 63)], 60) := by decide +kernel
theorem dX4_readCell_88 : decode cX4_readCell 88 = .ok (.goto 112, 3) := by decide +kernel
theorem dX4_readCell_91 : decode cX4_readCell 91 = .ok (.aload_n 0, 1) := by decide +kernel
theorem dX4_readCell_92 : decode cX4_readCell 92 = .ok (.getfield 12, 3) := by decide +kernel
theorem dX4_readCell_95 : decode cX4_readCell 95 = .ok (.aload_n 0, 1) := by decide +kernel
theorem dX4_readCell_96 : decode cX4_readCell 96 = .ok (.getfield 18, 3) := by decide +kernel
theorem dX4_readCell_99 : decode cX4_readCell 99 = .ok (.iconst 1, 1) := by decide +kernel
theorem dX4_readCell_100 : decode cX4_readCell 100 = .ok (.iconst 0, 1) := by decide +kernel
theorem dX4_readCell_101 : decode cX4_readCell 101 = .ok (.iconst 0, 1) := by decide +kernel
theorem dX4_readCell_102 : decode cX4_readCell 102 = .ok (.invokevirtual 70, 3) := by decide +kernel
theorem dX4_readCell_105 : decode cX4_readCell 105 = .ok (.goto 95, 3) := by decide +kernel
theorem dX4_readCell_108 : decode cX4_readCell 108 = .ok (.aload_n 0, 1) := by decide +kernel
theorem dX4_readCell_109 : decode cX4_readCell 109 = .ok (.getfield 12, 3) := by decide +kernel
theorem dX4_readCell_112 : decode cX4_readCell 112 = .ok (.aload_n 0, 1) := by decide +kernel
theorem dX4_readCell_113 : decode cX4_readCell 113 = .ok (.getfield 18, 3) := by decide +kernel
theorem dX4_readCell_116 : decode cX4_readCell 116 = .ok (.iconst 2, 1) := by decide +kernel
theorem dX4_readCell_117 : decode cX4_readCell 117 = .ok (.iconst 0, 1) := by decide +kernel
theorem dX4_readCell_118 : decode cX4_readCell 118 = .ok (.iconst 0, 1) := by decide +kernel
theorem dX4_readCell_119 : decode cX4_readCell 119 = .ok (.invokevirtual 70, 3) := by decide +kernel
theorem dX4_readCell_122 : decode cX4_readCell 122 = .ok (.goto 78, 3) := by decide +kernel
theorem dX4_readCell_125 : decode cX4_readCell 125 = .ok (.aload_n 0, 1) := by decide +kernel
theorem dX4_readCell_126 : decode cX4_readCell 126 = .ok (.getfield 12, 3) := by decide +kernel
theorem dX4_readCell_129 : decode cX4_readCell 129 = .ok (.aload_n 0, 1) := by decide +kernel
theorem dX4_readCell_130 : decode cX4_readCell 130 = .ok (.getfield 18, 3) := by decide +kernel
theorem dX4_readCell_133 : decode cX4_readCell 133 = .ok (.iconst 4, 1) := by decide +kernel
theorem dX4_readCell_134 : decode cX4_readCell 134 = .ok (.aload_n 0, 1) := by decide +kernel
theorem dX4_readCell_135 : decode cX4_readCell 135 = .ok (.invokevirtual 74, 3) := by decide +kernel
theorem dX4_readCell_138 : decode cX4_readCell 138 = .ok (.iconst 0, 1) := by decide +kernel
theorem dX4_readCell_139 : decode cX4_readCell 139 = .ok (.invokevirtual 70, 3) := by decide +kernel
theorem dX4_readCell_142 : decode cX4_readCell 142 = .ok (.goto 58, 3) := by decide +kernel
theorem dX4_readCell_145 : decode cX4_readCell 145 = .ok (.aload_n 0, 1) := by decide +kernel
theorem dX4_readCell_146 : decode cX4_readCell 146 = .ok (.iconst 5, 1) := by decide +kernel
theorem dX4_readCell_147 : decode cX4_readCell 147 = .ok (.bipush 9, 2) := by decide +kernel
theorem dX4_readCell_149 : decode cX4_readCell 149 = .ok (.invokevirtual 77, 3) := by decide +kernel
theorem dX4_readCell_152 : decode cX4_readCell 152 = .ok (.goto 48, 3) := by decide +kernel
theorem dX4_readCell_155 : decode cX4_readCell 155 = .ok (.aload_n 0, 1) := by decide +kernel
theorem dX4_readCell_156 : decode cX4_readCell 156 = .ok (.bipush 6, 2) := by decide +kernel
theorem dX4_readCell_158 : decode cX4_readCell 158 = .ok (.bipush 10, 2) := by decide +kernel
theorem dX4_readCell_160 : decode cX4_readCell 160 = .ok (.invokevirtual 77, 3) := by decide +kernel
theorem dX4_readCell_163 : decode cX4_readCell 163 = .ok (.goto 37, 3) := by decide +kernel
theorem dX4_readCell_166 : decode cX4_readCell 166 = .ok (.iload_n 1, 1) := by decide +kernel
theorem dX4_readCell_167 : decode cX4_readCell 167 = .ok (.invokestatic 80, 3) := by decide +kernel
theorem dX4_readCell_170 : decode cX4_readCell 170 = .ok (.ifCond .eq 24, 3) := by decide +kernel
theorem dX4_readCell_173 : decode cX4_readCell 173 = .ok (.aload_n 0, 1) := by decide +kernel
theorem dX4_readCell_174 : decode cX4_readCell 174 = .ok (.getfield 12, 3) := by decide +kernel
theorem dX4_readCell_177 : decode cX4_readCell 177 = .ok (.aload_n 0, 1) := by decide +kernel
theorem dX4_readCell_178 : decode cX4_readCell 178 = .ok (.getfield 18, 3) := by decide +kernel
theorem dX4_readCell_181 : decode cX4_readCell 181 = .ok (.bipush 8, 2) := by decide +kernel
theorem dX4_readCell_183 : decode cX4_readCell 183 = .ok (.iload_n 1, 1) := by decide +kernel
theorem dX4_readCell_184 : decode cX4_readCell 184 = .ok (.bipush 119, 2) := by decide +kernel
theorem dX4_readCell_186 : decode cX4_readCell 186 = .ok (.isub, 1) := by decide +kernel
theorem dX4_readCell_187 : decode cX4_readCell 187 = .ok (.iconst 0, 1) := by decide +kernel
theorem dX4_readCell_188 : decode cX4_readCell 188 = .ok (.invokevirtual 70, 3) := by decide +kernel
theorem dX4_readCell_191 : decode cX4_readCell 191 = .ok (.goto 9, 3) := by decide +kernel
theorem dX4_readCell_194 : decode cX4_readCell 194 = .ok (.aload_n 0, 1) := by decide +kernel
theorem dX4_readCell_195 : decode cX4_readCell 195 = .ok (.iload_n 2, 1) := by decide +kernel
theorem dX4_readCell_196 : decode cX4_readCell 196 = .ok (.iconst 1, 1) := by decide +kernel
theorem dX4_readCell_197 : decode cX4_readCell 197 = .ok (.invokevirtual 59, 3) := by decide +kernel
theorem dX4_readCell_200 : decode cX4_readCell 200 = .ok (.return_, 1) := by decide +kernel
set_option maxRecDepth 20000 in
theorem ggX4_readNumbers_X4_readNumber : GoodIn wsX4_readNumbers wsX4_readNumber := goodIn_r _ [9, 2, 1, 10, 11, 12, 13, 14, 15, 16, 17, 18, 19, 20, 21, 22, 23, 24, 8, 25, 26, 27, 28, 29, 30, 31, 48, 49, 50, 51, 52, 53, 54, 55, 56] (by decide +kernel) (by decide +kernel)
set_option maxRecDepth 20000 in
theorem gX4_readNumbers_X4_readNumber : GoodIn wsX4_readNumbers (wsV RX4 74 RX4 yX4_readNumber wsX4_readNumber) := goodIn_app (goodIn_of _ (by decide +kernel)) ggX4_readNumbers_X4_readNumber
set_option maxRecDepth 20000 in
theorem ggX4_readNumbers_X7_characterAt : GoodIn wsX4_readNumbers wsX7_characterAt := goodIn_r _ [14, 15, 16, 17, 18, 19, 20, 21, 22, 54, 55, 56] (by decide +kernel) (by decide +kernel)
set_option maxRecDepth 20000 in
theorem gX4_readNumbers_X7_characterAt : GoodIn wsX4_readNumbers (wsV RX4 38 RX7 yX7_characterAt wsX7_characterAt) := goodIn_app (goodIn_of _ (by decide +kernel)) ggX4_readNumbers_X7_characterAt
set_option maxRecDepth 20000 in
theorem ggX4_readNumbers_X1_fill : GoodIn wsX4_readNumbers wsX1_fill := goodIn_r _ [36, 37, 38, 39, 40, 41, 42, 20, 43, 22, 57, 58, 59, 56] (by decide +kernel) (by decide +kernel)
set_option maxRecDepth 20000 in
theorem gX4_readNumbers_X1_fill : GoodIn wsX4_readNumbers (wsV RX4 70 RX1 yX1_fill wsX1_fill) := goodIn_app (goodIn_of _ (by decide +kernel)) ggX4_readNumbers_X1_fill
set_option maxRecDepth 20000 in
theorem ggX4_readNumbers_X4_hasFault : GoodIn wsX4_readNumbers wsX4_hasFault := goodIn_r _ [47, 31, 48, 49, 50, 51, 52, 53] (by decide +kernel) (by decide +kernel)
set_option maxRecDepth 20000 in
theorem gX4_readNumbers_X4_hasFault : GoodIn wsX4_readNumbers (wsV RX4 48 RX4 yX4_hasFault wsX4_hasFault) := goodIn_app (goodIn_of _ (by decide +kernel)) ggX4_readNumbers_X4_hasFault
set_option maxRecDepth 20000 in
theorem ggX4_readNumbers_X4_fail : GoodIn wsX4_readNumbers wsX4_fail := goodIn_r _ [29, 30, 31, 48, 49, 50, 51, 52, 53] (by decide +kernel) (by decide +kernel)
set_option maxRecDepth 20000 in
theorem gX4_readNumbers_X4_fail : GoodIn wsX4_readNumbers (wsV RX4 59 RX4 yX4_fail wsX4_fail) := goodIn_app (goodIn_of _ (by decide +kernel)) ggX4_readNumbers_X4_fail
theorem dX4_readNumbers_0 : decode cX4_readNumbers 0 = .ok (.aload_n 0, 1) := by decide +kernel
theorem dX4_readNumbers_1 : decode cX4_readNumbers 1 = .ok (.getfield 22, 3) := by decide +kernel
theorem dX4_readNumbers_4 : decode cX4_readNumbers 4 = .ok (.istore_n 1, 1) := by decide +kernel
theorem dX4_readNumbers_5 : decode cX4_readNumbers 5 = .ok (.aload_n 0, 1) := by decide +kernel
theorem dX4_readNumbers_6 : decode cX4_readNumbers 6 = .ok (.invokevirtual 74, 3) := by decide +kernel
theorem dX4_readNumbers_9 : decode cX4_readNumbers 9 = .ok (.istore_n 2, 1) := by decide +kernel
theorem dX4_readNumbers_10 : decode cX4_readNumbers 10 = .ok (.aload_n 0, 1) := by decide +kernel
theorem dX4_readNumbers_11 : decode cX4_readNumbers 11 = .ok (.getfield 31, 3) := by decide +kernel
theorem dX4_readNumbers_14 : decode cX4_readNumbers 14 = .ok (.aload_n 0, 1) := by decide +kernel
theorem dX4_readNumbers_15 : decode cX4_readNumbers 15 = .ok (.getfield 22, 3) := by decide +kernel
theorem dX4_readNumbers_18 : decode cX4_readNumbers 18 = .ok (.invokevirtual 38, 3) := by decide +kernel
theorem dX4_readNumbers_21 : decode cX4_readNumbers 21 = .ok (.bipush 45, 2) := by decide +kernel
theorem dX4_readNumbers_23 : decode cX4_readNumbers 23 = .ok (.if_icmp .eq 18, 3) := by decide +kernel
theorem dX4_readNumbers_26 : decode cX4_readNumbers 26 = .ok (.aload_n 0, 1) := by decide +kernel
theorem dX4_readNumbers_27 : decode cX4_readNumbers 27 = .ok (.getfield 12, 3) := by decide +kernel
theorem dX4_readNumbers_30 : decode cX4_readNumbers 30 = .ok (.aload_n 0, 1) := by decide +kernel
theorem dX4_readNumbers_31 : decode cX4_readNumbers 31 = .ok (.getfield 18, 3) := by decide +kernel
theorem dX4_readNumbers_34 : decode cX4_readNumbers 34 = .ok (.iconst 3, 1) := by decide +kernel
theorem dX4_readNumbers_35 : decode cX4_readNumbers 35 = .ok (.iload_n 2, 1) := by decide +kernel
theorem dX4_readNumbers_36 : decode cX4_readNumbers 36 = .ok (.iconst 0, 1) := by decide +kernel
theorem dX4_readNumbers_37 : decode cX4_readNumbers 37 = .ok (.invokevirtual 70, 3) := by decide +kernel
end
section
theorem dX4_readNumbers_40 : decode cX4_readNumbers 40 = .ok (.return_, 1) := by decide +kernel
theorem dX4_readNumbers_41 : decode cX4_readNumbers 41 = .ok (.aload_n 0, 1) := by decide +kernel
theorem dX4_readNumbers_42 : decode cX4_readNumbers 42 = .ok (.dup, 1) := by decide +kernel
theorem dX4_readNumbers_43 : decode cX4_readNumbers 43 = .ok (.getfield 22, 3) := by decide +kernel
theorem dX4_readNumbers_46 : decode cX4_readNumbers 46 = .ok (.iconst 1, 1) := by decide +kernel
theorem dX4_readNumbers_47 : decode cX4_readNumbers 47 = .ok (.iadd, 1) := by decide +kernel
theorem dX4_readNumbers_48 : decode cX4_readNumbers 48 = .ok (.putfield 22, 3) := by decide +kernel
theorem dX4_readNumbers_51 : decode cX4_readNumbers 51 = .ok (.aload_n 0, 1) := by decide +kernel
theorem dX4_readNumbers_52 : decode cX4_readNumbers 52 = .ok (.invokevirtual 74, 3) := by decide +kernel
theorem dX4_readNumbers_55 : decode cX4_readNumbers 55 = .ok (.istore_n 3, 1) := by decide +kernel
theorem dX4_readNumbers_56 : decode cX4_readNumbers 56 = .ok (.aload_n 0, 1) := by decide +kernel
theorem dX4_readNumbers_57 : decode cX4_readNumbers 57 = .ok (.invokevirtual 48, 3) := by decide +kernel
theorem dX4_readNumbers_60 : decode cX4_readNumbers 60 = .ok (.ifCond .ne 14, 3) := by decide +kernel
theorem dX4_readNumbers_63 : decode cX4_readNumbers 63 = .ok (.iload_n 3, 1) := by decide +kernel
theorem dX4_readNumbers_64 : decode cX4_readNumbers 64 = .ok (.iload_n 2, 1) := by decide +kernel
theorem dX4_readNumbers_65 : decode cX4_readNumbers 65 = .ok (.if_icmp .ge 9, 3) := by decide +kernel
theorem dX4_readNumbers_68 : decode cX4_readNumbers 68 = .ok (.aload_n 0, 1) := by decide +kernel
theorem dX4_readNumbers_69 : decode cX4_readNumbers 69 = .ok (.iload_n 1, 1) := by decide +kernel
theorem dX4_readNumbers_70 : decode cX4_readNumbers 70 = .ok (.iconst 2, 1) := by decide +kernel
theorem dX4_readNumbers_71 : decode cX4_readNumbers 71 = .ok (.invokevirtual 59, 3) := by decide +kernel
theorem dX4_readNumbers_74 : decode cX4_readNumbers 74 = .ok (.aload_n 0, 1) := by decide +kernel
theorem dX4_readNumbers_75 : decode cX4_readNumbers 75 = .ok (.getfield 12, 3) := by decide +kernel
theorem dX4_readNumbers_78 : decode cX4_readNumbers 78 = .ok (.aload_n 0, 1) := by decide +kernel
theorem dX4_readNumbers_79 : decode cX4_readNumbers 79 = .ok (.getfield 18, 3) := by decide +kernel
theorem dX4_readNumbers_82 : decode cX4_readNumbers 82 = .ok (.bipush 7, 2) := by decide +kernel
theorem dX4_readNumbers_84 : decode cX4_readNumbers 84 = .ok (.iload_n 2, 1) := by decide +kernel
theorem dX4_readNumbers_85 : decode cX4_readNumbers 85 = .ok (.iload_n 3, 1) := by decide +kernel
theorem dX4_readNumbers_86 : decode cX4_readNumbers 86 = .ok (.invokevirtual 70, 3) := by decide +kernel
theorem dX4_readNumbers_89 : decode cX4_readNumbers 89 = .ok (.return_, 1) := by decide +kernel
set_option maxRecDepth 20000 in
theorem ggX4_readBound_X7_characterAt : GoodIn wsX4_readBound wsX7_characterAt := goodIn_r _ [9, 10, 11, 12, 13, 14, 15, 16, 17, 53, 54, 55] (by decide +kernel) (by decide +kernel)
set_option maxRecDepth 20000 in
theorem gX4_readBound_X7_characterAt : GoodIn wsX4_readBound (wsV RX4 38 RX7 yX7_characterAt wsX7_characterAt) := goodIn_app (goodIn_of _ (by decide +kernel)) ggX4_readBound_X7_characterAt
set_option maxRecDepth 20000 in
theorem ggX4_readBound_X4_isLetter : GoodIn wsX4_readBound wsX4_isLetter := goodIn_r _ [21] (by decide +kernel) (by decide +kernel)
set_option maxRecDepth 20000 in
theorem gX4_readBound_X4_isLetter : GoodIn wsX4_readBound (va_wsS RX4 80 yX4_isLetter wsX4_isLetter) := goodIn_app (goodIn_of _ (by decide +kernel)) ggX4_readBound_X4_isLetter
set_option maxRecDepth 20000 in
theorem ggX4_readBound_X1_fill : GoodIn wsX4_readBound wsX1_fill := goodIn_r _ [26, 27, 28, 29, 30, 31, 32, 15, 33, 17, 56, 57, 58, 55] (by decide +kernel) (by decide +kernel)
set_option maxRecDepth 20000 in
theorem gX4_readBound_X1_fill : GoodIn wsX4_readBound (wsV RX4 70 RX1 yX1_fill wsX1_fill) := goodIn_app (goodIn_of _ (by decide +kernel)) ggX4_readBound_X1_fill
set_option maxRecDepth 20000 in
theorem ggX4_readBound_X4_readNumber : GoodIn wsX4_readBound wsX4_readNumber := goodIn_r _ [37, 1, 2, 5, 6, 7, 8, 9, 10, 11, 12, 13, 14, 15, 16, 17, 38, 39, 20, 40, 41, 42, 43, 44, 45, 46, 47, 48, 49, 50, 51, 52, 53, 54, 55] (by decide +kernel) (by decide +kernel)
set_option maxRecDepth 20000 in
theorem gX4_readBound_X4_readNumber : GoodIn wsX4_readBound (wsV RX4 74 RX4 yX4_readNumber wsX4_readNumber) := goodIn_app (goodIn_of _ (by decide +kernel)) ggX4_readBound_X4_readNumber
theorem dX4_readBound_0 : decode cX4_readBound 0 = .ok (.aload_n 0, 1) := by decide +kernel
theorem dX4_readBound_1 : decode cX4_readBound 1 = .ok (.getfield 31, 3) := by decide +kernel
theorem dX4_readBound_4 : decode cX4_readBound 4 = .ok (.aload_n 0, 1) := by decide +kernel
theorem dX4_readBound_5 : decode cX4_readBound 5 = .ok (.getfield 22, 3) := by decide +kernel
theorem dX4_readBound_8 : decode cX4_readBound 8 = .ok (.invokevirtual 38, 3) := by decide +kernel
theorem dX4_readBound_11 : decode cX4_readBound 11 = .ok (.istore_n 3, 1) := by decide +kernel
theorem dX4_readBound_12 : decode cX4_readBound 12 = .ok (.iload_n 3, 1) := by decide +kernel
theorem dX4_readBound_13 : decode cX4_readBound 13 = .ok (.invokestatic 80, 3) := by decide +kernel
theorem dX4_readBound_16 : decode cX4_readBound 16 = .ok (.ifCond .eq 33, 3) := by decide +kernel
theorem dX4_readBound_19 : decode cX4_readBound 19 = .ok (.aload_n 0, 1) := by decide +kernel
theorem dX4_readBound_20 : decode cX4_readBound 20 = .ok (.dup, 1) := by decide +kernel
theorem dX4_readBound_21 : decode cX4_readBound 21 = .ok (.getfield 22, 3) := by decide +kernel
theorem dX4_readBound_24 : decode cX4_readBound 24 = .ok (.iconst 1, 1) := by decide +kernel
theorem dX4_readBound_25 : decode cX4_readBound 25 = .ok (.iadd, 1) := by decide +kernel
theorem dX4_readBound_26 : decode cX4_readBound 26 = .ok (.putfield 22, 3) := by decide +kernel
theorem dX4_readBound_29 : decode cX4_readBound 29 = .ok (.aload_n 0, 1) := by decide +kernel
theorem dX4_readBound_30 : decode cX4_readBound 30 = .ok (.getfield 12, 3) := by decide +kernel
theorem dX4_readBound_33 : decode cX4_readBound 33 = .ok (.aload_n 0, 1) := by decide +kernel
theorem dX4_readBound_34 : decode cX4_readBound 34 = .ok (.getfield 18, 3) := by decide +kernel
theorem dX4_readBound_37 : decode cX4_readBound 37 = .ok (.iload_n 2, 1) := by decide +kernel
theorem dX4_readBound_38 : decode cX4_readBound 38 = .ok (.iload_n 3, 1) := by decide +kernel
theorem dX4_readBound_39 : decode cX4_readBound 39 = .ok (.bipush 119, 2) := by decide +kernel
theorem dX4_readBound_41 : decode cX4_readBound 41 = .ok (.isub, 1) := by decide +kernel
theorem dX4_readBound_42 : decode cX4_readBound 42 = .ok (.iconst 0, 1) := by decide +kernel
theorem dX4_readBound_43 : decode cX4_readBound 43 = .ok (.invokevirtual 70, 3) := by decide +kernel
theorem dX4_readBound_46 : decode cX4_readBound 46 = .ok (.goto 20, 3) := by decide +kernel
theorem dX4_readBound_49 : decode cX4_readBound 49 = .ok (.aload_n 0, 1) := by decide +kernel
theorem dX4_readBound_50 : decode cX4_readBound 50 = .ok (.getfield 12, 3) := by decide +kernel
theorem dX4_readBound_53 : decode cX4_readBound 53 = .ok (.aload_n 0, 1) := by decide +kernel
theorem dX4_readBound_54 : decode cX4_readBound 54 = .ok (.getfield 18, 3) := by decide +kernel
theorem dX4_readBound_57 : decode cX4_readBound 57 = .ok (.iload_n 1, 1) := by decide +kernel
theorem dX4_readBound_58 : decode cX4_readBound 58 = .ok (.aload_n 0, 1) := by decide +kernel
theorem dX4_readBound_59 : decode cX4_readBound 59 = .ok (.invokevirtual 74, 3) := by decide +kernel
theorem dX4_readBound_62 : decode cX4_readBound 62 = .ok (.iconst 0, 1) := by decide +kernel
theorem dX4_readBound_63 : decode cX4_readBound 63 = .ok (.invokevirtual 70, 3) := by decide +kernel
theorem dX4_readBound_66 : decode cX4_readBound 66 = .ok (.return_, 1) := by decide +kernel
set_option maxRecDepth 20000 in
theorem ggX4_readNumber_X7_characterAt : GoodIn wsX4_readNumber wsX7_characterAt := goodIn_r _ [7, 8, 9, 10, 11, 12, 13, 14, 15, 32, 33, 34] (by decide +kernel) (by decide +kernel)
set_option maxRecDepth 20000 in
theorem gX4_readNumber_X7_characterAt : GoodIn wsX4_readNumber (wsV RX4 38 RX7 yX7_characterAt wsX7_characterAt) := goodIn_app (goodIn_of _ (by decide +kernel)) ggX4_readNumber_X7_characterAt
set_option maxRecDepth 20000 in
theorem ggX4_readNumber_X4_isDigit : GoodIn wsX4_readNumber wsX4_isDigit := goodIn_r _ [19] (by decide +kernel) (by decide +kernel)
set_option maxRecDepth 20000 in
theorem gX4_readNumber_X4_isDigit : GoodIn wsX4_readNumber (va_wsS RX4 63 yX4_isDigit wsX4_isDigit) := goodIn_app (goodIn_of _ (by decide +kernel)) ggX4_readNumber_X4_isDigit
set_option maxRecDepth 20000 in
theorem ggX4_readNumber_X4_fail : GoodIn wsX4_readNumber wsX4_fail := goodIn_r _ [23, 24, 25, 26, 27, 28, 29, 30, 31] (by decide +kernel) (by decide +kernel)
set_option maxRecDepth 20000 in
theorem gX4_readNumber_X4_fail : GoodIn wsX4_readNumber (wsV RX4 59 RX4 yX4_fail wsX4_fail) := goodIn_app (goodIn_of _ (by decide +kernel)) ggX4_readNumber_X4_fail
theorem dX4_readNumber_0 : decode cX4_readNumber 0 = .ok (.aload_n 0, 1) := by decide +kernel
theorem dX4_readNumber_1 : decode cX4_readNumber 1 = .ok (.getfield 31, 3) := by decide +kernel
theorem dX4_readNumber_4 : decode cX4_readNumber 4 = .ok (.aload_n 0, 1) := by decide +kernel
theorem dX4_readNumber_5 : decode cX4_readNumber 5 = .ok (.getfield 22, 3) := by decide +kernel
theorem dX4_readNumber_8 : decode cX4_readNumber 8 = .ok (.invokevirtual 38, 3) := by decide +kernel
theorem dX4_readNumber_11 : decode cX4_readNumber 11 = .ok (.istore_n 1, 1) := by decide +kernel
theorem dX4_readNumber_12 : decode cX4_readNumber 12 = .ok (.iload_n 1, 1) := by decide +kernel
theorem dX4_readNumber_13 : decode cX4_readNumber 13 = .ok (.invokestatic 63, 3) := by decide +kernel
theorem dX4_readNumber_16 : decode cX4_readNumber 16 = .ok (.ifCond .ne 14, 3) := by decide +kernel
theorem dX4_readNumber_19 : decode cX4_readNumber 19 = .ok (.aload_n 0, 1) := by decide +kernel
theorem dX4_readNumber_20 : decode cX4_readNumber 20 = .ok (.aload_n 0, 1) := by decide +kernel
theorem dX4_readNumber_21 : decode cX4_readNumber 21 = .ok (.getfield 22, 3) := by decide +kernel
theorem dX4_readNumber_24 : decode cX4_readNumber 24 = .ok (.iconst 1, 1) := by decide +kernel
theorem dX4_readNumber_25 : decode cX4_readNumber 25 = .ok (.invokevirtual 59, 3) := by decide +kernel
theorem dX4_readNumber_28 : decode cX4_readNumber 28 = .ok (.iconst 0, 1) := by decide +kernel
theorem dX4_readNumber_29 : decode cX4_readNumber 29 = .ok (.ireturn, 1) := by decide +kernel
theorem dX4_readNumber_30 : decode cX4_readNumber 30 = .ok (.iload_n 1, 1) := by decide +kernel
theorem dX4_readNumber_31 : decode cX4_readNumber 31 = .ok (.bipush 48, 2) := by decide +kernel
theorem dX4_readNumber_33 : decode cX4_readNumber 33 = .ok (.isub, 1) := by decide +kernel
theorem dX4_readNumber_34 : decode cX4_readNumber 34 = .ok (.istore_n 2, 1) := by decide +kernel
theorem dX4_readNumber_35 : decode cX4_readNumber 35 = .ok (.aload_n 0, 1) := by decide +kernel
theorem dX4_readNumber_36 : decode cX4_readNumber 36 = .ok (.dup, 1) := by decide +kernel
theorem dX4_readNumber_37 : decode cX4_readNumber 37 = .ok (.getfield 22, 3) := by decide +kernel
theorem dX4_readNumber_40 : decode cX4_readNumber 40 = .ok (.iconst 1, 1) := by decide +kernel
theorem dX4_readNumber_41 : decode cX4_readNumber 41 = .ok (.iadd, 1) := by decide +kernel
theorem dX4_readNumber_42 : decode cX4_readNumber 42 = .ok (.putfield 22, 3) := by decide +kernel
theorem dX4_readNumber_45 : decode cX4_readNumber 45 = .ok (.aload_n 0, 1) := by decide +kernel
theorem dX4_readNumber_46 : decode cX4_readNumber 46 = .ok (.getfield 31, 3) := by decide +kernel
theorem dX4_readNumber_49 : decode cX4_readNumber 49 = .ok (.aload_n 0, 1) := by decide +kernel
theorem dX4_readNumber_50 : decode cX4_readNumber 50 = .ok (.getfield 22, 3) := by decide +kernel
theorem dX4_readNumber_53 : decode cX4_readNumber 53 = .ok (.invokevirtual 38, 3) := by decide +kernel
theorem dX4_readNumber_56 : decode cX4_readNumber 56 = .ok (.istore_n 3, 1) := by decide +kernel
theorem dX4_readNumber_57 : decode cX4_readNumber 57 = .ok (.iload_n 3, 1) := by decide +kernel
theorem dX4_readNumber_58 : decode cX4_readNumber 58 = .ok (.invokestatic 63, 3) := by decide +kernel
theorem dX4_readNumber_61 : decode cX4_readNumber 61 = .ok (.ifCond .eq 23, 3) := by decide +kernel
theorem dX4_readNumber_64 : decode cX4_readNumber 64 = .ok (.bipush 10, 2) := by decide +kernel
theorem dX4_readNumber_66 : decode cX4_readNumber 66 = .ok (.iload_n 2, 1) := by decide +kernel
theorem dX4_readNumber_67 : decode cX4_readNumber 67 = .ok (.imul, 1) := by decide +kernel
theorem dX4_readNumber_68 : decode cX4_readNumber 68 = .ok (.iload_n 3, 1) := by decide +kernel
theorem dX4_readNumber_69 : decode cX4_readNumber 69 = .ok (.iadd, 1) := by decide +kernel
theorem dX4_readNumber_70 : decode cX4_readNumber 70 = .ok (.bipush 48, 2) := by decide +kernel
theorem dX4_readNumber_72 : decode cX4_readNumber 72 = .ok (.isub, 1) := by decide +kernel
theorem dX4_readNumber_73 : decode cX4_readNumber 73 = .ok (.istore_n 2, 1) := by decide +kernel
theorem dX4_readNumber_74 : decode cX4_readNumber 74 = .ok (.aload_n 0, 1) := by decide +kernel
theorem dX4_readNumber_75 : decode cX4_readNumber 75 = .ok (.dup, 1) := by decide +kernel
theorem dX4_readNumber_76 : decode cX4_readNumber 76 = .ok (.getfield 22, 3) := by decide +kernel
theorem dX4_readNumber_79 : decode cX4_readNumber 79 = .ok (.iconst 1, 1) := by decide +kernel
theorem dX4_readNumber_80 : decode cX4_readNumber 80 = .ok (.iadd, 1) := by decide +kernel
theorem dX4_readNumber_81 : decode cX4_readNumber 81 = .ok (.putfield 22, 3) := by decide +kernel
theorem dX4_readNumber_84 : decode cX4_readNumber 84 = .ok (.iload_n 2, 1) := by decide +kernel
theorem dX4_readNumber_85 : decode cX4_readNumber 85 = .ok (.ireturn, 1) := by decide +kernel
theorem dX4_fail_0 : decode cX4_fail 0 = .ok (.aload_n 0, 1) := by decide +kernel
theorem dX4_fail_1 : decode cX4_fail 1 = .ok (.iload_n 1, 1) := by decide +kernel
theorem dX4_fail_2 : decode cX4_fail 2 = .ok (.putfield 25, 3) := by decide +kernel
theorem dX4_fail_5 : decode cX4_fail 5 = .ok (.aload_n 0, 1) := by decide +kernel
theorem dX4_fail_6 : decode cX4_fail 6 = .ok (.iload_n 2, 1) := by decide +kernel
theorem dX4_fail_7 : decode cX4_fail 7 = .ok (.putfield 28, 3) := by decide +kernel
theorem dX4_fail_10 : decode cX4_fail 10 = .ok (.return_, 1) := by decide +kernel
theorem dX4_isDigit_0 : decode cX4_isDigit 0 = .ok (.iload_n 0, 1) := by decide +kernel
theorem dX4_isDigit_1 : decode cX4_isDigit 1 = .ok (.bipush 48, 2) := by decide +kernel
theorem dX4_isDigit_3 : decode cX4_isDigit 3 = .ok (.if_icmp .lt 13, 3) := by decide +kernel
theorem dX4_isDigit_6 : decode cX4_isDigit 6 = .ok (.iload_n 0, 1) := by decide +kernel
theorem dX4_isDigit_7 : decode cX4_isDigit 7 = .ok (.bipush 57, 2) := by decide +kernel
theorem dX4_isDigit_9 : decode cX4_isDigit 9 = .ok (.if_icmp .gt 7, 3) := by decide +kernel
theorem dX4_isDigit_12 : decode cX4_isDigit 12 = .ok (.iconst 1, 1) := by decide +kernel
theorem dX4_isDigit_13 : decode cX4_isDigit 13 = .ok (.goto 4, 3) := by decide +kernel
theorem dX4_isDigit_16 : decode cX4_isDigit 16 = .ok (.iconst 0, 1) := by decide +kernel
theorem dX4_isDigit_17 : decode cX4_isDigit 17 = .ok (.ireturn, 1) := by decide +kernel
theorem dX4_isLetter_0 : decode cX4_isLetter 0 = .ok (.iload_n 0, 1) := by decide +kernel
theorem dX4_isLetter_1 : decode cX4_isLetter 1 = .ok (.bipush 119, 2) := by decide +kernel
theorem dX4_isLetter_3 : decode cX4_isLetter 3 = .ok (.if_icmp .lt 13, 3) := by decide +kernel
theorem dX4_isLetter_6 : decode cX4_isLetter 6 = .ok (.iload_n 0, 1) := by decide +kernel
theorem dX4_isLetter_7 : decode cX4_isLetter 7 = .ok (.bipush 122, 2) := by decide +kernel
theorem dX4_isLetter_9 : decode cX4_isLetter 9 = .ok (.if_icmp .gt 7, 3) := by decide +kernel
theorem dX4_isLetter_12 : decode cX4_isLetter 12 = .ok (.iconst 1, 1) := by decide +kernel
theorem dX4_isLetter_13 : decode cX4_isLetter 13 = .ok (.goto 4, 3) := by decide +kernel
theorem dX4_isLetter_16 : decode cX4_isLetter 16 = .ok (.iconst 0, 1) := by decide +kernel
theorem dX4_isLetter_17 : decode cX4_isLetter 17 = .ok (.ireturn, 1) := by decide +kernel
set_option maxRecDepth 20000 in
theorem ggX5_init_X3_init : GoodIn wsX5_init wsX3_init := goodIn_r _ [15, 16, 2, 3, 17, 18, 19, 20, 21, 22, 23, 24, 25, 6, 26, 27] (by decide +kernel) (by decide +kernel)
set_option maxRecDepth 20000 in
theorem gX5_init_X3_init : GoodIn wsX5_init (wsX3_init) := ggX5_init_X3_init
theorem dX5_init_0 : decode cX5_init 0 = .ok (.aload_n 0, 1) := by decide +kernel
theorem dX5_init_1 : decode cX5_init 1 = .ok (.invokespecial 3, 3) := by decide +kernel
theorem dX5_init_4 : decode cX5_init 4 = .ok (.aload_n 0, 1) := by decide +kernel
theorem dX5_init_5 : decode cX5_init 5 = .ok (.new 9, 3) := by decide +kernel
theorem dX5_init_8 : decode cX5_init 8 = .ok (.dup, 1) := by decide +kernel
theorem dX5_init_9 : decode cX5_init 9 = .ok (.sipush 144, 3) := by decide +kernel
theorem dX5_init_12 : decode cX5_init 12 = .ok (.iconst 0, 1) := by decide +kernel
theorem dX5_init_13 : decode cX5_init 13 = .ok (.invokespecial 11, 3) := by decide +kernel
theorem dX5_init_16 : decode cX5_init 16 = .ok (.putfield 14, 3) := by decide +kernel
theorem dX5_init_19 : decode cX5_init 19 = .ok (.aload_n 0, 1) := by decide +kernel
theorem dX5_init_20 : decode cX5_init 20 = .ok (.new 9, 3) := by decide +kernel
theorem dX5_init_23 : decode cX5_init 23 = .ok (.dup, 1) := by decide +kernel
theorem dX5_init_24 : decode cX5_init 24 = .ok (.sipush 144, 3) := by decide +kernel
theorem dX5_init_27 : decode cX5_init 27 = .ok (.iconst 0, 1) := by decide +kernel
theorem dX5_init_28 : decode cX5_init 28 = .ok (.invokespecial 11, 3) := by decide +kernel
theorem dX5_init_31 : decode cX5_init 31 = .ok (.putfield 20, 3) := by decide +kernel
theorem dX5_init_34 : decode cX5_init 34 = .ok (.aload_n 0, 1) := by decide +kernel
theorem dX5_init_35 : decode cX5_init 35 = .ok (.new 9, 3) := by decide +kernel
theorem dX5_init_38 : decode cX5_init 38 = .ok (.dup, 1) := by decide +kernel
theorem dX5_init_39 : decode cX5_init 39 = .ok (.iconst 4, 1) := by decide +kernel
theorem dX5_init_40 : decode cX5_init 40 = .ok (.iconst (-1), 1) := by decide +kernel
theorem dX5_init_41 : decode cX5_init 41 = .ok (.invokespecial 11, 3) := by decide +kernel
theorem dX5_init_44 : decode cX5_init 44 = .ok (.putfield 23, 3) := by decide +kernel
theorem dX5_init_47 : decode cX5_init 47 = .ok (.aload_n 0, 1) := by decide +kernel
theorem dX5_init_48 : decode cX5_init 48 = .ok (.iconst 0, 1) := by decide +kernel
theorem dX5_init_49 : decode cX5_init 49 = .ok (.putfield 26, 3) := by decide +kernel
theorem dX5_init_52 : decode cX5_init 52 = .ok (.aload_n 0, 1) := by decide +kernel
theorem dX5_init_53 : decode cX5_init 53 = .ok (.iconst (-1), 1) := by decide +kernel
theorem dX5_init_54 : decode cX5_init 54 = .ok (.putfield 30, 3) := by decide +kernel
theorem dX5_init_57 : decode cX5_init 57 = .ok (.aload_n 0, 1) := by decide +kernel
theorem dX5_init_58 : decode cX5_init 58 = .ok (.aload_n 1, 1) := by decide +kernel
theorem dX5_init_59 : decode cX5_init 59 = .ok (.putfield 33, 3) := by decide +kernel
theorem dX5_init_62 : decode cX5_init 62 = .ok (.return_, 1) := by decide +kernel
set_option maxRecDepth 20000 in
theorem ggX5_find_X5_findTellers : GoodIn wsX5_find wsX5_findTellers := goodIn_r _ [8, 9, 10, 2, 11, 12, 13, 14, 15, 16, 17, 18, 19, 20, 21, 22, 23, 24, 25, 26, 27, 28, 29, 30, 31, 32, 33, 34, 35, 36, 37, 38, 39, 40, 41, 42, 43, 44, 45, 46, 47, 48, 49, 50, 51, 52, 53, 54, 55, 56, 57, 58, 59, 60, 61, 62, 102, 103, 104, 105, 106, 107, 108, 109, 110, 111, 112, 113, 114, 115, 116, 117, 118, 119, 120, 121] (by decide +kernel) (by decide +kernel)
set_option maxRecDepth 20000 in
theorem gX5_find_X5_findTellers : GoodIn wsX5_find (wsV RX5 37 RX5 yX5_findTellers wsX5_findTellers) := goodIn_app (goodIn_of _ (by decide +kernel)) ggX5_find_X5_findTellers
set_option maxRecDepth 20000 in
theorem ggX5_find_X6_drawer : GoodIn wsX5_find wsX6_drawer := goodIn_r _ [66, 22, 23, 109, 110, 111, 112, 113, 114] (by decide +kernel) (by decide +kernel)
set_option maxRecDepth 20000 in
theorem gX5_find_X6_drawer : GoodIn wsX5_find (wsV RX5 41 RX6 yX6_drawer wsX6_drawer) := goodIn_app (goodIn_of _ (by decide +kernel)) ggX5_find_X6_drawer
set_option maxRecDepth 20000 in
theorem ggX5_find_X0_size : GoodIn wsX5_find wsX0_size := goodIn_r _ [70, 71, 115, 116, 117, 118] (by decide +kernel) (by decide +kernel)
set_option maxRecDepth 20000 in
theorem gX5_find_X0_size : GoodIn wsX5_find (wsV RX5 47 RX0 yX0_size wsX0_size) := goodIn_app (goodIn_of _ (by decide +kernel)) ggX5_find_X0_size
set_option maxRecDepth 20000 in
theorem ggX5_find_X6_isOfBoth : GoodIn wsX5_find wsX6_isOfBoth := goodIn_r _ [42, 43, 109, 110, 111, 112, 113, 114] (by decide +kernel) (by decide +kernel)
set_option maxRecDepth 20000 in
theorem gX5_find_X6_isOfBoth : GoodIn wsX5_find (wsV RX5 52 RX6 yX6_isOfBoth wsX6_isOfBoth) := goodIn_app (goodIn_of _ (by decide +kernel)) ggX5_find_X6_isOfBoth
set_option maxRecDepth 20000 in
theorem ggX5_find_X5_firstMisfit : GoodIn wsX5_find wsX5_firstMisfit := goodIn_r _ [76, 2, 9, 30, 31, 32, 20, 33, 22, 23, 34, 35, 36, 27, 37, 38, 39, 40, 41, 42, 43, 77, 78, 79, 7, 80, 10, 17, 18, 19, 21, 24, 25, 26, 28, 29, 81, 82, 83, 84, 85, 86, 87, 88, 89, 90, 91, 92, 93, 71, 94, 95, 51, 52, 14, 53, 16, 44, 45, 46, 47, 48, 49, 50, 96, 97, 98, 99, 58, 100, 54, 55, 56, 57, 101, 102, 103, 104, 105, 106, 107, 109, 110, 111, 112, 113, 114, 115, 116, 117, 118, 108, 119, 120, 121] (by decide +kernel) (by decide +kernel)
set_option maxRecDepth 20000 in
theorem gX5_find_X5_firstMisfit : GoodIn wsX5_find (wsV RX5 56 RX5 yX5_firstMisfit wsX5_firstMisfit) := goodIn_app (goodIn_of _ (by decide +kernel)) ggX5_find_X5_firstMisfit
set_option maxRecDepth 20000 in
theorem ggX5_find_X3_set : GoodIn wsX5_find wsX3_set := goodIn_r _ [62, 16, 108] (by decide +kernel) (by decide +kernel)
set_option maxRecDepth 20000 in
theorem gX5_find_X3_set : GoodIn wsX5_find (wsV RX5 60 RX3 yX3_set wsX3_set) := goodIn_app (goodIn_of _ (by decide +kernel)) ggX5_find_X3_set
theorem dX5_find_0 : decode cX5_find 0 = .ok (.aload_n 0, 1) := by decide +kernel
theorem dX5_find_1 : decode cX5_find 1 = .ok (.iload_n 1, 1) := by decide +kernel
theorem dX5_find_2 : decode cX5_find 2 = .ok (.invokevirtual 37, 3) := by decide +kernel
theorem dX5_find_5 : decode cX5_find 5 = .ok (.aload_n 0, 1) := by decide +kernel
theorem dX5_find_6 : decode cX5_find 6 = .ok (.iconst 0, 1) := by decide +kernel
theorem dX5_find_7 : decode cX5_find 7 = .ok (.putfield 26, 3) := by decide +kernel
theorem dX5_find_10 : decode cX5_find 10 = .ok (.aload_n 0, 1) := by decide +kernel
theorem dX5_find_11 : decode cX5_find 11 = .ok (.getfield 33, 3) := by decide +kernel
theorem dX5_find_14 : decode cX5_find 14 = .ok (.iconst 0, 1) := by decide +kernel
theorem dX5_find_15 : decode cX5_find 15 = .ok (.invokevirtual 41, 3) := by decide +kernel
theorem dX5_find_18 : decode cX5_find 18 = .ok (.invokevirtual 47, 3) := by decide +kernel
theorem dX5_find_21 : decode cX5_find 21 = .ok (.istore_n 2, 1) := by decide +kernel
theorem dX5_find_22 : decode cX5_find 22 = .ok (.aload_n 0, 1) := by decide +kernel
theorem dX5_find_23 : decode cX5_find 23 = .ok (.getfield 33, 3) := by decide +kernel
theorem dX5_find_26 : decode cX5_find 26 = .ok (.invokevirtual 52, 3) := by decide +kernel
theorem dX5_find_29 : decode cX5_find 29 = .ok (.ifCond .eq 17, 3) := by decide +kernel
theorem dX5_find_32 : decode cX5_find 32 = .ok (.aload_n 0, 1) := by decide +kernel
theorem dX5_find_33 : decode cX5_find 33 = .ok (.getfield 33, 3) := by decide +kernel
theorem dX5_find_36 : decode cX5_find 36 = .ok (.iconst 1, 1) := by decide +kernel
theorem dX5_find_37 : decode cX5_find 37 = .ok (.invokevirtual 41, 3) := by decide +kernel
theorem dX5_find_40 : decode cX5_find 40 = .ok (.invokevirtual 47, 3) := by decide +kernel
theorem dX5_find_43 : decode cX5_find 43 = .ok (.goto 4, 3) := by decide +kernel
theorem dX5_find_46 : decode cX5_find 46 = .ok (.iconst 1, 1) := by decide +kernel
theorem dX5_find_47 : decode cX5_find 47 = .ok (.istore_n 3, 1) := by decide +kernel
theorem dX5_find_48 : decode cX5_find 48 = .ok (.iconst 0, 1) := by decide +kernel
theorem dX5_find_49 : decode cX5_find 49 = .ok (.istore 4, 2) := by decide +kernel
theorem dX5_find_51 : decode cX5_find 51 = .ok (.iload 4, 2) := by decide +kernel
theorem dX5_find_53 : decode cX5_find 53 = .ok (.iload_n 2, 1) := by decide +kernel
theorem dX5_find_54 : decode cX5_find 54 = .ok (.if_icmp .ge 67, 3) := by decide +kernel
theorem dX5_find_57 : decode cX5_find 57 = .ok (.iconst 0, 1) := by decide +kernel
theorem dX5_find_58 : decode cX5_find 58 = .ok (.istore 5, 2) := by decide +kernel
theorem dX5_find_60 : decode cX5_find 60 = .ok (.iload 5, 2) := by decide +kernel
theorem dX5_find_62 : decode cX5_find 62 = .ok (.iload_n 3, 1) := by decide +kernel
theorem dX5_find_63 : decode cX5_find 63 = .ok (.if_icmp .ge 52, 3) := by decide +kernel
theorem dX5_find_66 : decode cX5_find 66 = .ok (.iload 4, 2) := by decide +kernel
theorem dX5_find_68 : decode cX5_find 68 = .ok (.bipush 12, 2) := by decide +kernel
theorem dX5_find_70 : decode cX5_find 70 = .ok (.imul, 1) := by decide +kernel
theorem dX5_find_71 : decode cX5_find 71 = .ok (.iload 5, 2) := by decide +kernel
theorem dX5_find_73 : decode cX5_find 73 = .ok (.iadd, 1) := by decide +kernel
theorem dX5_find_74 : decode cX5_find 74 = .ok (.istore 6, 2) := by decide +kernel
theorem dX5_find_76 : decode cX5_find 76 = .ok (.aload_n 0, 1) := by decide +kernel
theorem dX5_find_77 : decode cX5_find 77 = .ok (.iload 6, 2) := by decide +kernel
theorem dX5_find_79 : decode cX5_find 79 = .ok (.invokevirtual 56, 3) := by decide +kernel
theorem dX5_find_82 : decode cX5_find 82 = .ok (.iconst (-1), 1) := by decide +kernel
theorem dX5_find_83 : decode cX5_find 83 = .ok (.if_icmp .ne 26, 3) := by decide +kernel
theorem dX5_find_86 : decode cX5_find 86 = .ok (.aload_n 0, 1) := by decide +kernel
theorem dX5_find_87 : decode cX5_find 87 = .ok (.getfield 14, 3) := by decide +kernel
theorem dX5_find_90 : decode cX5_find 90 = .ok (.aload_n 0, 1) := by decide +kernel
theorem dX5_find_91 : decode cX5_find 91 = .ok (.getfield 26, 3) := by decide +kernel
theorem dX5_find_94 : decode cX5_find 94 = .ok (.iload 6, 2) := by decide +kernel
theorem dX5_find_96 : decode cX5_find 96 = .ok (.invokevirtual 60, 3) := by decide +kernel
theorem dX5_find_99 : decode cX5_find 99 = .ok (.aload_n 0, 1) := by decide +kernel
theorem dX5_find_100 : decode cX5_find 100 = .ok (.dup, 1) := by decide +kernel
theorem dX5_find_101 : decode cX5_find 101 = .ok (.getfield 26, 3) := by decide +kernel
theorem dX5_find_104 : decode cX5_find 104 = .ok (.iconst 1, 1) := by decide +kernel
theorem dX5_find_105 : decode cX5_find 105 = .ok (.iadd, 1) := by decide +kernel
theorem dX5_find_106 : decode cX5_find 106 = .ok (.putfield 26, 3) := by decide +kernel
theorem dX5_find_109 : decode cX5_find 109 = .ok (.iinc 5 1, 3) := by decide +kernel
theorem dX5_find_112 : decode cX5_find 112 = .ok (.goto (-52), 3) := by decide +kernel
theorem dX5_find_115 : decode cX5_find 115 = .ok (.iinc 4 1, 3) := by decide +kernel
theorem dX5_find_118 : decode cX5_find 118 = .ok (.goto (-67), 3) := by decide +kernel
theorem dX5_find_121 : decode cX5_find 121 = .ok (.aload_n 0, 1) := by decide +kernel
theorem dX5_find_122 : decode cX5_find 122 = .ok (.getfield 26, 3) := by decide +kernel
theorem dX5_find_125 : decode cX5_find 125 = .ok (.ireturn, 1) := by decide +kernel
set_option maxRecDepth 20000 in
theorem ggX5_explain_X5_findTellers : GoodIn wsX5_explain wsX5_findTellers := goodIn_r _ [5, 6, 7, 8, 9, 10, 11, 12, 13, 14, 15, 16, 17, 18, 19, 20, 21, 22, 23, 24, 25, 26, 27, 28, 29, 30, 31, 32, 33, 34, 35, 36, 37, 38, 39, 40, 41, 42, 43, 44, 45, 46, 47, 48, 49, 50, 51, 52, 53, 54, 55, 56, 57, 58, 59, 60, 91, 92, 93, 94, 95, 96, 97, 98, 99, 100, 101, 102, 103, 104, 105, 106, 107, 108, 109, 110] (by decide +kernel) (by decide +kernel)
set_option maxRecDepth 20000 in
theorem gX5_explain_X5_findTellers : GoodIn wsX5_explain (wsV RX5 37 RX5 yX5_findTellers wsX5_findTellers) := goodIn_app (goodIn_of _ (by decide +kernel)) ggX5_explain_X5_findTellers
set_option maxRecDepth 20000 in
theorem ggX5_explain_X5_firstMisfit : GoodIn wsX5_explain wsX5_firstMisfit := goodIn_r _ [64, 8, 6, 28, 29, 30, 18, 31, 20, 21, 32, 33, 34, 25, 35, 36, 37, 38, 39, 40, 41, 65, 66, 67, 4, 68, 7, 15, 16, 17, 19, 22, 23, 24, 26, 27, 69, 70, 71, 72, 73, 74, 75, 76, 77, 78, 79, 80, 81, 82, 83, 84, 49, 50, 12, 51, 14, 42, 43, 44, 45, 46, 47, 48, 85, 86, 87, 88, 56, 89, 52, 53, 54, 55, 90, 91, 92, 93, 94, 95, 96, 98, 99, 100, 101, 102, 103, 104, 105, 106, 107, 97, 108, 109, 110] (by decide +kernel) (by decide +kernel)
set_option maxRecDepth 20000 in
theorem gX5_explain_X5_firstMisfit : GoodIn wsX5_explain (wsV RX5 56 RX5 yX5_firstMisfit wsX5_firstMisfit) := goodIn_app (goodIn_of _ (by decide +kernel)) ggX5_explain_X5_firstMisfit
theorem dX5_explain_0 : decode cX5_explain 0 = .ok (.aload_n 0, 1) := by decide +kernel
theorem dX5_explain_1 : decode cX5_explain 1 = .ok (.iconst (-1), 1) := by decide +kernel
theorem dX5_explain_2 : decode cX5_explain 2 = .ok (.invokevirtual 37, 3) := by decide +kernel
theorem dX5_explain_5 : decode cX5_explain 5 = .ok (.aload_n 0, 1) := by decide +kernel
theorem dX5_explain_6 : decode cX5_explain 6 = .ok (.iload_n 1, 1) := by decide +kernel
theorem dX5_explain_7 : decode cX5_explain 7 = .ok (.invokevirtual 56, 3) := by decide +kernel
theorem dX5_explain_10 : decode cX5_explain 10 = .ok (.ireturn, 1) := by decide +kernel
set_option maxRecDepth 20000 in
theorem ggX5_tellerOf_X3_at : GoodIn wsX5_tellerOf wsX3_at := goodIn_r _ [6, 7, 14] (by decide +kernel) (by decide +kernel)
set_option maxRecDepth 20000 in
theorem gX5_tellerOf_X3_at : GoodIn wsX5_tellerOf (wsV RX5 63 RX3 yX3_at wsX3_at) := goodIn_app (goodIn_of _ (by decide +kernel)) ggX5_tellerOf_X3_at
theorem dX5_tellerOf_0 : decode cX5_tellerOf 0 = .ok (.aload_n 0, 1) := by decide +kernel
theorem dX5_tellerOf_1 : decode cX5_tellerOf 1 = .ok (.getfield 23, 3) := by decide +kernel
theorem dX5_tellerOf_4 : decode cX5_tellerOf 4 = .ok (.iload_n 1, 1) := by decide +kernel
theorem dX5_tellerOf_5 : decode cX5_tellerOf 5 = .ok (.invokevirtual 63, 3) := by decide +kernel
theorem dX5_tellerOf_8 : decode cX5_tellerOf 8 = .ok (.ireturn, 1) := by decide +kernel
set_option maxRecDepth 20000 in
theorem ggX5_findTellers_X3_fill : GoodIn wsX5_findTellers wsX3_fill := goodIn_r _ [8, 9, 62] (by decide +kernel) (by decide +kernel)
set_option maxRecDepth 20000 in
theorem gX5_findTellers_X3_fill : GoodIn wsX5_findTellers (wsV RX5 66 RX3 yX3_fill wsX3_fill) := goodIn_app (goodIn_of _ (by decide +kernel)) ggX5_findTellers_X3_fill
set_option maxRecDepth 20000 in
theorem ggX5_findTellers_X6_exampleOf : GoodIn wsX5_findTellers wsX6_exampleOf := goodIn_r _ [14, 15, 16, 17, 18, 19, 20, 21, 22, 63, 64, 65, 66, 67, 68, 69, 70, 71, 72] (by decide +kernel) (by decide +kernel)
set_option maxRecDepth 20000 in
theorem gX5_findTellers_X6_exampleOf : GoodIn wsX5_findTellers (wsV RX5 69 RX6 yX6_exampleOf wsX6_exampleOf) := goodIn_app (goodIn_of _ (by decide +kernel)) ggX5_findTellers_X6_exampleOf
set_option maxRecDepth 20000 in
theorem ggX5_findTellers_X6_isAsked : GoodIn wsX5_findTellers wsX6_isAsked := goodIn_r _ [26, 15, 16, 27, 28, 29, 20, 30, 31, 32, 33, 34, 13, 35, 36, 63, 64, 65, 66, 67, 68, 69, 70, 71, 72] (by decide +kernel) (by decide +kernel)
set_option maxRecDepth 20000 in
theorem gX5_findTellers_X6_isAsked : GoodIn wsX5_findTellers (wsV RX5 73 RX6 yX6_isAsked wsX6_isAsked) := goodIn_app (goodIn_of _ (by decide +kernel)) ggX5_findTellers_X6_isAsked
set_option maxRecDepth 20000 in
theorem ggX5_findTellers_X1_kindAt : GoodIn wsX5_findTellers wsX1_kindAt := goodIn_r _ [41, 42, 43, 44, 45, 7, 46, 9, 73, 74, 75, 62] (by decide +kernel) (by decide +kernel)
set_option maxRecDepth 20000 in
theorem gX5_findTellers_X1_kindAt : GoodIn wsX5_findTellers (wsV RX5 77 RX1 yX1_kindAt wsX1_kindAt) := goodIn_app (goodIn_of _ (by decide +kernel)) ggX5_findTellers_X1_kindAt
set_option maxRecDepth 20000 in
theorem ggX5_findTellers_X1_firstAt : GoodIn wsX5_findTellers wsX1_firstAt := goodIn_r _ [50, 51, 43, 44, 45, 7, 46, 9, 73, 74, 75, 62] (by decide +kernel) (by decide +kernel)
set_option maxRecDepth 20000 in
theorem gX5_findTellers_X1_firstAt : GoodIn wsX5_findTellers (wsV RX5 82 RX1 yX1_firstAt wsX1_firstAt) := goodIn_app (goodIn_of _ (by decide +kernel)) ggX5_findTellers_X1_firstAt
set_option maxRecDepth 20000 in
theorem ggX5_findTellers_X3_set : GoodIn wsX5_findTellers wsX3_set := goodIn_r _ [55, 9, 62] (by decide +kernel) (by decide +kernel)
set_option maxRecDepth 20000 in
theorem gX5_findTellers_X3_set : GoodIn wsX5_findTellers (wsV RX5 60 RX3 yX3_set wsX3_set) := goodIn_app (goodIn_of _ (by decide +kernel)) ggX5_findTellers_X3_set
theorem dX5_findTellers_0 : decode cX5_findTellers 0 = .ok (.aload_n 0, 1) := by decide +kernel
theorem dX5_findTellers_1 : decode cX5_findTellers 1 = .ok (.iload_n 1, 1) := by decide +kernel
theorem dX5_findTellers_2 : decode cX5_findTellers 2 = .ok (.putfield 30, 3) := by decide +kernel
theorem dX5_findTellers_5 : decode cX5_findTellers 5 = .ok (.aload_n 0, 1) := by decide +kernel
theorem dX5_findTellers_6 : decode cX5_findTellers 6 = .ok (.getfield 23, 3) := by decide +kernel
theorem dX5_findTellers_9 : decode cX5_findTellers 9 = .ok (.iconst (-1), 1) := by decide +kernel
theorem dX5_findTellers_10 : decode cX5_findTellers 10 = .ok (.invokevirtual 66, 3) := by decide +kernel
theorem dX5_findTellers_13 : decode cX5_findTellers 13 = .ok (.bipush 7, 2) := by decide +kernel
theorem dX5_findTellers_15 : decode cX5_findTellers 15 = .ok (.istore_n 2, 1) := by decide +kernel
theorem dX5_findTellers_16 : decode cX5_findTellers 16 = .ok (.iload_n 2, 1) := by decide +kernel
theorem dX5_findTellers_17 : decode cX5_findTellers 17 = .ok (.ifCond .lt 79, 3) := by decide +kernel
theorem dX5_findTellers_20 : decode cX5_findTellers 20 = .ok (.aload_n 0, 1) := by decide +kernel
theorem dX5_findTellers_21 : decode cX5_findTellers 21 = .ok (.getfield 33, 3) := by decide +kernel
theorem dX5_findTellers_24 : decode cX5_findTellers 24 = .ok (.iload_n 2, 1) := by decide +kernel
theorem dX5_findTellers_25 : decode cX5_findTellers 25 = .ok (.invokevirtual 69, 3) := by decide +kernel
theorem dX5_findTellers_28 : decode cX5_findTellers 28 = .ok (.astore_n 3, 1) := by decide +kernel
theorem dX5_findTellers_29 : decode cX5_findTellers 29 = .ok (.iload_n 2, 1) := by decide +kernel
theorem dX5_findTellers_30 : decode cX5_findTellers 30 = .ok (.iconst 4, 1) := by decide +kernel
theorem dX5_findTellers_31 : decode cX5_findTellers 31 = .ok (.irem, 1) := by decide +kernel
theorem dX5_findTellers_32 : decode cX5_findTellers 32 = .ok (.istore 4, 2) := by decide +kernel
theorem dX5_findTellers_34 : decode cX5_findTellers 34 = .ok (.aload_n 0, 1) := by decide +kernel
theorem dX5_findTellers_35 : decode cX5_findTellers 35 = .ok (.getfield 33, 3) := by decide +kernel
theorem dX5_findTellers_38 : decode cX5_findTellers 38 = .ok (.iload_n 2, 1) := by decide +kernel
theorem dX5_findTellers_39 : decode cX5_findTellers 39 = .ok (.invokevirtual 73, 3) := by decide +kernel
theorem dX5_findTellers_42 : decode cX5_findTellers 42 = .ok (.ifCond .eq 15, 3) := by decide +kernel
theorem dX5_findTellers_45 : decode cX5_findTellers 45 = .ok (.iload_n 2, 1) := by decide +kernel
theorem dX5_findTellers_46 : decode cX5_findTellers 46 = .ok (.aload_n 0, 1) := by decide +kernel
theorem dX5_findTellers_47 : decode cX5_findTellers 47 = .ok (.getfield 30, 3) := by decide +kernel
theorem dX5_findTellers_50 : decode cX5_findTellers 50 = .ok (.if_icmp .eq 7, 3) := by decide +kernel
theorem dX5_findTellers_53 : decode cX5_findTellers 53 = .ok (.iconst 1, 1) := by decide +kernel
theorem dX5_findTellers_54 : decode cX5_findTellers 54 = .ok (.goto 4, 3) := by decide +kernel
theorem dX5_findTellers_57 : decode cX5_findTellers 57 = .ok (.iconst 0, 1) := by decide +kernel
theorem dX5_findTellers_58 : decode cX5_findTellers 58 = .ok (.istore 5, 2) := by decide +kernel
theorem dX5_findTellers_60 : decode cX5_findTellers 60 = .ok (.iload 5, 2) := by decide +kernel
theorem dX5_findTellers_62 : decode cX5_findTellers 62 = .ok (.ifCond .eq 28, 3) := by decide +kernel
theorem dX5_findTellers_65 : decode cX5_findTellers 65 = .ok (.aload_n 3, 1) := by decide +kernel
theorem dX5_findTellers_66 : decode cX5_findTellers 66 = .ok (.iload 4, 2) := by decide +kernel
theorem dX5_findTellers_68 : decode cX5_findTellers 68 = .ok (.invokevirtual 77, 3) := by decide +kernel
theorem dX5_findTellers_71 : decode cX5_findTellers 71 = .ok (.bipush 8, 2) := by decide +kernel
theorem dX5_findTellers_73 : decode cX5_findTellers 73 = .ok (.if_icmp .ne 17, 3) := by decide +kernel
theorem dX5_findTellers_76 : decode cX5_findTellers 76 = .ok (.aload_n 0, 1) := by decide +kernel
theorem dX5_findTellers_77 : decode cX5_findTellers 77 = .ok (.getfield 23, 3) := by decide +kernel
theorem dX5_findTellers_80 : decode cX5_findTellers 80 = .ok (.aload_n 3, 1) := by decide +kernel
theorem dX5_findTellers_81 : decode cX5_findTellers 81 = .ok (.iload 4, 2) := by decide +kernel
theorem dX5_findTellers_83 : decode cX5_findTellers 83 = .ok (.invokevirtual 82, 3) := by decide +kernel
theorem dX5_findTellers_86 : decode cX5_findTellers 86 = .ok (.iload_n 2, 1) := by decide +kernel
theorem dX5_findTellers_87 : decode cX5_findTellers 87 = .ok (.invokevirtual 60, 3) := by decide +kernel
theorem dX5_findTellers_90 : decode cX5_findTellers 90 = .ok (.iinc 2 (-1), 3) := by decide +kernel
theorem dX5_findTellers_93 : decode cX5_findTellers 93 = .ok (.goto (-77), 3) := by decide +kernel
theorem dX5_findTellers_96 : decode cX5_findTellers 96 = .ok (.return_, 1) := by decide +kernel
set_option maxRecDepth 20000 in
theorem ggX5_firstMisfit_X6_isAsked : GoodIn wsX5_firstMisfit wsX6_isAsked := goodIn_r _ [7, 8, 9, 10, 11, 12, 13, 14, 15, 16, 17, 18, 6, 19, 20, 81, 82, 83, 84, 85, 86, 87, 88, 89, 90] (by decide +kernel) (by decide +kernel)
set_option maxRecDepth 20000 in
theorem gX5_firstMisfit_X6_isAsked : GoodIn wsX5_firstMisfit (wsV RX5 73 RX6 yX6_isAsked wsX6_isAsked) := goodIn_app (goodIn_of _ (by decide +kernel)) ggX5_firstMisfit_X6_isAsked
set_option maxRecDepth 20000 in
theorem ggX5_firstMisfit_X5_isFitted : GoodIn wsX5_firstMisfit wsX5_isFitted := goodIn_r _ [25, 1, 26, 27, 28, 29, 6, 30, 8, 9, 31, 32, 33, 13, 34, 35, 36, 37, 38, 39, 40, 41, 42, 43, 44, 45, 46, 47, 48, 49, 50, 11, 12, 14, 15, 51, 52, 53, 54, 55, 56, 57, 58, 59, 60, 61, 62, 63, 64, 65, 66, 67, 68, 69, 70, 71, 72, 73, 74, 75, 76, 77, 78, 79, 80, 81, 82, 83, 84, 85, 86, 87, 88, 89, 90, 91, 92, 93, 94] (by decide +kernel) (by decide +kernel)
set_option maxRecDepth 20000 in
theorem gX5_firstMisfit_X5_isFitted : GoodIn wsX5_firstMisfit (wsV RX5 85 RX5 yX5_isFitted wsX5_isFitted) := goodIn_app (goodIn_of _ (by decide +kernel)) ggX5_firstMisfit_X5_isFitted
theorem dX5_firstMisfit_0 : decode cX5_firstMisfit 0 = .ok (.iconst 0, 1) := by decide +kernel
theorem dX5_firstMisfit_1 : decode cX5_firstMisfit 1 = .ok (.istore_n 2, 1) := by decide +kernel
theorem dX5_firstMisfit_2 : decode cX5_firstMisfit 2 = .ok (.iload_n 2, 1) := by decide +kernel
theorem dX5_firstMisfit_3 : decode cX5_firstMisfit 3 = .ok (.bipush 8, 2) := by decide +kernel
theorem dX5_firstMisfit_5 : decode cX5_firstMisfit 5 = .ok (.if_icmp .ge 39, 3) := by decide +kernel
theorem dX5_firstMisfit_8 : decode cX5_firstMisfit 8 = .ok (.aload_n 0, 1) := by decide +kernel
theorem dX5_firstMisfit_9 : decode cX5_firstMisfit 9 = .ok (.getfield 33, 3) := by decide +kernel
theorem dX5_firstMisfit_12 : decode cX5_firstMisfit 12 = .ok (.iload_n 2, 1) := by decide +kernel
theorem dX5_firstMisfit_13 : decode cX5_firstMisfit 13 = .ok (.invokevirtual 73, 3) := by decide +kernel
theorem dX5_firstMisfit_16 : decode cX5_firstMisfit 16 = .ok (.ifCond .eq 22, 3) := by decide +kernel
theorem dX5_firstMisfit_19 : decode cX5_firstMisfit 19 = .ok (.iload_n 2, 1) := by decide +kernel
theorem dX5_firstMisfit_20 : decode cX5_firstMisfit 20 = .ok (.aload_n 0, 1) := by decide +kernel
theorem dX5_firstMisfit_21 : decode cX5_firstMisfit 21 = .ok (.getfield 30, 3) := by decide +kernel
theorem dX5_firstMisfit_24 : decode cX5_firstMisfit 24 = .ok (.if_icmp .eq 14, 3) := by decide +kernel
theorem dX5_firstMisfit_27 : decode cX5_firstMisfit 27 = .ok (.aload_n 0, 1) := by decide +kernel
theorem dX5_firstMisfit_28 : decode cX5_firstMisfit 28 = .ok (.iload_n 2, 1) := by decide +kernel
theorem dX5_firstMisfit_29 : decode cX5_firstMisfit 29 = .ok (.iload_n 1, 1) := by decide +kernel
theorem dX5_firstMisfit_30 : decode cX5_firstMisfit 30 = .ok (.invokevirtual 85, 3) := by decide +kernel
theorem dX5_firstMisfit_33 : decode cX5_firstMisfit 33 = .ok (.ifCond .ne 5, 3) := by decide +kernel
theorem dX5_firstMisfit_36 : decode cX5_firstMisfit 36 = .ok (.iload_n 2, 1) := by decide +kernel
theorem dX5_firstMisfit_37 : decode cX5_firstMisfit 37 = .ok (.ireturn, 1) := by decide +kernel
theorem dX5_firstMisfit_38 : decode cX5_firstMisfit 38 = .ok (.iinc 2 1, 3) := by decide +kernel
theorem dX5_firstMisfit_41 : decode cX5_firstMisfit 41 = .ok (.goto (-39), 3) := by decide +kernel
theorem dX5_firstMisfit_44 : decode cX5_firstMisfit 44 = .ok (.iconst (-1), 1) := by decide +kernel
theorem dX5_firstMisfit_45 : decode cX5_firstMisfit 45 = .ok (.ireturn, 1) := by decide +kernel
set_option maxRecDepth 20000 in
theorem ggX5_isFitted_X6_exampleOf : GoodIn wsX5_isFitted wsX6_exampleOf := goodIn_r _ [7, 8, 9, 10, 11, 12, 13, 14, 15, 65, 66, 67, 68, 69, 70, 71, 72, 73, 74] (by decide +kernel) (by decide +kernel)
set_option maxRecDepth 20000 in
theorem gX5_isFitted_X6_exampleOf : GoodIn wsX5_isFitted (wsV RX5 69 RX6 yX6_exampleOf wsX6_exampleOf) := goodIn_app (goodIn_of _ (by decide +kernel)) ggX5_isFitted_X6_exampleOf
set_option maxRecDepth 20000 in
theorem ggX5_isFitted_X6_entry : GoodIn wsX5_isFitted wsX6_entry := goodIn_r _ [19, 8, 9, 20, 21, 22, 13, 23, 24, 25, 26, 27, 28, 29, 30, 31, 32, 33, 34, 35, 36, 37, 38, 39, 40, 65, 66, 67, 68, 69, 70, 71, 72, 73, 74, 75] (by decide +kernel) (by decide +kernel)
set_option maxRecDepth 20000 in
theorem gX5_isFitted_X6_entry : GoodIn wsX5_isFitted (wsV RX5 89 RX6 yX6_entry wsX6_entry) := goodIn_app (goodIn_of _ (by decide +kernel)) ggX5_isFitted_X6_entry
set_option maxRecDepth 20000 in
theorem ggX5_isFitted_X1_kindAt : GoodIn wsX5_isFitted wsX1_kindAt := goodIn_r _ [45, 46, 47, 36, 37, 38, 39, 40, 76, 77, 78, 75] (by decide +kernel) (by decide +kernel)
set_option maxRecDepth 20000 in
theorem gX5_isFitted_X1_kindAt : GoodIn wsX5_isFitted (wsV RX5 77 RX1 yX1_kindAt wsX1_kindAt) := goodIn_app (goodIn_of _ (by decide +kernel)) ggX5_isFitted_X1_kindAt
set_option maxRecDepth 20000 in
theorem ggX5_isFitted_X1_takesAlone : GoodIn wsX5_isFitted wsX1_takesAlone := goodIn_r _ [51, 46, 52, 53, 47, 36, 37, 38, 39, 40, 76, 77, 78, 75] (by decide +kernel) (by decide +kernel)
set_option maxRecDepth 20000 in
theorem gX5_isFitted_X1_takesAlone : GoodIn wsX5_isFitted (wsV RX5 93 RX1 yX1_takesAlone wsX1_takesAlone) := goodIn_app (goodIn_of _ (by decide +kernel)) ggX5_isFitted_X1_takesAlone
set_option maxRecDepth 20000 in
theorem ggX5_isFitted_X1_firstAt : GoodIn wsX5_isFitted wsX1_firstAt := goodIn_r _ [57, 52, 47, 36, 37, 38, 39, 40, 76, 77, 78, 75] (by decide +kernel) (by decide +kernel)
set_option maxRecDepth 20000 in
theorem gX5_isFitted_X1_firstAt : GoodIn wsX5_isFitted (wsV RX5 82 RX1 yX1_firstAt wsX1_firstAt) := goodIn_app (goodIn_of _ (by decide +kernel)) ggX5_isFitted_X1_firstAt
set_option maxRecDepth 20000 in
theorem ggX5_isFitted_X3_at : GoodIn wsX5_isFitted wsX3_at := goodIn_r _ [39, 40, 75] (by decide +kernel) (by decide +kernel)
set_option maxRecDepth 20000 in
theorem gX5_isFitted_X3_at : GoodIn wsX5_isFitted (wsV RX5 63 RX3 yX3_at wsX3_at) := goodIn_app (goodIn_of _ (by decide +kernel)) ggX5_isFitted_X3_at
theorem dX5_isFitted_0 : decode cX5_isFitted 0 = .ok (.aload_n 0, 1) := by decide +kernel
theorem dX5_isFitted_1 : decode cX5_isFitted 1 = .ok (.getfield 33, 3) := by decide +kernel
theorem dX5_isFitted_4 : decode cX5_isFitted 4 = .ok (.iload_n 1, 1) := by decide +kernel
theorem dX5_isFitted_5 : decode cX5_isFitted 5 = .ok (.invokevirtual 69, 3) := by decide +kernel
theorem dX5_isFitted_8 : decode cX5_isFitted 8 = .ok (.astore_n 3, 1) := by decide +kernel
theorem dX5_isFitted_9 : decode cX5_isFitted 9 = .ok (.iload_n 1, 1) := by decide +kernel
theorem dX5_isFitted_10 : decode cX5_isFitted 10 = .ok (.iconst 4, 1) := by decide +kernel
theorem dX5_isFitted_11 : decode cX5_isFitted 11 = .ok (.irem, 1) := by decide +kernel
theorem dX5_isFitted_12 : decode cX5_isFitted 12 = .ok (.istore 4, 2) := by decide +kernel
theorem dX5_isFitted_14 : decode cX5_isFitted 14 = .ok (.aload_n 0, 1) := by decide +kernel
theorem dX5_isFitted_15 : decode cX5_isFitted 15 = .ok (.getfield 33, 3) := by decide +kernel
theorem dX5_isFitted_18 : decode cX5_isFitted 18 = .ok (.iload_n 1, 1) := by decide +kernel
theorem dX5_isFitted_19 : decode cX5_isFitted 19 = .ok (.iload_n 2, 1) := by decide +kernel
theorem dX5_isFitted_20 : decode cX5_isFitted 20 = .ok (.invokevirtual 89, 3) := by decide +kernel
theorem dX5_isFitted_23 : decode cX5_isFitted 23 = .ok (.istore 5, 2) := by decide +kernel
theorem dX5_isFitted_25 : decode cX5_isFitted 25 = .ok (.aload_n 3, 1) := by decide +kernel
theorem dX5_isFitted_26 : decode cX5_isFitted 26 = .ok (.iload 4, 2) := by decide +kernel
theorem dX5_isFitted_28 : decode cX5_isFitted 28 = .ok (.invokevirtual 77, 3) := by decide +kernel
theorem dX5_isFitted_31 : decode cX5_isFitted 31 = .ok (.istore 6, 2) := by decide +kernel
theorem dX5_isFitted_33 : decode cX5_isFitted 33 = .ok (.iload 6, 2) := by decide +kernel
theorem dX5_isFitted_35 : decode cX5_isFitted 35 = .ok (.bipush 8, 2) := by decide +kernel
theorem dX5_isFitted_37 : decode cX5_isFitted 37 = .ok (.if_icmp .ge 12, 3) := by decide +kernel
theorem dX5_isFitted_40 : decode cX5_isFitted 40 = .ok (.aload_n 3, 1) := by decide +kernel
theorem dX5_isFitted_41 : decode cX5_isFitted 41 = .ok (.iload 4, 2) := by decide +kernel
theorem dX5_isFitted_43 : decode cX5_isFitted 43 = .ok (.iload 5, 2) := by decide +kernel
theorem dX5_isFitted_45 : decode cX5_isFitted 45 = .ok (.invokevirtual 93, 3) := by decide +kernel
theorem dX5_isFitted_48 : decode cX5_isFitted 48 = .ok (.ireturn, 1) := by decide +kernel
theorem dX5_isFitted_49 : decode cX5_isFitted 49 = .ok (.aload_n 0, 1) := by decide +kernel
theorem dX5_isFitted_50 : decode cX5_isFitted 50 = .ok (.getfield 33, 3) := by decide +kernel
theorem dX5_isFitted_53 : decode cX5_isFitted 53 = .ok (.aload_n 0, 1) := by decide +kernel
theorem dX5_isFitted_54 : decode cX5_isFitted 54 = .ok (.getfield 23, 3) := by decide +kernel
theorem dX5_isFitted_57 : decode cX5_isFitted 57 = .ok (.aload_n 3, 1) := by decide +kernel
theorem dX5_isFitted_58 : decode cX5_isFitted 58 = .ok (.iload 4, 2) := by decide +kernel
theorem dX5_isFitted_60 : decode cX5_isFitted 60 = .ok (.invokevirtual 82, 3) := by decide +kernel
theorem dX5_isFitted_63 : decode cX5_isFitted 63 = .ok (.invokevirtual 63, 3) := by decide +kernel
theorem dX5_isFitted_66 : decode cX5_isFitted 66 = .ok (.iload_n 2, 1) := by decide +kernel
theorem dX5_isFitted_67 : decode cX5_isFitted 67 = .ok (.invokevirtual 89, 3) := by decide +kernel
theorem dX5_isFitted_70 : decode cX5_isFitted 70 = .ok (.istore 7, 2) := by decide +kernel
theorem dX5_isFitted_72 : decode cX5_isFitted 72 = .ok (.iload 5, 2) := by decide +kernel
theorem dX5_isFitted_74 : decode cX5_isFitted 74 = .ok (.iconst (-1), 1) := by decide +kernel
theorem dX5_isFitted_75 : decode cX5_isFitted 75 = .ok (.if_icmp .eq 9, 3) := by decide +kernel
theorem dX5_isFitted_78 : decode cX5_isFitted 78 = .ok (.iload 7, 2) := by decide +kernel
theorem dX5_isFitted_80 : decode cX5_isFitted 80 = .ok (.iconst (-1), 1) := by decide +kernel
theorem dX5_isFitted_81 : decode cX5_isFitted 81 = .ok (.if_icmp .ne 5, 3) := by decide +kernel
theorem dX5_isFitted_84 : decode cX5_isFitted 84 = .ok (.iconst 0, 1) := by decide +kernel
theorem dX5_isFitted_85 : decode cX5_isFitted 85 = .ok (.ireturn, 1) := by decide +kernel
theorem dX5_isFitted_86 : decode cX5_isFitted 86 = .ok (.iload 6, 2) := by decide +kernel
theorem dX5_isFitted_88 : decode cX5_isFitted 88 = .ok (.bipush 8, 2) := by decide +kernel
theorem dX5_isFitted_90 : decode cX5_isFitted 90 = .ok (.if_icmp .ne 16, 3) := by decide +kernel
theorem dX5_isFitted_93 : decode cX5_isFitted 93 = .ok (.iload 5, 2) := by decide +kernel
theorem dX5_isFitted_95 : decode cX5_isFitted 95 = .ok (.iload 7, 2) := by decide +kernel
theorem dX5_isFitted_97 : decode cX5_isFitted 97 = .ok (.if_icmp .ne 7, 3) := by decide +kernel
theorem dX5_isFitted_100 : decode cX5_isFitted 100 = .ok (.iconst 1, 1) := by decide +kernel
theorem dX5_isFitted_101 : decode cX5_isFitted 101 = .ok (.goto 4, 3) := by decide +kernel
theorem dX5_isFitted_104 : decode cX5_isFitted 104 = .ok (.iconst 0, 1) := by decide +kernel
theorem dX5_isFitted_105 : decode cX5_isFitted 105 = .ok (.ireturn, 1) := by decide +kernel
theorem dX5_isFitted_106 : decode cX5_isFitted 106 = .ok (.iload 6, 2) := by decide +kernel
theorem dX5_isFitted_108 : decode cX5_isFitted 108 = .ok (.bipush 9, 2) := by decide +kernel
theorem dX5_isFitted_110 : decode cX5_isFitted 110 = .ok (.if_icmp .ne 18, 3) := by decide +kernel
theorem dX5_isFitted_113 : decode cX5_isFitted 113 = .ok (.iload 5, 2) := by decide +kernel
theorem dX5_isFitted_115 : decode cX5_isFitted 115 = .ok (.iload 7, 2) := by decide +kernel
theorem dX5_isFitted_117 : decode cX5_isFitted 117 = .ok (.if_icmp .ge 7, 3) := by decide +kernel
theorem dX5_isFitted_120 : decode cX5_isFitted 120 = .ok (.iconst 1, 1) := by decide +kernel
theorem dX5_isFitted_121 : decode cX5_isFitted 121 = .ok (.goto 19, 3) := by decide +kernel
theorem dX5_isFitted_124 : decode cX5_isFitted 124 = .ok (.iconst 0, 1) := by decide +kernel
theorem dX5_isFitted_125 : decode cX5_isFitted 125 = .ok (.goto 15, 3) := by decide +kernel
theorem dX5_isFitted_128 : decode cX5_isFitted 128 = .ok (.iload 5, 2) := by decide +kernel
theorem dX5_isFitted_130 : decode cX5_isFitted 130 = .ok (.iload 7, 2) := by decide +kernel
theorem dX5_isFitted_132 : decode cX5_isFitted 132 = .ok (.if_icmp .le 7, 3) := by decide +kernel
theorem dX5_isFitted_135 : decode cX5_isFitted 135 = .ok (.iconst 1, 1) := by decide +kernel
theorem dX5_isFitted_136 : decode cX5_isFitted 136 = .ok (.goto 4, 3) := by decide +kernel
theorem dX5_isFitted_139 : decode cX5_isFitted 139 = .ok (.iconst 0, 1) := by decide +kernel
theorem dX5_isFitted_140 : decode cX5_isFitted 140 = .ok (.ireturn, 1) := by decide +kernel
set_option maxRecDepth 20000 in
theorem ggX5_inOrder_X3_at : GoodIn wsX5_inOrder wsX3_at := goodIn_r _ [7, 8, 74] (by decide +kernel) (by decide +kernel)
set_option maxRecDepth 20000 in
theorem gX5_inOrder_X3_at : GoodIn wsX5_inOrder (wsV RX5 63 RX3 yX3_at wsX3_at) := goodIn_app (goodIn_of _ (by decide +kernel)) ggX5_inOrder_X3_at
set_option maxRecDepth 20000 in
theorem ggX5_inOrder_X5_isAhead : GoodIn wsX5_inOrder wsX5_isAhead := goodIn_r _ [13, 14, 15, 16, 12, 17, 18, 19, 20, 21, 22, 23, 24, 25, 4, 5, 6, 7, 8, 26, 27, 28, 29, 30, 31, 32, 33, 34, 35, 36, 37, 38, 39, 40, 41, 42, 43, 44, 45, 46, 47, 48, 49, 50, 51, 52, 53, 54, 55, 56, 57, 58, 59, 60, 61, 62, 63, 68, 69, 70, 71, 72, 73, 75, 76, 77, 78, 79, 80, 74, 81, 82, 83, 84] (by decide +kernel) (by decide +kernel)
set_option maxRecDepth 20000 in
theorem gX5_inOrder_X5_isAhead : GoodIn wsX5_inOrder (wsV RX5 96 RX5 yX5_isAhead wsX5_isAhead) := goodIn_app (goodIn_of _ (by decide +kernel)) ggX5_inOrder_X5_isAhead
set_option maxRecDepth 20000 in
theorem ggX5_inOrder_X3_set : GoodIn wsX5_inOrder wsX3_set := goodIn_r _ [67, 8, 74] (by decide +kernel) (by decide +kernel)
set_option maxRecDepth 20000 in
theorem gX5_inOrder_X3_set : GoodIn wsX5_inOrder (wsV RX5 60 RX3 yX3_set wsX3_set) := goodIn_app (goodIn_of _ (by decide +kernel)) ggX5_inOrder_X3_set
theorem dX5_inOrder_0 : decode cX5_inOrder 0 = .ok (.iconst 1, 1) := by decide +kernel
theorem dX5_inOrder_1 : decode cX5_inOrder 1 = .ok (.istore_n 2, 1) := by decide +kernel
theorem dX5_inOrder_2 : decode cX5_inOrder 2 = .ok (.iload_n 2, 1) := by decide +kernel
theorem dX5_inOrder_3 : decode cX5_inOrder 3 = .ok (.aload_n 0, 1) := by decide +kernel
theorem dX5_inOrder_4 : decode cX5_inOrder 4 = .ok (.getfield 26, 3) := by decide +kernel
theorem dX5_inOrder_7 : decode cX5_inOrder 7 = .ok (.if_icmp .ge 81, 3) := by decide +kernel
theorem dX5_inOrder_10 : decode cX5_inOrder 10 = .ok (.aload_n 0, 1) := by decide +kernel
theorem dX5_inOrder_11 : decode cX5_inOrder 11 = .ok (.getfield 14, 3) := by decide +kernel
theorem dX5_inOrder_14 : decode cX5_inOrder 14 = .ok (.iload_n 2, 1) := by decide +kernel
theorem dX5_inOrder_15 : decode cX5_inOrder 15 = .ok (.invokevirtual 63, 3) := by decide +kernel
theorem dX5_inOrder_18 : decode cX5_inOrder 18 = .ok (.istore_n 3, 1) := by decide +kernel
theorem dX5_inOrder_19 : decode cX5_inOrder 19 = .ok (.iload_n 2, 1) := by decide +kernel
theorem dX5_inOrder_20 : decode cX5_inOrder 20 = .ok (.istore 4, 2) := by decide +kernel
theorem dX5_inOrder_22 : decode cX5_inOrder 22 = .ok (.iload 4, 2) := by decide +kernel
theorem dX5_inOrder_24 : decode cX5_inOrder 24 = .ok (.ifCond .le 48, 3) := by decide +kernel
theorem dX5_inOrder_27 : decode cX5_inOrder 27 = .ok (.aload_n 0, 1) := by decide +kernel
theorem dX5_inOrder_28 : decode cX5_inOrder 28 = .ok (.iload_n 3, 1) := by decide +kernel
theorem dX5_inOrder_29 : decode cX5_inOrder 29 = .ok (.aload_n 0, 1) := by decide +kernel
theorem dX5_inOrder_30 : decode cX5_inOrder 30 = .ok (.getfield 14, 3) := by decide +kernel
theorem dX5_inOrder_33 : decode cX5_inOrder 33 = .ok (.iload 4, 2) := by decide +kernel
theorem dX5_inOrder_35 : decode cX5_inOrder 35 = .ok (.iconst 1, 1) := by decide +kernel
theorem dX5_inOrder_36 : decode cX5_inOrder 36 = .ok (.isub, 1) := by decide +kernel
theorem dX5_inOrder_37 : decode cX5_inOrder 37 = .ok (.invokevirtual 63, 3) := by decide +kernel
theorem dX5_inOrder_40 : decode cX5_inOrder 40 = .ok (.invokevirtual 96, 3) := by decide +kernel
theorem dX5_inOrder_43 : decode cX5_inOrder 43 = .ok (.ifCond .eq 29, 3) := by decide +kernel
theorem dX5_inOrder_46 : decode cX5_inOrder 46 = .ok (.aload_n 0, 1) := by decide +kernel
theorem dX5_inOrder_47 : decode cX5_inOrder 47 = .ok (.getfield 14, 3) := by decide +kernel
theorem dX5_inOrder_50 : decode cX5_inOrder 50 = .ok (.iload 4, 2) := by decide +kernel
theorem dX5_inOrder_52 : decode cX5_inOrder 52 = .ok (.aload_n 0, 1) := by decide +kernel
theorem dX5_inOrder_53 : decode cX5_inOrder 53 = .ok (.getfield 14, 3) := by decide +kernel
theorem dX5_inOrder_56 : decode cX5_inOrder 56 = .ok (.iload 4, 2) := by decide +kernel
theorem dX5_inOrder_58 : decode cX5_inOrder 58 = .ok (.iconst 1, 1) := by decide +kernel
theorem dX5_inOrder_59 : decode cX5_inOrder 59 = .ok (.isub, 1) := by decide +kernel
theorem dX5_inOrder_60 : decode cX5_inOrder 60 = .ok (.invokevirtual 63, 3) := by decide +kernel
theorem dX5_inOrder_63 : decode cX5_inOrder 63 = .ok (.invokevirtual 60, 3) := by decide +kernel
theorem dX5_inOrder_66 : decode cX5_inOrder 66 = .ok (.iinc 4 (-1), 3) := by decide +kernel
theorem dX5_inOrder_69 : decode cX5_inOrder 69 = .ok (.goto (-47), 3) := by decide +kernel
theorem dX5_inOrder_72 : decode cX5_inOrder 72 = .ok (.aload_n 0, 1) := by decide +kernel
theorem dX5_inOrder_73 : decode cX5_inOrder 73 = .ok (.getfield 14, 3) := by decide +kernel
theorem dX5_inOrder_76 : decode cX5_inOrder 76 = .ok (.iload 4, 2) := by decide +kernel
theorem dX5_inOrder_78 : decode cX5_inOrder 78 = .ok (.iload_n 3, 1) := by decide +kernel
theorem dX5_inOrder_79 : decode cX5_inOrder 79 = .ok (.invokevirtual 60, 3) := by decide +kernel
theorem dX5_inOrder_82 : decode cX5_inOrder 82 = .ok (.iinc 2 1, 3) := by decide +kernel
theorem dX5_inOrder_85 : decode cX5_inOrder 85 = .ok (.goto (-83), 3) := by decide +kernel
theorem dX5_inOrder_88 : decode cX5_inOrder 88 = .ok (.aload_n 0, 1) := by decide +kernel
theorem dX5_inOrder_89 : decode cX5_inOrder 89 = .ok (.getfield 14, 3) := by decide +kernel
theorem dX5_inOrder_92 : decode cX5_inOrder 92 = .ok (.iload_n 1, 1) := by decide +kernel
theorem dX5_inOrder_93 : decode cX5_inOrder 93 = .ok (.invokevirtual 63, 3) := by decide +kernel
theorem dX5_inOrder_96 : decode cX5_inOrder 96 = .ok (.ireturn, 1) := by decide +kernel
set_option maxRecDepth 20000 in
theorem ggX5_isAhead_X5_compareBy : GoodIn wsX5_isAhead wsX5_compareBy := goodIn_r _ [5, 6, 7, 8, 9, 10, 11, 12, 13, 14, 15, 16, 17, 18, 19, 20, 21, 22, 23, 24, 25, 26, 27, 28, 29, 30, 31, 32, 33, 34, 35, 36, 37, 38, 39, 40, 41, 42, 43, 44, 45, 46, 47, 48, 49, 50, 51, 52, 53, 54, 55, 56, 57, 58, 59, 60, 61, 62, 63, 64, 65, 66, 67, 68, 69, 70, 71, 72, 73] (by decide +kernel) (by decide +kernel)
set_option maxRecDepth 20000 in
theorem gX5_isAhead_X5_compareBy : GoodIn wsX5_isAhead (wsV RX5 99 RX5 yX5_compareBy wsX5_compareBy) := goodIn_app (goodIn_of _ (by decide +kernel)) ggX5_isAhead_X5_compareBy
theorem dX5_isAhead_0 : decode cX5_isAhead 0 = .ok (.aload_n 0, 1) := by decide +kernel
theorem dX5_isAhead_1 : decode cX5_isAhead 1 = .ok (.iconst 0, 1) := by decide +kernel
theorem dX5_isAhead_2 : decode cX5_isAhead 2 = .ok (.iload_n 1, 1) := by decide +kernel
theorem dX5_isAhead_3 : decode cX5_isAhead 3 = .ok (.iload_n 2, 1) := by decide +kernel
theorem dX5_isAhead_4 : decode cX5_isAhead 4 = .ok (.invokevirtual 99, 3) := by decide +kernel
theorem dX5_isAhead_7 : decode cX5_isAhead 7 = .ok (.istore_n 3, 1) := by decide +kernel
theorem dX5_isAhead_8 : decode cX5_isAhead 8 = .ok (.iload_n 3, 1) := by decide +kernel
theorem dX5_isAhead_9 : decode cX5_isAhead 9 = .ok (.ifCond .ne 11, 3) := by decide +kernel
theorem dX5_isAhead_12 : decode cX5_isAhead 12 = .ok (.aload_n 0, 1) := by decide +kernel
theorem dX5_isAhead_13 : decode cX5_isAhead 13 = .ok (.iconst 1, 1) := by decide +kernel
theorem dX5_isAhead_14 : decode cX5_isAhead 14 = .ok (.iload_n 1, 1) := by decide +kernel
theorem dX5_isAhead_15 : decode cX5_isAhead 15 = .ok (.iload_n 2, 1) := by decide +kernel
theorem dX5_isAhead_16 : decode cX5_isAhead 16 = .ok (.invokevirtual 99, 3) := by decide +kernel
theorem dX5_isAhead_19 : decode cX5_isAhead 19 = .ok (.istore_n 3, 1) := by decide +kernel
theorem dX5_isAhead_20 : decode cX5_isAhead 20 = .ok (.iload_n 3, 1) := by decide +kernel
theorem dX5_isAhead_21 : decode cX5_isAhead 21 = .ok (.ifCond .ge 7, 3) := by decide +kernel
theorem dX5_isAhead_24 : decode cX5_isAhead 24 = .ok (.iconst 1, 1) := by decide +kernel
theorem dX5_isAhead_25 : decode cX5_isAhead 25 = .ok (.goto 4, 3) := by decide +kernel
theorem dX5_isAhead_28 : decode cX5_isAhead 28 = .ok (.iconst 0, 1) := by decide +kernel
theorem dX5_isAhead_29 : decode cX5_isAhead 29 = .ok (.ireturn, 1) := by decide +kernel
set_option maxRecDepth 20000 in
theorem ggX5_compareBy_X6_orderColumn : GoodIn wsX5_compareBy wsX6_orderColumn := goodIn_r _ [6, 7, 8, 9, 10, 11, 12, 13, 58, 59, 60, 61, 62, 63, 64] (by decide +kernel) (by decide +kernel)
set_option maxRecDepth 20000 in
theorem gX5_compareBy_X6_orderColumn : GoodIn wsX5_compareBy (wsV RX5 103 RX6 yX6_orderColumn wsX6_orderColumn) := goodIn_app (goodIn_of _ (by decide +kernel)) ggX5_compareBy_X6_orderColumn
set_option maxRecDepth 20000 in
theorem ggX5_compareBy_X6_isAsked : GoodIn wsX5_compareBy wsX6_isAsked := goodIn_r _ [17, 18, 19, 20, 21, 22, 23, 24, 25, 26, 27, 28, 5, 29, 30, 58, 59, 60, 61, 62, 63, 65, 66, 67, 68] (by decide +kernel) (by decide +kernel)
set_option maxRecDepth 20000 in
theorem gX5_compareBy_X6_isAsked : GoodIn wsX5_compareBy (wsV RX5 73 RX6 yX6_isAsked wsX6_isAsked) := goodIn_app (goodIn_of _ (by decide +kernel)) ggX5_compareBy_X6_isAsked
set_option maxRecDepth 20000 in
theorem ggX5_compareBy_X6_entry : GoodIn wsX5_compareBy wsX6_entry := goodIn_r _ [34, 18, 19, 35, 36, 37, 23, 38, 39, 40, 41, 42, 43, 44, 45, 21, 22, 24, 25, 46, 9, 10, 11, 12, 13, 58, 59, 60, 61, 62, 63, 65, 66, 67, 68, 64] (by decide +kernel) (by decide +kernel)
set_option maxRecDepth 20000 in
theorem gX5_compareBy_X6_entry : GoodIn wsX5_compareBy (wsV RX5 89 RX6 yX6_entry wsX6_entry) := goodIn_app (goodIn_of _ (by decide +kernel)) ggX5_compareBy_X6_entry
set_option maxRecDepth 20000 in
theorem ggX5_compareBy_X6_isDownwards : GoodIn wsX5_compareBy wsX6_isDownwards := goodIn_r _ [50, 51, 8, 9, 10, 11, 12, 13, 58, 59, 60, 61, 62, 63, 64] (by decide +kernel) (by decide +kernel)
set_option maxRecDepth 20000 in
theorem gX5_compareBy_X6_isDownwards : GoodIn wsX5_compareBy (wsV RX5 106 RX6 yX6_isDownwards wsX6_isDownwards) := goodIn_app (goodIn_of _ (by decide +kernel)) ggX5_compareBy_X6_isDownwards
theorem dX5_compareBy_0 : decode cX5_compareBy 0 = .ok (.aload_n 0, 1) := by decide +kernel
theorem dX5_compareBy_1 : decode cX5_compareBy 1 = .ok (.getfield 33, 3) := by decide +kernel
theorem dX5_compareBy_4 : decode cX5_compareBy 4 = .ok (.iload_n 1, 1) := by decide +kernel
theorem dX5_compareBy_5 : decode cX5_compareBy 5 = .ok (.invokevirtual 103, 3) := by decide +kernel
theorem dX5_compareBy_8 : decode cX5_compareBy 8 = .ok (.istore 4, 2) := by decide +kernel
theorem dX5_compareBy_10 : decode cX5_compareBy 10 = .ok (.aload_n 0, 1) := by decide +kernel
theorem dX5_compareBy_11 : decode cX5_compareBy 11 = .ok (.getfield 33, 3) := by decide +kernel
theorem dX5_compareBy_14 : decode cX5_compareBy 14 = .ok (.iload 4, 2) := by decide +kernel
theorem dX5_compareBy_16 : decode cX5_compareBy 16 = .ok (.invokevirtual 73, 3) := by decide +kernel
theorem dX5_compareBy_19 : decode cX5_compareBy 19 = .ok (.ifCond .ne 5, 3) := by decide +kernel
theorem dX5_compareBy_22 : decode cX5_compareBy 22 = .ok (.iconst 0, 1) := by decide +kernel
theorem dX5_compareBy_23 : decode cX5_compareBy 23 = .ok (.ireturn, 1) := by decide +kernel
theorem dX5_compareBy_24 : decode cX5_compareBy 24 = .ok (.aload_n 0, 1) := by decide +kernel
theorem dX5_compareBy_25 : decode cX5_compareBy 25 = .ok (.getfield 33, 3) := by decide +kernel
theorem dX5_compareBy_28 : decode cX5_compareBy 28 = .ok (.iload 4, 2) := by decide +kernel
theorem dX5_compareBy_30 : decode cX5_compareBy 30 = .ok (.iload_n 2, 1) := by decide +kernel
theorem dX5_compareBy_31 : decode cX5_compareBy 31 = .ok (.invokevirtual 89, 3) := by decide +kernel
theorem dX5_compareBy_34 : decode cX5_compareBy 34 = .ok (.aload_n 0, 1) := by decide +kernel
theorem dX5_compareBy_35 : decode cX5_compareBy 35 = .ok (.getfield 33, 3) := by decide +kernel
theorem dX5_compareBy_38 : decode cX5_compareBy 38 = .ok (.iload 4, 2) := by decide +kernel
theorem dX5_compareBy_40 : decode cX5_compareBy 40 = .ok (.iload_n 3, 1) := by decide +kernel
theorem dX5_compareBy_41 : decode cX5_compareBy 41 = .ok (.invokevirtual 89, 3) := by decide +kernel
theorem dX5_compareBy_44 : decode cX5_compareBy 44 = .ok (.isub, 1) := by decide +kernel
theorem dX5_compareBy_45 : decode cX5_compareBy 45 = .ok (.istore 5, 2) := by decide +kernel
theorem dX5_compareBy_47 : decode cX5_compareBy 47 = .ok (.aload_n 0, 1) := by decide +kernel
theorem dX5_compareBy_48 : decode cX5_compareBy 48 = .ok (.getfield 33, 3) := by decide +kernel
theorem dX5_compareBy_51 : decode cX5_compareBy 51 = .ok (.iload_n 1, 1) := by decide +kernel
theorem dX5_compareBy_52 : decode cX5_compareBy 52 = .ok (.invokevirtual 106, 3) := by decide +kernel
theorem dX5_compareBy_55 : decode cX5_compareBy 55 = .ok (.ifCond .eq 9, 3) := by decide +kernel
theorem dX5_compareBy_58 : decode cX5_compareBy 58 = .ok (.iload 5, 2) := by decide +kernel
theorem dX5_compareBy_60 : decode cX5_compareBy 60 = .ok (.ineg, 1) := by decide +kernel
theorem dX5_compareBy_61 : decode cX5_compareBy 61 = .ok (.goto 5, 3) := by decide +kernel
theorem dX5_compareBy_64 : decode cX5_compareBy 64 = .ok (.iload 5, 2) := by decide +kernel
theorem dX5_compareBy_66 : decode cX5_compareBy 66 = .ok (.ireturn, 1) := by decide +kernel
set_option maxRecDepth 20000 in
theorem ggX5_sumUp_X5_find : GoodIn wsX5_sumUp wsX5_find := goodIn_r _ [16, 2, 3, 4, 17, 18, 19, 15, 20, 21, 22, 23, 24, 25, 26, 27, 28, 29, 30, 31, 32, 33, 34, 35, 36, 37, 38, 39, 40, 41, 42, 43, 44, 45, 46, 47, 48, 49, 50, 51, 52, 53, 54, 55, 56, 57, 58, 59, 60, 61, 62, 63, 64, 65, 66, 67, 68, 69, 70, 71, 72, 73, 74, 75, 76, 77, 78, 79, 80, 81, 82, 83, 84, 85, 86, 87, 88, 89, 90, 91, 92, 93, 94, 95, 96, 97, 98, 99, 100, 101, 102, 103, 104, 105, 106, 107, 108, 109, 110, 111, 112, 113, 118, 119, 120, 121, 122, 123, 124, 125, 126, 127, 128, 129, 130, 131, 132, 133, 134, 135, 136, 137] (by decide +kernel) (by decide +kernel)
set_option maxRecDepth 20000 in
theorem gX5_sumUp_X5_find : GoodIn wsX5_sumUp (wsV RX5 109 RX5 yX5_find wsX5_find) := goodIn_app (goodIn_of _ (by decide +kernel)) ggX5_sumUp_X5_find
set_option maxRecDepth 20000 in
theorem ggX5_sumUp_X3_fill : GoodIn wsX5_sumUp wsX3_fill := goodIn_r _ [27, 28, 124] (by decide +kernel) (by decide +kernel)
set_option maxRecDepth 20000 in
theorem gX5_sumUp_X3_fill : GoodIn wsX5_sumUp (wsV RX5 66 RX3 yX3_fill wsX3_fill) := goodIn_app (goodIn_of _ (by decide +kernel)) ggX5_sumUp_X3_fill
set_option maxRecDepth 20000 in
theorem ggX5_sumUp_X3_at : GoodIn wsX5_sumUp wsX3_at := goodIn_r _ [65, 28, 124] (by decide +kernel) (by decide +kernel)
set_option maxRecDepth 20000 in
theorem gX5_sumUp_X3_at : GoodIn wsX5_sumUp (wsV RX5 63 RX3 yX3_at wsX3_at) := goodIn_app (goodIn_of _ (by decide +kernel)) ggX5_sumUp_X3_at
set_option maxRecDepth 20000 in
theorem ggX5_sumUp_X6_entry : GoodIn wsX5_sumUp wsX6_entry := goodIn_r _ [96, 34, 35, 97, 98, 99, 39, 100, 101, 102, 103, 104, 105, 83, 106, 47, 48, 49, 50, 107, 63, 64, 26, 65, 28, 125, 126, 127, 128, 129, 130, 131, 132, 133, 134, 124] (by decide +kernel) (by decide +kernel)
set_option maxRecDepth 20000 in
theorem gX5_sumUp_X6_entry : GoodIn wsX5_sumUp (wsV RX5 89 RX6 yX6_entry wsX6_entry) := goodIn_app (goodIn_of _ (by decide +kernel)) ggX5_sumUp_X6_entry
set_option maxRecDepth 20000 in
theorem ggX5_sumUp_X5_markNew : GoodIn wsX5_sumUp wsX5_markNew := goodIn_r _ [117, 1, 113, 63, 64, 26, 65, 28, 71, 72, 73, 74, 118, 119, 120, 121, 122, 123, 124] (by decide +kernel) (by decide +kernel)
set_option maxRecDepth 20000 in
theorem gX5_sumUp_X5_markNew : GoodIn wsX5_sumUp (wsV RX5 120 RX5 yX5_markNew wsX5_markNew) := goodIn_app (goodIn_of _ (by decide +kernel)) ggX5_sumUp_X5_markNew
theorem dX5_sumUp_0 : decode cX5_sumUp 0 = .ok (.aload_n 0, 1) := by decide +kernel
theorem dX5_sumUp_1 : decode cX5_sumUp 1 = .ok (.iconst (-1), 1) := by decide +kernel
theorem dX5_sumUp_2 : decode cX5_sumUp 2 = .ok (.invokevirtual 109, 3) := by decide +kernel
theorem dX5_sumUp_5 : decode cX5_sumUp 5 = .ok (.pop, 1) := by decide +kernel
theorem dX5_sumUp_6 : decode cX5_sumUp 6 = .ok (.aload_n 0, 1) := by decide +kernel
theorem dX5_sumUp_7 : decode cX5_sumUp 7 = .ok (.getfield 20, 3) := by decide +kernel
theorem dX5_sumUp_10 : decode cX5_sumUp 10 = .ok (.iconst 0, 1) := by decide +kernel
theorem dX5_sumUp_11 : decode cX5_sumUp 11 = .ok (.invokevirtual 66, 3) := by decide +kernel
theorem dX5_sumUp_14 : decode cX5_sumUp 14 = .ok (.iconst 0, 1) := by decide +kernel
theorem dX5_sumUp_15 : decode cX5_sumUp 15 = .ok (.istore_n 3, 1) := by decide +kernel
theorem dX5_sumUp_16 : decode cX5_sumUp 16 = .ok (.iconst 0, 1) := by decide +kernel
theorem dX5_sumUp_17 : decode cX5_sumUp 17 = .ok (.istore 4, 2) := by decide +kernel
theorem dX5_sumUp_19 : decode cX5_sumUp 19 = .ok (.bipush (-14), 2) := by decide +kernel
theorem dX5_sumUp_21 : decode cX5_sumUp 21 = .ok (.istore 5, 2) := by decide +kernel
theorem dX5_sumUp_23 : decode cX5_sumUp 23 = .ok (.bipush (-14), 2) := by decide +kernel
theorem dX5_sumUp_25 : decode cX5_sumUp 25 = .ok (.istore 6, 2) := by decide +kernel
theorem dX5_sumUp_27 : decode cX5_sumUp 27 = .ok (.iconst 0, 1) := by decide +kernel
theorem dX5_sumUp_28 : decode cX5_sumUp 28 = .ok (.istore 7, 2) := by decide +kernel
theorem dX5_sumUp_30 : decode cX5_sumUp 30 = .ok (.iconst 0, 1) := by decide +kernel
theorem dX5_sumUp_31 : decode cX5_sumUp 31 = .ok (.istore 8, 2) := by decide +kernel
theorem dX5_sumUp_33 : decode cX5_sumUp 33 = .ok (.iload 8, 2) := by decide +kernel
theorem dX5_sumUp_35 : decode cX5_sumUp 35 = .ok (.aload_n 0, 1) := by decide +kernel
theorem dX5_sumUp_36 : decode cX5_sumUp 36 = .ok (.getfield 26, 3) := by decide +kernel
theorem dX5_sumUp_39 : decode cX5_sumUp 39 = .ok (.if_icmp .ge 91, 3) := by decide +kernel
theorem dX5_sumUp_42 : decode cX5_sumUp 42 = .ok (.aload_n 0, 1) := by decide +kernel
theorem dX5_sumUp_43 : decode cX5_sumUp 43 = .ok (.getfield 33, 3) := by decide +kernel
theorem dX5_sumUp_46 : decode cX5_sumUp 46 = .ok (.iload_n 1, 1) := by decide +kernel
theorem dX5_sumUp_47 : decode cX5_sumUp 47 = .ok (.aload_n 0, 1) := by decide +kernel
theorem dX5_sumUp_48 : decode cX5_sumUp 48 = .ok (.getfield 14, 3) := by decide +kernel
theorem dX5_sumUp_51 : decode cX5_sumUp 51 = .ok (.iload 8, 2) := by decide +kernel
theorem dX5_sumUp_53 : decode cX5_sumUp 53 = .ok (.invokevirtual 63, 3) := by decide +kernel
theorem dX5_sumUp_56 : decode cX5_sumUp 56 = .ok (.invokevirtual 89, 3) := by decide +kernel
theorem dX5_sumUp_59 : decode cX5_sumUp 59 = .ok (.istore 9, 2) := by decide +kernel
theorem dX5_sumUp_61 : decode cX5_sumUp 61 = .ok (.iload 9, 2) := by decide +kernel
theorem dX5_sumUp_63 : decode cX5_sumUp 63 = .ok (.iconst (-1), 1) := by decide +kernel
theorem dX5_sumUp_64 : decode cX5_sumUp 64 = .ok (.if_icmp .eq 60, 3) := by decide +kernel
theorem dX5_sumUp_67 : decode cX5_sumUp 67 = .ok (.iload_n 3, 1) := by decide +kernel
theorem dX5_sumUp_68 : decode cX5_sumUp 68 = .ok (.ifCond .ne 8, 3) := by decide +kernel
theorem dX5_sumUp_71 : decode cX5_sumUp 71 = .ok (.iload 9, 2) := by decide +kernel
theorem dX5_sumUp_73 : decode cX5_sumUp 73 = .ok (.goto 10, 3) := by decide +kernel
theorem dX5_sumUp_76 : decode cX5_sumUp 76 = .ok (.iload 5, 2) := by decide +kernel
theorem dX5_sumUp_78 : decode cX5_sumUp 78 = .ok (.iload 9, 2) := by decide +kernel
theorem dX5_sumUp_80 : decode cX5_sumUp 80 = .ok (.invokestatic 112, 3) := by decide +kernel
theorem dX5_sumUp_83 : decode cX5_sumUp 83 = .ok (.istore 5, 2) := by decide +kernel
theorem dX5_sumUp_85 : decode cX5_sumUp 85 = .ok (.iload_n 3, 1) := by decide +kernel
theorem dX5_sumUp_86 : decode cX5_sumUp 86 = .ok (.ifCond .ne 8, 3) := by decide +kernel
theorem dX5_sumUp_89 : decode cX5_sumUp 89 = .ok (.iload 9, 2) := by decide +kernel
theorem dX5_sumUp_91 : decode cX5_sumUp 91 = .ok (.goto 10, 3) := by decide +kernel
theorem dX5_sumUp_94 : decode cX5_sumUp 94 = .ok (.iload 6, 2) := by decide +kernel
theorem dX5_sumUp_96 : decode cX5_sumUp 96 = .ok (.iload 9, 2) := by decide +kernel
theorem dX5_sumUp_98 : decode cX5_sumUp 98 = .ok (.invokestatic 117, 3) := by decide +kernel
theorem dX5_sumUp_101 : decode cX5_sumUp 101 = .ok (.istore 6, 2) := by decide +kernel
theorem dX5_sumUp_103 : decode cX5_sumUp 103 = .ok (.iload 7, 2) := by decide +kernel
theorem dX5_sumUp_105 : decode cX5_sumUp 105 = .ok (.aload_n 0, 1) := by decide +kernel
theorem dX5_sumUp_106 : decode cX5_sumUp 106 = .ok (.iload 9, 2) := by decide +kernel
theorem dX5_sumUp_108 : decode cX5_sumUp 108 = .ok (.invokevirtual 120, 3) := by decide +kernel
theorem dX5_sumUp_111 : decode cX5_sumUp 111 = .ok (.iadd, 1) := by decide +kernel
theorem dX5_sumUp_112 : decode cX5_sumUp 112 = .ok (.istore 7, 2) := by decide +kernel
theorem dX5_sumUp_114 : decode cX5_sumUp 114 = .ok (.iload 4, 2) := by decide +kernel
theorem dX5_sumUp_116 : decode cX5_sumUp 116 = .ok (.iload 9, 2) := by decide +kernel
theorem dX5_sumUp_118 : decode cX5_sumUp 118 = .ok (.iadd, 1) := by decide +kernel
theorem dX5_sumUp_119 : decode cX5_sumUp 119 = .ok (.istore 4, 2) := by decide +kernel
theorem dX5_sumUp_121 : decode cX5_sumUp 121 = .ok (.iinc 3 1, 3) := by decide +kernel
theorem dX5_sumUp_124 : decode cX5_sumUp 124 = .ok (.iinc 8 1, 3) := by decide +kernel
theorem dX5_sumUp_127 : decode cX5_sumUp 127 = .ok (.goto (-94), 3) := by decide +kernel
theorem dX5_sumUp_130 : decode cX5_sumUp 130 = .ok (.iload_n 2, 1) := by decide +kernel
theorem dX5_sumUp_131 : decode cX5_sumUp 131 = .ok (.tableswitch 40 0 3 #[29, 31, 34, 37], 29) := by decide +kernel
theorem dX5_sumUp_160 : decode cX5_sumUp 160 = .ok (.iload_n 3, 1) := by decide +kernel
theorem dX5_sumUp_161 : decode cX5_sumUp 161 = .ok (.ireturn, 1) := by decide +kernel
theorem dX5_sumUp_162 : decode cX5_sumUp 162 = .ok (.iload 4, 2) := by decide +kernel
theorem dX5_sumUp_164 : decode cX5_sumUp 164 = .ok (.ireturn, 1) := by decide +kernel
theorem dX5_sumUp_165 : decode cX5_sumUp 165 = .ok (.iload 5, 2) := by decide +kernel
theorem dX5_sumUp_167 : decode cX5_sumUp 167 = .ok (.ireturn, 1) := by decide +kernel
theorem dX5_sumUp_168 : decode cX5_sumUp 168 = .ok (.iload 6, 2) := by decide +kernel
theorem dX5_sumUp_170 : decode cX5_sumUp 170 = .ok (.ireturn, 1) := by decide +kernel
theorem dX5_sumUp_171 : decode cX5_sumUp 171 = .ok (.iload 7, 2) := by decide +kernel
theorem dX5_sumUp_173 : decode cX5_sumUp 173 = .ok (.ireturn, 1) := by decide +kernel
set_option maxRecDepth 20000 in
theorem ggX5_markNew_X3_at : GoodIn wsX5_markNew wsX3_at := goodIn_r _ [6, 7, 18] (by decide +kernel) (by decide +kernel)
set_option maxRecDepth 20000 in
theorem gX5_markNew_X3_at : GoodIn wsX5_markNew (wsV RX5 63 RX3 yX3_at wsX3_at) := goodIn_app (goodIn_of _ (by decide +kernel)) ggX5_markNew_X3_at
set_option maxRecDepth 20000 in
theorem ggX5_markNew_X3_set : GoodIn wsX5_markNew wsX3_set := goodIn_r _ [11, 7, 18] (by decide +kernel) (by decide +kernel)
set_option maxRecDepth 20000 in
theorem gX5_markNew_X3_set : GoodIn wsX5_markNew (wsV RX5 60 RX3 yX3_set wsX3_set) := goodIn_app (goodIn_of _ (by decide +kernel)) ggX5_markNew_X3_set
theorem dX5_markNew_0 : decode cX5_markNew 0 = .ok (.aload_n 0, 1) := by decide +kernel
theorem dX5_markNew_1 : decode cX5_markNew 1 = .ok (.getfield 20, 3) := by decide +kernel
theorem dX5_markNew_4 : decode cX5_markNew 4 = .ok (.iload_n 1, 1) := by decide +kernel
theorem dX5_markNew_5 : decode cX5_markNew 5 = .ok (.invokevirtual 63, 3) := by decide +kernel
theorem dX5_markNew_8 : decode cX5_markNew 8 = .ok (.ifCond .ne 7, 3) := by decide +kernel
theorem dX5_markNew_11 : decode cX5_markNew 11 = .ok (.iconst 1, 1) := by decide +kernel
theorem dX5_markNew_12 : decode cX5_markNew 12 = .ok (.goto 4, 3) := by decide +kernel
theorem dX5_markNew_15 : decode cX5_markNew 15 = .ok (.iconst 0, 1) := by decide +kernel
theorem dX5_markNew_16 : decode cX5_markNew 16 = .ok (.istore_n 2, 1) := by decide +kernel
theorem dX5_markNew_17 : decode cX5_markNew 17 = .ok (.aload_n 0, 1) := by decide +kernel
theorem dX5_markNew_18 : decode cX5_markNew 18 = .ok (.getfield 20, 3) := by decide +kernel
theorem dX5_markNew_21 : decode cX5_markNew 21 = .ok (.iload_n 1, 1) := by decide +kernel
theorem dX5_markNew_22 : decode cX5_markNew 22 = .ok (.iconst 1, 1) := by decide +kernel
theorem dX5_markNew_23 : decode cX5_markNew 23 = .ok (.invokevirtual 60, 3) := by decide +kernel
theorem dX5_markNew_26 : decode cX5_markNew 26 = .ok (.iload_n 2, 1) := by decide +kernel
theorem dX5_markNew_27 : decode cX5_markNew 27 = .ok (.ireturn, 1) := by decide +kernel
set_option maxRecDepth 20000 in
theorem ggX5_countUnlike_X5_find : GoodIn wsX5_countUnlike wsX5_find := goodIn_r _ [8, 2, 9, 3, 10, 11, 12, 7, 13, 14, 15, 16, 17, 18, 19, 20, 21, 22, 23, 24, 25, 26, 27, 28, 29, 30, 31, 32, 33, 34, 35, 36, 37, 38, 39, 40, 41, 42, 43, 44, 45, 46, 47, 48, 49, 50, 51, 52, 53, 54, 55, 56, 57, 58, 59, 60, 61, 62, 63, 64, 65, 66, 67, 68, 69, 70, 71, 72, 73, 74, 75, 76, 77, 78, 79, 80, 81, 82, 83, 84, 85, 86, 87, 88, 89, 90, 91, 92, 93, 94, 95, 96, 97, 98, 99, 100, 101, 102, 103, 104, 105, 106, 126, 127, 128, 129, 130, 131, 132, 133, 134, 135, 136, 137, 138, 139, 140, 141, 142, 143, 144, 145] (by decide +kernel) (by decide +kernel)
set_option maxRecDepth 20000 in
theorem gX5_countUnlike_X5_find : GoodIn wsX5_countUnlike (wsV RX5 109 RX5 yX5_find wsX5_find) := goodIn_app (goodIn_of _ (by decide +kernel)) ggX5_countUnlike_X5_find
set_option maxRecDepth 20000 in
theorem ggX5_countUnlike_X3_fill : GoodIn wsX5_countUnlike wsX3_fill := goodIn_r _ [20, 21, 132] (by decide +kernel) (by decide +kernel)
set_option maxRecDepth 20000 in
theorem gX5_countUnlike_X3_fill : GoodIn wsX5_countUnlike (wsV RX5 66 RX3 yX3_fill wsX3_fill) := goodIn_app (goodIn_of _ (by decide +kernel)) ggX5_countUnlike_X3_fill
set_option maxRecDepth 20000 in
theorem ggX5_countUnlike_X3_at : GoodIn wsX5_countUnlike wsX3_at := goodIn_r _ [58, 21, 132] (by decide +kernel) (by decide +kernel)
set_option maxRecDepth 20000 in
theorem gX5_countUnlike_X3_at : GoodIn wsX5_countUnlike (wsV RX5 63 RX3 yX3_at wsX3_at) := goodIn_app (goodIn_of _ (by decide +kernel)) ggX5_countUnlike_X3_at
set_option maxRecDepth 20000 in
theorem ggX5_countUnlike_X5_firstAlike : GoodIn wsX5_countUnlike wsX5_firstAlike := goodIn_r _ [110, 111, 112, 113, 7, 114, 9, 68, 69, 70, 25, 71, 27, 28, 115, 91, 92, 32, 93, 94, 95, 96, 97, 98, 76, 99, 40, 41, 42, 43, 100, 56, 57, 19, 58, 21, 116, 117, 118, 119, 120, 121, 36, 37, 38, 39, 44, 45, 46, 47, 48, 126, 127, 128, 129, 130, 131, 133, 134, 135, 136, 137, 138, 139, 140, 141, 142, 132] (by decide +kernel) (by decide +kernel)
set_option maxRecDepth 20000 in
theorem gX5_countUnlike_X5_firstAlike : GoodIn wsX5_countUnlike (wsV RX5 123 RX5 yX5_firstAlike wsX5_firstAlike) := goodIn_app (goodIn_of _ (by decide +kernel)) ggX5_countUnlike_X5_firstAlike
set_option maxRecDepth 20000 in
theorem ggX5_countUnlike_X5_markNew : GoodIn wsX5_countUnlike wsX5_markNew := goodIn_r _ [125, 1, 106, 56, 57, 19, 58, 21, 64, 65, 66, 67, 126, 127, 128, 129, 130, 131, 132] (by decide +kernel) (by decide +kernel)
set_option maxRecDepth 20000 in
theorem gX5_countUnlike_X5_markNew : GoodIn wsX5_countUnlike (wsV RX5 120 RX5 yX5_markNew wsX5_markNew) := goodIn_app (goodIn_of _ (by decide +kernel)) ggX5_countUnlike_X5_markNew
theorem dX5_countUnlike_0 : decode cX5_countUnlike 0 = .ok (.aload_n 0, 1) := by decide +kernel
theorem dX5_countUnlike_1 : decode cX5_countUnlike 1 = .ok (.iconst (-1), 1) := by decide +kernel
theorem dX5_countUnlike_2 : decode cX5_countUnlike 2 = .ok (.invokevirtual 109, 3) := by decide +kernel
theorem dX5_countUnlike_5 : decode cX5_countUnlike 5 = .ok (.pop, 1) := by decide +kernel
theorem dX5_countUnlike_6 : decode cX5_countUnlike 6 = .ok (.aload_n 0, 1) := by decide +kernel
theorem dX5_countUnlike_7 : decode cX5_countUnlike 7 = .ok (.getfield 20, 3) := by decide +kernel
theorem dX5_countUnlike_10 : decode cX5_countUnlike 10 = .ok (.iconst 0, 1) := by decide +kernel
theorem dX5_countUnlike_11 : decode cX5_countUnlike 11 = .ok (.invokevirtual 66, 3) := by decide +kernel
theorem dX5_countUnlike_14 : decode cX5_countUnlike 14 = .ok (.iconst 0, 1) := by decide +kernel
theorem dX5_countUnlike_15 : decode cX5_countUnlike 15 = .ok (.istore_n 1, 1) := by decide +kernel
theorem dX5_countUnlike_16 : decode cX5_countUnlike 16 = .ok (.iconst 0, 1) := by decide +kernel
theorem dX5_countUnlike_17 : decode cX5_countUnlike 17 = .ok (.istore_n 2, 1) := by decide +kernel
theorem dX5_countUnlike_18 : decode cX5_countUnlike 18 = .ok (.iload_n 2, 1) := by decide +kernel
theorem dX5_countUnlike_19 : decode cX5_countUnlike 19 = .ok (.aload_n 0, 1) := by decide +kernel
theorem dX5_countUnlike_20 : decode cX5_countUnlike 20 = .ok (.getfield 26, 3) := by decide +kernel
theorem dX5_countUnlike_23 : decode cX5_countUnlike 23 = .ok (.if_icmp .ge 55, 3) := by decide +kernel
theorem dX5_countUnlike_26 : decode cX5_countUnlike 26 = .ok (.aload_n 0, 1) := by decide +kernel
theorem dX5_countUnlike_27 : decode cX5_countUnlike 27 = .ok (.getfield 14, 3) := by decide +kernel
theorem dX5_countUnlike_30 : decode cX5_countUnlike 30 = .ok (.iload_n 2, 1) := by decide +kernel
theorem dX5_countUnlike_31 : decode cX5_countUnlike 31 = .ok (.invokevirtual 63, 3) := by decide +kernel
theorem dX5_countUnlike_34 : decode cX5_countUnlike 34 = .ok (.istore_n 3, 1) := by decide +kernel
theorem dX5_countUnlike_35 : decode cX5_countUnlike 35 = .ok (.aload_n 0, 1) := by decide +kernel
theorem dX5_countUnlike_36 : decode cX5_countUnlike 36 = .ok (.iconst 0, 1) := by decide +kernel
theorem dX5_countUnlike_37 : decode cX5_countUnlike 37 = .ok (.iload_n 3, 1) := by decide +kernel
theorem dX5_countUnlike_38 : decode cX5_countUnlike 38 = .ok (.bipush 12, 2) := by decide +kernel
theorem dX5_countUnlike_40 : decode cX5_countUnlike 40 = .ok (.idiv, 1) := by decide +kernel
theorem dX5_countUnlike_41 : decode cX5_countUnlike 41 = .ok (.invokevirtual 123, 3) := by decide +kernel
theorem dX5_countUnlike_44 : decode cX5_countUnlike 44 = .ok (.istore 4, 2) := by decide +kernel
theorem dX5_countUnlike_46 : decode cX5_countUnlike 46 = .ok (.aload_n 0, 1) := by decide +kernel
theorem dX5_countUnlike_47 : decode cX5_countUnlike 47 = .ok (.iconst 1, 1) := by decide +kernel
theorem dX5_countUnlike_48 : decode cX5_countUnlike 48 = .ok (.iload_n 3, 1) := by decide +kernel
theorem dX5_countUnlike_49 : decode cX5_countUnlike 49 = .ok (.bipush 12, 2) := by decide +kernel
theorem dX5_countUnlike_51 : decode cX5_countUnlike 51 = .ok (.irem, 1) := by decide +kernel
theorem dX5_countUnlike_52 : decode cX5_countUnlike 52 = .ok (.invokevirtual 123, 3) := by decide +kernel
theorem dX5_countUnlike_55 : decode cX5_countUnlike 55 = .ok (.istore 5, 2) := by decide +kernel
theorem dX5_countUnlike_57 : decode cX5_countUnlike 57 = .ok (.iload_n 1, 1) := by decide +kernel
theorem dX5_countUnlike_58 : decode cX5_countUnlike 58 = .ok (.aload_n 0, 1) := by decide +kernel
theorem dX5_countUnlike_59 : decode cX5_countUnlike 59 = .ok (.iload 4, 2) := by decide +kernel
theorem dX5_countUnlike_61 : decode cX5_countUnlike 61 = .ok (.bipush 12, 2) := by decide +kernel
theorem dX5_countUnlike_63 : decode cX5_countUnlike 63 = .ok (.imul, 1) := by decide +kernel
theorem dX5_countUnlike_64 : decode cX5_countUnlike 64 = .ok (.iload 5, 2) := by decide +kernel
theorem dX5_countUnlike_66 : decode cX5_countUnlike 66 = .ok (.iadd, 1) := by decide +kernel
theorem dX5_countUnlike_67 : decode cX5_countUnlike 67 = .ok (.invokevirtual 120, 3) := by decide +kernel
theorem dX5_countUnlike_70 : decode cX5_countUnlike 70 = .ok (.iadd, 1) := by decide +kernel
theorem dX5_countUnlike_71 : decode cX5_countUnlike 71 = .ok (.istore_n 1, 1) := by decide +kernel
theorem dX5_countUnlike_72 : decode cX5_countUnlike 72 = .ok (.iinc 2 1, 3) := by decide +kernel
theorem dX5_countUnlike_75 : decode cX5_countUnlike 75 = .ok (.goto (-57), 3) := by decide +kernel
theorem dX5_countUnlike_78 : decode cX5_countUnlike 78 = .ok (.iload_n 1, 1) := by decide +kernel
theorem dX5_countUnlike_79 : decode cX5_countUnlike 79 = .ok (.ireturn, 1) := by decide +kernel
set_option maxRecDepth 20000 in
theorem ggX5_firstAlike_X5_isAlike : GoodIn wsX5_firstAlike wsX5_isAlike := goodIn_r _ [5, 6, 7, 8, 9, 10, 11, 12, 13, 14, 15, 16, 17, 18, 19, 20, 21, 22, 23, 24, 25, 26, 27, 28, 29, 30, 31, 32, 33, 34, 35, 36, 37, 38, 39, 40, 41, 42, 43, 44, 45, 46, 47, 48, 49, 50, 51, 52, 53, 54, 55, 56, 57, 58, 59, 60, 61, 62, 63, 64, 65, 66, 67] (by decide +kernel) (by decide +kernel)
set_option maxRecDepth 20000 in
theorem gX5_firstAlike_X5_isAlike : GoodIn wsX5_firstAlike (wsV RX5 126 RX5 yX5_isAlike wsX5_isAlike) := goodIn_app (goodIn_of _ (by decide +kernel)) ggX5_firstAlike_X5_isAlike
theorem dX5_firstAlike_0 : decode cX5_firstAlike 0 = .ok (.iconst 0, 1) := by decide +kernel
theorem dX5_firstAlike_1 : decode cX5_firstAlike 1 = .ok (.istore_n 3, 1) := by decide +kernel
theorem dX5_firstAlike_2 : decode cX5_firstAlike 2 = .ok (.iload_n 3, 1) := by decide +kernel
theorem dX5_firstAlike_3 : decode cX5_firstAlike 3 = .ok (.iload_n 2, 1) := by decide +kernel
theorem dX5_firstAlike_4 : decode cX5_firstAlike 4 = .ok (.if_icmp .ge 21, 3) := by decide +kernel
theorem dX5_firstAlike_7 : decode cX5_firstAlike 7 = .ok (.aload_n 0, 1) := by decide +kernel
theorem dX5_firstAlike_8 : decode cX5_firstAlike 8 = .ok (.iload_n 1, 1) := by decide +kernel
theorem dX5_firstAlike_9 : decode cX5_firstAlike 9 = .ok (.iload_n 3, 1) := by decide +kernel
theorem dX5_firstAlike_10 : decode cX5_firstAlike 10 = .ok (.iload_n 2, 1) := by decide +kernel
theorem dX5_firstAlike_11 : decode cX5_firstAlike 11 = .ok (.invokevirtual 126, 3) := by decide +kernel
theorem dX5_firstAlike_14 : decode cX5_firstAlike 14 = .ok (.ifCond .eq 5, 3) := by decide +kernel
theorem dX5_firstAlike_17 : decode cX5_firstAlike 17 = .ok (.iload_n 3, 1) := by decide +kernel
theorem dX5_firstAlike_18 : decode cX5_firstAlike 18 = .ok (.ireturn, 1) := by decide +kernel
theorem dX5_firstAlike_19 : decode cX5_firstAlike 19 = .ok (.iinc 3 1, 3) := by decide +kernel
theorem dX5_firstAlike_22 : decode cX5_firstAlike 22 = .ok (.goto (-20), 3) := by decide +kernel
theorem dX5_firstAlike_25 : decode cX5_firstAlike 25 = .ok (.iload_n 2, 1) := by decide +kernel
theorem dX5_firstAlike_26 : decode cX5_firstAlike 26 = .ok (.ireturn, 1) := by decide +kernel
set_option maxRecDepth 20000 in
theorem ggX5_isAlike_X6_drawer : GoodIn wsX5_isAlike wsX6_drawer := goodIn_r _ [6, 7, 8, 52, 53, 54, 55, 56, 57] (by decide +kernel) (by decide +kernel)
set_option maxRecDepth 20000 in
theorem gX5_isAlike_X6_drawer : GoodIn wsX5_isAlike (wsV RX5 41 RX6 yX6_drawer wsX6_drawer) := goodIn_app (goodIn_of _ (by decide +kernel)) ggX5_isAlike_X6_drawer
set_option maxRecDepth 20000 in
theorem ggX5_isAlike_X0_entry : GoodIn wsX5_isAlike wsX0_entry := goodIn_r _ [13, 14, 15, 16, 17, 12, 18, 19, 20, 21, 22, 23, 24, 25, 26, 27, 28, 29, 30, 58, 59, 60, 61, 62] (by decide +kernel) (by decide +kernel)
set_option maxRecDepth 20000 in
theorem gX5_isAlike_X0_entry : GoodIn wsX5_isAlike (wsV RX5 130 RX0 yX0_entry wsX0_entry) := goodIn_app (goodIn_of _ (by decide +kernel)) ggX5_isAlike_X0_entry
set_option maxRecDepth 20000 in
theorem ggX5_isAlike_X6_isShown : GoodIn wsX5_isAlike wsX6_isShown := goodIn_r _ [34, 35, 36, 37, 38, 5, 39, 7, 8, 40, 21, 22, 12, 23, 24, 41, 42, 43, 44, 45, 52, 53, 54, 55, 56, 57, 58, 59, 60, 61] (by decide +kernel) (by decide +kernel)
set_option maxRecDepth 20000 in
theorem gX5_isAlike_X6_isShown : GoodIn wsX5_isAlike (wsV RX5 131 RX6 yX6_isShown wsX6_isShown) := goodIn_app (goodIn_of _ (by decide +kernel)) ggX5_isAlike_X6_isShown
theorem dX5_isAlike_0 : decode cX5_isAlike 0 = .ok (.aload_n 0, 1) := by decide +kernel
theorem dX5_isAlike_1 : decode cX5_isAlike 1 = .ok (.getfield 33, 3) := by decide +kernel
theorem dX5_isAlike_4 : decode cX5_isAlike 4 = .ok (.iload_n 1, 1) := by decide +kernel
theorem dX5_isAlike_5 : decode cX5_isAlike 5 = .ok (.invokevirtual 41, 3) := by decide +kernel
theorem dX5_isAlike_8 : decode cX5_isAlike 8 = .ok (.astore 4, 2) := by decide +kernel
theorem dX5_isAlike_10 : decode cX5_isAlike 10 = .ok (.iconst 0, 1) := by decide +kernel
theorem dX5_isAlike_11 : decode cX5_isAlike 11 = .ok (.istore 5, 2) := by decide +kernel
theorem dX5_isAlike_13 : decode cX5_isAlike 13 = .ok (.iload 5, 2) := by decide +kernel
theorem dX5_isAlike_15 : decode cX5_isAlike 15 = .ok (.iconst 4, 1) := by decide +kernel
theorem dX5_isAlike_16 : decode cX5_isAlike 16 = .ok (.if_icmp .ge 58, 3) := by decide +kernel
theorem dX5_isAlike_19 : decode cX5_isAlike 19 = .ok (.aload 4, 2) := by decide +kernel
theorem dX5_isAlike_21 : decode cX5_isAlike 21 = .ok (.iload_n 2, 1) := by decide +kernel
theorem dX5_isAlike_22 : decode cX5_isAlike 22 = .ok (.iload 5, 2) := by decide +kernel
theorem dX5_isAlike_24 : decode cX5_isAlike 24 = .ok (.invokevirtual 130, 3) := by decide +kernel
theorem dX5_isAlike_27 : decode cX5_isAlike 27 = .ok (.aload 4, 2) := by decide +kernel
theorem dX5_isAlike_29 : decode cX5_isAlike 29 = .ok (.iload_n 3, 1) := by decide +kernel
theorem dX5_isAlike_30 : decode cX5_isAlike 30 = .ok (.iload 5, 2) := by decide +kernel
theorem dX5_isAlike_32 : decode cX5_isAlike 32 = .ok (.invokevirtual 130, 3) := by decide +kernel
theorem dX5_isAlike_35 : decode cX5_isAlike 35 = .ok (.if_icmp .ne 7, 3) := by decide +kernel
theorem dX5_isAlike_38 : decode cX5_isAlike 38 = .ok (.iconst 1, 1) := by decide +kernel
theorem dX5_isAlike_39 : decode cX5_isAlike 39 = .ok (.goto 4, 3) := by decide +kernel
theorem dX5_isAlike_42 : decode cX5_isAlike 42 = .ok (.iconst 0, 1) := by decide +kernel
theorem dX5_isAlike_43 : decode cX5_isAlike 43 = .ok (.istore 6, 2) := by decide +kernel
theorem dX5_isAlike_45 : decode cX5_isAlike 45 = .ok (.iload 6, 2) := by decide +kernel
theorem dX5_isAlike_47 : decode cX5_isAlike 47 = .ok (.ifCond .ne 21, 3) := by decide +kernel
theorem dX5_isAlike_50 : decode cX5_isAlike 50 = .ok (.aload_n 0, 1) := by decide +kernel
theorem dX5_isAlike_51 : decode cX5_isAlike 51 = .ok (.getfield 33, 3) := by decide +kernel
theorem dX5_isAlike_54 : decode cX5_isAlike 54 = .ok (.iload_n 1, 1) := by decide +kernel
theorem dX5_isAlike_55 : decode cX5_isAlike 55 = .ok (.iconst 4, 1) := by decide +kernel
theorem dX5_isAlike_56 : decode cX5_isAlike 56 = .ok (.imul, 1) := by decide +kernel
theorem dX5_isAlike_57 : decode cX5_isAlike 57 = .ok (.iload 5, 2) := by decide +kernel
theorem dX5_isAlike_59 : decode cX5_isAlike 59 = .ok (.iadd, 1) := by decide +kernel
theorem dX5_isAlike_60 : decode cX5_isAlike 60 = .ok (.invokevirtual 131, 3) := by decide +kernel
theorem dX5_isAlike_63 : decode cX5_isAlike 63 = .ok (.ifCond .eq 5, 3) := by decide +kernel
theorem dX5_isAlike_66 : decode cX5_isAlike 66 = .ok (.iconst 0, 1) := by decide +kernel
theorem dX5_isAlike_67 : decode cX5_isAlike 67 = .ok (.ireturn, 1) := by decide +kernel
theorem dX5_isAlike_68 : decode cX5_isAlike 68 = .ok (.iinc 5 1, 3) := by decide +kernel
theorem dX5_isAlike_71 : decode cX5_isAlike 71 = .ok (.goto (-58), 3) := by decide +kernel
theorem dX5_isAlike_74 : decode cX5_isAlike 74 = .ok (.iconst 1, 1) := by decide +kernel
theorem dX5_isAlike_75 : decode cX5_isAlike 75 = .ok (.ireturn, 1) := by decide +kernel
set_option maxRecDepth 20000 in
theorem ggX5_cardSet_X5_find : GoodIn wsX5_cardSet wsX5_find := goodIn_r _ [7, 1, 8, 2, 9, 10, 11, 6, 12, 13, 14, 15, 16, 17, 18, 19, 20, 21, 22, 23, 24, 25, 26, 27, 28, 29, 30, 31, 32, 33, 34, 35, 36, 37, 38, 39, 40, 41, 42, 43, 44, 45, 46, 47, 48, 49, 50, 51, 52, 53, 54, 55, 56, 57, 58, 59, 60, 61, 62, 63, 64, 65, 66, 67, 68, 69, 70, 71, 72, 73, 74, 75, 76, 77, 78, 79, 80, 81, 82, 83, 84, 85, 86, 87, 88, 89, 90, 91, 92, 93, 94, 95, 96, 97, 98, 99, 100, 101, 102, 103, 104, 105, 106, 107, 108, 109, 110, 111, 112, 113, 114, 115, 116, 117, 118, 119, 120, 121, 122, 123, 124, 125] (by decide +kernel) (by decide +kernel)
set_option maxRecDepth 20000 in
theorem gX5_cardSet_X5_find : GoodIn wsX5_cardSet (wsV RX5 109 RX5 yX5_find wsX5_find) := goodIn_app (goodIn_of _ (by decide +kernel)) ggX5_cardSet_X5_find
set_option maxRecDepth 20000 in
theorem ggX5_cardSet_X3_at : GoodIn wsX5_cardSet wsX3_at := goodIn_r _ [57, 20, 112] (by decide +kernel) (by decide +kernel)
set_option maxRecDepth 20000 in
theorem gX5_cardSet_X3_at : GoodIn wsX5_cardSet (wsV RX5 63 RX3 yX3_at wsX3_at) := goodIn_app (goodIn_of _ (by decide +kernel)) ggX5_cardSet_X3_at
theorem dX5_cardSet_0 : decode cX5_cardSet 0 = .ok (.aload_n 0, 1) := by decide +kernel
theorem dX5_cardSet_1 : decode cX5_cardSet 1 = .ok (.iconst (-1), 1) := by decide +kernel
theorem dX5_cardSet_2 : decode cX5_cardSet 2 = .ok (.invokevirtual 109, 3) := by decide +kernel
theorem dX5_cardSet_5 : decode cX5_cardSet 5 = .ok (.pop, 1) := by decide +kernel
theorem dX5_cardSet_6 : decode cX5_cardSet 6 = .ok (.iconst 0, 1) := by decide +kernel
theorem dX5_cardSet_7 : decode cX5_cardSet 7 = .ok (.istore_n 2, 1) := by decide +kernel
theorem dX5_cardSet_8 : decode cX5_cardSet 8 = .ok (.iconst 0, 1) := by decide +kernel
theorem dX5_cardSet_9 : decode cX5_cardSet 9 = .ok (.istore_n 3, 1) := by decide +kernel
theorem dX5_cardSet_10 : decode cX5_cardSet 10 = .ok (.iload_n 3, 1) := by decide +kernel
theorem dX5_cardSet_11 : decode cX5_cardSet 11 = .ok (.aload_n 0, 1) := by decide +kernel
theorem dX5_cardSet_12 : decode cX5_cardSet 12 = .ok (.getfield 26, 3) := by decide +kernel
theorem dX5_cardSet_15 : decode cX5_cardSet 15 = .ok (.if_icmp .ge 41, 3) := by decide +kernel
theorem dX5_cardSet_18 : decode cX5_cardSet 18 = .ok (.aload_n 0, 1) := by decide +kernel
theorem dX5_cardSet_19 : decode cX5_cardSet 19 = .ok (.getfield 14, 3) := by decide +kernel
theorem dX5_cardSet_22 : decode cX5_cardSet 22 = .ok (.iload_n 3, 1) := by decide +kernel
theorem dX5_cardSet_23 : decode cX5_cardSet 23 = .ok (.invokevirtual 63, 3) := by decide +kernel
theorem dX5_cardSet_26 : decode cX5_cardSet 26 = .ok (.istore 4, 2) := by decide +kernel
theorem dX5_cardSet_28 : decode cX5_cardSet 28 = .ok (.iload_n 2, 1) := by decide +kernel
theorem dX5_cardSet_29 : decode cX5_cardSet 29 = .ok (.iconst 1, 1) := by decide +kernel
theorem dX5_cardSet_30 : decode cX5_cardSet 30 = .ok (.iload_n 1, 1) := by decide +kernel
theorem dX5_cardSet_31 : decode cX5_cardSet 31 = .ok (.ifCond .ne 11, 3) := by decide +kernel
theorem dX5_cardSet_34 : decode cX5_cardSet 34 = .ok (.iload 4, 2) := by decide +kernel
theorem dX5_cardSet_36 : decode cX5_cardSet 36 = .ok (.bipush 12, 2) := by decide +kernel
theorem dX5_cardSet_38 : decode cX5_cardSet 38 = .ok (.idiv, 1) := by decide +kernel
theorem dX5_cardSet_39 : decode cX5_cardSet 39 = .ok (.goto 8, 3) := by decide +kernel
theorem dX5_cardSet_42 : decode cX5_cardSet 42 = .ok (.iload 4, 2) := by decide +kernel
theorem dX5_cardSet_44 : decode cX5_cardSet 44 = .ok (.bipush 12, 2) := by decide +kernel
theorem dX5_cardSet_46 : decode cX5_cardSet 46 = .ok (.irem, 1) := by decide +kernel
theorem dX5_cardSet_47 : decode cX5_cardSet 47 = .ok (.ishl, 1) := by decide +kernel
theorem dX5_cardSet_48 : decode cX5_cardSet 48 = .ok (.ior, 1) := by decide +kernel
theorem dX5_cardSet_49 : decode cX5_cardSet 49 = .ok (.istore_n 2, 1) := by decide +kernel
theorem dX5_cardSet_50 : decode cX5_cardSet 50 = .ok (.iinc 3 1, 3) := by decide +kernel
theorem dX5_cardSet_53 : decode cX5_cardSet 53 = .ok (.goto (-43), 3) := by decide +kernel
theorem dX5_cardSet_56 : decode cX5_cardSet 56 = .ok (.iload_n 2, 1) := by decide +kernel
theorem dX5_cardSet_57 : decode cX5_cardSet 57 = .ok (.ireturn, 1) := by decide +kernel
set_option maxRecDepth 20000 in
theorem ggX6_init_X0_init : GoodIn wsX6_init wsX0_init := goodIn_r _ [17, 18, 2, 3, 19, 10, 11, 20, 21, 22, 23, 24, 25, 26, 27, 28, 29, 30, 31, 32, 33, 34, 35, 36, 37, 38, 39, 40, 41, 42, 43, 44, 45, 46, 47, 48, 60, 50, 51, 52, 53, 61, 62, 63] (by decide +kernel) (by decide +kernel)
set_option maxRecDepth 20000 in
theorem gX6_init_X0_init_n11 : GoodIn wsX6_init (wsX0_init) := ggX6_init_X0_init
set_option maxRecDepth 20000 in
theorem ggX6_init_X3_init : GoodIn wsX6_init wsX3_init := goodIn_r _ [29, 30, 2, 3, 31, 32, 33, 34, 35, 36, 37, 38, 39, 11, 40, 60] (by decide +kernel) (by decide +kernel)
set_option maxRecDepth 20000 in
theorem gX6_init_X3_init : GoodIn wsX6_init (wsX3_init) := ggX6_init_X3_init
theorem dX6_init_0 : decode cX6_init 0 = .ok (.aload_n 0, 1) := by decide +kernel
theorem dX6_init_1 : decode cX6_init 1 = .ok (.invokespecial 3, 3) := by decide +kernel
theorem dX6_init_4 : decode cX6_init 4 = .ok (.aload_n 0, 1) := by decide +kernel
theorem dX6_init_5 : decode cX6_init 5 = .ok (.new 9, 3) := by decide +kernel
theorem dX6_init_8 : decode cX6_init 8 = .ok (.dup, 1) := by decide +kernel
theorem dX6_init_9 : decode cX6_init 9 = .ok (.invokespecial 11, 3) := by decide +kernel
theorem dX6_init_12 : decode cX6_init 12 = .ok (.putfield 12, 3) := by decide +kernel
theorem dX6_init_15 : decode cX6_init 15 = .ok (.aload_n 0, 1) := by decide +kernel
theorem dX6_init_16 : decode cX6_init 16 = .ok (.new 9, 3) := by decide +kernel
theorem dX6_init_19 : decode cX6_init 19 = .ok (.dup, 1) := by decide +kernel
theorem dX6_init_20 : decode cX6_init 20 = .ok (.invokespecial 11, 3) := by decide +kernel
theorem dX6_init_23 : decode cX6_init 23 = .ok (.putfield 18, 3) := by decide +kernel
theorem dX6_init_26 : decode cX6_init 26 = .ok (.aload_n 0, 1) := by decide +kernel
theorem dX6_init_27 : decode cX6_init 27 = .ok (.new 21, 3) := by decide +kernel
theorem dX6_init_30 : decode cX6_init 30 = .ok (.dup, 1) := by decide +kernel
theorem dX6_init_31 : decode cX6_init 31 = .ok (.iconst 2, 1) := by decide +kernel
theorem dX6_init_32 : decode cX6_init 32 = .ok (.iconst (-1), 1) := by decide +kernel
theorem dX6_init_33 : decode cX6_init 33 = .ok (.invokespecial 23, 3) := by decide +kernel
theorem dX6_init_36 : decode cX6_init 36 = .ok (.putfield 26, 3) := by decide +kernel
theorem dX6_init_39 : decode cX6_init 39 = .ok (.aload_n 0, 1) := by decide +kernel
theorem dX6_init_40 : decode cX6_init 40 = .ok (.new 21, 3) := by decide +kernel
theorem dX6_init_43 : decode cX6_init 43 = .ok (.dup, 1) := by decide +kernel
theorem dX6_init_44 : decode cX6_init 44 = .ok (.iconst 2, 1) := by decide +kernel
theorem dX6_init_45 : decode cX6_init 45 = .ok (.iconst 0, 1) := by decide +kernel
theorem dX6_init_46 : decode cX6_init 46 = .ok (.invokespecial 23, 3) := by decide +kernel
theorem dX6_init_49 : decode cX6_init 49 = .ok (.putfield 30, 3) := by decide +kernel
theorem dX6_init_52 : decode cX6_init 52 = .ok (.aload_n 0, 1) := by decide +kernel
end
section
theorem dX6_init_53 : decode cX6_init 53 = .ok (.iconst 0, 1) := by decide +kernel
theorem dX6_init_54 : decode cX6_init 54 = .ok (.putfield 33, 3) := by decide +kernel
theorem dX6_init_57 : decode cX6_init 57 = .ok (.aload_n 0, 1) := by decide +kernel
theorem dX6_init_58 : decode cX6_init 58 = .ok (.sipush 255, 3) := by decide +kernel
theorem dX6_init_61 : decode cX6_init 61 = .ok (.putfield 37, 3) := by decide +kernel
theorem dX6_init_64 : decode cX6_init 64 = .ok (.return_, 1) := by decide +kernel
theorem dX6_drawer_0 : decode cX6_drawer 0 = .ok (.iload_n 1, 1) := by decide +kernel
theorem dX6_drawer_1 : decode cX6_drawer 1 = .ok (.ifCond .ne 10, 3) := by decide +kernel
theorem dX6_drawer_4 : decode cX6_drawer 4 = .ok (.aload_n 0, 1) := by decide +kernel
theorem dX6_drawer_5 : decode cX6_drawer 5 = .ok (.getfield 12, 3) := by decide +kernel
theorem dX6_drawer_8 : decode cX6_drawer 8 = .ok (.goto 7, 3) := by decide +kernel
theorem dX6_drawer_11 : decode cX6_drawer 11 = .ok (.aload_n 0, 1) := by decide +kernel
theorem dX6_drawer_12 : decode cX6_drawer 12 = .ok (.getfield 18, 3) := by decide +kernel
theorem dX6_drawer_15 : decode cX6_drawer 15 = .ok (.areturn, 1) := by decide +kernel
theorem dX6_isOfBoth_0 : decode cX6_isOfBoth 0 = .ok (.aload_n 0, 1) := by decide +kernel
theorem dX6_isOfBoth_1 : decode cX6_isOfBoth 1 = .ok (.getfield 33, 3) := by decide +kernel
theorem dX6_isOfBoth_4 : decode cX6_isOfBoth 4 = .ok (.iconst 1, 1) := by decide +kernel
theorem dX6_isOfBoth_5 : decode cX6_isOfBoth 5 = .ok (.if_icmp .ne 7, 3) := by decide +kernel
theorem dX6_isOfBoth_8 : decode cX6_isOfBoth 8 = .ok (.iconst 1, 1) := by decide +kernel
theorem dX6_isOfBoth_9 : decode cX6_isOfBoth 9 = .ok (.goto 4, 3) := by decide +kernel
theorem dX6_isOfBoth_12 : decode cX6_isOfBoth 12 = .ok (.iconst 0, 1) := by decide +kernel
theorem dX6_isOfBoth_13 : decode cX6_isOfBoth 13 = .ok (.ireturn, 1) := by decide +kernel
theorem dX6_askBoth_0 : decode cX6_askBoth 0 = .ok (.aload_n 0, 1) := by decide +kernel
theorem dX6_askBoth_1 : decode cX6_askBoth 1 = .ok (.getfield 33, 3) := by decide +kernel
theorem dX6_askBoth_4 : decode cX6_askBoth 4 = .ok (.istore_n 2, 1) := by decide +kernel
theorem dX6_askBoth_5 : decode cX6_askBoth 5 = .ok (.aload_n 0, 1) := by decide +kernel
theorem dX6_askBoth_6 : decode cX6_askBoth 6 = .ok (.iload_n 1, 1) := by decide +kernel
theorem dX6_askBoth_7 : decode cX6_askBoth 7 = .ok (.putfield 33, 3) := by decide +kernel
theorem dX6_askBoth_10 : decode cX6_askBoth 10 = .ok (.iload_n 2, 1) := by decide +kernel
theorem dX6_askBoth_11 : decode cX6_askBoth 11 = .ok (.ireturn, 1) := by decide +kernel
set_option maxRecDepth 20000 in
theorem ggX6_orderColumn_X3_at : GoodIn wsX6_orderColumn wsX3_at := goodIn_r _ [6, 7, 14] (by decide +kernel) (by decide +kernel)
set_option maxRecDepth 20000 in
theorem gX6_orderColumn_X3_at : GoodIn wsX6_orderColumn (wsV RX6 40 RX3 yX3_at wsX3_at) := goodIn_app (goodIn_of _ (by decide +kernel)) ggX6_orderColumn_X3_at
theorem dX6_orderColumn_0 : decode cX6_orderColumn 0 = .ok (.aload_n 0, 1) := by decide +kernel
theorem dX6_orderColumn_1 : decode cX6_orderColumn 1 = .ok (.getfield 26, 3) := by decide +kernel
theorem dX6_orderColumn_4 : decode cX6_orderColumn 4 = .ok (.iload_n 1, 1) := by decide +kernel
theorem dX6_orderColumn_5 : decode cX6_orderColumn 5 = .ok (.invokevirtual 40, 3) := by decide +kernel
theorem dX6_orderColumn_8 : decode cX6_orderColumn 8 = .ok (.ireturn, 1) := by decide +kernel
set_option maxRecDepth 20000 in
theorem ggX6_isDownwards_X3_at : GoodIn wsX6_isDownwards wsX3_at := goodIn_r _ [6, 7, 14] (by decide +kernel) (by decide +kernel)
set_option maxRecDepth 20000 in
theorem gX6_isDownwards_X3_at : GoodIn wsX6_isDownwards (wsV RX6 40 RX3 yX3_at wsX3_at) := goodIn_app (goodIn_of _ (by decide +kernel)) ggX6_isDownwards_X3_at
theorem dX6_isDownwards_0 : decode cX6_isDownwards 0 = .ok (.aload_n 0, 1) := by decide +kernel
theorem dX6_isDownwards_1 : decode cX6_isDownwards 1 = .ok (.getfield 30, 3) := by decide +kernel
theorem dX6_isDownwards_4 : decode cX6_isDownwards 4 = .ok (.iload_n 1, 1) := by decide +kernel
theorem dX6_isDownwards_5 : decode cX6_isDownwards 5 = .ok (.invokevirtual 40, 3) := by decide +kernel
theorem dX6_isDownwards_8 : decode cX6_isDownwards 8 = .ok (.iconst 1, 1) := by decide +kernel
theorem dX6_isDownwards_9 : decode cX6_isDownwards 9 = .ok (.if_icmp .ne 7, 3) := by decide +kernel
theorem dX6_isDownwards_12 : decode cX6_isDownwards 12 = .ok (.iconst 1, 1) := by decide +kernel
theorem dX6_isDownwards_13 : decode cX6_isDownwards 13 = .ok (.goto 4, 3) := by decide +kernel
theorem dX6_isDownwards_16 : decode cX6_isDownwards 16 = .ok (.iconst 0, 1) := by decide +kernel
theorem dX6_isDownwards_17 : decode cX6_isDownwards 17 = .ok (.ireturn, 1) := by decide +kernel
set_option maxRecDepth 20000 in
theorem ggX6_setOrder_X3_set : GoodIn wsX6_setOrder wsX3_set := goodIn_r _ [7, 8, 15] (by decide +kernel) (by decide +kernel)
set_option maxRecDepth 20000 in
theorem gX6_setOrder_X3_set : GoodIn wsX6_setOrder (wsV RX6 44 RX3 yX3_set wsX3_set) := goodIn_app (goodIn_of _ (by decide +kernel)) ggX6_setOrder_X3_set
theorem dX6_setOrder_0 : decode cX6_setOrder 0 = .ok (.aload_n 0, 1) := by decide +kernel
theorem dX6_setOrder_1 : decode cX6_setOrder 1 = .ok (.getfield 26, 3) := by decide +kernel
theorem dX6_setOrder_4 : decode cX6_setOrder 4 = .ok (.iload_n 1, 1) := by decide +kernel
theorem dX6_setOrder_5 : decode cX6_setOrder 5 = .ok (.iload_n 2, 1) := by decide +kernel
theorem dX6_setOrder_6 : decode cX6_setOrder 6 = .ok (.invokevirtual 44, 3) := by decide +kernel
theorem dX6_setOrder_9 : decode cX6_setOrder 9 = .ok (.aload_n 0, 1) := by decide +kernel
theorem dX6_setOrder_10 : decode cX6_setOrder 10 = .ok (.getfield 30, 3) := by decide +kernel
theorem dX6_setOrder_13 : decode cX6_setOrder 13 = .ok (.iload_n 1, 1) := by decide +kernel
theorem dX6_setOrder_14 : decode cX6_setOrder 14 = .ok (.iload_n 3, 1) := by decide +kernel
theorem dX6_setOrder_15 : decode cX6_setOrder 15 = .ok (.invokevirtual 44, 3) := by decide +kernel
theorem dX6_setOrder_18 : decode cX6_setOrder 18 = .ok (.return_, 1) := by decide +kernel
theorem dX6_shownSet_0 : decode cX6_shownSet 0 = .ok (.aload_n 0, 1) := by decide +kernel
theorem dX6_shownSet_1 : decode cX6_shownSet 1 = .ok (.getfield 37, 3) := by decide +kernel
theorem dX6_shownSet_4 : decode cX6_shownSet 4 = .ok (.ireturn, 1) := by decide +kernel
theorem dX6_setShown_0 : decode cX6_setShown 0 = .ok (.aload_n 0, 1) := by decide +kernel
theorem dX6_setShown_1 : decode cX6_setShown 1 = .ok (.iload_n 1, 1) := by decide +kernel
theorem dX6_setShown_2 : decode cX6_setShown 2 = .ok (.putfield 37, 3) := by decide +kernel
theorem dX6_setShown_5 : decode cX6_setShown 5 = .ok (.return_, 1) := by decide +kernel
set_option maxRecDepth 20000 in
theorem ggX6_isAsked_X0_hasColumn : GoodIn wsX6_isAsked wsX0_hasColumn := goodIn_r _ [7, 8, 21, 22, 23, 24] (by decide +kernel) (by decide +kernel)
set_option maxRecDepth 20000 in
theorem gX6_isAsked_X0_hasColumn : GoodIn wsX6_isAsked (wsV RX6 47 RX0 yX0_hasColumn wsX0_hasColumn) := goodIn_app (goodIn_of _ (by decide +kernel)) ggX6_isAsked_X0_hasColumn
set_option maxRecDepth 20000 in
theorem ggX6_isAsked_X6_isOfBoth : GoodIn wsX6_isAsked wsX6_isOfBoth := goodIn_r _ [13, 14, 15, 16, 17, 18, 19, 20] (by decide +kernel) (by decide +kernel)
set_option maxRecDepth 20000 in
theorem gX6_isAsked_X6_isOfBoth : GoodIn wsX6_isAsked (wsV RX6 51 RX6 yX6_isOfBoth wsX6_isOfBoth) := goodIn_app (goodIn_of _ (by decide +kernel)) ggX6_isAsked_X6_isOfBoth
theorem dX6_isAsked_0 : decode cX6_isAsked 0 = .ok (.iload_n 1, 1) := by decide +kernel
theorem dX6_isAsked_1 : decode cX6_isAsked 1 = .ok (.iconst 4, 1) := by decide +kernel
theorem dX6_isAsked_2 : decode cX6_isAsked 2 = .ok (.if_icmp .ge 12, 3) := by decide +kernel
theorem dX6_isAsked_5 : decode cX6_isAsked 5 = .ok (.aload_n 0, 1) := by decide +kernel
theorem dX6_isAsked_6 : decode cX6_isAsked 6 = .ok (.getfield 12, 3) := by decide +kernel
theorem dX6_isAsked_9 : decode cX6_isAsked 9 = .ok (.iload_n 1, 1) := by decide +kernel
theorem dX6_isAsked_10 : decode cX6_isAsked 10 = .ok (.invokevirtual 47, 3) := by decide +kernel
theorem dX6_isAsked_13 : decode cX6_isAsked 13 = .ok (.ireturn, 1) := by decide +kernel
theorem dX6_isAsked_14 : decode cX6_isAsked 14 = .ok (.aload_n 0, 1) := by decide +kernel
theorem dX6_isAsked_15 : decode cX6_isAsked 15 = .ok (.invokevirtual 51, 3) := by decide +kernel
theorem dX6_isAsked_18 : decode cX6_isAsked 18 = .ok (.ifCond .eq 20, 3) := by decide +kernel
theorem dX6_isAsked_21 : decode cX6_isAsked 21 = .ok (.aload_n 0, 1) := by decide +kernel
theorem dX6_isAsked_22 : decode cX6_isAsked 22 = .ok (.getfield 18, 3) := by decide +kernel
theorem dX6_isAsked_25 : decode cX6_isAsked 25 = .ok (.iload_n 1, 1) := by decide +kernel
theorem dX6_isAsked_26 : decode cX6_isAsked 26 = .ok (.iconst 4, 1) := by decide +kernel
theorem dX6_isAsked_27 : decode cX6_isAsked 27 = .ok (.isub, 1) := by decide +kernel
theorem dX6_isAsked_28 : decode cX6_isAsked 28 = .ok (.invokevirtual 47, 3) := by decide +kernel
theorem dX6_isAsked_31 : decode cX6_isAsked 31 = .ok (.ifCond .eq 7, 3) := by decide +kernel
theorem dX6_isAsked_34 : decode cX6_isAsked 34 = .ok (.iconst 1, 1) := by decide +kernel
theorem dX6_isAsked_35 : decode cX6_isAsked 35 = .ok (.goto 4, 3) := by decide +kernel
theorem dX6_isAsked_38 : decode cX6_isAsked 38 = .ok (.iconst 0, 1) := by decide +kernel
theorem dX6_isAsked_39 : decode cX6_isAsked 39 = .ok (.ireturn, 1) := by decide +kernel
set_option maxRecDepth 20000 in
theorem ggX6_isShown_X6_isAsked : GoodIn wsX6_isShown wsX6_isAsked := goodIn_r _ [6, 7, 8, 9, 10, 11, 12, 13, 14, 15, 16, 17, 5, 18, 19, 20, 21, 22, 23, 24, 25, 26, 27, 28, 29] (by decide +kernel) (by decide +kernel)
set_option maxRecDepth 20000 in
theorem gX6_isShown_X6_isAsked : GoodIn wsX6_isShown (wsV RX6 55 RX6 yX6_isAsked wsX6_isAsked) := goodIn_app (goodIn_of _ (by decide +kernel)) ggX6_isShown_X6_isAsked
theorem dX6_isShown_0 : decode cX6_isShown 0 = .ok (.aload_n 0, 1) := by decide +kernel
theorem dX6_isShown_1 : decode cX6_isShown 1 = .ok (.iload_n 1, 1) := by decide +kernel
theorem dX6_isShown_2 : decode cX6_isShown 2 = .ok (.invokevirtual 55, 3) := by decide +kernel
theorem dX6_isShown_5 : decode cX6_isShown 5 = .ok (.ifCond .eq 19, 3) := by decide +kernel
theorem dX6_isShown_8 : decode cX6_isShown 8 = .ok (.aload_n 0, 1) := by decide +kernel
theorem dX6_isShown_9 : decode cX6_isShown 9 = .ok (.getfield 37, 3) := by decide +kernel
theorem dX6_isShown_12 : decode cX6_isShown 12 = .ok (.iload_n 1, 1) := by decide +kernel
theorem dX6_isShown_13 : decode cX6_isShown 13 = .ok (.ishr, 1) := by decide +kernel
theorem dX6_isShown_14 : decode cX6_isShown 14 = .ok (.iconst 1, 1) := by decide +kernel
theorem dX6_isShown_15 : decode cX6_isShown 15 = .ok (.iand, 1) := by decide +kernel
theorem dX6_isShown_16 : decode cX6_isShown 16 = .ok (.iconst 1, 1) := by decide +kernel
theorem dX6_isShown_17 : decode cX6_isShown 17 = .ok (.if_icmp .ne 7, 3) := by decide +kernel
theorem dX6_isShown_20 : decode cX6_isShown 20 = .ok (.iconst 1, 1) := by decide +kernel
theorem dX6_isShown_21 : decode cX6_isShown 21 = .ok (.goto 4, 3) := by decide +kernel
theorem dX6_isShown_24 : decode cX6_isShown 24 = .ok (.iconst 0, 1) := by decide +kernel
theorem dX6_isShown_25 : decode cX6_isShown 25 = .ok (.ireturn, 1) := by decide +kernel
set_option maxRecDepth 20000 in
theorem ggX6_entry_X0_entry : GoodIn wsX6_entry wsX0_entry := goodIn_r _ [7, 8, 9, 10, 11, 6, 12, 13, 14, 15, 16, 17, 18, 19, 20, 21, 22, 23, 24, 31, 32, 33, 34, 35] (by decide +kernel) (by decide +kernel)
set_option maxRecDepth 20000 in
theorem gX6_entry_X0_entry : GoodIn wsX6_entry (wsV RX6 58 RX0 yX0_entry wsX0_entry) := goodIn_app (goodIn_of _ (by decide +kernel)) ggX6_entry_X0_entry
theorem dX6_entry_0 : decode cX6_entry 0 = .ok (.iload_n 1, 1) := by decide +kernel
theorem dX6_entry_1 : decode cX6_entry 1 = .ok (.iconst 4, 1) := by decide +kernel
theorem dX6_entry_2 : decode cX6_entry 2 = .ok (.if_icmp .ge 16, 3) := by decide +kernel
theorem dX6_entry_5 : decode cX6_entry 5 = .ok (.aload_n 0, 1) := by decide +kernel
theorem dX6_entry_6 : decode cX6_entry 6 = .ok (.getfield 12, 3) := by decide +kernel
theorem dX6_entry_9 : decode cX6_entry 9 = .ok (.iload_n 2, 1) := by decide +kernel
theorem dX6_entry_10 : decode cX6_entry 10 = .ok (.bipush 12, 2) := by decide +kernel
theorem dX6_entry_12 : decode cX6_entry 12 = .ok (.idiv, 1) := by decide +kernel
theorem dX6_entry_13 : decode cX6_entry 13 = .ok (.iload_n 1, 1) := by decide +kernel
theorem dX6_entry_14 : decode cX6_entry 14 = .ok (.invokevirtual 58, 3) := by decide +kernel
theorem dX6_entry_17 : decode cX6_entry 17 = .ok (.ireturn, 1) := by decide +kernel
theorem dX6_entry_18 : decode cX6_entry 18 = .ok (.aload_n 0, 1) := by decide +kernel
theorem dX6_entry_19 : decode cX6_entry 19 = .ok (.getfield 18, 3) := by decide +kernel
theorem dX6_entry_22 : decode cX6_entry 22 = .ok (.iload_n 2, 1) := by decide +kernel
theorem dX6_entry_23 : decode cX6_entry 23 = .ok (.bipush 12, 2) := by decide +kernel
theorem dX6_entry_25 : decode cX6_entry 25 = .ok (.irem, 1) := by decide +kernel
theorem dX6_entry_26 : decode cX6_entry 26 = .ok (.iload_n 1, 1) := by decide +kernel
theorem dX6_entry_27 : decode cX6_entry 27 = .ok (.iconst 4, 1) := by decide +kernel
theorem dX6_entry_28 : decode cX6_entry 28 = .ok (.isub, 1) := by decide +kernel
theorem dX6_entry_29 : decode cX6_entry 29 = .ok (.invokevirtual 58, 3) := by decide +kernel
theorem dX6_entry_32 : decode cX6_entry 32 = .ok (.ireturn, 1) := by decide +kernel
set_option maxRecDepth 20000 in
theorem ggX6_exampleOf_X0_example : GoodIn wsX6_exampleOf wsX0_example := goodIn_r _ [7, 8, 15, 16, 17, 18] (by decide +kernel) (by decide +kernel)
set_option maxRecDepth 20000 in
theorem gX6_exampleOf_X0_example : GoodIn wsX6_exampleOf (wsV RX6 62 RX0 yX0_example wsX0_example) := goodIn_app (goodIn_of _ (by decide +kernel)) ggX6_exampleOf_X0_example
theorem dX6_exampleOf_0 : decode cX6_exampleOf 0 = .ok (.iload_n 1, 1) := by decide +kernel
theorem dX6_exampleOf_1 : decode cX6_exampleOf 1 = .ok (.iconst 4, 1) := by decide +kernel
theorem dX6_exampleOf_2 : decode cX6_exampleOf 2 = .ok (.if_icmp .ge 13, 3) := by decide +kernel
theorem dX6_exampleOf_5 : decode cX6_exampleOf 5 = .ok (.aload_n 0, 1) := by decide +kernel
theorem dX6_exampleOf_6 : decode cX6_exampleOf 6 = .ok (.getfield 12, 3) := by decide +kernel
theorem dX6_exampleOf_9 : decode cX6_exampleOf 9 = .ok (.invokevirtual 62, 3) := by decide +kernel
theorem dX6_exampleOf_12 : decode cX6_exampleOf 12 = .ok (.goto 10, 3) := by decide +kernel
theorem dX6_exampleOf_15 : decode cX6_exampleOf 15 = .ok (.aload_n 0, 1) := by decide +kernel
theorem dX6_exampleOf_16 : decode cX6_exampleOf 16 = .ok (.getfield 18, 3) := by decide +kernel
theorem dX6_exampleOf_19 : decode cX6_exampleOf 19 = .ok (.invokevirtual 62, 3) := by decide +kernel
theorem dX6_exampleOf_22 : decode cX6_exampleOf 22 = .ok (.areturn, 1) := by decide +kernel
set_option maxRecDepth 20000 in
theorem ggX6_copyFrom_X0_copyFrom : GoodIn wsX6_copyFrom wsX0_copyFrom := goodIn_r _ [11, 12, 13, 14, 15, 16, 17, 18, 19, 20, 21, 22, 23, 24, 25, 26, 27, 28, 29, 30, 31, 32, 33, 34, 42, 43, 44, 45, 46, 47, 48, 49] (by decide +kernel) (by decide +kernel)
set_option maxRecDepth 20000 in
theorem gX6_copyFrom_X0_copyFrom : GoodIn wsX6_copyFrom (wsV RX6 66 RX0 yX0_copyFrom wsX0_copyFrom) := goodIn_app (goodIn_of _ (by decide +kernel)) ggX6_copyFrom_X0_copyFrom
set_option maxRecDepth 20000 in
theorem ggX6_copyFrom_X3_copyFrom : GoodIn wsX6_copyFrom wsX3_copyFrom := goodIn_r _ [20, 21, 22, 23, 24, 19, 25, 46] (by decide +kernel) (by decide +kernel)
set_option maxRecDepth 20000 in
theorem gX6_copyFrom_X3_copyFrom : GoodIn wsX6_copyFrom (wsV RX6 70 RX3 yX3_copyFrom wsX3_copyFrom) := goodIn_app (goodIn_of _ (by decide +kernel)) ggX6_copyFrom_X3_copyFrom
theorem dX6_copyFrom_0 : decode cX6_copyFrom 0 = .ok (.aload_n 0, 1) := by decide +kernel
theorem dX6_copyFrom_1 : decode cX6_copyFrom 1 = .ok (.getfield 12, 3) := by decide +kernel
theorem dX6_copyFrom_4 : decode cX6_copyFrom 4 = .ok (.aload_n 1, 1) := by decide +kernel
theorem dX6_copyFrom_5 : decode cX6_copyFrom 5 = .ok (.getfield 12, 3) := by decide +kernel
theorem dX6_copyFrom_8 : decode cX6_copyFrom 8 = .ok (.invokevirtual 66, 3) := by decide +kernel
theorem dX6_copyFrom_11 : decode cX6_copyFrom 11 = .ok (.aload_n 0, 1) := by decide +kernel
theorem dX6_copyFrom_12 : decode cX6_copyFrom 12 = .ok (.getfield 18, 3) := by decide +kernel
theorem dX6_copyFrom_15 : decode cX6_copyFrom 15 = .ok (.aload_n 1, 1) := by decide +kernel
theorem dX6_copyFrom_16 : decode cX6_copyFrom 16 = .ok (.getfield 18, 3) := by decide +kernel
theorem dX6_copyFrom_19 : decode cX6_copyFrom 19 = .ok (.invokevirtual 66, 3) := by decide +kernel
theorem dX6_copyFrom_22 : decode cX6_copyFrom 22 = .ok (.aload_n 0, 1) := by decide +kernel
theorem dX6_copyFrom_23 : decode cX6_copyFrom 23 = .ok (.getfield 26, 3) := by decide +kernel
theorem dX6_copyFrom_26 : decode cX6_copyFrom 26 = .ok (.aload_n 1, 1) := by decide +kernel
theorem dX6_copyFrom_27 : decode cX6_copyFrom 27 = .ok (.getfield 26, 3) := by decide +kernel
theorem dX6_copyFrom_30 : decode cX6_copyFrom 30 = .ok (.invokevirtual 70, 3) := by decide +kernel
theorem dX6_copyFrom_33 : decode cX6_copyFrom 33 = .ok (.aload_n 0, 1) := by decide +kernel
theorem dX6_copyFrom_34 : decode cX6_copyFrom 34 = .ok (.getfield 30, 3) := by decide +kernel
theorem dX6_copyFrom_37 : decode cX6_copyFrom 37 = .ok (.aload_n 1, 1) := by decide +kernel
theorem dX6_copyFrom_38 : decode cX6_copyFrom 38 = .ok (.getfield 30, 3) := by decide +kernel
theorem dX6_copyFrom_41 : decode cX6_copyFrom 41 = .ok (.invokevirtual 70, 3) := by decide +kernel
theorem dX6_copyFrom_44 : decode cX6_copyFrom 44 = .ok (.aload_n 0, 1) := by decide +kernel
theorem dX6_copyFrom_45 : decode cX6_copyFrom 45 = .ok (.aload_n 1, 1) := by decide +kernel
theorem dX6_copyFrom_46 : decode cX6_copyFrom 46 = .ok (.getfield 33, 3) := by decide +kernel
theorem dX6_copyFrom_49 : decode cX6_copyFrom 49 = .ok (.putfield 33, 3) := by decide +kernel
theorem dX6_copyFrom_52 : decode cX6_copyFrom 52 = .ok (.aload_n 0, 1) := by decide +kernel
theorem dX6_copyFrom_53 : decode cX6_copyFrom 53 = .ok (.aload_n 1, 1) := by decide +kernel
theorem dX6_copyFrom_54 : decode cX6_copyFrom 54 = .ok (.getfield 37, 3) := by decide +kernel
theorem dX6_copyFrom_57 : decode cX6_copyFrom 57 = .ok (.putfield 37, 3) := by decide +kernel
theorem dX6_copyFrom_60 : decode cX6_copyFrom 60 = .ok (.return_, 1) := by decide +kernel
set_option maxRecDepth 20000 in
theorem ggX7_init_X3_init : GoodIn wsX7_init wsX3_init := goodIn_r _ [11, 12, 2, 3, 13, 14, 15, 16, 17, 18, 19, 20, 21, 6, 22, 23] (by decide +kernel) (by decide +kernel)
set_option maxRecDepth 20000 in
theorem gX7_init_X3_init : GoodIn wsX7_init (wsX3_init) := ggX7_init_X3_init
theorem dX7_init_0 : decode cX7_init 0 = .ok (.aload_n 0, 1) := by decide +kernel
theorem dX7_init_1 : decode cX7_init 1 = .ok (.invokespecial 3, 3) := by decide +kernel
theorem dX7_init_4 : decode cX7_init 4 = .ok (.aload_n 0, 1) := by decide +kernel
theorem dX7_init_5 : decode cX7_init 5 = .ok (.new 9, 3) := by decide +kernel
theorem dX7_init_8 : decode cX7_init 8 = .ok (.dup, 1) := by decide +kernel
theorem dX7_init_9 : decode cX7_init 9 = .ok (.bipush 60, 2) := by decide +kernel
theorem dX7_init_11 : decode cX7_init 11 = .ok (.iconst 0, 1) := by decide +kernel
theorem dX7_init_12 : decode cX7_init 12 = .ok (.invokespecial 11, 3) := by decide +kernel
theorem dX7_init_15 : decode cX7_init 15 = .ok (.putfield 14, 3) := by decide +kernel
theorem dX7_init_18 : decode cX7_init 18 = .ok (.aload_n 0, 1) := by decide +kernel
theorem dX7_init_19 : decode cX7_init 19 = .ok (.iconst 0, 1) := by decide +kernel
theorem dX7_init_20 : decode cX7_init 20 = .ok (.putfield 20, 3) := by decide +kernel
theorem dX7_init_23 : decode cX7_init 23 = .ok (.return_, 1) := by decide +kernel
theorem dX7_length_0 : decode cX7_length 0 = .ok (.aload_n 0, 1) := by decide +kernel
theorem dX7_length_1 : decode cX7_length 1 = .ok (.getfield 20, 3) := by decide +kernel
theorem dX7_length_4 : decode cX7_length 4 = .ok (.ireturn, 1) := by decide +kernel
set_option maxRecDepth 20000 in
theorem ggX7_characterAt_X3_at : GoodIn wsX7_characterAt wsX3_at := goodIn_r _ [7, 8, 11] (by decide +kernel) (by decide +kernel)
set_option maxRecDepth 20000 in
theorem gX7_characterAt_X3_at : GoodIn wsX7_characterAt (wsV RX7 24 RX3 yX3_at wsX3_at) := goodIn_app (goodIn_of _ (by decide +kernel)) ggX7_characterAt_X3_at
theorem dX7_characterAt_0 : decode cX7_characterAt 0 = .ok (.iload_n 1, 1) := by decide +kernel
theorem dX7_characterAt_1 : decode cX7_characterAt 1 = .ok (.aload_n 0, 1) := by decide +kernel
theorem dX7_characterAt_2 : decode cX7_characterAt 2 = .ok (.getfield 20, 3) := by decide +kernel
theorem dX7_characterAt_5 : decode cX7_characterAt 5 = .ok (.if_icmp .ge 14, 3) := by decide +kernel
theorem dX7_characterAt_8 : decode cX7_characterAt 8 = .ok (.aload_n 0, 1) := by decide +kernel
theorem dX7_characterAt_9 : decode cX7_characterAt 9 = .ok (.getfield 14, 3) := by decide +kernel
theorem dX7_characterAt_12 : decode cX7_characterAt 12 = .ok (.iload_n 1, 1) := by decide +kernel
theorem dX7_characterAt_13 : decode cX7_characterAt 13 = .ok (.invokevirtual 24, 3) := by decide +kernel
theorem dX7_characterAt_16 : decode cX7_characterAt 16 = .ok (.goto 4, 3) := by decide +kernel
theorem dX7_characterAt_19 : decode cX7_characterAt 19 = .ok (.iconst (-1), 1) := by decide +kernel
theorem dX7_characterAt_20 : decode cX7_characterAt 20 = .ok (.ireturn, 1) := by decide +kernel
set_option maxRecDepth 20000 in
theorem ggX7_append_X3_set : GoodIn wsX7_append wsX3_set := goodIn_r _ [7, 8, 11] (by decide +kernel) (by decide +kernel)
set_option maxRecDepth 20000 in
theorem gX7_append_X3_set : GoodIn wsX7_append (wsV RX7 28 RX3 yX3_set wsX3_set) := goodIn_app (goodIn_of _ (by decide +kernel)) ggX7_append_X3_set
theorem dX7_append_0 : decode cX7_append 0 = .ok (.aload_n 0, 1) := by decide +kernel
theorem dX7_append_1 : decode cX7_append 1 = .ok (.getfield 14, 3) := by decide +kernel
theorem dX7_append_4 : decode cX7_append 4 = .ok (.aload_n 0, 1) := by decide +kernel
theorem dX7_append_5 : decode cX7_append 5 = .ok (.getfield 20, 3) := by decide +kernel
theorem dX7_append_8 : decode cX7_append 8 = .ok (.iload_n 1, 1) := by decide +kernel
theorem dX7_append_9 : decode cX7_append 9 = .ok (.invokevirtual 28, 3) := by decide +kernel
theorem dX7_append_12 : decode cX7_append 12 = .ok (.aload_n 0, 1) := by decide +kernel
theorem dX7_append_13 : decode cX7_append 13 = .ok (.dup, 1) := by decide +kernel
theorem dX7_append_14 : decode cX7_append 14 = .ok (.getfield 20, 3) := by decide +kernel
theorem dX7_append_17 : decode cX7_append 17 = .ok (.iconst 1, 1) := by decide +kernel
theorem dX7_append_18 : decode cX7_append 18 = .ok (.iadd, 1) := by decide +kernel
theorem dX7_append_19 : decode cX7_append 19 = .ok (.putfield 20, 3) := by decide +kernel
theorem dX7_append_22 : decode cX7_append 22 = .ok (.aload_n 0, 1) := by decide +kernel
theorem dX7_append_23 : decode cX7_append 23 = .ok (.getfield 20, 3) := by decide +kernel
theorem dX7_append_26 : decode cX7_append 26 = .ok (.ireturn, 1) := by decide +kernel
theorem dX7_empty_0 : decode cX7_empty 0 = .ok (.aload_n 0, 1) := by decide +kernel
theorem dX7_empty_1 : decode cX7_empty 1 = .ok (.getfield 20, 3) := by decide +kernel
theorem dX7_empty_4 : decode cX7_empty 4 = .ok (.istore_n 1, 1) := by decide +kernel
theorem dX7_empty_5 : decode cX7_empty 5 = .ok (.aload_n 0, 1) := by decide +kernel
theorem dX7_empty_6 : decode cX7_empty 6 = .ok (.iconst 0, 1) := by decide +kernel
theorem dX7_empty_7 : decode cX7_empty 7 = .ok (.putfield 20, 3) := by decide +kernel
theorem dX7_empty_10 : decode cX7_empty 10 = .ok (.iload_n 1, 1) := by decide +kernel
theorem dX7_empty_11 : decode cX7_empty 11 = .ok (.ireturn, 1) := by decide +kernel
set_option maxRecDepth 20000 in
theorem ggX8_init_X6_init : GoodIn wsX8_init wsX6_init := goodIn_r _ [25, 26, 2, 3, 27, 28, 29, 30, 31, 32, 33, 34, 35, 36, 37, 38, 39, 40, 41, 42, 43, 44, 45, 46, 47, 48, 49, 50, 51, 52, 53, 54, 55, 56, 57, 58, 59, 60, 61, 62, 63, 64, 65, 66, 67, 68, 69, 70, 71, 72, 142, 143, 144, 145, 112, 113, 114, 115, 116, 117, 146, 147, 148, 149] (by decide +kernel) (by decide +kernel)
set_option maxRecDepth 20000 in
theorem gX8_init_X6_init_n11 : GoodIn wsX8_init (wsX6_init) := ggX8_init_X6_init
set_option maxRecDepth 20000 in
theorem ggX8_init_X2_init : GoodIn wsX8_init wsX2_init := goodIn_r _ [74, 75, 2, 3, 76, 5, 6, 77, 78, 79, 80, 81, 24, 25, 26, 27, 28, 29, 30, 31, 32, 33, 34, 35, 36, 37, 38, 39, 40, 41, 42, 43, 44, 45, 46, 47, 48, 49, 50, 51, 52, 53, 54, 55, 56, 57, 58, 59, 60, 61, 62, 63, 64, 65, 66, 67, 68, 69, 70, 71, 72, 112, 113, 114, 115, 116, 117, 123, 124, 125, 126, 127, 142, 143, 144, 145, 146, 147, 148, 149] (by decide +kernel) (by decide +kernel)
set_option maxRecDepth 20000 in
theorem gX8_init_X2_init_n18 : GoodIn wsX8_init (wsX2_init) := ggX8_init_X2_init
set_option maxRecDepth 20000 in
theorem ggX8_init_X5_init : GoodIn wsX8_init wsX5_init := goodIn_r _ [84, 85, 2, 3, 86, 33, 34, 87, 88, 89, 90, 91, 92, 93, 51, 52, 53, 54, 55, 56, 57, 58, 59, 60, 61, 62, 63, 146, 128, 129, 130, 131, 132, 133] (by decide +kernel) (by decide +kernel)
set_option maxRecDepth 20000 in
theorem gX8_init_X5_init : GoodIn wsX8_init (wsX5_init) := ggX8_init_X5_init
set_option maxRecDepth 20000 in
theorem ggX8_init_X7_init : GoodIn wsX8_init wsX7_init := goodIn_r _ [95, 96, 2, 3, 97, 33, 34, 98, 99, 100, 51, 52, 53, 54, 55, 56, 57, 58, 59, 60, 61, 62, 63, 146, 134, 135] (by decide +kernel) (by decide +kernel)
set_option maxRecDepth 20000 in
theorem gX8_init_X7_init_n34 : GoodIn wsX8_init (wsX7_init) := ggX8_init_X7_init
set_option maxRecDepth 20000 in
theorem ggX8_init_X4_init : GoodIn wsX8_init wsX4_init := goodIn_r _ [103, 104, 2, 3, 105, 45, 46, 106, 107, 108, 109, 110, 111, 64, 65, 66, 67, 33, 34, 68, 69, 70, 71, 51, 52, 53, 54, 55, 56, 57, 58, 59, 60, 61, 62, 63, 147, 148, 149, 136, 137, 138, 139, 140, 141, 146] (by decide +kernel) (by decide +kernel)
set_option maxRecDepth 20000 in
theorem gX8_init_X4_init : GoodIn wsX8_init (wsX4_init) := ggX8_init_X4_init
theorem dX8_init_0 : decode cX8_init 0 = .ok (.aload_n 0, 1) := by decide +kernel
theorem dX8_init_1 : decode cX8_init 1 = .ok (.invokespecial 3, 3) := by decide +kernel
theorem dX8_init_4 : decode cX8_init 4 = .ok (.aload_n 0, 1) := by decide +kernel
theorem dX8_init_5 : decode cX8_init 5 = .ok (.new 9, 3) := by decide +kernel
theorem dX8_init_8 : decode cX8_init 8 = .ok (.dup, 1) := by decide +kernel
theorem dX8_init_9 : decode cX8_init 9 = .ok (.invokespecial 11, 3) := by decide +kernel
theorem dX8_init_12 : decode cX8_init 12 = .ok (.putfield 12, 3) := by decide +kernel
theorem dX8_init_15 : decode cX8_init 15 = .ok (.aload_n 0, 1) := by decide +kernel
theorem dX8_init_16 : decode cX8_init 16 = .ok (.new 16, 3) := by decide +kernel
theorem dX8_init_19 : decode cX8_init 19 = .ok (.dup, 1) := by decide +kernel
theorem dX8_init_20 : decode cX8_init 20 = .ok (.invokespecial 18, 3) := by decide +kernel
theorem dX8_init_23 : decode cX8_init 23 = .ok (.putfield 19, 3) := by decide +kernel
theorem dX8_init_26 : decode cX8_init 26 = .ok (.aload_n 0, 1) := by decide +kernel
theorem dX8_init_27 : decode cX8_init 27 = .ok (.new 23, 3) := by decide +kernel
theorem dX8_init_30 : decode cX8_init 30 = .ok (.dup, 1) := by decide +kernel
theorem dX8_init_31 : decode cX8_init 31 = .ok (.aload_n 0, 1) := by decide +kernel
theorem dX8_init_32 : decode cX8_init 32 = .ok (.getfield 12, 3) := by decide +kernel
theorem dX8_init_35 : decode cX8_init 35 = .ok (.invokespecial 25, 3) := by decide +kernel
theorem dX8_init_38 : decode cX8_init 38 = .ok (.putfield 28, 3) := by decide +kernel
theorem dX8_init_41 : decode cX8_init 41 = .ok (.aload_n 0, 1) := by decide +kernel
theorem dX8_init_42 : decode cX8_init 42 = .ok (.new 32, 3) := by decide +kernel
theorem dX8_init_45 : decode cX8_init 45 = .ok (.dup, 1) := by decide +kernel
theorem dX8_init_46 : decode cX8_init 46 = .ok (.invokespecial 34, 3) := by decide +kernel
theorem dX8_init_49 : decode cX8_init 49 = .ok (.putfield 35, 3) := by decide +kernel
theorem dX8_init_52 : decode cX8_init 52 = .ok (.aload_n 0, 1) := by decide +kernel
theorem dX8_init_53 : decode cX8_init 53 = .ok (.new 39, 3) := by decide +kernel
theorem dX8_init_56 : decode cX8_init 56 = .ok (.dup, 1) := by decide +kernel
theorem dX8_init_57 : decode cX8_init 57 = .ok (.aload_n 0, 1) := by decide +kernel
theorem dX8_init_58 : decode cX8_init 58 = .ok (.getfield 35, 3) := by decide +kernel
theorem dX8_init_61 : decode cX8_init 61 = .ok (.invokespecial 41, 3) := by decide +kernel
theorem dX8_init_64 : decode cX8_init 64 = .ok (.putfield 44, 3) := by decide +kernel
theorem dX8_init_67 : decode cX8_init 67 = .ok (.return_, 1) := by decide +kernel
set_option maxRecDepth 20000 in
theorem ggX8_columns_X8_isBit : GoodIn wsX8_columns wsX8_isBit := goodIn_r _ [6] (by decide +kernel) (by decide +kernel)
set_option maxRecDepth 20000 in
theorem gX8_columns_X8_isBit : GoodIn wsX8_columns (va_wsS RX8 48 yX8_isBit wsX8_isBit) := goodIn_app (goodIn_of _ (by decide +kernel)) ggX8_columns_X8_isBit
set_option maxRecDepth 20000 in
theorem ggX8_columns_X2_keep : GoodIn wsX8_columns wsX2_keep := goodIn_r _ [11, 12, 13, 14, 15, 16, 17, 18, 19, 20, 21, 22, 23, 24, 25, 26, 27, 28, 29, 30, 31, 32, 33, 34, 35, 36, 37, 38, 39, 40, 41, 42, 43, 44, 45, 46, 47, 48, 49, 50, 51, 52, 53, 54, 55, 56, 57, 58, 59, 60, 82, 83, 84, 85, 86, 87, 88, 89, 90, 91, 92, 93, 94, 95, 96, 97, 98, 99, 100] (by decide +kernel) (by decide +kernel)
set_option maxRecDepth 20000 in
theorem gX8_columns_X2_keep : GoodIn wsX8_columns (wsV RX8 52 RX2 yX2_keep wsX2_keep) := goodIn_app (goodIn_of _ (by decide +kernel)) ggX8_columns_X2_keep
set_option maxRecDepth 20000 in
theorem ggX8_columns_X6_drawer : GoodIn wsX8_columns wsX6_drawer := goodIn_r _ [64, 26, 27, 87, 88, 89, 90, 91, 92] (by decide +kernel) (by decide +kernel)
set_option maxRecDepth 20000 in
theorem gX8_columns_X6_drawer : GoodIn wsX8_columns (wsV RX8 55 RX6 yX6_drawer wsX6_drawer) := goodIn_app (goodIn_of _ (by decide +kernel)) ggX8_columns_X6_drawer
set_option maxRecDepth 20000 in
theorem ggX8_columns_X0_remake : GoodIn wsX8_columns wsX0_remake := goodIn_r _ [68, 40, 39, 38, 69, 70, 71, 54, 72, 56, 57, 58, 73, 74, 75, 44, 76, 46, 93, 94, 95, 96, 98, 99, 100, 97] (by decide +kernel) (by decide +kernel)
set_option maxRecDepth 20000 in
theorem gX8_columns_X0_remake : GoodIn wsX8_columns (wsV RX8 59 RX0 yX0_remake wsX0_remake) := goodIn_app (goodIn_of _ (by decide +kernel)) ggX8_columns_X0_remake
theorem dX8_columns_0 : decode cX8_columns 0 = .ok (.iload_n 1, 1) := by decide +kernel
theorem dX8_columns_1 : decode cX8_columns 1 = .ok (.invokestatic 48, 3) := by decide +kernel
theorem dX8_columns_4 : decode cX8_columns 4 = .ok (.ifCond .eq 13, 3) := by decide +kernel
theorem dX8_columns_7 : decode cX8_columns 7 = .ok (.iload_n 2, 1) := by decide +kernel
theorem dX8_columns_8 : decode cX8_columns 8 = .ok (.iconst 1, 1) := by decide +kernel
theorem dX8_columns_9 : decode cX8_columns 9 = .ok (.if_icmp .lt 8, 3) := by decide +kernel
theorem dX8_columns_12 : decode cX8_columns 12 = .ok (.iload_n 2, 1) := by decide +kernel
theorem dX8_columns_13 : decode cX8_columns 13 = .ok (.iconst 4, 1) := by decide +kernel
theorem dX8_columns_14 : decode cX8_columns 14 = .ok (.if_icmp .le 6, 3) := by decide +kernel
theorem dX8_columns_17 : decode cX8_columns 17 = .ok (.bipush (-11), 2) := by decide +kernel
theorem dX8_columns_19 : decode cX8_columns 19 = .ok (.ireturn, 1) := by decide +kernel
theorem dX8_columns_20 : decode cX8_columns 20 = .ok (.aload_n 0, 1) := by decide +kernel
theorem dX8_columns_21 : decode cX8_columns 21 = .ok (.getfield 19, 3) := by decide +kernel
theorem dX8_columns_24 : decode cX8_columns 24 = .ok (.aload_n 0, 1) := by decide +kernel
theorem dX8_columns_25 : decode cX8_columns 25 = .ok (.getfield 12, 3) := by decide +kernel
theorem dX8_columns_28 : decode cX8_columns 28 = .ok (.invokevirtual 52, 3) := by decide +kernel
theorem dX8_columns_31 : decode cX8_columns 31 = .ok (.aload_n 0, 1) := by decide +kernel
theorem dX8_columns_32 : decode cX8_columns 32 = .ok (.getfield 12, 3) := by decide +kernel
theorem dX8_columns_35 : decode cX8_columns 35 = .ok (.iload_n 1, 1) := by decide +kernel
theorem dX8_columns_36 : decode cX8_columns 36 = .ok (.invokevirtual 55, 3) := by decide +kernel
theorem dX8_columns_39 : decode cX8_columns 39 = .ok (.iload_n 2, 1) := by decide +kernel
theorem dX8_columns_40 : decode cX8_columns 40 = .ok (.invokevirtual 59, 3) := by decide +kernel
theorem dX8_columns_43 : decode cX8_columns 43 = .ok (.ireturn, 1) := by decide +kernel
set_option maxRecDepth 20000 in
theorem ggX8_card_X8_isBit : GoodIn wsX8_card wsX8_isBit := goodIn_r _ [6] (by decide +kernel) (by decide +kernel)
set_option maxRecDepth 20000 in
theorem gX8_card_X8_isBit : GoodIn wsX8_card (va_wsS RX8 48 yX8_isBit wsX8_isBit) := goodIn_app (goodIn_of _ (by decide +kernel)) ggX8_card_X8_isBit
set_option maxRecDepth 20000 in
theorem ggX8_card_X8_isEntry : GoodIn wsX8_card wsX8_isEntry := goodIn_r _ [9] (by decide +kernel) (by decide +kernel)
set_option maxRecDepth 20000 in
theorem gX8_card_X8_isEntry : GoodIn wsX8_card (va_wsS RX8 65 yX8_isEntry wsX8_isEntry) := goodIn_app (goodIn_of _ (by decide +kernel)) ggX8_card_X8_isEntry
set_option maxRecDepth 20000 in
theorem ggX8_card_X6_drawer : GoodIn wsX8_card wsX6_drawer := goodIn_r _ [14, 15, 16, 85, 86, 87, 88, 89, 90] (by decide +kernel) (by decide +kernel)
set_option maxRecDepth 20000 in
theorem gX8_card_X6_drawer : GoodIn wsX8_card (wsV RX8 55 RX6 yX6_drawer wsX6_drawer) := goodIn_app (goodIn_of _ (by decide +kernel)) ggX8_card_X6_drawer
set_option maxRecDepth 20000 in
theorem ggX8_card_X0_size : GoodIn wsX8_card wsX0_size := goodIn_r _ [21, 22, 91, 92, 93, 94] (by decide +kernel) (by decide +kernel)
set_option maxRecDepth 20000 in
theorem gX8_card_X0_size : GoodIn wsX8_card (wsV RX8 68 RX0 yX0_size wsX0_size) := goodIn_app (goodIn_of _ (by decide +kernel)) ggX8_card_X0_size
set_option maxRecDepth 20000 in
theorem ggX8_card_X2_keep : GoodIn wsX8_card wsX2_keep := goodIn_r _ [27, 28, 29, 30, 31, 32, 33, 34, 35, 36, 37, 38, 39, 13, 40, 15, 16, 41, 42, 43, 44, 45, 46, 47, 20, 48, 49, 50, 51, 22, 52, 53, 54, 55, 56, 57, 58, 59, 60, 61, 62, 63, 64, 65, 66, 67, 68, 69, 70, 71, 95, 96, 97, 98, 99, 85, 86, 87, 88, 89, 90, 91, 92, 93, 94, 100, 101, 102, 103] (by decide +kernel) (by decide +kernel)
set_option maxRecDepth 20000 in
theorem gX8_card_X2_keep : GoodIn wsX8_card (wsV RX8 52 RX2 yX2_keep wsX2_keep) := goodIn_app (goodIn_of _ (by decide +kernel)) ggX8_card_X2_keep
set_option maxRecDepth 20000 in
theorem ggX8_card_X0_add : GoodIn wsX8_card wsX0_add := goodIn_r _ [75, 22, 49, 76, 77, 78, 55, 79, 57, 91, 92, 93, 94, 100] (by decide +kernel) (by decide +kernel)
set_option maxRecDepth 20000 in
theorem gX8_card_X0_add : GoodIn wsX8_card (wsV RX8 72 RX0 yX0_add wsX0_add) := goodIn_app (goodIn_of _ (by decide +kernel)) ggX8_card_X0_add
theorem dX8_card_0 : decode cX8_card 0 = .ok (.iload_n 1, 1) := by decide +kernel
theorem dX8_card_1 : decode cX8_card 1 = .ok (.invokestatic 48, 3) := by decide +kernel
theorem dX8_card_4 : decode cX8_card 4 = .ok (.ifCond .eq 33, 3) := by decide +kernel
theorem dX8_card_7 : decode cX8_card 7 = .ok (.iload_n 2, 1) := by decide +kernel
theorem dX8_card_8 : decode cX8_card 8 = .ok (.invokestatic 65, 3) := by decide +kernel
theorem dX8_card_11 : decode cX8_card 11 = .ok (.ifCond .eq 26, 3) := by decide +kernel
theorem dX8_card_14 : decode cX8_card 14 = .ok (.iload_n 3, 1) := by decide +kernel
theorem dX8_card_15 : decode cX8_card 15 = .ok (.invokestatic 65, 3) := by decide +kernel
theorem dX8_card_18 : decode cX8_card 18 = .ok (.ifCond .eq 19, 3) := by decide +kernel
theorem dX8_card_21 : decode cX8_card 21 = .ok (.iload 4, 2) := by decide +kernel
theorem dX8_card_23 : decode cX8_card 23 = .ok (.invokestatic 65, 3) := by decide +kernel
theorem dX8_card_26 : decode cX8_card 26 = .ok (.ifCond .eq 11, 3) := by decide +kernel
theorem dX8_card_29 : decode cX8_card 29 = .ok (.iload 5, 2) := by decide +kernel
theorem dX8_card_31 : decode cX8_card 31 = .ok (.invokestatic 65, 3) := by decide +kernel
theorem dX8_card_34 : decode cX8_card 34 = .ok (.ifCond .ne 6, 3) := by decide +kernel
theorem dX8_card_37 : decode cX8_card 37 = .ok (.bipush (-11), 2) := by decide +kernel
theorem dX8_card_39 : decode cX8_card 39 = .ok (.ireturn, 1) := by decide +kernel
theorem dX8_card_40 : decode cX8_card 40 = .ok (.aload_n 0, 1) := by decide +kernel
theorem dX8_card_41 : decode cX8_card 41 = .ok (.getfield 12, 3) := by decide +kernel
theorem dX8_card_44 : decode cX8_card 44 = .ok (.iload_n 1, 1) := by decide +kernel
theorem dX8_card_45 : decode cX8_card 45 = .ok (.invokevirtual 55, 3) := by decide +kernel
theorem dX8_card_48 : decode cX8_card 48 = .ok (.astore 6, 2) := by decide +kernel
theorem dX8_card_50 : decode cX8_card 50 = .ok (.aload 6, 2) := by decide +kernel
theorem dX8_card_52 : decode cX8_card 52 = .ok (.invokevirtual 68, 3) := by decide +kernel
theorem dX8_card_55 : decode cX8_card 55 = .ok (.bipush 12, 2) := by decide +kernel
theorem dX8_card_57 : decode cX8_card 57 = .ok (.if_icmp .lt 6, 3) := by decide +kernel
theorem dX8_card_60 : decode cX8_card 60 = .ok (.bipush (-13), 2) := by decide +kernel
theorem dX8_card_62 : decode cX8_card 62 = .ok (.ireturn, 1) := by decide +kernel
theorem dX8_card_63 : decode cX8_card 63 = .ok (.aload_n 0, 1) := by decide +kernel
theorem dX8_card_64 : decode cX8_card 64 = .ok (.getfield 19, 3) := by decide +kernel
theorem dX8_card_67 : decode cX8_card 67 = .ok (.aload_n 0, 1) := by decide +kernel
theorem dX8_card_68 : decode cX8_card 68 = .ok (.getfield 12, 3) := by decide +kernel
theorem dX8_card_71 : decode cX8_card 71 = .ok (.invokevirtual 52, 3) := by decide +kernel
theorem dX8_card_74 : decode cX8_card 74 = .ok (.aload 6, 2) := by decide +kernel
theorem dX8_card_76 : decode cX8_card 76 = .ok (.iload_n 2, 1) := by decide +kernel
theorem dX8_card_77 : decode cX8_card 77 = .ok (.iload_n 3, 1) := by decide +kernel
theorem dX8_card_78 : decode cX8_card 78 = .ok (.iload 4, 2) := by decide +kernel
theorem dX8_card_80 : decode cX8_card 80 = .ok (.iload 5, 2) := by decide +kernel
theorem dX8_card_82 : decode cX8_card 82 = .ok (.invokevirtual 72, 3) := by decide +kernel
theorem dX8_card_85 : decode cX8_card 85 = .ok (.ireturn, 1) := by decide +kernel
set_option maxRecDepth 20000 in
theorem ggX8_put_X8_isPlace : GoodIn wsX8_put wsX8_isPlace := goodIn_r _ [7, 2, 8, 9, 10, 6, 11, 12, 13, 14, 15, 16, 17, 18, 19, 20, 21, 22, 23, 24, 25, 26, 27, 28, 29, 30, 31, 32, 99, 100, 101, 102, 103, 104, 105, 106, 107, 108, 109, 110, 111, 112, 113] (by decide +kernel) (by decide +kernel)
set_option maxRecDepth 20000 in
theorem gX8_put_X8_isPlace : GoodIn wsX8_put (wsV RX8 76 RX8 yX8_isPlace wsX8_isPlace) := goodIn_app (goodIn_of _ (by decide +kernel)) ggX8_put_X8_isPlace
set_option maxRecDepth 20000 in
theorem ggX8_put_X8_isEntry : GoodIn wsX8_put wsX8_isEntry := goodIn_r _ [35] (by decide +kernel) (by decide +kernel)
set_option maxRecDepth 20000 in
theorem gX8_put_X8_isEntry : GoodIn wsX8_put (va_wsS RX8 65 yX8_isEntry wsX8_isEntry) := goodIn_app (goodIn_of _ (by decide +kernel)) ggX8_put_X8_isEntry
set_option maxRecDepth 20000 in
theorem ggX8_put_X2_keep : GoodIn wsX8_put wsX2_keep := goodIn_r _ [40, 41, 42, 43, 44, 45, 46, 47, 48, 49, 50, 51, 52, 18, 53, 20, 21, 54, 55, 56, 57, 58, 59, 60, 25, 61, 62, 63, 27, 32, 64, 65, 66, 67, 68, 69, 70, 71, 72, 73, 74, 75, 76, 77, 78, 79, 80, 81, 82, 83, 114, 115, 116, 117, 118, 104, 105, 106, 107, 108, 109, 110, 111, 112, 113, 119, 120, 121, 122] (by decide +kernel) (by decide +kernel)
set_option maxRecDepth 20000 in
theorem gX8_put_X2_keep : GoodIn wsX8_put (wsV RX8 52 RX2 yX2_keep wsX2_keep) := goodIn_app (goodIn_of _ (by decide +kernel)) ggX8_put_X2_keep
set_option maxRecDepth 20000 in
theorem ggX8_put_X6_drawer : GoodIn wsX8_put wsX6_drawer := goodIn_r _ [19, 20, 21, 104, 105, 106, 107, 108, 109] (by decide +kernel) (by decide +kernel)
set_option maxRecDepth 20000 in
theorem gX8_put_X6_drawer : GoodIn wsX8_put (wsV RX8 55 RX6 yX6_drawer wsX6_drawer) := goodIn_app (goodIn_of _ (by decide +kernel)) ggX8_put_X6_drawer
set_option maxRecDepth 20000 in
theorem ggX8_put_X0_replace : GoodIn wsX8_put wsX0_replace := goodIn_r _ [87, 62, 88, 89, 90, 25, 91, 92, 29, 30, 31, 32, 93, 23, 24, 26, 27, 94, 71, 72, 67, 73, 69, 95, 96, 97, 98, 110, 111, 112, 113, 119] (by decide +kernel) (by decide +kernel)
set_option maxRecDepth 20000 in
theorem gX8_put_X0_replace : GoodIn wsX8_put (wsV RX8 80 RX0 yX0_replace wsX0_replace) := goodIn_app (goodIn_of _ (by decide +kernel)) ggX8_put_X0_replace
theorem dX8_put_0 : decode cX8_put 0 = .ok (.aload_n 0, 1) := by decide +kernel
theorem dX8_put_1 : decode cX8_put 1 = .ok (.iload_n 1, 1) := by decide +kernel
theorem dX8_put_2 : decode cX8_put 2 = .ok (.iload_n 2, 1) := by decide +kernel
theorem dX8_put_3 : decode cX8_put 3 = .ok (.iload_n 3, 1) := by decide +kernel
theorem dX8_put_4 : decode cX8_put 4 = .ok (.invokevirtual 76, 3) := by decide +kernel
theorem dX8_put_7 : decode cX8_put 7 = .ok (.ifCond .eq 11, 3) := by decide +kernel
theorem dX8_put_10 : decode cX8_put 10 = .ok (.iload 4, 2) := by decide +kernel
theorem dX8_put_12 : decode cX8_put 12 = .ok (.invokestatic 65, 3) := by decide +kernel
theorem dX8_put_15 : decode cX8_put 15 = .ok (.ifCond .ne 6, 3) := by decide +kernel
theorem dX8_put_18 : decode cX8_put 18 = .ok (.bipush (-11), 2) := by decide +kernel
theorem dX8_put_20 : decode cX8_put 20 = .ok (.ireturn, 1) := by decide +kernel
theorem dX8_put_21 : decode cX8_put 21 = .ok (.aload_n 0, 1) := by decide +kernel
theorem dX8_put_22 : decode cX8_put 22 = .ok (.getfield 19, 3) := by decide +kernel
theorem dX8_put_25 : decode cX8_put 25 = .ok (.aload_n 0, 1) := by decide +kernel
theorem dX8_put_26 : decode cX8_put 26 = .ok (.getfield 12, 3) := by decide +kernel
theorem dX8_put_29 : decode cX8_put 29 = .ok (.invokevirtual 52, 3) := by decide +kernel
theorem dX8_put_32 : decode cX8_put 32 = .ok (.aload_n 0, 1) := by decide +kernel
theorem dX8_put_33 : decode cX8_put 33 = .ok (.getfield 12, 3) := by decide +kernel
theorem dX8_put_36 : decode cX8_put 36 = .ok (.iload_n 1, 1) := by decide +kernel
theorem dX8_put_37 : decode cX8_put 37 = .ok (.invokevirtual 55, 3) := by decide +kernel
theorem dX8_put_40 : decode cX8_put 40 = .ok (.iload_n 2, 1) := by decide +kernel
theorem dX8_put_41 : decode cX8_put 41 = .ok (.iload_n 3, 1) := by decide +kernel
theorem dX8_put_42 : decode cX8_put 42 = .ok (.iload 4, 2) := by decide +kernel
theorem dX8_put_44 : decode cX8_put 44 = .ok (.invokevirtual 80, 3) := by decide +kernel
theorem dX8_put_47 : decode cX8_put 47 = .ok (.ireturn, 1) := by decide +kernel
set_option maxRecDepth 20000 in
theorem ggX8_drop_X8_isBit : GoodIn wsX8_drop wsX8_isBit := goodIn_r _ [6] (by decide +kernel) (by decide +kernel)
set_option maxRecDepth 20000 in
theorem gX8_drop_X8_isBit : GoodIn wsX8_drop (va_wsS RX8 48 yX8_isBit wsX8_isBit) := goodIn_app (goodIn_of _ (by decide +kernel)) ggX8_drop_X8_isBit
set_option maxRecDepth 20000 in
theorem ggX8_drop_X6_drawer : GoodIn wsX8_drop wsX6_drawer := goodIn_r _ [11, 12, 13, 83, 84, 85, 86, 87, 88] (by decide +kernel) (by decide +kernel)
set_option maxRecDepth 20000 in
theorem gX8_drop_X6_drawer : GoodIn wsX8_drop (wsV RX8 55 RX6 yX6_drawer wsX6_drawer) := goodIn_app (goodIn_of _ (by decide +kernel)) ggX8_drop_X6_drawer
set_option maxRecDepth 20000 in
theorem ggX8_drop_X0_hasCard : GoodIn wsX8_drop wsX0_hasCard := goodIn_r _ [18, 19, 89, 90, 91, 92] (by decide +kernel) (by decide +kernel)
set_option maxRecDepth 20000 in
theorem gX8_drop_X0_hasCard : GoodIn wsX8_drop (wsV RX8 84 RX0 yX0_hasCard wsX0_hasCard) := goodIn_app (goodIn_of _ (by decide +kernel)) ggX8_drop_X0_hasCard
set_option maxRecDepth 20000 in
theorem ggX8_drop_X2_keep : GoodIn wsX8_drop wsX2_keep := goodIn_r _ [24, 25, 26, 27, 28, 29, 30, 31, 32, 33, 34, 35, 36, 10, 37, 12, 13, 38, 39, 40, 41, 42, 43, 44, 17, 45, 46, 47, 48, 19, 49, 50, 51, 52, 53, 54, 55, 56, 57, 58, 59, 60, 61, 62, 63, 64, 65, 66, 67, 68, 93, 94, 95, 96, 97, 83, 84, 85, 86, 87, 88, 89, 90, 91, 92, 98, 99, 100, 101] (by decide +kernel) (by decide +kernel)
set_option maxRecDepth 20000 in
theorem gX8_drop_X2_keep : GoodIn wsX8_drop (wsV RX8 52 RX2 yX2_keep wsX2_keep) := goodIn_app (goodIn_of _ (by decide +kernel)) ggX8_drop_X2_keep
set_option maxRecDepth 20000 in
theorem ggX8_drop_X0_remove : GoodIn wsX8_drop wsX0_remove := goodIn_r _ [72, 19, 46, 73, 56, 57, 52, 58, 54, 74, 75, 76, 77, 89, 90, 91, 92, 98] (by decide +kernel) (by decide +kernel)
set_option maxRecDepth 20000 in
theorem gX8_drop_X0_remove : GoodIn wsX8_drop (wsV RX8 87 RX0 yX0_remove wsX0_remove) := goodIn_app (goodIn_of _ (by decide +kernel)) ggX8_drop_X0_remove
theorem dX8_drop_0 : decode cX8_drop 0 = .ok (.iload_n 1, 1) := by decide +kernel
theorem dX8_drop_1 : decode cX8_drop 1 = .ok (.invokestatic 48, 3) := by decide +kernel
theorem dX8_drop_4 : decode cX8_drop 4 = .ok (.ifCond .eq 18, 3) := by decide +kernel
theorem dX8_drop_7 : decode cX8_drop 7 = .ok (.aload_n 0, 1) := by decide +kernel
theorem dX8_drop_8 : decode cX8_drop 8 = .ok (.getfield 12, 3) := by decide +kernel
theorem dX8_drop_11 : decode cX8_drop 11 = .ok (.iload_n 1, 1) := by decide +kernel
theorem dX8_drop_12 : decode cX8_drop 12 = .ok (.invokevirtual 55, 3) := by decide +kernel
theorem dX8_drop_15 : decode cX8_drop 15 = .ok (.iload_n 2, 1) := by decide +kernel
theorem dX8_drop_16 : decode cX8_drop 16 = .ok (.invokevirtual 84, 3) := by decide +kernel
theorem dX8_drop_19 : decode cX8_drop 19 = .ok (.ifCond .ne 6, 3) := by decide +kernel
theorem dX8_drop_22 : decode cX8_drop 22 = .ok (.bipush (-11), 2) := by decide +kernel
theorem dX8_drop_24 : decode cX8_drop 24 = .ok (.ireturn, 1) := by decide +kernel
theorem dX8_drop_25 : decode cX8_drop 25 = .ok (.aload_n 0, 1) := by decide +kernel
theorem dX8_drop_26 : decode cX8_drop 26 = .ok (.getfield 19, 3) := by decide +kernel
theorem dX8_drop_29 : decode cX8_drop 29 = .ok (.aload_n 0, 1) := by decide +kernel
theorem dX8_drop_30 : decode cX8_drop 30 = .ok (.getfield 12, 3) := by decide +kernel
theorem dX8_drop_33 : decode cX8_drop 33 = .ok (.invokevirtual 52, 3) := by decide +kernel
theorem dX8_drop_36 : decode cX8_drop 36 = .ok (.aload_n 0, 1) := by decide +kernel
theorem dX8_drop_37 : decode cX8_drop 37 = .ok (.getfield 12, 3) := by decide +kernel
theorem dX8_drop_40 : decode cX8_drop 40 = .ok (.iload_n 1, 1) := by decide +kernel
theorem dX8_drop_41 : decode cX8_drop 41 = .ok (.invokevirtual 55, 3) := by decide +kernel
theorem dX8_drop_44 : decode cX8_drop 44 = .ok (.iload_n 2, 1) := by decide +kernel
theorem dX8_drop_45 : decode cX8_drop 45 = .ok (.invokevirtual 87, 3) := by decide +kernel
theorem dX8_drop_48 : decode cX8_drop 48 = .ok (.ireturn, 1) := by decide +kernel
set_option maxRecDepth 20000 in
theorem ggX8_valueOf_X8_isPlace : GoodIn wsX8_valueOf wsX8_isPlace := goodIn_r _ [6, 1, 7, 8, 9, 5, 10, 11, 12, 13, 14, 15, 16, 17, 18, 19, 20, 21, 22, 23, 24, 25, 26, 27, 28, 29, 30, 31, 45, 46, 47, 48, 49, 50, 51, 52, 53, 54, 55, 56, 57, 58, 59] (by decide +kernel) (by decide +kernel)
set_option maxRecDepth 20000 in
theorem gX8_valueOf_X8_isPlace : GoodIn wsX8_valueOf (wsV RX8 76 RX8 yX8_isPlace wsX8_isPlace) := goodIn_app (goodIn_of _ (by decide +kernel)) ggX8_valueOf_X8_isPlace
set_option maxRecDepth 20000 in
theorem ggX8_valueOf_X6_drawer : GoodIn wsX8_valueOf wsX6_drawer := goodIn_r _ [18, 19, 20, 50, 51, 52, 53, 54, 55] (by decide +kernel) (by decide +kernel)
set_option maxRecDepth 20000 in
theorem gX8_valueOf_X6_drawer : GoodIn wsX8_valueOf (wsV RX8 55 RX6 yX6_drawer wsX6_drawer) := goodIn_app (goodIn_of _ (by decide +kernel)) ggX8_valueOf_X6_drawer
set_option maxRecDepth 20000 in
theorem ggX8_valueOf_X0_entry : GoodIn wsX8_valueOf wsX0_entry := goodIn_r _ [35, 36, 37, 28, 29, 24, 30, 31, 38, 22, 23, 25, 26, 39, 40, 41, 42, 43, 44, 56, 57, 58, 59, 60] (by decide +kernel) (by decide +kernel)
set_option maxRecDepth 20000 in
theorem gX8_valueOf_X0_entry : GoodIn wsX8_valueOf (wsV RX8 90 RX0 yX0_entry wsX0_entry) := goodIn_app (goodIn_of _ (by decide +kernel)) ggX8_valueOf_X0_entry
theorem dX8_valueOf_0 : decode cX8_valueOf 0 = .ok (.aload_n 0, 1) := by decide +kernel
theorem dX8_valueOf_1 : decode cX8_valueOf 1 = .ok (.iload_n 1, 1) := by decide +kernel
theorem dX8_valueOf_2 : decode cX8_valueOf 2 = .ok (.iload_n 2, 1) := by decide +kernel
theorem dX8_valueOf_3 : decode cX8_valueOf 3 = .ok (.iload_n 3, 1) := by decide +kernel
theorem dX8_valueOf_4 : decode cX8_valueOf 4 = .ok (.invokevirtual 76, 3) := by decide +kernel
theorem dX8_valueOf_7 : decode cX8_valueOf 7 = .ok (.ifCond .ne 6, 3) := by decide +kernel
theorem dX8_valueOf_10 : decode cX8_valueOf 10 = .ok (.bipush (-11), 2) := by decide +kernel
theorem dX8_valueOf_12 : decode cX8_valueOf 12 = .ok (.ireturn, 1) := by decide +kernel
theorem dX8_valueOf_13 : decode cX8_valueOf 13 = .ok (.aload_n 0, 1) := by decide +kernel
theorem dX8_valueOf_14 : decode cX8_valueOf 14 = .ok (.getfield 12, 3) := by decide +kernel
theorem dX8_valueOf_17 : decode cX8_valueOf 17 = .ok (.iload_n 1, 1) := by decide +kernel
theorem dX8_valueOf_18 : decode cX8_valueOf 18 = .ok (.invokevirtual 55, 3) := by decide +kernel
theorem dX8_valueOf_21 : decode cX8_valueOf 21 = .ok (.iload_n 2, 1) := by decide +kernel
theorem dX8_valueOf_22 : decode cX8_valueOf 22 = .ok (.iload_n 3, 1) := by decide +kernel
theorem dX8_valueOf_23 : decode cX8_valueOf 23 = .ok (.invokevirtual 90, 3) := by decide +kernel
theorem dX8_valueOf_26 : decode cX8_valueOf 26 = .ok (.ireturn, 1) := by decide +kernel
set_option maxRecDepth 20000 in
theorem ggX8_cell_X8_isCell : GoodIn wsX8_cell wsX8_isCell := goodIn_r _ [7, 2, 8, 9, 6, 10, 11, 12, 13, 14, 15, 16, 17, 18, 19, 20, 21, 22, 23, 96, 97, 98, 99, 100, 101, 102, 103, 104, 105, 106, 107, 108, 109, 110] (by decide +kernel) (by decide +kernel)
set_option maxRecDepth 20000 in
theorem gX8_cell_X8_isCell : GoodIn wsX8_cell (wsV RX8 94 RX8 yX8_isCell wsX8_isCell) := goodIn_app (goodIn_of _ (by decide +kernel)) ggX8_cell_X8_isCell
set_option maxRecDepth 20000 in
theorem ggX8_cell_X8_isContent : GoodIn wsX8_cell wsX8_isContent := goodIn_r _ [26, 27, 28, 6, 29] (by decide +kernel) (by decide +kernel)
set_option maxRecDepth 20000 in
theorem gX8_cell_X8_isContent : GoodIn wsX8_cell (va_wsS RX8 98 yX8_isContent wsX8_isContent) := goodIn_app (goodIn_of _ (by decide +kernel)) ggX8_cell_X8_isContent
set_option maxRecDepth 20000 in
theorem ggX8_cell_X2_keep : GoodIn wsX8_cell wsX2_keep := goodIn_r _ [34, 35, 36, 37, 38, 39, 40, 41, 42, 43, 44, 45, 46, 14, 47, 16, 17, 48, 49, 50, 51, 52, 53, 54, 21, 55, 56, 57, 23, 58, 59, 60, 61, 62, 63, 64, 65, 66, 67, 68, 69, 70, 71, 72, 73, 74, 75, 76, 77, 78, 111, 112, 113, 114, 115, 101, 102, 103, 104, 105, 106, 107, 108, 109, 110, 116, 117, 118, 119] (by decide +kernel) (by decide +kernel)
set_option maxRecDepth 20000 in
theorem gX8_cell_X2_keep : GoodIn wsX8_cell (wsV RX8 52 RX2 yX2_keep wsX2_keep) := goodIn_app (goodIn_of _ (by decide +kernel)) ggX8_cell_X2_keep
set_option maxRecDepth 20000 in
theorem ggX8_cell_X6_drawer : GoodIn wsX8_cell wsX6_drawer := goodIn_r _ [15, 16, 17, 101, 102, 103, 104, 105, 106] (by decide +kernel) (by decide +kernel)
set_option maxRecDepth 20000 in
theorem gX8_cell_X6_drawer : GoodIn wsX8_cell (wsV RX8 55 RX6 yX6_drawer wsX6_drawer) := goodIn_app (goodIn_of _ (by decide +kernel)) ggX8_cell_X6_drawer
set_option maxRecDepth 20000 in
theorem ggX8_cell_X0_example : GoodIn wsX8_cell wsX0_example := goodIn_r _ [82, 57, 107, 108, 109, 110] (by decide +kernel) (by decide +kernel)
set_option maxRecDepth 20000 in
theorem gX8_cell_X0_example : GoodIn wsX8_cell (wsV RX8 101 RX0 yX0_example wsX0_example) := goodIn_app (goodIn_of _ (by decide +kernel)) ggX8_cell_X0_example
set_option maxRecDepth 20000 in
theorem ggX8_cell_X1_kindAt : GoodIn wsX8_cell wsX1_kindAt := goodIn_r _ [86, 74, 87, 66, 67, 62, 68, 64, 117, 118, 119, 116] (by decide +kernel) (by decide +kernel)
set_option maxRecDepth 20000 in
theorem gX8_cell_X1_kindAt : GoodIn wsX8_cell (wsV RX8 105 RX1 yX1_kindAt wsX1_kindAt) := goodIn_app (goodIn_of _ (by decide +kernel)) ggX8_cell_X1_kindAt
set_option maxRecDepth 20000 in
theorem ggX8_cell_X1_fill : GoodIn wsX8_cell wsX1_fill := goodIn_r _ [91, 74, 75, 76, 92, 93, 94, 62, 95, 64, 117, 118, 119, 116] (by decide +kernel) (by decide +kernel)
set_option maxRecDepth 20000 in
theorem gX8_cell_X1_fill : GoodIn wsX8_cell (wsV RX8 110 RX1 yX1_fill wsX1_fill) := goodIn_app (goodIn_of _ (by decide +kernel)) ggX8_cell_X1_fill
theorem dX8_cell_0 : decode cX8_cell 0 = .ok (.aload_n 0, 1) := by decide +kernel
theorem dX8_cell_1 : decode cX8_cell 1 = .ok (.iload_n 1, 1) := by decide +kernel
theorem dX8_cell_2 : decode cX8_cell 2 = .ok (.iload_n 2, 1) := by decide +kernel
theorem dX8_cell_3 : decode cX8_cell 3 = .ok (.invokevirtual 94, 3) := by decide +kernel
theorem dX8_cell_6 : decode cX8_cell 6 = .ok (.ifCond .eq 14, 3) := by decide +kernel
theorem dX8_cell_9 : decode cX8_cell 9 = .ok (.iload_n 3, 1) := by decide +kernel
theorem dX8_cell_10 : decode cX8_cell 10 = .ok (.iload 4, 2) := by decide +kernel
theorem dX8_cell_12 : decode cX8_cell 12 = .ok (.iload 5, 2) := by decide +kernel
theorem dX8_cell_14 : decode cX8_cell 14 = .ok (.invokestatic 98, 3) := by decide +kernel
theorem dX8_cell_17 : decode cX8_cell 17 = .ok (.ifCond .ne 6, 3) := by decide +kernel
theorem dX8_cell_20 : decode cX8_cell 20 = .ok (.bipush (-11), 2) := by decide +kernel
theorem dX8_cell_22 : decode cX8_cell 22 = .ok (.ireturn, 1) := by decide +kernel
theorem dX8_cell_23 : decode cX8_cell 23 = .ok (.aload_n 0, 1) := by decide +kernel
theorem dX8_cell_24 : decode cX8_cell 24 = .ok (.getfield 19, 3) := by decide +kernel
theorem dX8_cell_27 : decode cX8_cell 27 = .ok (.aload_n 0, 1) := by decide +kernel
theorem dX8_cell_28 : decode cX8_cell 28 = .ok (.getfield 12, 3) := by decide +kernel
theorem dX8_cell_31 : decode cX8_cell 31 = .ok (.invokevirtual 52, 3) := by decide +kernel
theorem dX8_cell_34 : decode cX8_cell 34 = .ok (.aload_n 0, 1) := by decide +kernel
theorem dX8_cell_35 : decode cX8_cell 35 = .ok (.getfield 12, 3) := by decide +kernel
theorem dX8_cell_38 : decode cX8_cell 38 = .ok (.iload_n 1, 1) := by decide +kernel
theorem dX8_cell_39 : decode cX8_cell 39 = .ok (.invokevirtual 55, 3) := by decide +kernel
theorem dX8_cell_42 : decode cX8_cell 42 = .ok (.invokevirtual 101, 3) := by decide +kernel
theorem dX8_cell_45 : decode cX8_cell 45 = .ok (.astore 6, 2) := by decide +kernel
theorem dX8_cell_47 : decode cX8_cell 47 = .ok (.aload 6, 2) := by decide +kernel
theorem dX8_cell_49 : decode cX8_cell 49 = .ok (.iload_n 2, 1) := by decide +kernel
theorem dX8_cell_50 : decode cX8_cell 50 = .ok (.invokevirtual 105, 3) := by decide +kernel
theorem dX8_cell_53 : decode cX8_cell 53 = .ok (.istore 7, 2) := by decide +kernel
theorem dX8_cell_55 : decode cX8_cell 55 = .ok (.aload 6, 2) := by decide +kernel
theorem dX8_cell_57 : decode cX8_cell 57 = .ok (.iload_n 2, 1) := by decide +kernel
theorem dX8_cell_58 : decode cX8_cell 58 = .ok (.iload_n 3, 1) := by decide +kernel
theorem dX8_cell_59 : decode cX8_cell 59 = .ok (.iload 4, 2) := by decide +kernel
theorem dX8_cell_61 : decode cX8_cell 61 = .ok (.iload 5, 2) := by decide +kernel
theorem dX8_cell_63 : decode cX8_cell 63 = .ok (.invokevirtual 110, 3) := by decide +kernel
theorem dX8_cell_66 : decode cX8_cell 66 = .ok (.iload 7, 2) := by decide +kernel
theorem dX8_cell_68 : decode cX8_cell 68 = .ok (.ireturn, 1) := by decide +kernel
set_option maxRecDepth 20000 in
theorem ggX8_clear_X8_isBit : GoodIn wsX8_clear wsX8_isBit := goodIn_r _ [6] (by decide +kernel) (by decide +kernel)
set_option maxRecDepth 20000 in
theorem gX8_clear_X8_isBit : GoodIn wsX8_clear (va_wsS RX8 48 yX8_isBit wsX8_isBit) := goodIn_app (goodIn_of _ (by decide +kernel)) ggX8_clear_X8_isBit
set_option maxRecDepth 20000 in
theorem ggX8_clear_X2_keep : GoodIn wsX8_clear wsX2_keep := goodIn_r _ [11, 12, 13, 14, 15, 16, 17, 18, 19, 20, 21, 22, 23, 24, 25, 26, 27, 28, 29, 30, 31, 32, 33, 34, 35, 36, 37, 38, 39, 40, 41, 42, 43, 44, 45, 46, 47, 48, 49, 50, 51, 52, 53, 54, 55, 56, 57, 58, 59, 60, 87, 88, 89, 90, 91, 92, 93, 94, 95, 96, 97, 98, 99, 100, 101, 102, 103, 104, 105] (by decide +kernel) (by decide +kernel)
set_option maxRecDepth 20000 in
theorem gX8_clear_X2_keep : GoodIn wsX8_clear (wsV RX8 52 RX2 yX2_keep wsX2_keep) := goodIn_app (goodIn_of _ (by decide +kernel)) ggX8_clear_X2_keep
set_option maxRecDepth 20000 in
theorem ggX8_clear_X6_drawer : GoodIn wsX8_clear wsX6_drawer := goodIn_r _ [64, 26, 27, 92, 93, 94, 95, 96, 97] (by decide +kernel) (by decide +kernel)
set_option maxRecDepth 20000 in
theorem gX8_clear_X6_drawer : GoodIn wsX8_clear (wsV RX8 55 RX6 yX6_drawer wsX6_drawer) := goodIn_app (goodIn_of _ (by decide +kernel)) ggX8_clear_X6_drawer
set_option maxRecDepth 20000 in
theorem ggX8_clear_X0_example : GoodIn wsX8_clear wsX0_example := goodIn_r _ [68, 38, 98, 99, 100, 101] (by decide +kernel) (by decide +kernel)
set_option maxRecDepth 20000 in
theorem gX8_clear_X0_example : GoodIn wsX8_clear (wsV RX8 101 RX0 yX0_example wsX0_example) := goodIn_app (goodIn_of _ (by decide +kernel)) ggX8_clear_X0_example
set_option maxRecDepth 20000 in
theorem ggX8_clear_X1_otherKinds : GoodIn wsX8_clear wsX1_otherKinds := goodIn_r _ [72, 56, 73, 48, 49, 44, 50, 46, 103, 104, 105, 102] (by decide +kernel) (by decide +kernel)
set_option maxRecDepth 20000 in
theorem gX8_clear_X1_otherKinds : GoodIn wsX8_clear (wsV RX8 114 RX1 yX1_otherKinds wsX1_otherKinds) := goodIn_app (goodIn_of _ (by decide +kernel)) ggX8_clear_X1_otherKinds
set_option maxRecDepth 20000 in
theorem ggX8_clear_X1_wipe : GoodIn wsX8_clear wsX1_wipe := goodIn_r _ [77, 56, 57, 58, 78, 79, 80, 44, 81, 46, 103, 104, 105, 102] (by decide +kernel) (by decide +kernel)
set_option maxRecDepth 20000 in
theorem gX8_clear_X1_wipe : GoodIn wsX8_clear (wsV RX8 117 RX1 yX1_wipe wsX1_wipe) := goodIn_app (goodIn_of _ (by decide +kernel)) ggX8_clear_X1_wipe
theorem dX8_clear_0 : decode cX8_clear 0 = .ok (.iload_n 1, 1) := by decide +kernel
theorem dX8_clear_1 : decode cX8_clear 1 = .ok (.invokestatic 48, 3) := by decide +kernel
theorem dX8_clear_4 : decode cX8_clear 4 = .ok (.ifCond .ne 6, 3) := by decide +kernel
theorem dX8_clear_7 : decode cX8_clear 7 = .ok (.bipush (-11), 2) := by decide +kernel
theorem dX8_clear_9 : decode cX8_clear 9 = .ok (.ireturn, 1) := by decide +kernel
theorem dX8_clear_10 : decode cX8_clear 10 = .ok (.aload_n 0, 1) := by decide +kernel
theorem dX8_clear_11 : decode cX8_clear 11 = .ok (.getfield 19, 3) := by decide +kernel
theorem dX8_clear_14 : decode cX8_clear 14 = .ok (.aload_n 0, 1) := by decide +kernel
theorem dX8_clear_15 : decode cX8_clear 15 = .ok (.getfield 12, 3) := by decide +kernel
theorem dX8_clear_18 : decode cX8_clear 18 = .ok (.invokevirtual 52, 3) := by decide +kernel
theorem dX8_clear_21 : decode cX8_clear 21 = .ok (.aload_n 0, 1) := by decide +kernel
theorem dX8_clear_22 : decode cX8_clear 22 = .ok (.getfield 12, 3) := by decide +kernel
theorem dX8_clear_25 : decode cX8_clear 25 = .ok (.iload_n 1, 1) := by decide +kernel
theorem dX8_clear_26 : decode cX8_clear 26 = .ok (.invokevirtual 55, 3) := by decide +kernel
theorem dX8_clear_29 : decode cX8_clear 29 = .ok (.invokevirtual 101, 3) := by decide +kernel
theorem dX8_clear_32 : decode cX8_clear 32 = .ok (.astore_n 2, 1) := by decide +kernel
theorem dX8_clear_33 : decode cX8_clear 33 = .ok (.aload_n 2, 1) := by decide +kernel
theorem dX8_clear_34 : decode cX8_clear 34 = .ok (.invokevirtual 114, 3) := by decide +kernel
theorem dX8_clear_37 : decode cX8_clear 37 = .ok (.istore_n 3, 1) := by decide +kernel
theorem dX8_clear_38 : decode cX8_clear 38 = .ok (.aload_n 2, 1) := by decide +kernel
theorem dX8_clear_39 : decode cX8_clear 39 = .ok (.invokevirtual 117, 3) := by decide +kernel
theorem dX8_clear_42 : decode cX8_clear 42 = .ok (.iload_n 3, 1) := by decide +kernel
theorem dX8_clear_43 : decode cX8_clear 43 = .ok (.ireturn, 1) := by decide +kernel
set_option maxRecDepth 20000 in
theorem ggX8_both_X8_isBit : GoodIn wsX8_both wsX8_isBit := goodIn_r _ [6] (by decide +kernel) (by decide +kernel)
set_option maxRecDepth 20000 in
theorem gX8_both_X8_isBit : GoodIn wsX8_both (va_wsS RX8 48 yX8_isBit wsX8_isBit) := goodIn_app (goodIn_of _ (by decide +kernel)) ggX8_both_X8_isBit
set_option maxRecDepth 20000 in
theorem ggX8_both_X2_keep : GoodIn wsX8_both wsX2_keep := goodIn_r _ [11, 12, 13, 14, 15, 16, 17, 18, 19, 20, 21, 22, 23, 24, 25, 26, 27, 28, 29, 30, 31, 32, 33, 34, 35, 36, 37, 38, 39, 40, 41, 42, 43, 44, 45, 46, 47, 48, 49, 50, 51, 52, 53, 54, 55, 56, 57, 58, 59, 60, 70, 71, 72, 73, 74, 75, 76, 77, 78, 79, 80, 81, 82, 83, 84, 85, 86, 87, 88] (by decide +kernel) (by decide +kernel)
set_option maxRecDepth 20000 in
theorem gX8_both_X2_keep : GoodIn wsX8_both (wsV RX8 52 RX2 yX2_keep wsX2_keep) := goodIn_app (goodIn_of _ (by decide +kernel)) ggX8_both_X2_keep
set_option maxRecDepth 20000 in
theorem ggX8_both_X6_askBoth : GoodIn wsX8_both wsX6_askBoth := goodIn_r _ [64, 30, 75, 76, 77, 78, 79, 80] (by decide +kernel) (by decide +kernel)
set_option maxRecDepth 20000 in
theorem gX8_both_X6_askBoth : GoodIn wsX8_both (wsV RX8 120 RX6 yX6_askBoth wsX6_askBoth) := goodIn_app (goodIn_of _ (by decide +kernel)) ggX8_both_X6_askBoth
theorem dX8_both_0 : decode cX8_both 0 = .ok (.iload_n 1, 1) := by decide +kernel
theorem dX8_both_1 : decode cX8_both 1 = .ok (.invokestatic 48, 3) := by decide +kernel
theorem dX8_both_4 : decode cX8_both 4 = .ok (.ifCond .ne 6, 3) := by decide +kernel
theorem dX8_both_7 : decode cX8_both 7 = .ok (.bipush (-11), 2) := by decide +kernel
theorem dX8_both_9 : decode cX8_both 9 = .ok (.ireturn, 1) := by decide +kernel
theorem dX8_both_10 : decode cX8_both 10 = .ok (.aload_n 0, 1) := by decide +kernel
theorem dX8_both_11 : decode cX8_both 11 = .ok (.getfield 19, 3) := by decide +kernel
theorem dX8_both_14 : decode cX8_both 14 = .ok (.aload_n 0, 1) := by decide +kernel
theorem dX8_both_15 : decode cX8_both 15 = .ok (.getfield 12, 3) := by decide +kernel
theorem dX8_both_18 : decode cX8_both 18 = .ok (.invokevirtual 52, 3) := by decide +kernel
theorem dX8_both_21 : decode cX8_both 21 = .ok (.aload_n 0, 1) := by decide +kernel
theorem dX8_both_22 : decode cX8_both 22 = .ok (.getfield 12, 3) := by decide +kernel
theorem dX8_both_25 : decode cX8_both 25 = .ok (.iload_n 1, 1) := by decide +kernel
theorem dX8_both_26 : decode cX8_both 26 = .ok (.invokevirtual 120, 3) := by decide +kernel
theorem dX8_both_29 : decode cX8_both 29 = .ok (.ireturn, 1) := by decide +kernel
set_option maxRecDepth 20000 in
theorem ggX8_order_X8_isBit : GoodIn wsX8_order wsX8_isBit := goodIn_r _ [7] (by decide +kernel) (by decide +kernel)
set_option maxRecDepth 20000 in
theorem gX8_order_X8_isBit : GoodIn wsX8_order (va_wsS RX8 48 yX8_isBit wsX8_isBit) := goodIn_app (goodIn_of _ (by decide +kernel)) ggX8_order_X8_isBit
set_option maxRecDepth 20000 in
theorem ggX8_order_X2_keep : GoodIn wsX8_order wsX2_keep := goodIn_r _ [12, 13, 14, 15, 16, 17, 18, 19, 20, 21, 22, 23, 24, 25, 26, 27, 28, 29, 30, 31, 32, 33, 34, 35, 36, 37, 38, 39, 40, 41, 42, 43, 44, 45, 46, 47, 48, 49, 50, 51, 52, 53, 54, 55, 56, 57, 58, 59, 60, 61, 159, 160, 161, 162, 163, 164, 165, 166, 167, 168, 169, 170, 171, 172, 173, 174, 175, 176, 177] (by decide +kernel) (by decide +kernel)
set_option maxRecDepth 20000 in
theorem gX8_order_X2_keep : GoodIn wsX8_order (wsV RX8 52 RX2 yX2_keep wsX2_keep) := goodIn_app (goodIn_of _ (by decide +kernel)) ggX8_order_X2_keep
set_option maxRecDepth 20000 in
theorem ggX8_order_X6_setOrder : GoodIn wsX8_order wsX6_setOrder := goodIn_r _ [65, 29, 30, 66, 67, 68, 45, 69, 47, 164, 165, 166, 167, 168, 169, 174] (by decide +kernel) (by decide +kernel)
set_option maxRecDepth 20000 in
theorem gX8_order_X6_setOrder : GoodIn wsX8_order (wsV RX8 123 RX6 yX6_setOrder wsX6_setOrder) := goodIn_app (goodIn_of _ (by decide +kernel)) ggX8_order_X6_setOrder
set_option maxRecDepth 20000 in
theorem ggX8_order_X5_find : GoodIn wsX8_order wsX5_find := goodIn_r _ [74, 75, 76, 77, 78, 79, 80, 73, 81, 82, 83, 84, 85, 86, 45, 87, 47, 88, 89, 90, 25, 91, 27, 28, 92, 93, 94, 36, 95, 39, 96, 97, 98, 99, 100, 101, 102, 103, 40, 104, 105, 106, 107, 31, 108, 109, 110, 55, 111, 57, 112, 49, 50, 51, 113, 114, 115, 116, 58, 117, 67, 68, 69, 118, 119, 120, 121, 122, 123, 124, 125, 41, 126, 127, 128, 129, 130, 131, 132, 133, 134, 135, 136, 137, 138, 139, 140, 141, 142, 38, 143, 144, 145, 146, 147, 148, 149, 150, 151, 152, 59, 153, 178, 179, 180, 181, 182, 183, 174, 164, 165, 166, 167, 168, 169, 170, 171, 172, 173, 175, 176, 177] (by decide +kernel) (by decide +kernel)
set_option maxRecDepth 20000 in
theorem gX8_order_X5_find : GoodIn wsX8_order (wsV RX8 127 RX5 yX5_find wsX5_find) := goodIn_app (goodIn_of _ (by decide +kernel)) ggX8_order_X5_find
theorem dX8_order_0 : decode cX8_order 0 = .ok (.iload_n 1, 1) := by decide +kernel
theorem dX8_order_1 : decode cX8_order 1 = .ok (.invokestatic 48, 3) := by decide +kernel
theorem dX8_order_4 : decode cX8_order 4 = .ok (.ifCond .eq 21, 3) := by decide +kernel
theorem dX8_order_7 : decode cX8_order 7 = .ok (.iload_n 2, 1) := by decide +kernel
theorem dX8_order_8 : decode cX8_order 8 = .ok (.iconst (-1), 1) := by decide +kernel
theorem dX8_order_9 : decode cX8_order 9 = .ok (.if_icmp .lt 16, 3) := by decide +kernel
theorem dX8_order_12 : decode cX8_order 12 = .ok (.iload_n 2, 1) := by decide +kernel
theorem dX8_order_13 : decode cX8_order 13 = .ok (.bipush 8, 2) := by decide +kernel
theorem dX8_order_15 : decode cX8_order 15 = .ok (.if_icmp .ge 10, 3) := by decide +kernel
theorem dX8_order_18 : decode cX8_order 18 = .ok (.iload_n 3, 1) := by decide +kernel
theorem dX8_order_19 : decode cX8_order 19 = .ok (.invokestatic 48, 3) := by decide +kernel
theorem dX8_order_22 : decode cX8_order 22 = .ok (.ifCond .ne 6, 3) := by decide +kernel
theorem dX8_order_25 : decode cX8_order 25 = .ok (.bipush (-11), 2) := by decide +kernel
theorem dX8_order_27 : decode cX8_order 27 = .ok (.ireturn, 1) := by decide +kernel
theorem dX8_order_28 : decode cX8_order 28 = .ok (.aload_n 0, 1) := by decide +kernel
theorem dX8_order_29 : decode cX8_order 29 = .ok (.getfield 19, 3) := by decide +kernel
theorem dX8_order_32 : decode cX8_order 32 = .ok (.aload_n 0, 1) := by decide +kernel
theorem dX8_order_33 : decode cX8_order 33 = .ok (.getfield 12, 3) := by decide +kernel
theorem dX8_order_36 : decode cX8_order 36 = .ok (.invokevirtual 52, 3) := by decide +kernel
theorem dX8_order_39 : decode cX8_order 39 = .ok (.aload_n 0, 1) := by decide +kernel
theorem dX8_order_40 : decode cX8_order 40 = .ok (.getfield 12, 3) := by decide +kernel
theorem dX8_order_43 : decode cX8_order 43 = .ok (.iload_n 1, 1) := by decide +kernel
theorem dX8_order_44 : decode cX8_order 44 = .ok (.iload_n 2, 1) := by decide +kernel
theorem dX8_order_45 : decode cX8_order 45 = .ok (.iload_n 3, 1) := by decide +kernel
theorem dX8_order_46 : decode cX8_order 46 = .ok (.invokevirtual 123, 3) := by decide +kernel
theorem dX8_order_49 : decode cX8_order 49 = .ok (.aload_n 0, 1) := by decide +kernel
theorem dX8_order_50 : decode cX8_order 50 = .ok (.getfield 28, 3) := by decide +kernel
theorem dX8_order_53 : decode cX8_order 53 = .ok (.iconst (-1), 1) := by decide +kernel
theorem dX8_order_54 : decode cX8_order 54 = .ok (.invokevirtual 127, 3) := by decide +kernel
theorem dX8_order_57 : decode cX8_order 57 = .ok (.ireturn, 1) := by decide +kernel
set_option maxRecDepth 20000 in
theorem ggX8_show_X2_keep : GoodIn wsX8_show wsX2_keep := goodIn_r _ [8, 9, 10, 11, 12, 13, 14, 15, 16, 17, 18, 19, 20, 21, 22, 23, 24, 25, 26, 27, 28, 29, 30, 31, 32, 33, 34, 35, 36, 37, 38, 39, 40, 41, 42, 43, 44, 45, 46, 47, 48, 49, 50, 51, 52, 53, 54, 55, 56, 57, 177, 178, 179, 180, 181, 182, 183, 184, 185, 186, 187, 188, 189, 190, 191, 192, 193, 194, 195] (by decide +kernel) (by decide +kernel)
set_option maxRecDepth 20000 in
theorem gX8_show_X2_keep : GoodIn wsX8_show (wsV RX8 52 RX2 yX2_keep wsX2_keep) := goodIn_app (goodIn_of _ (by decide +kernel)) ggX8_show_X2_keep
set_option maxRecDepth 20000 in
theorem ggX8_show_X6_setShown : GoodIn wsX8_show wsX6_setShown := goodIn_r _ [61, 28, 182, 183, 184, 185, 186, 187] (by decide +kernel) (by decide +kernel)
set_option maxRecDepth 20000 in
theorem gX8_show_X6_setShown : GoodIn wsX8_show (wsV RX8 130 RX6 yX6_setShown wsX6_setShown) := goodIn_app (goodIn_of _ (by decide +kernel)) ggX8_show_X6_setShown
set_option maxRecDepth 20000 in
theorem ggX8_show_X5_countUnlike : GoodIn wsX8_show wsX5_countUnlike := goodIn_r _ [66, 67, 68, 69, 70, 71, 72, 65, 73, 74, 75, 76, 77, 78, 79, 80, 81, 82, 83, 41, 84, 43, 85, 86, 87, 21, 88, 23, 24, 89, 90, 91, 32, 92, 35, 93, 94, 95, 96, 97, 98, 99, 100, 36, 101, 102, 103, 104, 27, 105, 106, 107, 51, 108, 53, 109, 45, 46, 47, 110, 111, 112, 113, 54, 114, 115, 116, 117, 118, 119, 120, 121, 122, 123, 124, 125, 37, 126, 127, 128, 129, 130, 131, 132, 133, 134, 135, 136, 137, 138, 139, 140, 141, 142, 34, 143, 144, 145, 146, 147, 148, 149, 150, 151, 152, 55, 153, 154, 155, 156, 157, 158, 159, 160, 161, 162, 163, 164, 165, 166, 28, 167, 168, 169, 170, 171, 196, 197, 198, 199, 200, 201, 192, 182, 183, 184, 185, 186, 187, 188, 189, 190, 191, 193, 194, 195] (by decide +kernel) (by decide +kernel)
set_option maxRecDepth 20000 in
theorem gX8_show_X5_countUnlike : GoodIn wsX8_show (wsV RX8 134 RX5 yX5_countUnlike wsX5_countUnlike) := goodIn_app (goodIn_of _ (by decide +kernel)) ggX8_show_X5_countUnlike
theorem dX8_show_0 : decode cX8_show 0 = .ok (.iload_n 1, 1) := by decide +kernel
theorem dX8_show_1 : decode cX8_show 1 = .ok (.ifCond .lt 10, 3) := by decide +kernel
theorem dX8_show_4 : decode cX8_show 4 = .ok (.iload_n 1, 1) := by decide +kernel
theorem dX8_show_5 : decode cX8_show 5 = .ok (.sipush 255, 3) := by decide +kernel
theorem dX8_show_8 : decode cX8_show 8 = .ok (.if_icmp .le 6, 3) := by decide +kernel
theorem dX8_show_11 : decode cX8_show 11 = .ok (.bipush (-11), 2) := by decide +kernel
theorem dX8_show_13 : decode cX8_show 13 = .ok (.ireturn, 1) := by decide +kernel
theorem dX8_show_14 : decode cX8_show 14 = .ok (.aload_n 0, 1) := by decide +kernel
theorem dX8_show_15 : decode cX8_show 15 = .ok (.getfield 19, 3) := by decide +kernel
theorem dX8_show_18 : decode cX8_show 18 = .ok (.aload_n 0, 1) := by decide +kernel
theorem dX8_show_19 : decode cX8_show 19 = .ok (.getfield 12, 3) := by decide +kernel
theorem dX8_show_22 : decode cX8_show 22 = .ok (.invokevirtual 52, 3) := by decide +kernel
theorem dX8_show_25 : decode cX8_show 25 = .ok (.aload_n 0, 1) := by decide +kernel
theorem dX8_show_26 : decode cX8_show 26 = .ok (.getfield 12, 3) := by decide +kernel
theorem dX8_show_29 : decode cX8_show 29 = .ok (.iload_n 1, 1) := by decide +kernel
theorem dX8_show_30 : decode cX8_show 30 = .ok (.invokevirtual 130, 3) := by decide +kernel
theorem dX8_show_33 : decode cX8_show 33 = .ok (.aload_n 0, 1) := by decide +kernel
theorem dX8_show_34 : decode cX8_show 34 = .ok (.getfield 28, 3) := by decide +kernel
theorem dX8_show_37 : decode cX8_show 37 = .ok (.invokevirtual 134, 3) := by decide +kernel
theorem dX8_show_40 : decode cX8_show 40 = .ok (.ireturn, 1) := by decide +kernel
set_option maxRecDepth 20000 in
theorem ggX8_cellOf_X8_isCell : GoodIn wsX8_cellOf wsX8_isCell := goodIn_r _ [6, 1, 7, 8, 5, 9, 10, 11, 12, 13, 14, 15, 16, 17, 18, 19, 20, 21, 22, 70, 71, 72, 73, 74, 75, 76, 77, 78, 79, 80, 81, 82, 83, 84] (by decide +kernel) (by decide +kernel)
set_option maxRecDepth 20000 in
theorem gX8_cellOf_X8_isCell : GoodIn wsX8_cellOf (wsV RX8 94 RX8 yX8_isCell wsX8_isCell) := goodIn_app (goodIn_of _ (by decide +kernel)) ggX8_cellOf_X8_isCell
set_option maxRecDepth 20000 in
theorem ggX8_cellOf_X6_drawer : GoodIn wsX8_cellOf wsX6_drawer := goodIn_r _ [14, 15, 16, 75, 76, 77, 78, 79, 80] (by decide +kernel) (by decide +kernel)
set_option maxRecDepth 20000 in
theorem gX8_cellOf_X6_drawer : GoodIn wsX8_cellOf (wsV RX8 55 RX6 yX6_drawer wsX6_drawer) := goodIn_app (goodIn_of _ (by decide +kernel)) ggX8_cellOf_X6_drawer
set_option maxRecDepth 20000 in
theorem ggX8_cellOf_X0_example : GoodIn wsX8_cellOf wsX0_example := goodIn_r _ [26, 27, 81, 82, 83, 84] (by decide +kernel) (by decide +kernel)
set_option maxRecDepth 20000 in
theorem gX8_cellOf_X0_example : GoodIn wsX8_cellOf (wsV RX8 101 RX0 yX0_example wsX0_example) := goodIn_app (goodIn_of _ (by decide +kernel)) ggX8_cellOf_X0_example
set_option maxRecDepth 20000 in
theorem ggX8_cellOf_X1_kindAt : GoodIn wsX8_cellOf wsX1_kindAt := goodIn_r _ [32, 33, 34, 35, 36, 37, 38, 39, 85, 86, 87, 88] (by decide +kernel) (by decide +kernel)
set_option maxRecDepth 20000 in
theorem gX8_cellOf_X1_kindAt : GoodIn wsX8_cellOf (wsV RX8 105 RX1 yX1_kindAt wsX1_kindAt) := goodIn_app (goodIn_of _ (by decide +kernel)) ggX8_cellOf_X1_kindAt
set_option maxRecDepth 20000 in
theorem ggX8_cellOf_X1_firstAt : GoodIn wsX8_cellOf wsX1_firstAt := goodIn_r _ [43, 44, 34, 35, 36, 37, 38, 39, 85, 86, 87, 88] (by decide +kernel) (by decide +kernel)
set_option maxRecDepth 20000 in
theorem gX8_cellOf_X1_firstAt : GoodIn wsX8_cellOf (wsV RX8 137 RX1 yX1_firstAt wsX1_firstAt) := goodIn_app (goodIn_of _ (by decide +kernel)) ggX8_cellOf_X1_firstAt
set_option maxRecDepth 20000 in
theorem ggX8_cellOf_X1_secondAt : GoodIn wsX8_cellOf wsX1_secondAt := goodIn_r _ [48, 49, 34, 35, 36, 37, 38, 39, 85, 86, 87, 88] (by decide +kernel) (by decide +kernel)
set_option maxRecDepth 20000 in
theorem gX8_cellOf_X1_secondAt : GoodIn wsX8_cellOf (wsV RX8 140 RX1 yX1_secondAt wsX1_secondAt) := goodIn_app (goodIn_of _ (by decide +kernel)) ggX8_cellOf_X1_secondAt
set_option maxRecDepth 20000 in
theorem ggX8_cellOf_X0_countFitting : GoodIn wsX8_cellOf wsX0_countFitting := goodIn_r _ [53, 54, 27, 55, 56, 57, 20, 58, 59, 60, 61, 62, 63, 64, 18, 19, 21, 22, 65, 35, 36, 37, 38, 39, 66, 67, 68, 31, 69, 33, 44, 49, 34, 81, 82, 83, 84, 88, 85, 86, 87] (by decide +kernel) (by decide +kernel)
set_option maxRecDepth 20000 in
theorem gX8_cellOf_X0_countFitting : GoodIn wsX8_cellOf (wsV RX8 143 RX0 yX0_countFitting wsX0_countFitting) := goodIn_app (goodIn_of _ (by decide +kernel)) ggX8_cellOf_X0_countFitting
theorem dX8_cellOf_0 : decode cX8_cellOf 0 = .ok (.aload_n 0, 1) := by decide +kernel
theorem dX8_cellOf_1 : decode cX8_cellOf 1 = .ok (.iload_n 1, 1) := by decide +kernel
theorem dX8_cellOf_2 : decode cX8_cellOf 2 = .ok (.iload_n 2, 1) := by decide +kernel
theorem dX8_cellOf_3 : decode cX8_cellOf 3 = .ok (.invokevirtual 94, 3) := by decide +kernel
theorem dX8_cellOf_6 : decode cX8_cellOf 6 = .ok (.ifCond .eq 12, 3) := by decide +kernel
theorem dX8_cellOf_9 : decode cX8_cellOf 9 = .ok (.iload_n 3, 1) := by decide +kernel
theorem dX8_cellOf_10 : decode cX8_cellOf 10 = .ok (.ifCond .lt 8, 3) := by decide +kernel
theorem dX8_cellOf_13 : decode cX8_cellOf 13 = .ok (.iload_n 3, 1) := by decide +kernel
theorem dX8_cellOf_14 : decode cX8_cellOf 14 = .ok (.iconst 3, 1) := by decide +kernel
theorem dX8_cellOf_15 : decode cX8_cellOf 15 = .ok (.if_icmp .le 6, 3) := by decide +kernel
theorem dX8_cellOf_18 : decode cX8_cellOf 18 = .ok (.bipush (-11), 2) := by decide +kernel
theorem dX8_cellOf_20 : decode cX8_cellOf 20 = .ok (.ireturn, 1) := by decide +kernel
theorem dX8_cellOf_21 : decode cX8_cellOf 21 = .ok (.aload_n 0, 1) := by decide +kernel
theorem dX8_cellOf_22 : decode cX8_cellOf 22 = .ok (.getfield 12, 3) := by decide +kernel
theorem dX8_cellOf_25 : decode cX8_cellOf 25 = .ok (.iload_n 1, 1) := by decide +kernel
theorem dX8_cellOf_26 : decode cX8_cellOf 26 = .ok (.invokevirtual 55, 3) := by decide +kernel
theorem dX8_cellOf_29 : decode cX8_cellOf 29 = .ok (.astore 4, 2) := by decide +kernel
theorem dX8_cellOf_31 : decode cX8_cellOf 31 = .ok (.iload_n 3, 1) := by decide +kernel
theorem dX8_cellOf_32 : decode cX8_cellOf 32 = .ok (.tableswitch 58 0 2 #[28, 38, 48], 28) := by decide +kernel
theorem dX8_cellOf_60 : decode cX8_cellOf 60 = .ok (.aload 4, 2) := by decide +kernel
theorem dX8_cellOf_62 : decode cX8_cellOf 62 = .ok (.invokevirtual 101, 3) := by decide +kernel
theorem dX8_cellOf_65 : decode cX8_cellOf 65 = .ok (.iload_n 2, 1) := by decide +kernel
theorem dX8_cellOf_66 : decode cX8_cellOf 66 = .ok (.invokevirtual 105, 3) := by decide +kernel
theorem dX8_cellOf_69 : decode cX8_cellOf 69 = .ok (.ireturn, 1) := by decide +kernel
theorem dX8_cellOf_70 : decode cX8_cellOf 70 = .ok (.aload 4, 2) := by decide +kernel
theorem dX8_cellOf_72 : decode cX8_cellOf 72 = .ok (.invokevirtual 101, 3) := by decide +kernel
theorem dX8_cellOf_75 : decode cX8_cellOf 75 = .ok (.iload_n 2, 1) := by decide +kernel
theorem dX8_cellOf_76 : decode cX8_cellOf 76 = .ok (.invokevirtual 137, 3) := by decide +kernel
theorem dX8_cellOf_79 : decode cX8_cellOf 79 = .ok (.ireturn, 1) := by decide +kernel
theorem dX8_cellOf_80 : decode cX8_cellOf 80 = .ok (.aload 4, 2) := by decide +kernel
theorem dX8_cellOf_82 : decode cX8_cellOf 82 = .ok (.invokevirtual 101, 3) := by decide +kernel
theorem dX8_cellOf_85 : decode cX8_cellOf 85 = .ok (.iload_n 2, 1) := by decide +kernel
theorem dX8_cellOf_86 : decode cX8_cellOf 86 = .ok (.invokevirtual 140, 3) := by decide +kernel
theorem dX8_cellOf_89 : decode cX8_cellOf 89 = .ok (.ireturn, 1) := by decide +kernel
theorem dX8_cellOf_90 : decode cX8_cellOf 90 = .ok (.aload 4, 2) := by decide +kernel
theorem dX8_cellOf_92 : decode cX8_cellOf 92 = .ok (.iload_n 2, 1) := by decide +kernel
theorem dX8_cellOf_93 : decode cX8_cellOf 93 = .ok (.invokevirtual 143, 3) := by decide +kernel
theorem dX8_cellOf_96 : decode cX8_cellOf 96 = .ok (.ireturn, 1) := by decide +kernel
set_option maxRecDepth 20000 in
theorem ggX8_many_X5_find : GoodIn wsX8_many wsX5_find := goodIn_r _ [6, 7, 8, 9, 10, 11, 12, 5, 13, 14, 15, 16, 17, 18, 19, 20, 21, 22, 23, 24, 25, 26, 27, 28, 29, 30, 31, 32, 33, 34, 35, 36, 37, 38, 39, 40, 41, 42, 43, 44, 45, 46, 47, 48, 49, 50, 51, 52, 53, 54, 55, 56, 57, 58, 59, 60, 61, 62, 63, 64, 65, 66, 67, 68, 69, 70, 71, 72, 73, 74, 75, 76, 77, 78, 79, 80, 81, 82, 83, 84, 85, 86, 87, 88, 89, 90, 91, 92, 93, 94, 95, 96, 97, 98, 99, 100, 101, 102, 103, 104, 105, 106, 112, 113, 114, 115, 116, 117, 118, 119, 120, 121, 122, 123, 124, 125, 126, 127, 128, 129, 130, 131] (by decide +kernel) (by decide +kernel)
set_option maxRecDepth 20000 in
theorem gX8_many_X5_find : GoodIn wsX8_many (wsV RX8 127 RX5 yX5_find wsX5_find) := goodIn_app (goodIn_of _ (by decide +kernel)) ggX8_many_X5_find
theorem dX8_many_0 : decode cX8_many 0 = .ok (.aload_n 0, 1) := by decide +kernel
theorem dX8_many_1 : decode cX8_many 1 = .ok (.getfield 28, 3) := by decide +kernel
theorem dX8_many_4 : decode cX8_many 4 = .ok (.iconst (-1), 1) := by decide +kernel
theorem dX8_many_5 : decode cX8_many 5 = .ok (.invokevirtual 127, 3) := by decide +kernel
theorem dX8_many_8 : decode cX8_many 8 = .ok (.ireturn, 1) := by decide +kernel
set_option maxRecDepth 20000 in
theorem ggX8_row_X8_isAboutRow : GoodIn wsX8_row wsX8_isAboutRow := goodIn_r _ [6, 7, 8, 5, 9] (by decide +kernel) (by decide +kernel)
set_option maxRecDepth 20000 in
theorem gX8_row_X8_isAboutRow : GoodIn wsX8_row (va_wsS RX8 146 yX8_isAboutRow wsX8_isAboutRow) := goodIn_app (goodIn_of _ (by decide +kernel)) ggX8_row_X8_isAboutRow
set_option maxRecDepth 20000 in
theorem ggX8_row_X5_find : GoodIn wsX8_row wsX5_find := goodIn_r _ [14, 15, 16, 17, 18, 19, 20, 13, 21, 22, 23, 24, 25, 26, 27, 28, 29, 30, 31, 32, 33, 34, 35, 36, 37, 38, 39, 40, 41, 42, 43, 44, 45, 46, 47, 48, 49, 50, 51, 52, 53, 54, 55, 56, 57, 58, 59, 60, 61, 62, 63, 64, 65, 66, 67, 68, 69, 70, 71, 72, 73, 74, 75, 76, 77, 78, 79, 80, 81, 82, 83, 84, 85, 86, 87, 88, 89, 90, 91, 92, 93, 94, 95, 96, 97, 98, 99, 100, 101, 102, 103, 104, 105, 106, 107, 108, 109, 110, 111, 112, 113, 114, 150, 151, 152, 153, 154, 155, 156, 157, 158, 159, 160, 161, 162, 163, 164, 165, 166, 167, 168, 169] (by decide +kernel) (by decide +kernel)
set_option maxRecDepth 20000 in
theorem gX8_row_X5_find : GoodIn wsX8_row (wsV RX8 127 RX5 yX5_find wsX5_find) := goodIn_app (goodIn_of _ (by decide +kernel)) ggX8_row_X5_find
set_option maxRecDepth 20000 in
theorem ggX8_row_X5_inOrder : GoodIn wsX8_row wsX5_inOrder := goodIn_r _ [118, 15, 17, 114, 64, 65, 27, 66, 29, 119, 120, 121, 13, 122, 123, 124, 125, 126, 16, 127, 128, 129, 33, 130, 131, 132, 43, 44, 45, 46, 35, 36, 47, 48, 49, 40, 50, 51, 52, 53, 54, 55, 56, 94, 95, 96, 97, 98, 99, 100, 101, 102, 103, 104, 105, 106, 84, 107, 108, 133, 134, 135, 136, 137, 72, 73, 74, 75, 150, 151, 152, 153, 154, 155, 156, 157, 158, 159, 160, 161, 162, 163, 164, 165, 166] (by decide +kernel) (by decide +kernel)
set_option maxRecDepth 20000 in
theorem gX8_row_X5_inOrder : GoodIn wsX8_row (wsV RX8 149 RX5 yX5_inOrder wsX5_inOrder) := goodIn_app (goodIn_of _ (by decide +kernel)) ggX8_row_X5_inOrder
set_option maxRecDepth 20000 in
theorem ggX8_row_X6_isOfBoth : GoodIn wsX8_row wsX6_isOfBoth := goodIn_r _ [55, 56, 157, 158, 159, 160, 161, 162] (by decide +kernel) (by decide +kernel)
set_option maxRecDepth 20000 in
theorem gX8_row_X6_isOfBoth : GoodIn wsX8_row (wsV RX8 152 RX6 yX6_isOfBoth wsX6_isOfBoth) := goodIn_app (goodIn_of _ (by decide +kernel)) ggX8_row_X6_isOfBoth
set_option maxRecDepth 20000 in
theorem ggX8_row_X5_tellerOf : GoodIn wsX8_row wsX5_tellerOf := goodIn_r _ [142, 23, 114, 64, 65, 27, 66, 29, 150, 151, 152, 153, 154, 155, 156] (by decide +kernel) (by decide +kernel)
set_option maxRecDepth 20000 in
theorem gX8_row_X5_tellerOf : GoodIn wsX8_row (wsV RX8 156 RX5 yX5_tellerOf wsX5_tellerOf) := goodIn_app (goodIn_of _ (by decide +kernel)) ggX8_row_X5_tellerOf
set_option maxRecDepth 20000 in
theorem ggX8_row_X6_isAsked : GoodIn wsX8_row wsX6_isAsked := goodIn_r _ [46, 35, 36, 47, 48, 49, 40, 50, 51, 52, 53, 54, 33, 55, 56, 157, 158, 159, 160, 161, 162, 163, 164, 165, 166] (by decide +kernel) (by decide +kernel)
set_option maxRecDepth 20000 in
theorem gX8_row_X6_isAsked : GoodIn wsX8_row (wsV RX8 159 RX6 yX6_isAsked wsX6_isAsked) := goodIn_app (goodIn_of _ (by decide +kernel)) ggX8_row_X6_isAsked
set_option maxRecDepth 20000 in
theorem ggX8_row_X6_entry : GoodIn wsX8_row wsX6_entry := goodIn_r _ [97, 35, 36, 98, 99, 100, 40, 101, 102, 103, 104, 105, 106, 84, 107, 48, 49, 50, 51, 108, 64, 65, 27, 66, 29, 157, 158, 159, 160, 161, 162, 163, 164, 165, 166, 156] (by decide +kernel) (by decide +kernel)
set_option maxRecDepth 20000 in
theorem gX8_row_X6_entry : GoodIn wsX8_row (wsV RX8 162 RX6 yX6_entry wsX6_entry) := goodIn_app (goodIn_of _ (by decide +kernel)) ggX8_row_X6_entry
theorem dX8_row_0 : decode cX8_row 0 = .ok (.iload_n 1, 1) := by decide +kernel
theorem dX8_row_1 : decode cX8_row 1 = .ok (.ifCond .lt 10, 3) := by decide +kernel
theorem dX8_row_4 : decode cX8_row 4 = .ok (.iload_n 2, 1) := by decide +kernel
theorem dX8_row_5 : decode cX8_row 5 = .ok (.invokestatic 146, 3) := by decide +kernel
theorem dX8_row_8 : decode cX8_row 8 = .ok (.ifCond .ne 6, 3) := by decide +kernel
theorem dX8_row_11 : decode cX8_row 11 = .ok (.bipush (-11), 2) := by decide +kernel
theorem dX8_row_13 : decode cX8_row 13 = .ok (.ireturn, 1) := by decide +kernel
theorem dX8_row_14 : decode cX8_row 14 = .ok (.iload_n 1, 1) := by decide +kernel
theorem dX8_row_15 : decode cX8_row 15 = .ok (.aload_n 0, 1) := by decide +kernel
theorem dX8_row_16 : decode cX8_row 16 = .ok (.getfield 28, 3) := by decide +kernel
theorem dX8_row_19 : decode cX8_row 19 = .ok (.iconst (-1), 1) := by decide +kernel
theorem dX8_row_20 : decode cX8_row 20 = .ok (.invokevirtual 127, 3) := by decide +kernel
theorem dX8_row_23 : decode cX8_row 23 = .ok (.if_icmp .lt 6, 3) := by decide +kernel
theorem dX8_row_26 : decode cX8_row 26 = .ok (.bipush (-14), 2) := by decide +kernel
theorem dX8_row_28 : decode cX8_row 28 = .ok (.ireturn, 1) := by decide +kernel
theorem dX8_row_29 : decode cX8_row 29 = .ok (.aload_n 0, 1) := by decide +kernel
theorem dX8_row_30 : decode cX8_row 30 = .ok (.getfield 28, 3) := by decide +kernel
theorem dX8_row_33 : decode cX8_row 33 = .ok (.iload_n 1, 1) := by decide +kernel
theorem dX8_row_34 : decode cX8_row 34 = .ok (.invokevirtual 149, 3) := by decide +kernel
theorem dX8_row_37 : decode cX8_row 37 = .ok (.istore_n 3, 1) := by decide +kernel
theorem dX8_row_38 : decode cX8_row 38 = .ok (.iload_n 2, 1) := by decide +kernel
theorem dX8_row_39 : decode cX8_row 39 = .ok (.ifCond .ne 8, 3) := by decide +kernel
theorem dX8_row_42 : decode cX8_row 42 = .ok (.iload_n 3, 1) := by decide +kernel
theorem dX8_row_43 : decode cX8_row 43 = .ok (.bipush 12, 2) := by decide +kernel
theorem dX8_row_45 : decode cX8_row 45 = .ok (.idiv, 1) := by decide +kernel
theorem dX8_row_46 : decode cX8_row 46 = .ok (.ireturn, 1) := by decide +kernel
theorem dX8_row_47 : decode cX8_row 47 = .ok (.iload_n 2, 1) := by decide +kernel
theorem dX8_row_48 : decode cX8_row 48 = .ok (.iconst 1, 1) := by decide +kernel
theorem dX8_row_49 : decode cX8_row 49 = .ok (.if_icmp .ne 23, 3) := by decide +kernel
theorem dX8_row_52 : decode cX8_row 52 = .ok (.aload_n 0, 1) := by decide +kernel
theorem dX8_row_53 : decode cX8_row 53 = .ok (.getfield 12, 3) := by decide +kernel
theorem dX8_row_56 : decode cX8_row 56 = .ok (.invokevirtual 152, 3) := by decide +kernel
theorem dX8_row_59 : decode cX8_row 59 = .ok (.ifCond .eq 10, 3) := by decide +kernel
theorem dX8_row_62 : decode cX8_row 62 = .ok (.iload_n 3, 1) := by decide +kernel
theorem dX8_row_63 : decode cX8_row 63 = .ok (.bipush 12, 2) := by decide +kernel
theorem dX8_row_65 : decode cX8_row 65 = .ok (.irem, 1) := by decide +kernel
theorem dX8_row_66 : decode cX8_row 66 = .ok (.goto 5, 3) := by decide +kernel
theorem dX8_row_69 : decode cX8_row 69 = .ok (.bipush (-14), 2) := by decide +kernel
theorem dX8_row_71 : decode cX8_row 71 = .ok (.ireturn, 1) := by decide +kernel
theorem dX8_row_72 : decode cX8_row 72 = .ok (.iload_n 2, 1) := by decide +kernel
theorem dX8_row_73 : decode cX8_row 73 = .ok (.bipush 20, 2) := by decide +kernel
theorem dX8_row_75 : decode cX8_row 75 = .ok (.if_icmp .ge 10, 3) := by decide +kernel
theorem dX8_row_78 : decode cX8_row 78 = .ok (.iload_n 2, 1) := by decide +kernel
theorem dX8_row_79 : decode cX8_row 79 = .ok (.bipush 10, 2) := by decide +kernel
theorem dX8_row_81 : decode cX8_row 81 = .ok (.isub, 1) := by decide +kernel
theorem dX8_row_82 : decode cX8_row 82 = .ok (.goto 14, 3) := by decide +kernel
theorem dX8_row_85 : decode cX8_row 85 = .ok (.aload_n 0, 1) := by decide +kernel
theorem dX8_row_86 : decode cX8_row 86 = .ok (.getfield 28, 3) := by decide +kernel
theorem dX8_row_89 : decode cX8_row 89 = .ok (.iload_n 2, 1) := by decide +kernel
theorem dX8_row_90 : decode cX8_row 90 = .ok (.bipush 20, 2) := by decide +kernel
theorem dX8_row_92 : decode cX8_row 92 = .ok (.isub, 1) := by decide +kernel
theorem dX8_row_93 : decode cX8_row 93 = .ok (.invokevirtual 156, 3) := by decide +kernel
theorem dX8_row_96 : decode cX8_row 96 = .ok (.istore 4, 2) := by decide +kernel
theorem dX8_row_98 : decode cX8_row 98 = .ok (.aload_n 0, 1) := by decide +kernel
theorem dX8_row_99 : decode cX8_row 99 = .ok (.getfield 12, 3) := by decide +kernel
theorem dX8_row_102 : decode cX8_row 102 = .ok (.iload 4, 2) := by decide +kernel
theorem dX8_row_104 : decode cX8_row 104 = .ok (.invokevirtual 159, 3) := by decide +kernel
theorem dX8_row_107 : decode cX8_row 107 = .ok (.ifCond .eq 16, 3) := by decide +kernel
theorem dX8_row_110 : decode cX8_row 110 = .ok (.aload_n 0, 1) := by decide +kernel
theorem dX8_row_111 : decode cX8_row 111 = .ok (.getfield 12, 3) := by decide +kernel
theorem dX8_row_114 : decode cX8_row 114 = .ok (.iload 4, 2) := by decide +kernel
theorem dX8_row_116 : decode cX8_row 116 = .ok (.iload_n 3, 1) := by decide +kernel
theorem dX8_row_117 : decode cX8_row 117 = .ok (.invokevirtual 162, 3) := by decide +kernel
theorem dX8_row_120 : decode cX8_row 120 = .ok (.goto 5, 3) := by decide +kernel
theorem dX8_row_123 : decode cX8_row 123 = .ok (.bipush (-14), 2) := by decide +kernel
theorem dX8_row_125 : decode cX8_row 125 = .ok (.ireturn, 1) := by decide +kernel
set_option maxRecDepth 20000 in
theorem ggX8_total_X6_isAsked : GoodIn wsX8_total wsX6_isAsked := goodIn_r _ [7, 8, 9, 10, 11, 12, 13, 14, 15, 16, 17, 18, 6, 19, 20, 130, 131, 132, 133, 134, 135, 136, 137, 138, 139] (by decide +kernel) (by decide +kernel)
set_option maxRecDepth 20000 in
theorem gX8_total_X6_isAsked : GoodIn wsX8_total (wsV RX8 159 RX6 yX6_isAsked wsX6_isAsked) := goodIn_app (goodIn_of _ (by decide +kernel)) ggX8_total_X6_isAsked
set_option maxRecDepth 20000 in
theorem ggX8_total_X5_sumUp : GoodIn wsX8_total wsX5_sumUp := goodIn_r _ [25, 26, 27, 28, 29, 30, 31, 32, 33, 34, 35, 36, 37, 38, 39, 24, 40, 41, 42, 43, 44, 45, 46, 47, 48, 49, 50, 51, 52, 53, 54, 55, 6, 56, 8, 9, 57, 58, 59, 13, 60, 61, 62, 4, 5, 7, 10, 11, 12, 14, 15, 16, 17, 18, 19, 20, 63, 64, 65, 66, 67, 68, 69, 70, 71, 72, 73, 74, 75, 76, 77, 78, 79, 80, 81, 82, 83, 84, 85, 86, 87, 88, 89, 90, 91, 92, 93, 94, 95, 96, 97, 98, 99, 100, 101, 102, 103, 104, 105, 106, 107, 108, 109, 110, 111, 112, 113, 114, 115, 116, 117, 118, 119, 120, 121, 122, 123, 124, 140, 141, 142, 143, 144, 145, 146, 130, 131, 132, 133, 134, 135, 136, 137, 138, 139, 147, 148, 149] (by decide +kernel) (by decide +kernel)
set_option maxRecDepth 20000 in
theorem gX8_total_X5_sumUp : GoodIn wsX8_total (wsV RX8 163 RX5 yX5_sumUp wsX5_sumUp) := goodIn_app (goodIn_of _ (by decide +kernel)) ggX8_total_X5_sumUp
theorem dX8_total_0 : decode cX8_total 0 = .ok (.iload_n 1, 1) := by decide +kernel
theorem dX8_total_1 : decode cX8_total 1 = .ok (.ifCond .lt 18, 3) := by decide +kernel
theorem dX8_total_4 : decode cX8_total 4 = .ok (.iload_n 1, 1) := by decide +kernel
theorem dX8_total_5 : decode cX8_total 5 = .ok (.bipush 8, 2) := by decide +kernel
theorem dX8_total_7 : decode cX8_total 7 = .ok (.if_icmp .ge 12, 3) := by decide +kernel
theorem dX8_total_10 : decode cX8_total 10 = .ok (.iload_n 2, 1) := by decide +kernel
theorem dX8_total_11 : decode cX8_total 11 = .ok (.ifCond .lt 8, 3) := by decide +kernel
theorem dX8_total_14 : decode cX8_total 14 = .ok (.iload_n 2, 1) := by decide +kernel
theorem dX8_total_15 : decode cX8_total 15 = .ok (.iconst 4, 1) := by decide +kernel
theorem dX8_total_16 : decode cX8_total 16 = .ok (.if_icmp .le 6, 3) := by decide +kernel
theorem dX8_total_19 : decode cX8_total 19 = .ok (.bipush (-11), 2) := by decide +kernel
theorem dX8_total_21 : decode cX8_total 21 = .ok (.ireturn, 1) := by decide +kernel
theorem dX8_total_22 : decode cX8_total 22 = .ok (.aload_n 0, 1) := by decide +kernel
theorem dX8_total_23 : decode cX8_total 23 = .ok (.getfield 12, 3) := by decide +kernel
theorem dX8_total_26 : decode cX8_total 26 = .ok (.iload_n 1, 1) := by decide +kernel
theorem dX8_total_27 : decode cX8_total 27 = .ok (.invokevirtual 159, 3) := by decide +kernel
theorem dX8_total_30 : decode cX8_total 30 = .ok (.ifCond .eq 15, 3) := by decide +kernel
theorem dX8_total_33 : decode cX8_total 33 = .ok (.aload_n 0, 1) := by decide +kernel
theorem dX8_total_34 : decode cX8_total 34 = .ok (.getfield 28, 3) := by decide +kernel
theorem dX8_total_37 : decode cX8_total 37 = .ok (.iload_n 1, 1) := by decide +kernel
theorem dX8_total_38 : decode cX8_total 38 = .ok (.iload_n 2, 1) := by decide +kernel
theorem dX8_total_39 : decode cX8_total 39 = .ok (.invokevirtual 163, 3) := by decide +kernel
theorem dX8_total_42 : decode cX8_total 42 = .ok (.goto 5, 3) := by decide +kernel
theorem dX8_total_45 : decode cX8_total 45 = .ok (.bipush (-14), 2) := by decide +kernel
theorem dX8_total_47 : decode cX8_total 47 = .ok (.ireturn, 1) := by decide +kernel
set_option maxRecDepth 20000 in
theorem ggX8_unlike_X5_countUnlike : GoodIn wsX8_unlike wsX5_countUnlike := goodIn_r _ [6, 7, 8, 9, 10, 11, 12, 5, 13, 14, 15, 16, 17, 18, 19, 20, 21, 22, 23, 24, 25, 26, 27, 28, 29, 30, 31, 32, 33, 34, 35, 36, 37, 38, 39, 40, 41, 42, 43, 44, 45, 46, 47, 48, 49, 50, 51, 52, 53, 54, 55, 56, 57, 58, 59, 60, 61, 62, 63, 64, 65, 66, 67, 68, 69, 70, 71, 72, 73, 74, 75, 76, 77, 78, 79, 80, 81, 82, 83, 84, 85, 86, 87, 88, 89, 90, 91, 92, 93, 94, 95, 96, 97, 98, 99, 100, 101, 102, 103, 104, 105, 106, 107, 108, 109, 110, 111, 112, 113, 114, 115, 116, 117, 118, 119, 120, 121, 122, 123, 124, 125, 126, 127, 128, 129, 130, 136, 137, 138, 139, 140, 141, 142, 143, 144, 145, 146, 147, 148, 149, 150, 151, 152, 153, 154, 155] (by decide +kernel) (by decide +kernel)
set_option maxRecDepth 20000 in
theorem gX8_unlike_X5_countUnlike : GoodIn wsX8_unlike (wsV RX8 134 RX5 yX5_countUnlike wsX5_countUnlike) := goodIn_app (goodIn_of _ (by decide +kernel)) ggX8_unlike_X5_countUnlike
theorem dX8_unlike_0 : decode cX8_unlike 0 = .ok (.aload_n 0, 1) := by decide +kernel
theorem dX8_unlike_1 : decode cX8_unlike 1 = .ok (.getfield 28, 3) := by decide +kernel
theorem dX8_unlike_4 : decode cX8_unlike 4 = .ok (.invokevirtual 134, 3) := by decide +kernel
theorem dX8_unlike_7 : decode cX8_unlike 7 = .ok (.ireturn, 1) := by decide +kernel
set_option maxRecDepth 20000 in
theorem ggX8_cards_X8_isBit : GoodIn wsX8_cards wsX8_isBit := goodIn_r _ [6] (by decide +kernel) (by decide +kernel)
set_option maxRecDepth 20000 in
theorem gX8_cards_X8_isBit : GoodIn wsX8_cards (va_wsS RX8 48 yX8_isBit wsX8_isBit) := goodIn_app (goodIn_of _ (by decide +kernel)) ggX8_cards_X8_isBit
set_option maxRecDepth 20000 in
theorem ggX8_cards_X6_isOfBoth : GoodIn wsX8_cards wsX6_isOfBoth := goodIn_r _ [11, 12, 122, 123, 124, 125, 126, 127] (by decide +kernel) (by decide +kernel)
set_option maxRecDepth 20000 in
theorem gX8_cards_X6_isOfBoth : GoodIn wsX8_cards (wsV RX8 152 RX6 yX6_isOfBoth wsX6_isOfBoth) := goodIn_app (goodIn_of _ (by decide +kernel)) ggX8_cards_X6_isOfBoth
set_option maxRecDepth 20000 in
theorem ggX8_cards_X5_cardSet : GoodIn wsX8_cards wsX5_cardSet := goodIn_r _ [17, 18, 19, 20, 21, 22, 16, 23, 24, 25, 26, 27, 28, 29, 30, 31, 32, 33, 34, 35, 36, 37, 38, 39, 10, 40, 41, 42, 43, 44, 45, 46, 47, 48, 49, 50, 51, 52, 53, 54, 55, 56, 57, 58, 8, 9, 11, 12, 59, 60, 61, 62, 63, 64, 65, 66, 67, 68, 69, 70, 71, 72, 73, 74, 75, 76, 77, 78, 79, 80, 81, 82, 83, 84, 85, 86, 87, 88, 89, 90, 91, 92, 93, 94, 95, 96, 97, 98, 99, 100, 101, 102, 103, 104, 105, 106, 107, 108, 109, 110, 111, 112, 113, 114, 115, 116, 128, 129, 130, 131, 132, 133, 134, 122, 123, 124, 125, 126, 127, 135, 136, 137, 138, 139, 140, 141] (by decide +kernel) (by decide +kernel)
set_option maxRecDepth 20000 in
theorem gX8_cards_X5_cardSet : GoodIn wsX8_cards (wsV RX8 166 RX5 yX5_cardSet wsX5_cardSet) := goodIn_app (goodIn_of _ (by decide +kernel)) ggX8_cards_X5_cardSet
theorem dX8_cards_0 : decode cX8_cards 0 = .ok (.iload_n 1, 1) := by decide +kernel
theorem dX8_cards_1 : decode cX8_cards 1 = .ok (.invokestatic 48, 3) := by decide +kernel
theorem dX8_cards_4 : decode cX8_cards 4 = .ok (.ifCond .ne 6, 3) := by decide +kernel
theorem dX8_cards_7 : decode cX8_cards 7 = .ok (.bipush (-11), 2) := by decide +kernel
theorem dX8_cards_9 : decode cX8_cards 9 = .ok (.ireturn, 1) := by decide +kernel
theorem dX8_cards_10 : decode cX8_cards 10 = .ok (.iload_n 1, 1) := by decide +kernel
theorem dX8_cards_11 : decode cX8_cards 11 = .ok (.iconst 1, 1) := by decide +kernel
theorem dX8_cards_12 : decode cX8_cards 12 = .ok (.if_icmp .ne 16, 3) := by decide +kernel
theorem dX8_cards_15 : decode cX8_cards 15 = .ok (.aload_n 0, 1) := by decide +kernel
theorem dX8_cards_16 : decode cX8_cards 16 = .ok (.getfield 12, 3) := by decide +kernel
theorem dX8_cards_19 : decode cX8_cards 19 = .ok (.invokevirtual 152, 3) := by decide +kernel
theorem dX8_cards_22 : decode cX8_cards 22 = .ok (.ifCond .ne 6, 3) := by decide +kernel
theorem dX8_cards_25 : decode cX8_cards 25 = .ok (.bipush (-12), 2) := by decide +kernel
theorem dX8_cards_27 : decode cX8_cards 27 = .ok (.ireturn, 1) := by decide +kernel
theorem dX8_cards_28 : decode cX8_cards 28 = .ok (.aload_n 0, 1) := by decide +kernel
theorem dX8_cards_29 : decode cX8_cards 29 = .ok (.getfield 28, 3) := by decide +kernel
theorem dX8_cards_32 : decode cX8_cards 32 = .ok (.iload_n 1, 1) := by decide +kernel
theorem dX8_cards_33 : decode cX8_cards 33 = .ok (.invokevirtual 166, 3) := by decide +kernel
theorem dX8_cards_36 : decode cX8_cards 36 = .ok (.ireturn, 1) := by decide +kernel
set_option maxRecDepth 20000 in
theorem ggX8_why_X6_isOfBoth : GoodIn wsX8_why wsX6_isOfBoth := goodIn_r _ [7, 8, 108, 109, 110, 111, 112, 113] (by decide +kernel) (by decide +kernel)
set_option maxRecDepth 20000 in
theorem gX8_why_X6_isOfBoth : GoodIn wsX8_why (wsV RX8 152 RX6 yX6_isOfBoth wsX6_isOfBoth) := goodIn_app (goodIn_of _ (by decide +kernel)) ggX8_why_X6_isOfBoth
set_option maxRecDepth 20000 in
theorem ggX8_why_X6_drawer : GoodIn wsX8_why wsX6_drawer := goodIn_r _ [12, 13, 14, 108, 109, 110, 111, 112, 113] (by decide +kernel) (by decide +kernel)
set_option maxRecDepth 20000 in
theorem gX8_why_X6_drawer : GoodIn wsX8_why (wsV RX8 55 RX6 yX6_drawer wsX6_drawer) := goodIn_app (goodIn_of _ (by decide +kernel)) ggX8_why_X6_drawer
set_option maxRecDepth 20000 in
theorem ggX8_why_X0_hasCard : GoodIn wsX8_why wsX0_hasCard := goodIn_r _ [19, 20, 114, 115, 116, 117] (by decide +kernel) (by decide +kernel)
set_option maxRecDepth 20000 in
theorem gX8_why_X0_hasCard : GoodIn wsX8_why (wsV RX8 84 RX0 yX0_hasCard wsX0_hasCard) := goodIn_app (goodIn_of _ (by decide +kernel)) ggX8_why_X0_hasCard
set_option maxRecDepth 20000 in
theorem ggX8_why_X5_explain : GoodIn wsX8_why wsX5_explain := goodIn_r _ [25, 26, 27, 28, 24, 29, 30, 31, 32, 33, 34, 35, 36, 37, 38, 39, 40, 41, 6, 42, 13, 14, 43, 44, 45, 18, 46, 47, 48, 49, 50, 51, 52, 53, 54, 55, 56, 57, 4, 5, 7, 8, 58, 59, 60, 61, 62, 63, 64, 65, 66, 67, 68, 69, 70, 71, 72, 73, 74, 75, 76, 77, 78, 79, 80, 81, 82, 83, 84, 85, 86, 87, 88, 89, 90, 91, 92, 93, 94, 16, 17, 19, 20, 95, 96, 97, 98, 99, 100, 101, 102, 118, 119, 120, 121, 122, 123, 124, 108, 109, 110, 111, 112, 113, 114, 115, 116, 117, 125, 126, 127] (by decide +kernel) (by decide +kernel)
set_option maxRecDepth 20000 in
theorem gX8_why_X5_explain : GoodIn wsX8_why (wsV RX8 169 RX5 yX5_explain wsX5_explain) := goodIn_app (goodIn_of _ (by decide +kernel)) ggX8_why_X5_explain
end
section
def mw_le : List (Option Value) → List (Option Value) → Prop
  | [], [] => True
  | none :: a, _ :: b => mw_le a b
  | some v :: a, w :: b => w = some v ∧ mw_le a b
  | [], _ :: _ => False
  | _ :: _, [] => False
theorem mw_le_len : ∀ (a b : List (Option Value)), mw_le a b → a.length = b.length
  | [], [], _ => rfl
  | none :: a, _ :: b, h => by rw [List.length_cons, List.length_cons, mw_le_len a b h]
  | some v :: a, w :: b, h => by rw [List.length_cons, List.length_cons, mw_le_len a b h.2]
theorem mw_le_at : ∀ (a b : List (Option Value)), mw_le a b → ∀ (i : Nat) (v : Value), a[i]? = some (some v) → b[i]? = some (some v)
  | [], [], _, i, v, hv => hv
  | none :: a, _ :: b, h, 0, v, hv => by simp at hv
  | none :: a, _ :: b, h, i + 1, v, hv => by
    rw [List.getElem?_cons_succ] at hv ⊢
    exact mw_le_at a b h i v hv
  | some u :: a, w :: b, h, 0, v, hv => by
    rw [List.getElem?_cons_zero] at hv ⊢
    rw [h.1]
    exact hv
  | some u :: a, w :: b, h, i + 1, v, hv => by
    rw [List.getElem?_cons_succ] at hv ⊢
    exact mw_le_at a b h.2 i v hv
theorem vv_keep {p : Program} {l : Launch} {e : Env} {R : Room} {s : State} {m : MethodId} {args : Array Value} {below : List Frame} {meth : Method} {c : Code} {G : mw_GG} {cells slots : Nat} {Q : State → Prop} {M : mw_M} {pc : Nat} {ls ls2 : List (Option Value)} {st : List Value} (h : mw_le ls2 ls) (k : vv p l e R s m args below meth c G cells slots Q M pc ls2 st) : vv p l e R s m args below meth c G cells slots Q M pc ls st := vv_lsTo (mw_le_len ls2 ls h) (mw_le_at ls2 ls h) k
theorem sh_0 : mw_S[0]? = some (.inr (6, [.inl 1, .inl 11, .inl 21, .inl 23, .inr 124, .inr 129])) := by decide +kernel
theorem dw_0 : mw_Dw 0 := mw_Dw_d (by decide)
theorem dw_1 : mw_Dw 1 := mw_Dw_d (by decide)
theorem nu_21 : mw_Nu 21 2 125 2 := mw_Nu_d (by decide +kernel)
theorem nu_23 : mw_Nu 23 2 126 2 := mw_Nu_d (by decide +kernel)
theorem nu_127 : mw_Nu 127 144 700 1 := mw_Nu_d (by decide +kernel)
theorem nu_129 : mw_Nu 129 144 850 1 := mw_Nu_d (by decide +kernel)
theorem nu_131 : mw_Nu 131 4 660 1 := mw_Nu_d (by decide +kernel)
theorem nu_134 : mw_Nu 134 60 1000 1 := mw_Nu_d (by decide +kernel)
theorem st_0 : mw_St 0 0 := mw_St_j (j := 0) (by decide)
theorem st_1 : mw_St 25 130 := mw_St_j (j := 1) (by decide)
theorem st_2 : mw_St 50 260 := mw_St_j (j := 2) (by decide)
theorem st_3 : mw_St 75 390 := mw_St_j (j := 3) (by decide)
theorem st_4 : mw_St 100 520 := mw_St_j (j := 4) (by decide)
theorem sh_125 : mw_S[125]? = some (.inr (2, [.inl 25, .inl 50, .inl 75, .inl 100, .inr 650])) := by decide +kernel
theorem sh_126 : mw_S[126]? = some (.inr (5, [.inl 0, .inl 127, .inl 129, .inl 131, .inr 651, .inr 652])) := by decide +kernel
theorem sh_133 : mw_S[133]? = some (.inr (7, [.inl 134, .inr 653])) := by decide +kernel
theorem sh_136 : mw_S[136]? = some (.inr (4, [.inl 133, .inl 137, .inr 654, .inr 655, .inr 656, .inr 657])) := by decide +kernel
theorem sh_144 : mw_S[144]? = some (.inr (8, [.inl 0, .inl 125, .inl 126, .inl 133, .inl 136])) := by decide +kernel
theorem sh_145 : mw_S[145]? = some (.inr (9, [.inl 146, .inl 147, .inr 1100, .inl 148, .inr 1101, .inl 149, .inl 150, .inr 1102, .inr 1103, .inr 1104, .inr 1105, .inr 1106, .inl 151])) := by decide +kernel
theorem sh_146 : mw_S[146]? = some (.inl (130, 2000, 1)) := by decide +kernel
theorem sh_147 : mw_S[147]? = some (.inl (520, 3000, 1)) := by decide +kernel
theorem sh_148 : mw_S[148]? = some (.inl (60, 1200, 1)) := by decide +kernel
theorem sh_149 : mw_S[149]? = some (.inl (144, 1300, 1)) := by decide +kernel
theorem sh_150 : mw_S[150]? = some (.inl (144, 1450, 1)) := by decide +kernel
theorem sh_151 : mw_S[151]? = some (.inl (12, 1110, 1)) := by decide +kernel
theorem iX3_at_X3 : ∀ w ∈ u_ws RX3 TX3 1, w ∈ wsX3_at := fun w hw => (List.mem_cons_of_mem _ (List.mem_append_right _ hw))
set_option maxRecDepth 100000 in
set_option maxHeartbeats 4000000 in
theorem c_X3_at {l : Launch} {G : mw_GG} {a n b t : Nat} (hN : mw_Nu a n b t) (M : mw_M) {i : Int32} {j : Nat} (hi : i = nI j) (hj : j < n) : mw_Met l yX3_at wsX3_at ({ frames := 0, cells := 0, slots := 0, locals := 0 } : Room) G [.ref (G.1 a), .int i] M (qI (M (b + t * j)) M) := by
  refine mw_ofV (cc := cX3_at) 2 (by decide) rfl rfl (Nat.le_of_ble_eq_true rfl) ?_
  intro p e s m args below meth c C hR hN0
  refine vv_loc (ls2 := [some (.ref (G.1 a)), some (.int i)]) rfl ?_
  have hn := mw_arr_n hN.2
  refine vv_iload_n C 1 dX3_at_0 rfl rfl ?_
  refine vv_if_lt C 22 dX3_at_1 (by decide) (fun h_1 => absurd h_1 (by rw [hi]; exact nI_pos (by omega))) (fun h_2 => ?_)
  refine vv_iload_n C 1 dX3_at_4 rfl rfl ?_
  refine vv_aload_n C 0 dX3_at_5 rfl rfl ?_
  refine vv_getr C (Cn := RX3) (T := TX3) (N := 1) hN.1 0 rfl rfl (by decide) iX3_at_X3 (List.mem_of_getElem? (i := 1) rfl) rfl dX3_at_6 ?_
  refine vv_alen (v := nI n) C hN.2 rfl dX3_at_9 ?_
  refine vv_icmp_ge C 22 dX3_at_10 (by decide) (fun h_3 => absurd h_3 (by rw [hi]; exact nI_ge hj (by omega))) (fun h_4 => ?_)
  refine vv_aload_n C 0 dX3_at_13 rfl rfl ?_
  refine vv_getr C (Cn := RX3) (T := TX3) (N := 1) hN.1 0 rfl rfl (by decide) iX3_at_X3 (List.mem_of_getElem? (i := 1) rfl) rfl dX3_at_14 ?_
  refine vv_iload_n C 1 dX3_at_17 rfl rfl ?_
  refine vv_ald (j := j) (q := b + t * j) C hN.2 hi hj rfl dX3_at_18 ?_
  refine vv_goto C 23 dX3_at_19 (by decide) ?_
  exact vv_iret C hR dX3_at_23 (qI_of (rfl) (rfl))
theorem iX3_set_X3 : ∀ w ∈ u_ws RX3 TX3 1, w ∈ wsX3_set := fun w hw => (List.mem_cons_of_mem _ (List.mem_append_right _ hw))
set_option maxRecDepth 100000 in
set_option maxHeartbeats 4000000 in
theorem c_X3_set {l : Launch} {G : mw_GG} {a n b t : Nat} (hN : mw_Nu a n b t) (M : mw_M) {i : Int32} {j : Nat} (hi : i = nI j) (hj : j < n) (x : Int32) : mw_Met l yX3_set wsX3_set ({ frames := 0, cells := 0, slots := 0, locals := 0 } : Room) G [.ref (G.1 a), .int i, .int x] M (qV (upd M (b + t * j) x)) := by
  refine mw_ofV (cc := cX3_set) 3 (by decide) rfl rfl (Nat.le_of_ble_eq_true rfl) ?_
  intro p e s m args below meth c C hR hN0
  refine vv_loc (ls2 := [some (.ref (G.1 a)), some (.int i), some (.int x)]) rfl ?_
  have hn := mw_arr_n hN.2
  refine vv_iload_n C 1 dX3_set_0 rfl rfl ?_
  refine vv_if_lt C 20 dX3_set_1 (by decide) (fun h_1 => absurd h_1 (by rw [hi]; exact nI_pos (by omega))) (fun h_2 => ?_)
  refine vv_iload_n C 1 dX3_set_4 rfl rfl ?_
  refine vv_aload_n C 0 dX3_set_5 rfl rfl ?_
  refine vv_getr C (Cn := RX3) (T := TX3) (N := 1) hN.1 0 rfl rfl (by decide) iX3_set_X3 (List.mem_of_getElem? (i := 1) rfl) rfl dX3_set_6 ?_
  refine vv_alen (v := nI n) C hN.2 rfl dX3_set_9 ?_
  refine vv_icmp_ge C 20 dX3_set_10 (by decide) (fun h_3 => absurd h_3 (by rw [hi]; exact nI_ge hj (by omega))) (fun h_4 => ?_)
  refine vv_aload_n C 0 dX3_set_13 rfl rfl ?_
  refine vv_getr C (Cn := RX3) (T := TX3) (N := 1) hN.1 0 rfl rfl (by decide) iX3_set_X3 (List.mem_of_getElem? (i := 1) rfl) rfl dX3_set_14 ?_
  refine vv_iload_n C 1 dX3_set_17 rfl rfl ?_
  refine vv_iload_n C 2 dX3_set_18 rfl rfl ?_
  refine vv_ast (j := j) (q := b + t * j) C hN.2 hi hj rfl dX3_set_19 ?_
  exact vv_vret C hR dX3_set_20 (qV_of (rfl))
/-- an array of the memory was written: place i has f i; all else stays -/
def r_Put (M M2 : mw_M) (n b t : Nat) (f : Nat → Int32) : Prop := (∀ i, i < n → M2 (b + t * i) = f i) ∧ ∀ q, (∀ i, i < n → q ≠ b + t * i) → M2 q = M q
theorem iX3_fill_X3 : ∀ w ∈ u_ws RX3 TX3 1, w ∈ wsX3_fill := fun w hw => (List.mem_cons_of_mem _ (List.mem_append_right _ hw))
set_option maxRecDepth 100000 in
set_option maxHeartbeats 4000000 in
theorem lp_X3_fill {p : Program} {l : Launch} {e : Env} {s : State} {m : MethodId} {args : Array Value} {below : List Frame} {meth : Method} {c : Code} {G : mw_GG} {Q : State → Prop} (C : vv_C p s m args c G cX3_fill 3 wsX3_fill RX3) {a n b t : Nat} (hN : mw_Nu a n b t) (hn : n < 1000) (M : mw_M) (x : Int32) (hk : ∀ M1, r_Put M M1 n b t (fun _ => x) → vv p l e ({ frames := 0, cells := 0, slots := 0, locals := 0 } : Room) s m args below meth c G 0 0 Q M1 24 [some (.ref (G.1 a)), some (.int x), some (.int (nI n))] []) : ∀ (k i : Nat) (M1 : mw_M), n + 1 ≤ i + k → i ≤ n → r_Put M M1 i b t (fun _ => x) → vv p l e ({ frames := 0, cells := 0, slots := 0, locals := 0 } : Room) s m args below meth c G 0 0 Q M1 2 [some (.ref (G.1 a)), some (.int x), some (.int (nI i))] [] := by
  intro k
  induction k with
  | zero => intro i M1 h1 h2 _; omega
  | succ k ih =>
    intro i M1 h1 h2 hI
    have ht := mw_arr_t hN.2
    refine vv_iload_n C 2 dX3_fill_2 rfl rfl ?_
    refine vv_aload_n C 0 dX3_fill_3 rfl rfl ?_
    refine vv_getr C (Cn := RX3) (T := TX3) (N := 1) hN.1 0 rfl rfl (by decide) iX3_fill_X3 (List.mem_of_getElem? (i := 1) rfl) rfl dX3_fill_4 ?_
    refine vv_alen (v := nI n) C hN.2 rfl dX3_fill_7 ?_
    refine vv_icmp_ge C 24 dX3_fill_8 (by decide) (fun hge => ?_) (fun hlt => ?_)
    · have hin : i = n := by
        rcases Nat.lt_or_ge i n with z | z
        · exact absurd hge (nI_ge z (by omega))
        · omega
      subst hin
      exact hk M1 hI
    · have hlt2 : i < n := by
        rcases Nat.lt_or_ge i n with z | z
        · exact z
        · exact absurd (nI_le z (by omega)) hlt
      refine vv_aload_n C 0 dX3_fill_11 rfl rfl ?_
      refine vv_getr C (Cn := RX3) (T := TX3) (N := 1) hN.1 0 rfl rfl (by decide) iX3_fill_X3 (List.mem_of_getElem? (i := 1) rfl) rfl dX3_fill_12 ?_
      refine vv_iload_n C 2 dX3_fill_15 rfl rfl ?_
      refine vv_iload_n C 1 dX3_fill_16 rfl rfl ?_
      refine vv_ast (j := i) (q := b + t * i) C hN.2 rfl hlt2 rfl dX3_fill_17 ?_
      refine vv_iinc (v := nI (i + 1)) (ls2 := [some (.ref (G.1 a)), some (.int x), some (.int (nI (i + 1)))]) C 2 dX3_fill_18 rfl (nI_1 _) rfl ?_
      refine vv_goto C 2 dX3_fill_21 (by decide) ?_
      refine ih (i + 1) _ (by omega) (by omega) ⟨fun j hj => ?_, fun q hq => ?_⟩
      · unfold upd
        by_cases hji : j = i
        · rw [if_pos (by rw [hji])]
        · rw [if_neg (fun z => hji (Nat.eq_of_mul_eq_mul_left ht (Nat.add_left_cancel z)))]
          exact hI.1 j (by omega)
      · unfold upd
        rw [if_neg (hq i (by omega))]
        exact hI.2 q (fun j hj => hq j (by omega))
set_option maxRecDepth 100000 in
set_option maxHeartbeats 4000000 in
theorem c_X3_fill {l : Launch} {G : mw_GG} {a n b t : Nat} (hN : mw_Nu a n b t) (M : mw_M) (x : Int32) : mw_Met l yX3_fill wsX3_fill ({ frames := 0, cells := 0, slots := 0, locals := 0 } : Room) G [.ref (G.1 a), .int x] M (qVP (fun M2 => r_Put M M2 n b t (fun _ => x))) := by
  refine mw_ofV (cc := cX3_fill) 3 (by decide) rfl rfl (Nat.le_of_ble_eq_true rfl) ?_
  intro p e s m args below meth c C hR hN0
  refine vv_loc (ls2 := [some (.ref (G.1 a)), some (.int x), none]) rfl ?_
  have hn := mw_arr_n hN.2
  refine vv_iconst (v := 0) C dX3_fill_0 (by decide) ?_
  refine vv_istore_n (ls2 := [some (.ref (G.1 a)), some (.int x), some (.int 0)]) C 2 dX3_fill_1 rfl (Nat.le_of_ble_eq_true rfl) rfl ?_
  refine lp_X3_fill C hN hn M x (fun M1 hI => ?_) (n + 1) 0 M (by omega) (by omega) ⟨fun i hi => by omega, fun q _ => rfl⟩
  exact vv_vret C hR dX3_fill_24 (qVP_of hI)
theorem iX3_copyFrom_X3 : ∀ w ∈ u_ws RX3 TX3 1, w ∈ wsX3_copyFrom := fun w hw => (List.mem_cons_of_mem _ (List.mem_append_right _ hw))
set_option maxRecDepth 100000 in
set_option maxHeartbeats 4000000 in
theorem lp_X3_copyFrom {p : Program} {l : Launch} {e : Env} {s : State} {m : MethodId} {args : Array Value} {below : List Frame} {meth : Method} {c : Code} {G : mw_GG} {Q : State → Prop} (C : vv_C p s m args c G cX3_copyFrom 3 wsX3_copyFrom RX3) {a n b t : Nat} (hN : mw_Nu a n b t) {a2 n2 b2 t2 : Nat} (hN2 : mw_Nu a2 n2 b2 t2) (hle : n ≤ n2) (hdis : ∀ i j, i < n → j < n → b + t * i ≠ b2 + t2 * j) (hn : n < 1000) (M : mw_M) (hk : ∀ M1, r_Put M M1 n b t (fun i => M (b2 + t2 * i)) → vv p l e ({ frames := 1, cells := 0, slots := 0, locals := 21 } : Room) s m args below meth c G 0 0 Q M1 28 [some (.ref (G.1 a)), some (.ref (G.1 a2)), some (.int (nI n))] []) : ∀ (k i : Nat) (M1 : mw_M), n + 1 ≤ i + k → i ≤ n → r_Put M M1 i b t (fun i => M (b2 + t2 * i)) → vv p l e ({ frames := 1, cells := 0, slots := 0, locals := 21 } : Room) s m args below meth c G 0 0 Q M1 2 [some (.ref (G.1 a)), some (.ref (G.1 a2)), some (.int (nI i))] [] := by
  intro k
  induction k with
  | zero => intro i M1 h1 h2 _; omega
  | succ k ih =>
    intro i M1 h1 h2 hI
    have ht := mw_arr_t hN.2
    refine vv_iload_n C 2 dX3_copyFrom_2 rfl rfl ?_
    refine vv_aload_n C 0 dX3_copyFrom_3 rfl rfl ?_
    refine vv_getr C (Cn := RX3) (T := TX3) (N := 1) hN.1 0 rfl rfl (by decide) iX3_copyFrom_X3 (List.mem_of_getElem? (i := 1) rfl) rfl dX3_copyFrom_4 ?_
    refine vv_alen (v := nI n) C hN.2 rfl dX3_copyFrom_7 ?_
    refine vv_icmp_ge C 28 dX3_copyFrom_8 (by decide) (fun hge => ?_) (fun hlt => ?_)
    · have hin : i = n := by
        rcases Nat.lt_or_ge i n with z | z
        · exact absurd hge (nI_ge z (by omega))
        · omega
      subst hin
      exact hk M1 hI
    · have hlt2 : i < n := by
        rcases Nat.lt_or_ge i n with z | z
        · exact z
        · exact absurd (nI_le z (by omega)) hlt
      refine vv_aload_n C 0 dX3_copyFrom_11 rfl rfl ?_
      refine vv_getr C (Cn := RX3) (T := TX3) (N := 1) hN.1 0 rfl rfl (by decide) iX3_copyFrom_X3 (List.mem_of_getElem? (i := 1) rfl) rfl dX3_copyFrom_12 ?_
      refine vv_iload_n C 2 dX3_copyFrom_15 rfl rfl ?_
      refine vv_aload_n C 1 dX3_copyFrom_16 rfl rfl ?_
      refine vv_iload_n C 2 dX3_copyFrom_17 rfl rfl ?_
      refine vv_callVI C [.int (nI i)] (c_X3_at hN2 M1 (i := (nI i)) (j := i) rfl (by omega)) hN2.1 rfl (cwV 1 C.1.2.2.2.2 gX3_copyFrom_X3_at rfl rfl rfl (by decide +kernel) ⟨Nat.le_of_ble_eq_true rfl, Nat.le_of_ble_eq_true rfl⟩) rfl rfl rfl (Nat.le_of_ble_eq_true rfl) dX3_copyFrom_18 ⟨Nat.le_refl _, Nat.le_refl _⟩ ?_
      refine vv_ast (j := i) (q := b + t * i) C hN.2 rfl hlt2 rfl dX3_copyFrom_21 ?_
      refine vv_iinc (v := nI (i + 1)) (ls2 := [some (.ref (G.1 a)), some (.ref (G.1 a2)), some (.int (nI (i + 1)))]) C 2 dX3_copyFrom_22 rfl (nI_1 _) rfl ?_
      refine vv_goto C 2 dX3_copyFrom_25 (by decide) ?_
      refine ih (i + 1) _ (by omega) (by omega) ⟨fun j hj => ?_, fun q hq => ?_⟩
      · unfold upd
        by_cases hji : j = i
        · rw [if_pos (by rw [hji]), hI.2 _ (fun j2 hj2 z => hdis j2 i (by omega) hlt2 z.symm), hji]
        · rw [if_neg (fun z => hji (Nat.eq_of_mul_eq_mul_left ht (Nat.add_left_cancel z)))]
          exact hI.1 j (by omega)
      · unfold upd
        rw [if_neg (hq i (by omega))]
        exact hI.2 q (fun j hj => hq j (by omega))
set_option maxRecDepth 100000 in
set_option maxHeartbeats 4000000 in
theorem c_X3_copyFrom {l : Launch} {G : mw_GG} {a n b t : Nat} (hN : mw_Nu a n b t) {a2 n2 b2 t2 : Nat} (hN2 : mw_Nu a2 n2 b2 t2) (hle : n ≤ n2) (hdis : ∀ i j, i < n → j < n → b + t * i ≠ b2 + t2 * j) (M : mw_M) : mw_Met l yX3_copyFrom wsX3_copyFrom ({ frames := 1, cells := 0, slots := 0, locals := 21 } : Room) G [.ref (G.1 a), .ref (G.1 a2)] M (qVP (fun M2 => r_Put M M2 n b t (fun i => M (b2 + t2 * i)))) := by
  refine mw_ofV (cc := cX3_copyFrom) 3 (by decide) rfl rfl (Nat.le_of_ble_eq_true rfl) ?_
  intro p e s m args below meth c C hR hN0
  refine vv_loc (ls2 := [some (.ref (G.1 a)), some (.ref (G.1 a2)), none]) rfl ?_
  have hn := mw_arr_n hN.2
  refine vv_iconst (v := 0) C dX3_copyFrom_0 (by decide) ?_
  refine vv_istore_n (ls2 := [some (.ref (G.1 a)), some (.ref (G.1 a2)), some (.int 0)]) C 2 dX3_copyFrom_1 rfl (Nat.le_of_ble_eq_true rfl) rfl ?_
  refine lp_X3_copyFrom C hN hN2 hle hdis hn M (fun M1 hI => ?_) (n + 1) 0 M (by omega) (by omega) ⟨fun i hi => by omega, fun q _ => rfl⟩
  exact vv_vret C hR dX3_copyFrom_28 (qVP_of hI)
end
section
/-! what the class's small methods do, over the flat memory -/
theorem ix_of {x : Int32} {n : Nat} (h0 : ¬ x < 0) (h1 : ¬ nI n ≤ x) (hn : n < 2 ^ 31) : ∃ j, j < n ∧ x = nI j ∧ x.toNatClampNeg = j := by
  obtain ⟨j, hj, e⟩ := nI_of h0
  subst e
  have hlt : j < n := by
    rcases Nat.lt_or_ge j n with z | z
    · exact z
    · exact absurd (nI_le z hj) h1
  exact ⟨j, hlt, rfl, nI_clamp hj⟩
abbrev hcP (M : mw_M) (d : Nat) (c : Int32) : Prop := ¬ c < 0 ∧ ¬ M d ≤ c
abbrev hkP (M : mw_M) (d : Nat) (k : Int32) : Prop := ¬ k < 0 ∧ ¬ M (2 + d) ≤ k
def entI (M : mw_M) (d : Nat) (k c : Int32) : Int32 := if hkP M d k ∧ hcP M d c then M (4 + 48 * d + (4 * k.toNatClampNeg + c.toNatClampNeg)) else -1
/-- the sizes of a drawer are within their limits -/
def szP (M : mw_M) (d : Nat) : Prop := ∃ w n, M d = nI w ∧ w ≤ 4 ∧ M (2 + d) = nI n ∧ n ≤ 12
theorem ent_ix {M : mw_M} {d : Nat} {k c : Int32} (hz : szP M d) (hk : hkP M d k) (hc : hcP M d c) : k * 4 + c = nI (4 * k.toNatClampNeg + c.toNatClampNeg) ∧ 4 * k.toNatClampNeg + c.toNatClampNeg < 48 := by
  obtain ⟨w, n, hw, hw4, hn, hn12⟩ := hz
  obtain ⟨h1, h2⟩ := hk
  obtain ⟨h3, h4⟩ := hc
  rw [hn] at h2
  rw [hw] at h4
  obtain ⟨k', hk1, hk2, hk3⟩ := ix_of h1 h2 (by omega)
  obtain ⟨c', hc1, hc2, hc3⟩ := ix_of h3 h4 (by omega)
  rw [hk3, hc3]
  refine ⟨?_, by omega⟩
  rw [hk2, hc2, show (4 : Int32) = nI 4 from rfl, pk_mul, nI_add]
  congr 1
  omega
def s_zero (M : mw_M) (b : Nat) : mw_M := fun q => if b ≤ q ∧ q < b + 12 then 0 else M q
def s_blk (M : mw_M) (b b2 w : Nat) : mw_M := fun q => if b ≤ q ∧ q < b + w then M (b2 + (q - b)) else M q
theorem wipe_eq {M M1 M2 M3 : mw_M} {b : Nat} (h1 : r_Put M M1 4 b 3 (fun _ => 0)) (h2 : r_Put M1 M2 4 (b + 1) 3 (fun _ => 0)) (h3 : r_Put M2 M3 4 (b + 2) 3 (fun _ => 0)) : M3 = s_zero M b := by
  funext q
  unfold s_zero
  by_cases hq : b ≤ q ∧ q < b + 12
  · rw [if_pos hq]
    obtain ⟨i, hi, hc⟩ : ∃ i, i < 4 ∧ (q = b + 3 * i ∨ q = b + 1 + 3 * i ∨ q = b + 2 + 3 * i) := ⟨(q - b) / 3, by omega, by omega⟩
    rcases hc with rfl | rfl | rfl
    · rw [h3.2 _ (fun j hj => by omega), h2.2 _ (fun j hj => by omega)]
      exact h1.1 i hi
    · rw [h3.2 _ (fun j hj => by omega)]
      exact h2.1 i hi
    · exact h3.1 i hi
  · rw [if_neg hq, h3.2 _ (fun j hj => by omega), h2.2 _ (fun j hj => by omega), h1.2 _ (fun j hj => by omega)]
theorem copy_eq {M M1 M2 M3 : mw_M} {b b2 : Nat} (hd : b + 12 ≤ b2 ∨ b2 + 12 ≤ b) (h1 : r_Put M M1 4 b 3 (fun i => M (b2 + 3 * i))) (h2 : r_Put M1 M2 4 (b + 1) 3 (fun i => M1 (b2 + 1 + 3 * i))) (h3 : r_Put M2 M3 4 (b + 2) 3 (fun i => M2 (b2 + 2 + 3 * i))) : M3 = s_blk M b b2 12 := by
  funext q
  unfold s_blk
  by_cases hq : b ≤ q ∧ q < b + 12
  · rw [if_pos hq]
    obtain ⟨i, hi, hc⟩ : ∃ i, i < 4 ∧ (q = b + 3 * i ∨ q = b + 1 + 3 * i ∨ q = b + 2 + 3 * i) := ⟨(q - b) / 3, by omega, by omega⟩
    rcases hc with rfl | rfl | rfl
    · rw [h3.2 _ (fun j hj => by omega), h2.2 _ (fun j hj => by omega), h1.1 i hi]
      show M (b2 + 3 * i) = _
      congr 1
      omega
    · rw [h3.2 _ (fun j hj => by omega), h2.1 i hi]
      show M1 (b2 + 1 + 3 * i) = _
      rw [h1.2 _ (fun j hj => by omega)]
      congr 1
      omega
    · rw [h3.1 i hi]
      show M2 (b2 + 2 + 3 * i) = _
      rw [h2.2 _ (fun j hj => by omega), h1.2 _ (fun j hj => by omega)]
      congr 1
      omega
  · rw [if_neg hq, h3.2 _ (fun j hj => by omega), h2.2 _ (fun j hj => by omega), h1.2 _ (fun j hj => by omega)]
/-- whether a value fits a cell by itself -/
def tkB (kd a bb v : Int32) : Bool := if kd = 0 then true else if kd = 1 then decide (v = -1) else if v = -1 then false else if kd = 2 then true else if kd = 8 then true else if kd = 3 then decide (v = a) else if kd = 4 then decide (¬ v = a) else if kd = 5 then decide (¬ a ≤ v) else if kd = 6 then decide (¬ v ≤ a) else if kd = 7 then decide (¬ v < a ∧ ¬ bb < v) else false
def cntB (f : Nat → Bool) : Nat → Nat
  | 0 => 0
  | n + 1 => cntB f n + (if f n then 1 else 0)
theorem cntB_le (f : Nat → Bool) : ∀ n, cntB f n ≤ n
  | 0 => Nat.le_refl 0
  | n + 1 => by
    have h := cntB_le f n
    unfold cntB
    split <;> omega
theorem cntB_t {f : Nat → Bool} {n : Nat} (h : f n = true) : cntB f (n + 1) = cntB f n + 1 := by simp [cntB, h]
theorem cntB_f {f : Nat → Bool} {n : Nat} (h : f n = false) : cntB f (n + 1) = cntB f n := by simp [cntB, h]
theorem cntB_c {f g : Nat → Bool} : ∀ {n : Nat}, (∀ i, i < n → f i = g i) → cntB f n = cntB g n
  | 0, _ => rfl
  | n + 1, h => by
    unfold cntB
    rw [cntB_c (fun i hi => h i (by omega)), h n (by omega)]
def dN (x : Int32) : Nat := if x = 0 then 0 else 1
theorem dN_lt (x : Int32) : dN x < 2 := by unfold dN; split <;> omega
def xN (x : Int32) : Nat := if 4 ≤ x then 1 else 0
theorem xN_lt (x : Int32) : xN x < 2 := by unfold xN; split <;> omega
abbrev askP (M : mw_M) (c : Int32) : Prop := (¬ 4 ≤ c ∧ hcP M 0 c) ∨ (4 ≤ c ∧ M 124 = 1 ∧ hcP M 1 (c - 4))
abbrev shwP (M : mw_M) (c : Int32) : Prop := askP M c ∧ (M 129 >>> (c &&& 31)) &&& 1 = 1
def rowE (M : mw_M) (c r : Int32) : Int32 := if 4 ≤ c then entI M 1 (r - r / 12 * 12) (c - 4) else entI M 0 (r / 12) c
def dOf (k : Nat) : Nat := if k < 4 then k % 2 else if k < 100 then (k - 4) / 48 else if k < 124 then (k - 100) / 12 else 2
def s_dr (M : mw_M) (P P2 d : Nat) : mw_M := fun q => if P ≤ q ∧ q < P + 130 ∧ dOf (q - P) = d then M (P2 + (q - P)) else M q
theorem dr_eq {M M1 : mw_M} {P P2 d : Nat} (hd : d < 2) (hP : P + 130 ≤ P2 ∨ P2 + 130 ≤ P) (h1 : r_Put M M1 48 (P + 4 + 48 * d) 1 (fun i => M (P2 + 4 + 48 * d + 1 * i))) (M3 : mw_M) (h3 : M3 = upd (upd (s_blk M1 (P + 100 + 12 * d) (P2 + 100 + 12 * d) 12) (P + d) (s_blk M1 (P + 100 + 12 * d) (P2 + 100 + 12 * d) 12 (P2 + d))) (P + 2 + d) (upd (s_blk M1 (P + 100 + 12 * d) (P2 + 100 + 12 * d) 12) (P + d) (s_blk M1 (P + 100 + 12 * d) (P2 + 100 + 12 * d) 12 (P2 + d)) (P2 + 2 + d))) : M3 = s_dr M P P2 d := by
  have keep : ∀ q, (q < P + 4 + 48 * d ∨ P + 4 + 48 * d + 48 ≤ q) → M1 q = M q := fun q hq => h1.2 q (fun i hi => by omega)
  subst h3
  funext q
  unfold s_dr
  by_cases hin : P ≤ q ∧ q < P + 130
  · obtain ⟨k, rfl⟩ : ∃ k, q = P + k := ⟨q - P, by omega⟩
    have hk : k < 130 := by omega
    have e : P + k - P = k := by omega
    rw [e]
    by_cases hdk : dOf k = d
    · rw [if_pos ⟨hin.1, hin.2, hdk⟩]
      unfold upd
      by_cases c1 : P + k = P + 2 + d
      · rw [if_pos c1]
        simp only [show ¬ P2 + 2 + d = P + d by omega, if_false]
        unfold s_blk
        rw [if_neg (by omega), keep _ (by omega)]
        congr 1
        omega
      · rw [if_neg c1]
        by_cases c2 : P + k = P + d
        · rw [if_pos c2]
          unfold s_blk
          rw [if_neg (by omega), keep _ (by omega)]
          congr 1
          omega
        · rw [if_neg c2]
          unfold s_blk
          by_cases c3 : P + 100 + 12 * d ≤ P + k ∧ P + k < P + 100 + 12 * d + 12
          · rw [if_pos c3, keep _ (by omega)]
            congr 1
            omega
          · rw [if_neg c3]
            have hx : 4 + 48 * d ≤ k ∧ k < 4 + 48 * d + 48 := by
              unfold dOf at hdk
              split at hdk
              · omega
              · split at hdk
                · omega
                · split at hdk <;> omega
            have := h1.1 (k - (4 + 48 * d)) (by omega)
            rw [show P + 4 + 48 * d + 1 * (k - (4 + 48 * d)) = P + k by omega] at this
            rw [this]
            show M _ = M _
            congr 1
            omega
    · rw [if_neg (fun z => hdk z.2.2)]
      have hne : ¬ (4 + 48 * d ≤ k ∧ k < 4 + 48 * d + 48) ∧ ¬ (100 + 12 * d ≤ k ∧ k < 100 + 12 * d + 12) ∧ ¬ k = d ∧ ¬ k = 2 + d := by
        unfold dOf at hdk
        split at hdk
        · omega
        · split at hdk
          · omega
          · split at hdk <;> omega
      unfold upd
      rw [if_neg (by omega), if_neg (by omega)]
      unfold s_blk
      rw [if_neg (by omega), keep _ (by omega)]
  · rw [if_neg (fun z => hin ⟨z.1, z.2.1⟩)]
    unfold upd
    rw [if_neg (by omega), if_neg (by omega)]
    unfold s_blk
    rw [if_neg (by omega), keep _ (by omega)]
end
section
theorem iX1_kindAt_X1 : ∀ w ∈ u_ws RX1 TX1 3, w ∈ wsX1_kindAt := fun w hw => (List.mem_cons_of_mem _ (List.mem_append_left _ (List.mem_append_right _ hw)))
set_option maxRecDepth 100000 in
set_option maxHeartbeats 4000000 in
theorem c_X1_kindAt {l : Launch} {G : mw_GG} {x b : Nat} (hX : mw_Ex x b) (M : mw_M) {i : Int32} {j : Nat} (hi : i = nI j) (hj : j < 4) : mw_Met l yX1_kindAt wsX1_kindAt ({ frames := 1, cells := 0, slots := 0, locals := 21 } : Room) G [.ref (G.1 x), .int i] M (qI (M (b + 3 * j)) M) := by
  refine mw_ofV (cc := cX1_kindAt) 2 (by decide) rfl rfl (Nat.le_of_ble_eq_true rfl) ?_
  intro p e s m args below meth c C hR hN0
  refine vv_loc (ls2 := [some (.ref (G.1 x)), some (.int i)]) rfl ?_
  refine vv_aload_n C 0 dX1_kindAt_0 rfl rfl ?_
  refine vv_getr C (Cn := RX1) (T := TX1) (N := 3) hX.1 0 rfl rfl (by decide) iX1_kindAt_X1 (List.mem_of_getElem? (i := 1) rfl) rfl dX1_kindAt_1 ?_
  refine vv_iload_n C 1 dX1_kindAt_4 rfl rfl ?_
  refine vv_callVI C [.int i] (c_X3_at hX.2.1 M (i := i) (j := j) hi hj) hX.2.1.1 rfl (cwV 1 C.1.2.2.2.2 gX1_kindAt_X3_at rfl rfl rfl (by decide +kernel) ⟨Nat.le_of_ble_eq_true rfl, Nat.le_of_ble_eq_true rfl⟩) rfl rfl rfl (Nat.le_of_ble_eq_true rfl) dX1_kindAt_5 ⟨Nat.le_refl _, Nat.le_refl _⟩ ?_
  exact vv_iret C hR dX1_kindAt_8 (qI_of (rfl) (rfl))
theorem iX1_firstAt_X1 : ∀ w ∈ u_ws RX1 TX1 3, w ∈ wsX1_firstAt := fun w hw => (List.mem_cons_of_mem _ (List.mem_append_left _ (List.mem_append_right _ hw)))
set_option maxRecDepth 100000 in
set_option maxHeartbeats 4000000 in
theorem c_X1_firstAt {l : Launch} {G : mw_GG} {x b : Nat} (hX : mw_Ex x b) (M : mw_M) {i : Int32} {j : Nat} (hi : i = nI j) (hj : j < 4) : mw_Met l yX1_firstAt wsX1_firstAt ({ frames := 1, cells := 0, slots := 0, locals := 21 } : Room) G [.ref (G.1 x), .int i] M (qI (M (b + 1 + 3 * j)) M) := by
  refine mw_ofV (cc := cX1_firstAt) 2 (by decide) rfl rfl (Nat.le_of_ble_eq_true rfl) ?_
  intro p e s m args below meth c C hR hN0
  refine vv_loc (ls2 := [some (.ref (G.1 x)), some (.int i)]) rfl ?_
  refine vv_aload_n C 0 dX1_firstAt_0 rfl rfl ?_
  refine vv_getr C (Cn := RX1) (T := TX1) (N := 3) hX.1 1 rfl rfl (by decide) iX1_firstAt_X1 (List.mem_of_getElem? (i := 1) rfl) rfl dX1_firstAt_1 ?_
  refine vv_iload_n C 1 dX1_firstAt_4 rfl rfl ?_
  refine vv_callVI C [.int i] (c_X3_at hX.2.2.1 M (i := i) (j := j) hi hj) hX.2.2.1.1 rfl (cwV 1 C.1.2.2.2.2 gX1_firstAt_X3_at rfl rfl rfl (by decide +kernel) ⟨Nat.le_of_ble_eq_true rfl, Nat.le_of_ble_eq_true rfl⟩) rfl rfl rfl (Nat.le_of_ble_eq_true rfl) dX1_firstAt_5 ⟨Nat.le_refl _, Nat.le_refl _⟩ ?_
  exact vv_iret C hR dX1_firstAt_8 (qI_of (rfl) (rfl))
theorem iX1_secondAt_X1 : ∀ w ∈ u_ws RX1 TX1 3, w ∈ wsX1_secondAt := fun w hw => (List.mem_cons_of_mem _ (List.mem_append_left _ (List.mem_append_right _ hw)))
set_option maxRecDepth 100000 in
set_option maxHeartbeats 4000000 in
theorem c_X1_secondAt {l : Launch} {G : mw_GG} {x b : Nat} (hX : mw_Ex x b) (M : mw_M) {i : Int32} {j : Nat} (hi : i = nI j) (hj : j < 4) : mw_Met l yX1_secondAt wsX1_secondAt ({ frames := 1, cells := 0, slots := 0, locals := 21 } : Room) G [.ref (G.1 x), .int i] M (qI (M (b + 2 + 3 * j)) M) := by
  refine mw_ofV (cc := cX1_secondAt) 2 (by decide) rfl rfl (Nat.le_of_ble_eq_true rfl) ?_
  intro p e s m args below meth c C hR hN0
  refine vv_loc (ls2 := [some (.ref (G.1 x)), some (.int i)]) rfl ?_
  refine vv_aload_n C 0 dX1_secondAt_0 rfl rfl ?_
  refine vv_getr C (Cn := RX1) (T := TX1) (N := 3) hX.1 2 rfl rfl (by decide) iX1_secondAt_X1 (List.mem_of_getElem? (i := 1) rfl) rfl dX1_secondAt_1 ?_
  refine vv_iload_n C 1 dX1_secondAt_4 rfl rfl ?_
  refine vv_callVI C [.int i] (c_X3_at hX.2.2.2 M (i := i) (j := j) hi hj) hX.2.2.2.1 rfl (cwV 1 C.1.2.2.2.2 gX1_secondAt_X3_at rfl rfl rfl (by decide +kernel) ⟨Nat.le_of_ble_eq_true rfl, Nat.le_of_ble_eq_true rfl⟩) rfl rfl rfl (Nat.le_of_ble_eq_true rfl) dX1_secondAt_5 ⟨Nat.le_refl _, Nat.le_refl _⟩ ?_
  exact vv_iret C hR dX1_secondAt_8 (qI_of (rfl) (rfl))
theorem iX1_fill_X1 : ∀ w ∈ u_ws RX1 TX1 3, w ∈ wsX1_fill := fun w hw => (List.mem_cons_of_mem _ (List.mem_append_left _ (List.mem_append_right _ hw)))
set_option maxRecDepth 100000 in
set_option maxHeartbeats 4000000 in
theorem c_X1_fill {l : Launch} {G : mw_GG} {x b : Nat} (hX : mw_Ex x b) (M : mw_M) {i : Int32} {j : Nat} (hi : i = nI j) (hj : j < 4) (u v w : Int32) : mw_Met l yX1_fill wsX1_fill ({ frames := 1, cells := 0, slots := 0, locals := 22 } : Room) G [.ref (G.1 x), .int i, .int u, .int v, .int w] M (qV (upd (upd (upd M (b + 3 * j) u) (b + 1 + 3 * j) v) (b + 2 + 3 * j) w)) := by
  refine mw_ofV (cc := cX1_fill) 5 (by decide) rfl rfl (Nat.le_of_ble_eq_true rfl) ?_
  intro p e s m args below meth c C hR hN0
  refine vv_loc (ls2 := [some (.ref (G.1 x)), some (.int i), some (.int u), some (.int v), some (.int w)]) rfl ?_
  refine vv_aload_n C 0 dX1_fill_0 rfl rfl ?_
  refine vv_getr C (Cn := RX1) (T := TX1) (N := 3) hX.1 0 rfl rfl (by decide) iX1_fill_X1 (List.mem_of_getElem? (i := 1) rfl) rfl dX1_fill_1 ?_
  refine vv_iload_n C 1 dX1_fill_4 rfl rfl ?_
  refine vv_iload_n C 2 dX1_fill_5 rfl rfl ?_
  refine vv_callVV C [.int i, .int u] (c_X3_set hX.2.1 M (i := i) (j := j) hi hj u) hX.2.1.1 rfl (cwV 2 C.1.2.2.2.2 gX1_fill_X3_set rfl rfl rfl (by decide +kernel) ⟨Nat.le_of_ble_eq_true rfl, Nat.le_of_ble_eq_true rfl⟩) rfl rfl rfl (Nat.le_of_ble_eq_true rfl) dX1_fill_6 ⟨Nat.le_refl _, Nat.le_refl _⟩ ?_
  refine vv_aload_n C 0 dX1_fill_9 rfl rfl ?_
  refine vv_getr C (Cn := RX1) (T := TX1) (N := 3) hX.1 1 rfl rfl (by decide) iX1_fill_X1 (List.mem_of_getElem? (i := 2) rfl) rfl dX1_fill_10 ?_
  refine vv_iload_n C 1 dX1_fill_13 rfl rfl ?_
  refine vv_iload_n C 3 dX1_fill_14 rfl rfl ?_
  refine vv_callVV C [.int i, .int v] (c_X3_set hX.2.2.1 (upd M (b + 3 * j) u) (i := i) (j := j) hi hj v) hX.2.2.1.1 rfl (cwV 2 C.1.2.2.2.2 gX1_fill_X3_set rfl rfl rfl (by decide +kernel) ⟨Nat.le_of_ble_eq_true rfl, Nat.le_of_ble_eq_true rfl⟩) rfl rfl rfl (Nat.le_of_ble_eq_true rfl) dX1_fill_15 ⟨Nat.le_refl _, Nat.le_refl _⟩ ?_
  refine vv_aload_n C 0 dX1_fill_18 rfl rfl ?_
  refine vv_getr C (Cn := RX1) (T := TX1) (N := 3) hX.1 2 rfl rfl (by decide) iX1_fill_X1 (List.mem_of_getElem? (i := 3) rfl) rfl dX1_fill_19 ?_
  refine vv_iload_n C 1 dX1_fill_22 rfl rfl ?_
  refine vv_iload C 4 dX1_fill_23 rfl ?_
  refine vv_callVV C [.int i, .int w] (c_X3_set hX.2.2.2 (upd (upd M (b + 3 * j) u) (b + 1 + 3 * j) v) (i := i) (j := j) hi hj w) hX.2.2.2.1 rfl (cwV 2 C.1.2.2.2.2 gX1_fill_X3_set rfl rfl rfl (by decide +kernel) ⟨Nat.le_of_ble_eq_true rfl, Nat.le_of_ble_eq_true rfl⟩) rfl rfl rfl (Nat.le_of_ble_eq_true rfl) dX1_fill_25 ⟨Nat.le_refl _, Nat.le_refl _⟩ ?_
  exact vv_vret C hR dX1_fill_28 (qV_of (rfl))
theorem iX1_wipe_X1 : ∀ w ∈ u_ws RX1 TX1 3, w ∈ wsX1_wipe := fun w hw => (List.mem_cons_of_mem _ (List.mem_append_left _ (List.mem_append_right _ hw)))
set_option maxRecDepth 100000 in
set_option maxHeartbeats 4000000 in
theorem c_X1_wipe {l : Launch} {G : mw_GG} {x b : Nat} (hX : mw_Ex x b) (M : mw_M) : mw_Met l yX1_wipe wsX1_wipe ({ frames := 1, cells := 0, slots := 0, locals := 22 } : Room) G [.ref (G.1 x)] M (qV (s_zero M b)) := by
  refine mw_ofV (cc := cX1_wipe) 1 (by decide) rfl rfl (Nat.le_of_ble_eq_true rfl) ?_
  intro p e s m args below meth c C hR hN0
  refine vv_loc (ls2 := [some (.ref (G.1 x))]) rfl ?_
  refine vv_aload_n C 0 dX1_wipe_0 rfl rfl ?_
  refine vv_getr C (Cn := RX1) (T := TX1) (N := 3) hX.1 0 rfl rfl (by decide) iX1_wipe_X1 (List.mem_of_getElem? (i := 1) rfl) rfl dX1_wipe_1 ?_
  refine vv_iconst (v := 0) C dX1_wipe_4 (by decide) ?_
  refine vv_callVVP C [.int 0] (c_X3_fill hX.2.1 M 0) hX.2.1.1 rfl (cwV 1 C.1.2.2.2.2 gX1_wipe_X3_fill rfl rfl rfl (by decide +kernel) ⟨Nat.le_of_ble_eq_true rfl, Nat.le_of_ble_eq_true rfl⟩) rfl rfl rfl (Nat.le_of_ble_eq_true rfl) dX1_wipe_5 ⟨Nat.le_refl _, Nat.le_refl _⟩ (fun M_1 h_2 => ?_)
  refine vv_aload_n C 0 dX1_wipe_8 rfl rfl ?_
  refine vv_getr C (Cn := RX1) (T := TX1) (N := 3) hX.1 1 rfl rfl (by decide) iX1_wipe_X1 (List.mem_of_getElem? (i := 2) rfl) rfl dX1_wipe_9 ?_
  refine vv_iconst (v := 0) C dX1_wipe_12 (by decide) ?_
  refine vv_callVVP C [.int 0] (c_X3_fill hX.2.2.1 M_1 0) hX.2.2.1.1 rfl (cwV 1 C.1.2.2.2.2 gX1_wipe_X3_fill rfl rfl rfl (by decide +kernel) ⟨Nat.le_of_ble_eq_true rfl, Nat.le_of_ble_eq_true rfl⟩) rfl rfl rfl (Nat.le_of_ble_eq_true rfl) dX1_wipe_13 ⟨Nat.le_refl _, Nat.le_refl _⟩ (fun M_3 h_4 => ?_)
  refine vv_aload_n C 0 dX1_wipe_16 rfl rfl ?_
  refine vv_getr C (Cn := RX1) (T := TX1) (N := 3) hX.1 2 rfl rfl (by decide) iX1_wipe_X1 (List.mem_of_getElem? (i := 3) rfl) rfl dX1_wipe_17 ?_
  refine vv_iconst (v := 0) C dX1_wipe_20 (by decide) ?_
  refine vv_callVVP C [.int 0] (c_X3_fill hX.2.2.2 M_3 0) hX.2.2.2.1 rfl (cwV 1 C.1.2.2.2.2 gX1_wipe_X3_fill rfl rfl rfl (by decide +kernel) ⟨Nat.le_of_ble_eq_true rfl, Nat.le_of_ble_eq_true rfl⟩) rfl rfl rfl (Nat.le_of_ble_eq_true rfl) dX1_wipe_21 ⟨Nat.le_refl _, Nat.le_refl _⟩ (fun M_5 h_6 => ?_)
  exact vv_vret C hR dX1_wipe_24 (qV_of (wipe_eq h_2 h_4 h_6))
theorem iX1_copyFrom_X1 : ∀ w ∈ u_ws RX1 TX1 3, w ∈ wsX1_copyFrom := fun w hw => (List.mem_cons_of_mem _ (List.mem_append_left _ (List.mem_append_right _ hw)))
set_option maxRecDepth 100000 in
set_option maxHeartbeats 4000000 in
theorem c_X1_copyFrom {l : Launch} {G : mw_GG} {x b : Nat} (hX : mw_Ex x b) {x2 b2 : Nat} (hX2 : mw_Ex x2 b2) (hd : b + 12 ≤ b2 ∨ b2 + 12 ≤ b) (M : mw_M) : mw_Met l yX1_copyFrom wsX1_copyFrom ({ frames := 2, cells := 0, slots := 0, locals := 43 } : Room) G [.ref (G.1 x), .ref (G.1 x2)] M (qV (s_blk M b b2 12)) := by
  refine mw_ofV (cc := cX1_copyFrom) 2 (by decide) rfl rfl (Nat.le_of_ble_eq_true rfl) ?_
  intro p e s m args below meth c C hR hN0
  refine vv_loc (ls2 := [some (.ref (G.1 x)), some (.ref (G.1 x2))]) rfl ?_
  refine vv_aload_n C 0 dX1_copyFrom_0 rfl rfl ?_
  refine vv_getr C (Cn := RX1) (T := TX1) (N := 3) hX.1 0 rfl rfl (by decide) iX1_copyFrom_X1 (List.mem_of_getElem? (i := 1) rfl) rfl dX1_copyFrom_1 ?_
  refine vv_aload_n C 1 dX1_copyFrom_4 rfl rfl ?_
  refine vv_getr C (Cn := RX1) (T := TX1) (N := 3) hX2.1 0 rfl rfl (by decide) iX1_copyFrom_X1 (List.mem_of_getElem? (i := 1) rfl) rfl dX1_copyFrom_5 ?_
  refine vv_callVVP C [.ref (G.1 (x2 + 1))] (c_X3_copyFrom hX.2.1 hX2.2.1 (by omega) (by intro i j hi hj; omega) M) hX.2.1.1 rfl (cwV 1 C.1.2.2.2.2 gX1_copyFrom_X3_copyFrom rfl rfl rfl (by decide +kernel) ⟨Nat.le_of_ble_eq_true rfl, Nat.le_of_ble_eq_true rfl⟩) rfl rfl rfl (Nat.le_of_ble_eq_true rfl) dX1_copyFrom_8 ⟨Nat.le_refl _, Nat.le_refl _⟩ (fun M_1 h_2 => ?_)
  refine vv_aload_n C 0 dX1_copyFrom_11 rfl rfl ?_
  refine vv_getr C (Cn := RX1) (T := TX1) (N := 3) hX.1 1 rfl rfl (by decide) iX1_copyFrom_X1 (List.mem_of_getElem? (i := 2) rfl) rfl dX1_copyFrom_12 ?_
  refine vv_aload_n C 1 dX1_copyFrom_15 rfl rfl ?_
  refine vv_getr C (Cn := RX1) (T := TX1) (N := 3) hX2.1 1 rfl rfl (by decide) iX1_copyFrom_X1 (List.mem_of_getElem? (i := 2) rfl) rfl dX1_copyFrom_16 ?_
  refine vv_callVVP C [.ref (G.1 (x2 + 3))] (c_X3_copyFrom hX.2.2.1 hX2.2.2.1 (by omega) (by intro i j hi hj; omega) M_1) hX.2.2.1.1 rfl (cwV 1 C.1.2.2.2.2 gX1_copyFrom_X3_copyFrom rfl rfl rfl (by decide +kernel) ⟨Nat.le_of_ble_eq_true rfl, Nat.le_of_ble_eq_true rfl⟩) rfl rfl rfl (Nat.le_of_ble_eq_true rfl) dX1_copyFrom_19 ⟨Nat.le_refl _, Nat.le_refl _⟩ (fun M_3 h_4 => ?_)
  refine vv_aload_n C 0 dX1_copyFrom_22 rfl rfl ?_
  refine vv_getr C (Cn := RX1) (T := TX1) (N := 3) hX.1 2 rfl rfl (by decide) iX1_copyFrom_X1 (List.mem_of_getElem? (i := 3) rfl) rfl dX1_copyFrom_23 ?_
  refine vv_aload_n C 1 dX1_copyFrom_26 rfl rfl ?_
  refine vv_getr C (Cn := RX1) (T := TX1) (N := 3) hX2.1 2 rfl rfl (by decide) iX1_copyFrom_X1 (List.mem_of_getElem? (i := 3) rfl) rfl dX1_copyFrom_27 ?_
  refine vv_callVVP C [.ref (G.1 (x2 + 5))] (c_X3_copyFrom hX.2.2.2 hX2.2.2.2 (by omega) (by intro i j hi hj; omega) M_3) hX.2.2.2.1 rfl (cwV 1 C.1.2.2.2.2 gX1_copyFrom_X3_copyFrom rfl rfl rfl (by decide +kernel) ⟨Nat.le_of_ble_eq_true rfl, Nat.le_of_ble_eq_true rfl⟩) rfl rfl rfl (Nat.le_of_ble_eq_true rfl) dX1_copyFrom_30 ⟨Nat.le_refl _, Nat.le_refl _⟩ (fun M_5 h_6 => ?_)
  exact vv_vret C hR dX1_copyFrom_33 (qV_of (copy_eq hd h_2 h_4 h_6))
theorem iX1_otherKinds_X1 : ∀ w ∈ u_ws RX1 TX1 3, w ∈ wsX1_otherKinds := fun w hw => (List.mem_cons_of_mem _ (List.mem_append_left _ (List.mem_append_right _ hw)))
set_option maxRecDepth 100000 in
set_option maxHeartbeats 4000000 in
theorem lp_X1_otherKinds {p : Program} {l : Launch} {e : Env} {s : State} {m : MethodId} {args : Array Value} {below : List Frame} {meth : Method} {c : Code} {G : mw_GG} {Q : State → Prop} (C : vv_C p s m args c G cX1_otherKinds 3 wsX1_otherKinds RX1) {x b : Nat} (hX : mw_Ex x b) (M : mw_M) (f : Nat → Bool) (hf : ∀ i, i < 4 → f i = decide (¬ M (b + 3 * i) = 0)) (hk : vv p l e ({ frames := 1, cells := 0, slots := 0, locals := 21 } : Room) s m args below meth c G 0 0 Q M 29 [some (.ref (G.1 x)), some (.int (nI (cntB f 4))), some (.int (nI 4))] []) : ∀ (k i : Nat), 5 ≤ i + k → i ≤ 4 → vv p l e ({ frames := 1, cells := 0, slots := 0, locals := 21 } : Room) s m args below meth c G 0 0 Q M 4 [some (.ref (G.1 x)), some (.int (nI (cntB f i))), some (.int (nI i))] [] := by
  intro k
  induction k with
  | zero => intro i h1 h2; omega
  | succ k ih =>
    intro i h1 h2
    refine vv_iload_n C 2 dX1_otherKinds_4 rfl rfl ?_
    refine vv_iconst (v := 4) C dX1_otherKinds_5 (by decide) ?_
    refine vv_icmp_ge C 29 dX1_otherKinds_6 (by decide) (fun hge => ?_) (fun hlt => ?_)
    · have hin : i = 4 := by
        rcases Nat.lt_or_ge i 4 with z | z
        · exact absurd hge (nI_ge (b := 4) z (by omega))
        · omega
      subst hin
      exact hk
    · have hlt2 : i < 4 := by
        rcases Nat.lt_or_ge i 4 with z | z
        · exact z
        · exact absurd (nI_le z (by omega)) hlt
      refine vv_aload_n C 0 dX1_otherKinds_9 rfl rfl ?_
      refine vv_getr C (Cn := RX1) (T := TX1) (N := 3) hX.1 0 rfl rfl (by decide) iX1_otherKinds_X1 (List.mem_of_getElem? (i := 1) rfl) rfl dX1_otherKinds_10 ?_
      refine vv_iload_n C 2 dX1_otherKinds_13 rfl rfl ?_
      refine vv_callVI C [.int (nI i)] (c_X3_at hX.2.1 M (i := (nI i)) (j := i) rfl hlt2) hX.2.1.1 rfl (cwV 1 C.1.2.2.2.2 gX1_otherKinds_X3_at rfl rfl rfl (by decide +kernel) ⟨Nat.le_of_ble_eq_true rfl, Nat.le_of_ble_eq_true rfl⟩) rfl rfl rfl (Nat.le_of_ble_eq_true rfl) dX1_otherKinds_14 ⟨Nat.le_refl _, Nat.le_refl _⟩ ?_
      refine vv_if_eq C 23 dX1_otherKinds_17 (by decide) (fun he => ?_) (fun hne => ?_)
      · refine vv_iinc (v := nI (i + 1)) (ls2 := [some (.ref (G.1 x)), some (.int (nI (cntB f i))), some (.int (nI (i + 1)))]) C 2 dX1_otherKinds_23 rfl (nI_1 _) rfl ?_
        refine vv_goto C 4 dX1_otherKinds_26 (by decide) ?_
        have e := ih (i + 1) (by omega) (by omega)
        rw [cntB_f (by rw [hf i hlt2]; exact decide_eq_false (fun z => z he))] at e
        exact e
      · refine vv_iinc (v := nI (cntB f i + 1)) (ls2 := [some (.ref (G.1 x)), some (.int (nI (cntB f i + 1))), some (.int (nI i))]) C 1 dX1_otherKinds_20 rfl (nI_1 _) rfl ?_
        refine vv_iinc (v := nI (i + 1)) (ls2 := [some (.ref (G.1 x)), some (.int (nI (cntB f i + 1))), some (.int (nI (i + 1)))]) C 2 dX1_otherKinds_23 rfl (nI_1 _) rfl ?_
        refine vv_goto C 4 dX1_otherKinds_26 (by decide) ?_
        have e := ih (i + 1) (by omega) (by omega)
        rw [cntB_t (by rw [hf i hlt2]; exact decide_eq_true hne)] at e
        exact e
set_option maxRecDepth 100000 in
set_option maxHeartbeats 4000000 in
theorem c_X1_otherKinds {l : Launch} {G : mw_GG} {x b : Nat} (hX : mw_Ex x b) (M : mw_M) (f : Nat → Bool) (hf : ∀ i, i < 4 → f i = decide (¬ M (b + 3 * i) = 0)) : mw_Met l yX1_otherKinds wsX1_otherKinds ({ frames := 1, cells := 0, slots := 0, locals := 21 } : Room) G [.ref (G.1 x)] M (qI (nI (cntB f 4)) M) := by
  refine mw_ofV (cc := cX1_otherKinds) 3 (by decide) rfl rfl (Nat.le_of_ble_eq_true rfl) ?_
  intro p e s m args below meth c C hR hN0
  refine vv_loc (ls2 := [some (.ref (G.1 x)), none, none]) rfl ?_
  refine vv_iconst (v := 0) C dX1_otherKinds_0 (by decide) ?_
  refine vv_istore_n (ls2 := [some (.ref (G.1 x)), some (.int 0), none]) C 1 dX1_otherKinds_1 rfl (Nat.le_of_ble_eq_true rfl) rfl ?_
  refine vv_iconst (v := 0) C dX1_otherKinds_2 (by decide) ?_
  refine vv_istore_n (ls2 := [some (.ref (G.1 x)), some (.int 0), some (.int 0)]) C 2 dX1_otherKinds_3 rfl (Nat.le_of_ble_eq_true rfl) rfl ?_
  refine lp_X1_otherKinds C hX M f hf ?_ 5 0 (by omega) (by omega)
  refine vv_iload_n C 1 dX1_otherKinds_29 rfl rfl ?_
  exact vv_iret C hR dX1_otherKinds_30 (qI_of rfl rfl)
theorem iX1_takesAlone_X1 : ∀ w ∈ u_ws RX1 TX1 3, w ∈ wsX1_takesAlone := fun w hw => (List.mem_cons_of_mem _ (List.mem_append_left _ (List.mem_append_right _ hw)))
set_option maxRecDepth 100000 in
set_option maxHeartbeats 4000000 in
theorem c_X1_takesAlone {l : Launch} {G : mw_GG} {x b : Nat} (hX : mw_Ex x b) (M : mw_M) {i : Int32} {j : Nat} (hi : i = nI j) (hj : j < 4) (v : Int32) : mw_Met l yX1_takesAlone wsX1_takesAlone ({ frames := 1, cells := 0, slots := 0, locals := 21 } : Room) G [.ref (G.1 x), .int i, .int v] M (qI (bI (tkB (M (b + 3 * j)) (M (b + 1 + 3 * j)) (M (b + 2 + 3 * j)) v = true)) M) := by
  refine mw_ofV (cc := cX1_takesAlone) 5 (by decide) rfl rfl (Nat.le_of_ble_eq_true rfl) ?_
  intro p e s m args below meth c C hR hN0
  refine vv_loc (ls2 := [some (.ref (G.1 x)), some (.int i), some (.int v), none, none]) rfl ?_
  refine vv_aload_n C 0 dX1_takesAlone_0 rfl rfl ?_
  refine vv_getr C (Cn := RX1) (T := TX1) (N := 3) hX.1 0 rfl rfl (by decide) iX1_takesAlone_X1 (List.mem_of_getElem? (i := 1) rfl) rfl dX1_takesAlone_1 ?_
  refine vv_iload_n C 1 dX1_takesAlone_4 rfl rfl ?_
  refine vv_callVI C [.int i] (c_X3_at hX.2.1 M (i := i) (j := j) hi hj) hX.2.1.1 rfl (cwV 1 C.1.2.2.2.2 gX1_takesAlone_X3_at rfl rfl rfl (by decide +kernel) ⟨Nat.le_of_ble_eq_true rfl, Nat.le_of_ble_eq_true rfl⟩) rfl rfl rfl (Nat.le_of_ble_eq_true rfl) dX1_takesAlone_5 ⟨Nat.le_refl _, Nat.le_refl _⟩ ?_
  refine vv_istore_n (ls2 := [some (.ref (G.1 x)), some (.int i), some (.int v), some (.int (M (b + 3 * j))), none]) C 3 dX1_takesAlone_8 rfl (Nat.le_of_ble_eq_true rfl) rfl ?_
  refine vv_aload_n C 0 dX1_takesAlone_9 rfl rfl ?_
  refine vv_getr C (Cn := RX1) (T := TX1) (N := 3) hX.1 1 rfl rfl (by decide) iX1_takesAlone_X1 (List.mem_of_getElem? (i := 2) rfl) rfl dX1_takesAlone_10 ?_
  refine vv_iload_n C 1 dX1_takesAlone_13 rfl rfl ?_
  refine vv_callVI C [.int i] (c_X3_at hX.2.2.1 M (i := i) (j := j) hi hj) hX.2.2.1.1 rfl (cwV 1 C.1.2.2.2.2 gX1_takesAlone_X3_at rfl rfl rfl (by decide +kernel) ⟨Nat.le_of_ble_eq_true rfl, Nat.le_of_ble_eq_true rfl⟩) rfl rfl rfl (Nat.le_of_ble_eq_true rfl) dX1_takesAlone_14 ⟨Nat.le_refl _, Nat.le_refl _⟩ ?_
  refine vv_istore (ls2 := [some (.ref (G.1 x)), some (.int i), some (.int v), some (.int (M (b + 3 * j))), some (.int (M (b + 1 + 3 * j)))]) C 4 dX1_takesAlone_17 (Nat.le_of_ble_eq_true rfl) rfl ?_
  refine vv_iload_n C 3 dX1_takesAlone_19 rfl rfl ?_
  refine vv_if_eq C 28 dX1_takesAlone_20 (by decide) (fun h_1 => ?_) (fun h_2 => ?_)
  · refine vv_iload_n C 3 dX1_takesAlone_28 rfl rfl ?_
    refine vv_if_eq C 37 dX1_takesAlone_29 (by decide) (fun h_3 => ?_) (fun h_4 => ?_)
    · refine vv_iconst (v := 1) C dX1_takesAlone_37 (by decide) ?_
      refine vv_goto C 42 dX1_takesAlone_38 (by decide) ?_
      exact vv_zret1 C hR dX1_takesAlone_42 (qI_of (by first | (simp [bI, tkB, h_1, h_3]; done) | (clear C hR; simp_all [bI, tkB]; done)) (rfl))
    · refine vv_iload_n C 2 dX1_takesAlone_32 rfl rfl ?_
      refine vv_iconst (v := (-1)) C dX1_takesAlone_33 (by decide) ?_
      refine vv_icmp_ne C 41 dX1_takesAlone_34 (by decide) (fun h_5 => ?_) (fun h_6 => ?_)
      · refine vv_iconst (v := 0) C dX1_takesAlone_41 (by decide) ?_
        exact vv_zret0 C hR dX1_takesAlone_42 (qI_of (by first | (simp [bI, tkB, h_1, h_4, h_5]; done) | (clear C hR; simp_all [bI, tkB]; done)) (rfl))
      · refine vv_iconst (v := 1) C dX1_takesAlone_37 (by decide) ?_
        refine vv_goto C 42 dX1_takesAlone_38 (by decide) ?_
        exact vv_zret1 C hR dX1_takesAlone_42 (qI_of (by first | (simp [bI, tkB, h_1, h_4, h_6]; done) | (clear C hR; simp_all [bI, tkB]; done)) (rfl))
  · refine vv_iload_n C 3 dX1_takesAlone_23 rfl rfl ?_
    refine vv_iconst (v := 1) C dX1_takesAlone_24 (by decide) ?_
    refine vv_icmp_ne C 43 dX1_takesAlone_25 (by decide) (fun h_7 => ?_) (fun h_8 => ?_)
    · refine vv_iload_n C 2 dX1_takesAlone_43 rfl rfl ?_
      refine vv_iconst (v := (-1)) C dX1_takesAlone_44 (by decide) ?_
      refine vv_icmp_ne C 50 dX1_takesAlone_45 (by decide) (fun h_9 => ?_) (fun h_10 => ?_)
      · refine vv_iload_n C 3 dX1_takesAlone_50 rfl rfl ?_
        rcases Classical.em (M (b + 3 * j) = 2) with h_11 | h_12
        · refine vv_tsIn C 2 92 dX1_takesAlone_51 h_11 (by decide) (by decide) rfl (by decide) ?_
          refine vv_iconst (v := 1) C dX1_takesAlone_92 (by decide) ?_
          exact vv_zret1 C hR dX1_takesAlone_93 (qI_of (by first | (simp [bI, tkB, h_2, h_7, h_9, h_11]; done) | (clear C hR; simp_all [bI, tkB]; done)) (rfl))
        rcases Classical.em (M (b + 3 * j) = 3) with h_13 | h_14
        · refine vv_tsIn C 3 94 dX1_takesAlone_51 h_13 (by decide) (by decide) rfl (by decide) ?_
          refine vv_iload_n C 2 dX1_takesAlone_94 rfl rfl ?_
          refine vv_iload C 4 dX1_takesAlone_95 rfl ?_
          refine vv_icmp_ne C 104 dX1_takesAlone_97 (by decide) (fun h_15 => ?_) (fun h_16 => ?_)
          · refine vv_iconst (v := 0) C dX1_takesAlone_104 (by decide) ?_
            exact vv_zret0 C hR dX1_takesAlone_105 (qI_of (by first | (simp [bI, tkB, h_2, h_7, h_9, h_12, h_13, h_15]; done) | (clear C hR; simp_all [bI, tkB]; done)) (rfl))
          · refine vv_iconst (v := 1) C dX1_takesAlone_100 (by decide) ?_
            refine vv_goto C 105 dX1_takesAlone_101 (by decide) ?_
            exact vv_zret1 C hR dX1_takesAlone_105 (qI_of (by first | (simp [bI, tkB, h_2, h_7, h_9, h_12, h_13, h_16]; done) | (clear C hR; simp_all [bI, tkB]; done)) (rfl))
        rcases Classical.em (M (b + 3 * j) = 4) with h_17 | h_18
        · refine vv_tsIn C 4 106 dX1_takesAlone_51 h_17 (by decide) (by decide) rfl (by decide) ?_
          refine vv_iload_n C 2 dX1_takesAlone_106 rfl rfl ?_
          refine vv_iload C 4 dX1_takesAlone_107 rfl ?_
          refine vv_icmp_eq C 116 dX1_takesAlone_109 (by decide) (fun h_19 => ?_) (fun h_20 => ?_)
          · refine vv_iconst (v := 0) C dX1_takesAlone_116 (by decide) ?_
            exact vv_zret0 C hR dX1_takesAlone_117 (qI_of (by first | (simp [bI, tkB, h_2, h_7, h_9, h_12, h_14, h_17, h_19]; done) | (clear C hR; simp_all [bI, tkB]; done)) (rfl))
          · refine vv_iconst (v := 1) C dX1_takesAlone_112 (by decide) ?_
            refine vv_goto C 117 dX1_takesAlone_113 (by decide) ?_
            exact vv_zret1 C hR dX1_takesAlone_117 (qI_of (by first | (simp [bI, tkB, h_2, h_7, h_9, h_12, h_14, h_17, h_20]; done) | (clear C hR; simp_all [bI, tkB]; done)) (rfl))
        rcases Classical.em (M (b + 3 * j) = 5) with h_21 | h_22
        · refine vv_tsIn C 5 118 dX1_takesAlone_51 h_21 (by decide) (by decide) rfl (by decide) ?_
          refine vv_iload_n C 2 dX1_takesAlone_118 rfl rfl ?_
          refine vv_iload C 4 dX1_takesAlone_119 rfl ?_
          refine vv_icmp_ge C 128 dX1_takesAlone_121 (by decide) (fun h_23 => ?_) (fun h_24 => ?_)
          · refine vv_iconst (v := 0) C dX1_takesAlone_128 (by decide) ?_
            exact vv_zret0 C hR dX1_takesAlone_129 (qI_of (by first | (simp [bI, tkB, h_2, h_7, h_9, h_12, h_14, h_18, h_21, h_23]; done) | (clear C hR; simp_all [bI, tkB]; done)) (rfl))
          · refine vv_iconst (v := 1) C dX1_takesAlone_124 (by decide) ?_
            refine vv_goto C 129 dX1_takesAlone_125 (by decide) ?_
            exact vv_zret1 C hR dX1_takesAlone_129 (qI_of (by first | (simp [bI, tkB, h_2, h_7, h_9, h_12, h_14, h_18, h_21, h_24]; done) | (clear C hR; simp_all [bI, tkB]; done)) (rfl))
        rcases Classical.em (M (b + 3 * j) = 6) with h_25 | h_26
        · refine vv_tsIn C 6 130 dX1_takesAlone_51 h_25 (by decide) (by decide) rfl (by decide) ?_
          refine vv_iload_n C 2 dX1_takesAlone_130 rfl rfl ?_
          refine vv_iload C 4 dX1_takesAlone_131 rfl ?_
          refine vv_icmp_le C 140 dX1_takesAlone_133 (by decide) (fun h_27 => ?_) (fun h_28 => ?_)
          · refine vv_iconst (v := 0) C dX1_takesAlone_140 (by decide) ?_
            exact vv_zret0 C hR dX1_takesAlone_141 (qI_of (by first | (simp [bI, tkB, h_2, h_7, h_9, h_12, h_14, h_18, h_22, h_25, h_27]; done) | (clear C hR; simp_all [bI, tkB]; done)) (rfl))
          · refine vv_iconst (v := 1) C dX1_takesAlone_136 (by decide) ?_
            refine vv_goto C 141 dX1_takesAlone_137 (by decide) ?_
            exact vv_zret1 C hR dX1_takesAlone_141 (qI_of (by first | (simp [bI, tkB, h_2, h_7, h_9, h_12, h_14, h_18, h_22, h_25, h_28]; done) | (clear C hR; simp_all [bI, tkB]; done)) (rfl))
        rcases Classical.em (M (b + 3 * j) = 7) with h_29 | h_30
        · refine vv_tsIn C 7 142 dX1_takesAlone_51 h_29 (by decide) (by decide) rfl (by decide) ?_
          refine vv_iload_n C 2 dX1_takesAlone_142 rfl rfl ?_
          refine vv_iload C 4 dX1_takesAlone_143 rfl ?_
          refine vv_icmp_lt C 164 dX1_takesAlone_145 (by decide) (fun h_31 => ?_) (fun h_32 => ?_)
          · refine vv_iconst (v := 0) C dX1_takesAlone_164 (by decide) ?_
            exact vv_zret0 C hR dX1_takesAlone_165 (qI_of (by first | (simp [bI, tkB, h_2, h_7, h_9, h_12, h_14, h_18, h_22, h_26, h_29, h_31]; done) | (clear C hR; simp_all [bI, tkB]; done)) (rfl))
          · refine vv_iload_n C 2 dX1_takesAlone_148 rfl rfl ?_
            refine vv_aload_n C 0 dX1_takesAlone_149 rfl rfl ?_
            refine vv_getr C (Cn := RX1) (T := TX1) (N := 3) hX.1 2 rfl rfl (by decide) iX1_takesAlone_X1 (List.mem_of_getElem? (i := 3) rfl) rfl dX1_takesAlone_150 ?_
            refine vv_iload_n C 1 dX1_takesAlone_153 rfl rfl ?_
            refine vv_callVI C [.int i] (c_X3_at hX.2.2.2 M (i := i) (j := j) hi hj) hX.2.2.2.1 rfl (cwV 1 C.1.2.2.2.2 gX1_takesAlone_X3_at rfl rfl rfl (by decide +kernel) ⟨Nat.le_of_ble_eq_true rfl, Nat.le_of_ble_eq_true rfl⟩) rfl rfl rfl (Nat.le_of_ble_eq_true rfl) dX1_takesAlone_154 ⟨Nat.le_refl _, Nat.le_refl _⟩ ?_
            refine vv_icmp_gt C 164 dX1_takesAlone_157 (by decide) (fun h_33 => ?_) (fun h_34 => ?_)
            · refine vv_iconst (v := 0) C dX1_takesAlone_164 (by decide) ?_
              exact vv_zret0 C hR dX1_takesAlone_165 (qI_of (by first | (simp [bI, tkB, h_2, h_7, h_9, h_12, h_14, h_18, h_22, h_26, h_29, h_32, h_33]; done) | (clear C hR; simp_all [bI, tkB]; done)) (rfl))
            · refine vv_iconst (v := 1) C dX1_takesAlone_160 (by decide) ?_
              refine vv_goto C 165 dX1_takesAlone_161 (by decide) ?_
              exact vv_zret1 C hR dX1_takesAlone_165 (qI_of (by first | (simp [bI, tkB, h_2, h_7, h_9, h_12, h_14, h_18, h_22, h_26, h_29, h_32, h_34]; done) | (clear C hR; simp_all [bI, tkB]; done)) (rfl))
        rcases Classical.em (M (b + 3 * j) = 8) with h_35 | h_36
        · refine vv_tsIn C 8 92 dX1_takesAlone_51 h_35 (by decide) (by decide) rfl (by decide) ?_
          refine vv_iconst (v := 1) C dX1_takesAlone_92 (by decide) ?_
          exact vv_zret1 C hR dX1_takesAlone_93 (qI_of (by first | (simp [bI, tkB, h_2, h_7, h_9, h_12, h_14, h_18, h_22, h_26, h_30, h_35]; done) | (clear C hR; simp_all [bI, tkB]; done)) (rfl))
        refine vv_tsOut C 166 dX1_takesAlone_51 (by have t2 := lv_neT (a := 2) h_12 (by decide); have t3 := lv_neT (a := 3) h_14 (by decide); have t4 := lv_neT (a := 4) h_18 (by decide); have t5 := lv_neT (a := 5) h_22 (by decide); have t6 := lv_neT (a := 6) h_26 (by decide); have t7 := lv_neT (a := 7) h_30 (by decide); have t8 := lv_neT (a := 8) h_36 (by decide); omega) (by decide) ?_
        refine vv_iconst (v := 0) C dX1_takesAlone_166 (by decide) ?_
        exact vv_zret0 C hR dX1_takesAlone_167 (qI_of (by first | (simp [bI, tkB, h_2, h_7, h_9, h_12, h_14, h_18, h_22, h_26, h_30, h_36]; done) | (clear C hR; simp_all [bI, tkB]; done)) (rfl))
      · refine vv_iconst (v := 0) C dX1_takesAlone_48 (by decide) ?_
        exact vv_zret0 C hR dX1_takesAlone_49 (qI_of (by first | (simp [bI, tkB, h_2, h_7, h_10]; done) | (clear C hR; simp_all [bI, tkB]; done)) (rfl))
    · refine vv_iload_n C 3 dX1_takesAlone_28 rfl rfl ?_
      refine vv_if_eq C 37 dX1_takesAlone_29 (by decide) (fun h_38 => ?_) (fun h_39 => ?_)
      · refine vv_iconst (v := 1) C dX1_takesAlone_37 (by decide) ?_
        refine vv_goto C 42 dX1_takesAlone_38 (by decide) ?_
        exact vv_zret1 C hR dX1_takesAlone_42 (qI_of (by first | (simp [bI, tkB, h_2, h_8, h_38]; done) | (clear C hR; simp_all [bI, tkB]; done)) (rfl))
      · refine vv_iload_n C 2 dX1_takesAlone_32 rfl rfl ?_
        refine vv_iconst (v := (-1)) C dX1_takesAlone_33 (by decide) ?_
        refine vv_icmp_ne C 41 dX1_takesAlone_34 (by decide) (fun h_40 => ?_) (fun h_41 => ?_)
        · refine vv_iconst (v := 0) C dX1_takesAlone_41 (by decide) ?_
          exact vv_zret0 C hR dX1_takesAlone_42 (qI_of (by first | (simp [bI, tkB, h_2, h_8, h_39, h_40]; done) | (clear C hR; simp_all [bI, tkB]; done)) (rfl))
        · refine vv_iconst (v := 1) C dX1_takesAlone_37 (by decide) ?_
          refine vv_goto C 42 dX1_takesAlone_38 (by decide) ?_
          exact vv_zret1 C hR dX1_takesAlone_42 (qI_of (by first | (simp [bI, tkB, h_2, h_8, h_39, h_41]; done) | (clear C hR; simp_all [bI, tkB]; done)) (rfl))
end
section
theorem iX0_width_X0 : ∀ w ∈ u_ws RX0 TX0 4, w ∈ wsX0_width := fun w hw => (List.mem_cons_of_mem _ (List.mem_append_right _ hw))
theorem add_sub1 (x : Int32) : x + 1 - 1 = x := by rw [Int32.sub_eq_add_neg, Int32.add_assoc, Int32.add_right_neg, Int32.add_zero]
set_option maxRecDepth 100000 in
set_option maxHeartbeats 4000000 in
theorem c_X0_width {l : Launch} {G : mw_GG} {d : Nat} (hd : d < 2) (M : mw_M) : mw_Met l yX0_width wsX0_width ({ frames := 0, cells := 0, slots := 0, locals := 0 } : Room) G [.ref (G.1 (1 + 10 * d))] M (qI (M d) M) := by
  refine mw_ofV (cc := cX0_width) 1 (by decide) rfl rfl (Nat.le_of_ble_eq_true rfl) ?_
  intro p e s m args below meth c C hR hN0
  refine vv_loc (ls2 := [some (.ref (G.1 (1 + 10 * d)))]) rfl ?_
  refine vv_aload_n C 0 dX0_width_0 rfl rfl ?_
  refine vv_geti C (Cn := RX0) (T := TX0) (N := 4) (mw_Dw_d hd).1 2 rfl rfl (by decide) iX0_width_X0 (List.mem_of_getElem? (i := 1) rfl) rfl dX0_width_1 ?_
  exact vv_iret C hR dX0_width_4 (qI_of (rfl) (rfl))
theorem iX0_size_X0 : ∀ w ∈ u_ws RX0 TX0 4, w ∈ wsX0_size := fun w hw => (List.mem_cons_of_mem _ (List.mem_append_right _ hw))
set_option maxRecDepth 100000 in
set_option maxHeartbeats 4000000 in
theorem c_X0_size {l : Launch} {G : mw_GG} {d : Nat} (hd : d < 2) (M : mw_M) : mw_Met l yX0_size wsX0_size ({ frames := 0, cells := 0, slots := 0, locals := 0 } : Room) G [.ref (G.1 (1 + 10 * d))] M (qI (M (2 + d)) M) := by
  refine mw_ofV (cc := cX0_size) 1 (by decide) rfl rfl (Nat.le_of_ble_eq_true rfl) ?_
  intro p e s m args below meth c C hR hN0
  refine vv_loc (ls2 := [some (.ref (G.1 (1 + 10 * d)))]) rfl ?_
  refine vv_aload_n C 0 dX0_size_0 rfl rfl ?_
  refine vv_geti C (Cn := RX0) (T := TX0) (N := 4) (mw_Dw_d hd).1 3 rfl rfl (by decide) iX0_size_X0 (List.mem_of_getElem? (i := 1) rfl) rfl dX0_size_1 ?_
  exact vv_iret C hR dX0_size_4 (qI_of (rfl) (rfl))
theorem mw_DwE {d : Nat} (h : d < 2) : mw_Ex (4 + 10 * d) (100 + 12 * d) := (mw_Dw_d h).2.2
theorem iX0_example_X0 : ∀ w ∈ u_ws RX0 TX0 4, w ∈ wsX0_example := fun w hw => (List.mem_cons_of_mem _ (List.mem_append_right _ hw))
set_option maxRecDepth 100000 in
set_option maxHeartbeats 4000000 in
theorem c_X0_example {l : Launch} {G : mw_GG} {d : Nat} (hd : d < 2) (M : mw_M) : mw_Met l yX0_example wsX0_example ({ frames := 0, cells := 0, slots := 0, locals := 0 } : Room) G [.ref (G.1 (1 + 10 * d))] M (qR (G.1 (4 + 10 * d)) M) := by
  refine mw_ofV (cc := cX0_example) 1 (by decide) rfl rfl (Nat.le_of_ble_eq_true rfl) ?_
  intro p e s m args below meth c C hR hN0
  refine vv_loc (ls2 := [some (.ref (G.1 (1 + 10 * d)))]) rfl ?_
  refine vv_aload_n C 0 dX0_example_0 rfl rfl ?_
  refine vv_getr C (Cn := RX0) (T := TX0) (N := 4) (mw_Dw_d hd).1 1 rfl rfl (by decide) iX0_example_X0 (List.mem_of_getElem? (i := 1) rfl) rfl dX0_example_1 ?_
  exact vv_aret C hR dX0_example_4 (qR_of (rfl) (rfl))
theorem iX0_hasColumn_X0 : ∀ w ∈ u_ws RX0 TX0 4, w ∈ wsX0_hasColumn := fun w hw => (List.mem_cons_of_mem _ (List.mem_append_right _ hw))
set_option maxRecDepth 100000 in
set_option maxHeartbeats 4000000 in
theorem c_X0_hasColumn {l : Launch} {G : mw_GG} {d : Nat} (hd : d < 2) (M : mw_M) (i : Int32) : mw_Met l yX0_hasColumn wsX0_hasColumn ({ frames := 0, cells := 0, slots := 0, locals := 0 } : Room) G [.ref (G.1 (1 + 10 * d)), .int i] M (qI (bI (hcP M d i)) M) := by
  refine mw_ofV (cc := cX0_hasColumn) 2 (by decide) rfl rfl (Nat.le_of_ble_eq_true rfl) ?_
  intro p e s m args below meth c C hR hN0
  refine vv_loc (ls2 := [some (.ref (G.1 (1 + 10 * d))), some (.int i)]) rfl ?_
  refine vv_iload_n C 1 dX0_hasColumn_0 rfl rfl ?_
  refine vv_if_lt C 16 dX0_hasColumn_1 (by decide) (fun h_1 => ?_) (fun h_2 => ?_)
  · refine vv_iconst (v := 0) C dX0_hasColumn_16 (by decide) ?_
    exact vv_zret0 C hR dX0_hasColumn_17 (qI_of (by simp [bI, h_1]) (rfl))
  · refine vv_iload_n C 1 dX0_hasColumn_4 rfl rfl ?_
    refine vv_aload_n C 0 dX0_hasColumn_5 rfl rfl ?_
    refine vv_geti C (Cn := RX0) (T := TX0) (N := 4) (mw_Dw_d hd).1 2 rfl rfl (by decide) iX0_hasColumn_X0 (List.mem_of_getElem? (i := 1) rfl) rfl dX0_hasColumn_6 ?_
    refine vv_icmp_ge C 16 dX0_hasColumn_9 (by decide) (fun h_3 => ?_) (fun h_4 => ?_)
    · refine vv_iconst (v := 0) C dX0_hasColumn_16 (by decide) ?_
      exact vv_zret0 C hR dX0_hasColumn_17 (qI_of (by simp [bI, h_2, h_3]) (rfl))
    · refine vv_iconst (v := 1) C dX0_hasColumn_12 (by decide) ?_
      refine vv_goto C 17 dX0_hasColumn_13 (by decide) ?_
      exact vv_zret1 C hR dX0_hasColumn_17 (qI_of (by simp [bI, h_2, h_4]) (rfl))
theorem iX0_hasCard_X0 : ∀ w ∈ u_ws RX0 TX0 4, w ∈ wsX0_hasCard := fun w hw => (List.mem_cons_of_mem _ (List.mem_append_right _ hw))
set_option maxRecDepth 100000 in
set_option maxHeartbeats 4000000 in
theorem c_X0_hasCard {l : Launch} {G : mw_GG} {d : Nat} (hd : d < 2) (M : mw_M) (i : Int32) : mw_Met l yX0_hasCard wsX0_hasCard ({ frames := 0, cells := 0, slots := 0, locals := 0 } : Room) G [.ref (G.1 (1 + 10 * d)), .int i] M (qI (bI (hkP M d i)) M) := by
  refine mw_ofV (cc := cX0_hasCard) 2 (by decide) rfl rfl (Nat.le_of_ble_eq_true rfl) ?_
  intro p e s m args below meth c C hR hN0
  refine vv_loc (ls2 := [some (.ref (G.1 (1 + 10 * d))), some (.int i)]) rfl ?_
  refine vv_iload_n C 1 dX0_hasCard_0 rfl rfl ?_
  refine vv_if_lt C 16 dX0_hasCard_1 (by decide) (fun h_1 => ?_) (fun h_2 => ?_)
  · refine vv_iconst (v := 0) C dX0_hasCard_16 (by decide) ?_
    exact vv_zret0 C hR dX0_hasCard_17 (qI_of (by simp [bI, h_1]) (rfl))
  · refine vv_iload_n C 1 dX0_hasCard_4 rfl rfl ?_
    refine vv_aload_n C 0 dX0_hasCard_5 rfl rfl ?_
    refine vv_geti C (Cn := RX0) (T := TX0) (N := 4) (mw_Dw_d hd).1 3 rfl rfl (by decide) iX0_hasCard_X0 (List.mem_of_getElem? (i := 1) rfl) rfl dX0_hasCard_6 ?_
    refine vv_icmp_ge C 16 dX0_hasCard_9 (by decide) (fun h_3 => ?_) (fun h_4 => ?_)
    · refine vv_iconst (v := 0) C dX0_hasCard_16 (by decide) ?_
      exact vv_zret0 C hR dX0_hasCard_17 (qI_of (by simp [bI, h_2, h_3]) (rfl))
    · refine vv_iconst (v := 1) C dX0_hasCard_12 (by decide) ?_
      refine vv_goto C 17 dX0_hasCard_13 (by decide) ?_
      exact vv_zret1 C hR dX0_hasCard_17 (qI_of (by simp [bI, h_2, h_4]) (rfl))
theorem iX0_entry_X0 : ∀ w ∈ u_ws RX0 TX0 4, w ∈ wsX0_entry := fun w hw => (List.mem_cons_of_mem _ (List.mem_append_left _ (List.mem_append_right _ hw)))
set_option maxRecDepth 100000 in
set_option maxHeartbeats 4000000 in
theorem c_X0_entry {l : Launch} {G : mw_GG} {d : Nat} (hd : d < 2) (M : mw_M) (hz : szP M d) (i j : Int32) : mw_Met l yX0_entry wsX0_entry ({ frames := 1, cells := 0, slots := 0, locals := 21 } : Room) G [.ref (G.1 (1 + 10 * d)), .int i, .int j] M (qI (entI M d i j) M) := by
  refine mw_ofV (cc := cX0_entry) 3 (by decide) rfl rfl (Nat.le_of_ble_eq_true rfl) ?_
  intro p e s m args below meth c C hR hN0
  refine vv_loc (ls2 := [some (.ref (G.1 (1 + 10 * d))), some (.int i), some (.int j)]) rfl ?_
  refine vv_aload_n C 0 dX0_entry_0 rfl rfl ?_
  refine vv_iload_n C 1 dX0_entry_1 rfl rfl ?_
  refine vv_callVI C [.int i] (c_X0_hasCard (d := d) hd M i) (mw_Dw_d hd).1 rfl (cwV 1 C.1.2.2.2.2 gX0_entry_X0_hasCard rfl rfl rfl (by decide +kernel) ⟨Nat.le_of_ble_eq_true rfl, Nat.le_of_ble_eq_true rfl⟩) rfl rfl rfl (Nat.le_of_ble_eq_true rfl) dX0_entry_2 ⟨Nat.le_refl _, Nat.le_refl _⟩ ?_
  refine vv_bif_eq C 16 dX0_entry_5 (by decide) (fun h_nk => ?_) (fun h_k => ?_)
  · refine vv_iconst (v := (-1)) C dX0_entry_16 (by decide) ?_
    exact vv_iret C hR dX0_entry_17 (qI_of (by unfold entI; rw [if_neg (fun z => h_nk z.1)]) (rfl))
  · refine vv_aload_n C 0 dX0_entry_8 rfl rfl ?_
    refine vv_iload_n C 2 dX0_entry_9 rfl rfl ?_
    refine vv_callVI C [.int j] (c_X0_hasColumn (d := d) hd M j) (mw_Dw_d hd).1 rfl (cwV 1 C.1.2.2.2.2 gX0_entry_X0_hasColumn rfl rfl rfl (by decide +kernel) ⟨Nat.le_of_ble_eq_true rfl, Nat.le_of_ble_eq_true rfl⟩) rfl rfl rfl (Nat.le_of_ble_eq_true rfl) dX0_entry_10 ⟨Nat.le_refl _, Nat.le_refl _⟩ ?_
    refine vv_bif_ne C 18 dX0_entry_13 (by decide) (fun h_c => ?_) (fun h_nc => ?_)
    · refine vv_aload_n C 0 dX0_entry_18 rfl rfl ?_
      refine vv_getr C (Cn := RX0) (T := TX0) (N := 4) (mw_Dw_d hd).1 0 rfl rfl (by decide) iX0_entry_X0 (List.mem_of_getElem? (i := 1) rfl) rfl dX0_entry_19 ?_
      refine vv_iload_n C 1 dX0_entry_22 rfl rfl ?_
      refine vv_iconst (v := 4) C dX0_entry_23 (by decide) ?_
      refine vv_imul C dX0_entry_24 ?_
      refine vv_iload_n C 2 dX0_entry_25 rfl rfl ?_
      refine vv_iadd C dX0_entry_26 ?_
      refine vv_callVI C [.int ((i * 4) + j)] (c_X3_at (mw_Dw_d hd).2.1 M (i := ((i * 4) + j)) (j := (4 * i.toNatClampNeg + j.toNatClampNeg)) (ent_ix hz h_k h_c).1 (ent_ix hz h_k h_c).2) (mw_Dw_d hd).2.1.1 rfl (cwV 1 C.1.2.2.2.2 gX0_entry_X3_at rfl rfl rfl (by decide +kernel) ⟨Nat.le_of_ble_eq_true rfl, Nat.le_of_ble_eq_true rfl⟩) rfl rfl rfl (Nat.le_of_ble_eq_true rfl) dX0_entry_27 ⟨Nat.le_refl _, Nat.le_refl _⟩ ?_
      exact vv_iret C hR dX0_entry_30 (qI_of (by unfold entI; rw [if_pos ⟨h_k, h_c⟩]; congr 1; omega) (rfl))
    · refine vv_iconst (v := (-1)) C dX0_entry_16 (by decide) ?_
      exact vv_iret C hR dX0_entry_17 (qI_of (by unfold entI; rw [if_neg (fun z => h_nc z.2)]) (rfl))
theorem iX0_remake_X0 : ∀ w ∈ u_ws RX0 TX0 4, w ∈ wsX0_remake := fun w hw => (List.mem_cons_of_mem _ (List.mem_append_left _ (List.mem_append_left _ (List.mem_append_right _ hw))))
set_option maxRecDepth 100000 in
set_option maxHeartbeats 4000000 in
theorem c_X0_remake {l : Launch} {G : mw_GG} {d : Nat} (hd : d < 2) (M : mw_M) (x : Int32) : mw_Met l yX0_remake wsX0_remake ({ frames := 2, cells := 0, slots := 0, locals := 42 } : Room) G [.ref (G.1 (1 + 10 * d)), .int x] M (qI (M (2 + d)) (s_zero (upd (upd M d x) (2 + d) 0) (100 + 12 * d))) := by
  refine mw_ofV (cc := cX0_remake) 3 (by decide) rfl rfl (Nat.le_of_ble_eq_true rfl) ?_
  intro p e s m args below meth c C hR hN0
  refine vv_loc (ls2 := [some (.ref (G.1 (1 + 10 * d))), some (.int x), none]) rfl ?_
  refine vv_aload_n C 0 dX0_remake_0 rfl rfl ?_
  refine vv_geti C (Cn := RX0) (T := TX0) (N := 4) (mw_Dw_d hd).1 3 rfl rfl (by decide) iX0_remake_X0 (List.mem_of_getElem? (i := 1) rfl) rfl dX0_remake_1 ?_
  refine vv_istore_n (ls2 := [some (.ref (G.1 (1 + 10 * d))), some (.int x), some (.int (M (2 + d)))]) C 2 dX0_remake_4 rfl (Nat.le_of_ble_eq_true rfl) rfl ?_
  refine vv_aload_n C 0 dX0_remake_5 rfl rfl ?_
  refine vv_iload_n C 1 dX0_remake_6 rfl rfl ?_
  refine vv_putf C (Cn := RX0) (T := TX0) (N := 4) (mw_Dw_d hd).1 2 rfl rfl (by decide) iX0_remake_X0 (List.mem_of_getElem? (i := 2) rfl) rfl tyX0_ok nmX0 rfl rfl dX0_remake_7 ?_
  refine vv_aload_n C 0 dX0_remake_10 rfl rfl ?_
  refine vv_iconst (v := 0) C dX0_remake_11 (by decide) ?_
  refine vv_putf C (Cn := RX0) (T := TX0) (N := 4) (mw_Dw_d hd).1 3 rfl rfl (by decide) iX0_remake_X0 (List.mem_of_getElem? (i := 1) rfl) rfl tyX0_ok nmX0 rfl rfl dX0_remake_12 ?_
  refine vv_aload_n C 0 dX0_remake_15 rfl rfl ?_
  refine vv_getr C (Cn := RX0) (T := TX0) (N := 4) (mw_Dw_d hd).1 1 rfl rfl (by decide) iX0_remake_X0 (List.mem_of_getElem? (i := 3) rfl) rfl dX0_remake_16 ?_
  refine vv_callVV C [] (c_X1_wipe (mw_Dw_d hd).2.2 (upd (upd M d x) (2 + d) 0)) (mw_Dw_d hd).2.2.1 rfl (cwV 0 C.1.2.2.2.2 gX0_remake_X1_wipe rfl rfl rfl (by decide +kernel) ⟨Nat.le_of_ble_eq_true rfl, Nat.le_of_ble_eq_true rfl⟩) rfl rfl rfl (Nat.le_of_ble_eq_true rfl) dX0_remake_19 ⟨Nat.le_refl _, Nat.le_refl _⟩ ?_
  refine vv_iload_n C 2 dX0_remake_22 rfl rfl ?_
  exact vv_iret C hR dX0_remake_23 (qI_of (rfl) (rfl))
def s_add (M : mw_M) (d n : Nat) (x y z w : Int32) : mw_M := upd (upd (upd (upd (upd M (4 + 48 * d + 4 * n) x) (4 + 48 * d + (4 * n + 1)) y) (4 + 48 * d + (4 * n + 2)) z) (4 + 48 * d + (4 * n + 3)) w) (2 + d) (nI (n + 1))
theorem m4_nI (n k : Nat) : nI n * 4 + nI k = nI (4 * n + k) := by
  rw [show (4 : Int32) = nI 4 from rfl, pk_mul, nI_add, Nat.mul_comm]
theorem m4_nI0 (n : Nat) : nI n * 4 = nI (4 * n) := by
  rw [show (4 : Int32) = nI 4 from rfl, pk_mul, Nat.mul_comm]
theorem upd_o {M : mw_M} {k q : Nat} {x : Int32} (h : q ≠ k) : upd M k x q = M q := by unfold upd; rw [if_neg h]
theorem upd_s {M : mw_M} {k : Nat} {x : Int32} : upd M k x k = x := by unfold upd; rw [if_pos rfl]
theorem iX0_add_X0 : ∀ w ∈ u_ws RX0 TX0 4, w ∈ wsX0_add := fun w hw => (List.mem_cons_of_mem _ (List.mem_append_left _ (List.mem_append_right _ hw)))
set_option maxRecDepth 100000 in
set_option maxHeartbeats 4000000 in
theorem c_X0_add {l : Launch} {G : mw_GG} {d : Nat} (hd : d < 2) (M : mw_M) {n : Nat} (hn : M (2 + d) = nI n) (hlt : n < 12) (x y z w : Int32) : mw_Met l yX0_add wsX0_add ({ frames := 1, cells := 0, slots := 0, locals := 22 } : Room) G [.ref (G.1 (1 + 10 * d)), .int x, .int y, .int z, .int w] M (qI (nI n) (s_add M d n x y z w)) := by
  refine mw_ofV (cc := cX0_add) 6 (by decide) rfl rfl (Nat.le_of_ble_eq_true rfl) ?_
  intro p e s m args below meth c C hR hN0
  refine vv_loc (ls2 := [some (.ref (G.1 (1 + 10 * d))), some (.int x), some (.int y), some (.int z), some (.int w), none]) rfl ?_
  refine vv_aload_n C 0 dX0_add_0 rfl rfl ?_
  refine vv_geti C (Cn := RX0) (T := TX0) (N := 4) (mw_Dw_d hd).1 3 rfl rfl (by decide) iX0_add_X0 (List.mem_of_getElem? (i := 1) rfl) rfl dX0_add_1 ?_
  refine vv_iconst (v := 4) C dX0_add_4 (by decide) ?_
  refine vv_imul C dX0_add_5 ?_
  refine vv_istore (ls2 := [some (.ref (G.1 (1 + 10 * d))), some (.int x), some (.int y), some (.int z), some (.int w), some (.int ((M (2 + d)) * 4))]) C 5 dX0_add_6 (Nat.le_of_ble_eq_true rfl) rfl ?_
  refine vv_aload_n C 0 dX0_add_8 rfl rfl ?_
  refine vv_getr C (Cn := RX0) (T := TX0) (N := 4) (mw_Dw_d hd).1 0 rfl rfl (by decide) iX0_add_X0 (List.mem_of_getElem? (i := 2) rfl) rfl dX0_add_9 ?_
  refine vv_iload C 5 dX0_add_12 rfl ?_
  refine vv_iload_n C 1 dX0_add_14 rfl rfl ?_
  refine vv_callVV C [.int ((M (2 + d)) * 4), .int x] (c_X3_set (mw_Dw_d hd).2.1 M (i := ((M (2 + d)) * 4)) (j := (4 * n)) (by rw [hn]; exact m4_nI0 n) (by omega) x) (mw_Dw_d hd).2.1.1 rfl (cwV 2 C.1.2.2.2.2 gX0_add_X3_set rfl rfl rfl (by decide +kernel) ⟨Nat.le_of_ble_eq_true rfl, Nat.le_of_ble_eq_true rfl⟩) rfl rfl rfl (Nat.le_of_ble_eq_true rfl) dX0_add_15 ⟨Nat.le_refl _, Nat.le_refl _⟩ ?_
  refine vv_aload_n C 0 dX0_add_18 rfl rfl ?_
  refine vv_getr C (Cn := RX0) (T := TX0) (N := 4) (mw_Dw_d hd).1 0 rfl rfl (by decide) iX0_add_X0 (List.mem_of_getElem? (i := 2) rfl) rfl dX0_add_19 ?_
  refine vv_iload C 5 dX0_add_22 rfl ?_
  refine vv_iconst (v := 1) C dX0_add_24 (by decide) ?_
  refine vv_iadd C dX0_add_25 ?_
  refine vv_iload_n C 2 dX0_add_26 rfl rfl ?_
  refine vv_callVV C [.int (((M (2 + d)) * 4) + 1), .int y] (c_X3_set (mw_Dw_d hd).2.1 (upd M (4 + 48 * d + 1 * (4 * n)) x) (i := (((M (2 + d)) * 4) + 1)) (j := (4 * n + 1)) (by rw [hn]; exact m4_nI n 1) (by omega) y) (mw_Dw_d hd).2.1.1 rfl (cwV 2 C.1.2.2.2.2 gX0_add_X3_set rfl rfl rfl (by decide +kernel) ⟨Nat.le_of_ble_eq_true rfl, Nat.le_of_ble_eq_true rfl⟩) rfl rfl rfl (Nat.le_of_ble_eq_true rfl) dX0_add_27 ⟨Nat.le_refl _, Nat.le_refl _⟩ ?_
  refine vv_aload_n C 0 dX0_add_30 rfl rfl ?_
  refine vv_getr C (Cn := RX0) (T := TX0) (N := 4) (mw_Dw_d hd).1 0 rfl rfl (by decide) iX0_add_X0 (List.mem_of_getElem? (i := 2) rfl) rfl dX0_add_31 ?_
  refine vv_iload C 5 dX0_add_34 rfl ?_
  refine vv_iconst (v := 2) C dX0_add_36 (by decide) ?_
  refine vv_iadd C dX0_add_37 ?_
  refine vv_iload_n C 3 dX0_add_38 rfl rfl ?_
  refine vv_callVV C [.int (((M (2 + d)) * 4) + 2), .int z] (c_X3_set (mw_Dw_d hd).2.1 (upd (upd M (4 + 48 * d + 1 * (4 * n)) x) (4 + 48 * d + 1 * (4 * n + 1)) y) (i := (((M (2 + d)) * 4) + 2)) (j := (4 * n + 2)) (by rw [hn]; exact m4_nI n 2) (by omega) z) (mw_Dw_d hd).2.1.1 rfl (cwV 2 C.1.2.2.2.2 gX0_add_X3_set rfl rfl rfl (by decide +kernel) ⟨Nat.le_of_ble_eq_true rfl, Nat.le_of_ble_eq_true rfl⟩) rfl rfl rfl (Nat.le_of_ble_eq_true rfl) dX0_add_39 ⟨Nat.le_refl _, Nat.le_refl _⟩ ?_
  refine vv_aload_n C 0 dX0_add_42 rfl rfl ?_
  refine vv_getr C (Cn := RX0) (T := TX0) (N := 4) (mw_Dw_d hd).1 0 rfl rfl (by decide) iX0_add_X0 (List.mem_of_getElem? (i := 2) rfl) rfl dX0_add_43 ?_
  refine vv_iload C 5 dX0_add_46 rfl ?_
  refine vv_iconst (v := 3) C dX0_add_48 (by decide) ?_
  refine vv_iadd C dX0_add_49 ?_
  refine vv_iload C 4 dX0_add_50 rfl ?_
  refine vv_callVV C [.int (((M (2 + d)) * 4) + 3), .int w] (c_X3_set (mw_Dw_d hd).2.1 (upd (upd (upd M (4 + 48 * d + 1 * (4 * n)) x) (4 + 48 * d + 1 * (4 * n + 1)) y) (4 + 48 * d + 1 * (4 * n + 2)) z) (i := (((M (2 + d)) * 4) + 3)) (j := (4 * n + 3)) (by rw [hn]; exact m4_nI n 3) (by omega) w) (mw_Dw_d hd).2.1.1 rfl (cwV 2 C.1.2.2.2.2 gX0_add_X3_set rfl rfl rfl (by decide +kernel) ⟨Nat.le_of_ble_eq_true rfl, Nat.le_of_ble_eq_true rfl⟩) rfl rfl rfl (Nat.le_of_ble_eq_true rfl) dX0_add_52 ⟨Nat.le_refl _, Nat.le_refl _⟩ ?_
  refine vv_aload_n C 0 dX0_add_55 rfl rfl ?_
  refine vv_dup C dX0_add_56 rfl ?_
  refine vv_geti C (Cn := RX0) (T := TX0) (N := 4) (mw_Dw_d hd).1 3 rfl rfl (by decide) iX0_add_X0 (List.mem_of_getElem? (i := 1) rfl) rfl dX0_add_57 ?_
  refine vv_iconst (v := 1) C dX0_add_60 (by decide) ?_
  refine vv_iadd C dX0_add_61 ?_
  refine vv_putf C (Cn := RX0) (T := TX0) (N := 4) (mw_Dw_d hd).1 3 rfl rfl (by decide) iX0_add_X0 (List.mem_of_getElem? (i := 1) rfl) rfl tyX0_ok nmX0 rfl rfl dX0_add_62 ?_
  refine vv_aload_n C 0 dX0_add_65 rfl rfl ?_
  refine vv_geti C (Cn := RX0) (T := TX0) (N := 4) (mw_Dw_d hd).1 3 rfl rfl (by decide) iX0_add_X0 (List.mem_of_getElem? (i := 1) rfl) rfl dX0_add_66 ?_
  refine vv_iconst (v := 1) C dX0_add_69 (by decide) ?_
  refine vv_isub C dX0_add_70 ?_
  exact vv_iret C hR dX0_add_71 (qI_of (by rw [upd_s, upd_o (by omega), upd_o (by omega), upd_o (by omega), upd_o (by omega), hn]; exact add_sub1 _) (by unfold s_add; rw [upd_o (by omega), upd_o (by omega), upd_o (by omega), upd_o (by omega), hn, nI_1]; congr 5 <;> omega))
theorem iX0_replace_X0 : ∀ w ∈ u_ws RX0 TX0 4, w ∈ wsX0_replace := fun w hw => (List.mem_cons_of_mem _ (List.mem_append_left _ (List.mem_append_right _ hw)))
set_option maxRecDepth 100000 in
set_option maxHeartbeats 4000000 in
theorem c_X0_replace {l : Launch} {G : mw_GG} {d : Nat} (hd : d < 2) (M : mw_M) (hz : szP M d) {i j : Int32} (hk : hkP M d i) (hc : hcP M d j) (v : Int32) : mw_Met l yX0_replace wsX0_replace ({ frames := 2, cells := 0, slots := 0, locals := 43 } : Room) G [.ref (G.1 (1 + 10 * d)), .int i, .int j, .int v] M (qI (M (4 + 48 * d + (4 * i.toNatClampNeg + j.toNatClampNeg))) (upd M (4 + 48 * d + (4 * i.toNatClampNeg + j.toNatClampNeg)) v)) := by
  refine mw_ofV (cc := cX0_replace) 5 (by decide) rfl rfl (Nat.le_of_ble_eq_true rfl) ?_
  intro p e s m args below meth c C hR hN0
  refine vv_loc (ls2 := [some (.ref (G.1 (1 + 10 * d))), some (.int i), some (.int j), some (.int v), none]) rfl ?_
  refine vv_aload_n C 0 dX0_replace_0 rfl rfl ?_
  refine vv_iload_n C 1 dX0_replace_1 rfl rfl ?_
  refine vv_iload_n C 2 dX0_replace_2 rfl rfl ?_
  refine vv_callVI C [.int i, .int j] (c_X0_entry (d := d) hd M hz i j) (mw_Dw_d hd).1 rfl (cwV 2 C.1.2.2.2.2 gX0_replace_X0_entry rfl rfl rfl (by decide +kernel) ⟨Nat.le_of_ble_eq_true rfl, Nat.le_of_ble_eq_true rfl⟩) rfl rfl rfl (Nat.le_of_ble_eq_true rfl) dX0_replace_3 ⟨Nat.le_refl _, Nat.le_refl _⟩ ?_
  refine vv_istore (ls2 := [some (.ref (G.1 (1 + 10 * d))), some (.int i), some (.int j), some (.int v), some (.int (entI M d i j))]) C 4 dX0_replace_6 (Nat.le_of_ble_eq_true rfl) rfl ?_
  refine vv_aload_n C 0 dX0_replace_8 rfl rfl ?_
  refine vv_getr C (Cn := RX0) (T := TX0) (N := 4) (mw_Dw_d hd).1 0 rfl rfl (by decide) iX0_replace_X0 (List.mem_of_getElem? (i := 1) rfl) rfl dX0_replace_9 ?_
  refine vv_iload_n C 1 dX0_replace_12 rfl rfl ?_
  refine vv_iconst (v := 4) C dX0_replace_13 (by decide) ?_
  refine vv_imul C dX0_replace_14 ?_
  refine vv_iload_n C 2 dX0_replace_15 rfl rfl ?_
  refine vv_iadd C dX0_replace_16 ?_
  refine vv_iload_n C 3 dX0_replace_17 rfl rfl ?_
  refine vv_callVV C [.int ((i * 4) + j), .int v] (c_X3_set (mw_Dw_d hd).2.1 M (i := ((i * 4) + j)) (j := (4 * i.toNatClampNeg + j.toNatClampNeg)) (ent_ix hz hk hc).1 (ent_ix hz hk hc).2 v) (mw_Dw_d hd).2.1.1 rfl (cwV 2 C.1.2.2.2.2 gX0_replace_X3_set rfl rfl rfl (by decide +kernel) ⟨Nat.le_of_ble_eq_true rfl, Nat.le_of_ble_eq_true rfl⟩) rfl rfl rfl (Nat.le_of_ble_eq_true rfl) dX0_replace_18 ⟨Nat.le_refl _, Nat.le_refl _⟩ ?_
  refine vv_iload C 4 dX0_replace_21 rfl ?_
  exact vv_iret C hR dX0_replace_23 (qI_of (by unfold entI; rw [if_pos ⟨hk, hc⟩]) (by congr 1; omega))
def s_rem (M : mw_M) (d n k i : Nat) : mw_M := fun q => if 4 + 48 * d + 4 * k ≤ q ∧ q < 4 + 48 * d + i then M (q + 4) else if q = 2 + d then nI (n - 1) else M q
theorem rem_step {M : mw_M} {d n k i : Nat} (hd : d < 2) (h1 : 4 * k ≤ i) (h2 : i < 44) : upd (s_rem M d n k i) (4 + 48 * d + 1 * i) (s_rem M d n k i (4 + 48 * d + 1 * (i + 4))) = s_rem M d n k (i + 1) := by
  funext q
  unfold upd s_rem
  rw [if_neg (show ¬ (4 + 48 * d + 4 * k ≤ 4 + 48 * d + 1 * (i + 4) ∧ 4 + 48 * d + 1 * (i + 4) < 4 + 48 * d + i) by omega), if_neg (show ¬ (4 + 48 * d + 1 * (i + 4) = 2 + d) by omega)]
  by_cases hq : q = 4 + 48 * d + 1 * i
  · rw [if_pos hq, if_pos (by omega)]
    congr 1
    omega
  · rw [if_neg hq]
    by_cases h3 : 4 + 48 * d + 4 * k ≤ q ∧ q < 4 + 48 * d + i
    · rw [if_pos h3, if_pos (by omega)]
    · rw [if_neg h3, if_neg (show ¬ (4 + 48 * d + 4 * k ≤ q ∧ q < 4 + 48 * d + (i + 1)) by omega)]
theorem rem_start {M : mw_M} {d n k : Nat} (hd : d < 2) : upd M (2 + d) (nI (n - 1)) = s_rem M d n k (4 * k) := by
  funext q
  unfold upd s_rem
  rw [if_neg (show ¬ (4 + 48 * d + 4 * k ≤ q ∧ q < 4 + 48 * d + 4 * k) by omega)]
theorem rem_size {M : mw_M} {d n k i : Nat} (hd : d < 2) : s_rem M d n k i (2 + d) = nI (n - 1) := by
  unfold s_rem
  rw [if_neg (by omega), if_pos rfl]
theorem iX0_remove_X0 : ∀ w ∈ u_ws RX0 TX0 4, w ∈ wsX0_remove := fun w hw => (List.mem_cons_of_mem _ (List.mem_append_left _ (List.mem_append_right _ hw)))
set_option maxRecDepth 100000 in
set_option maxHeartbeats 4000000 in
theorem lp_X0_remove {p : Program} {l : Launch} {e : Env} {s : State} {m : MethodId} {args : Array Value} {below : List Frame} {meth : Method} {c : Code} {G : mw_GG} {Q : State → Prop} (C : vv_C p s m args c G cX0_remove 3 wsX0_remove RX0) {d : Nat} (hd : d < 2) (M : mw_M) {n k : Nat} (hn : n ≤ 12) (hkn : k < n) (x : Int32) (hk : vv p l e ({ frames := 1, cells := 0, slots := 0, locals := 22 } : Room) s m args below meth c G 0 0 Q (s_rem M d n k (4 * (n - 1))) 48 [some (.ref (G.1 (1 + 10 * d))), some (.int x), some (.int (nI (4 * (n - 1))))] []) : ∀ (f i : Nat), 4 * (n - 1) + 1 ≤ i + f → 4 * k ≤ i → i ≤ 4 * (n - 1) → vv p l e ({ frames := 1, cells := 0, slots := 0, locals := 22 } : Room) s m args below meth c G 0 0 Q (s_rem M d n k i) 14 [some (.ref (G.1 (1 + 10 * d))), some (.int x), some (.int (nI i))] [] := by
  intro f
  induction f with
  | zero => intro i h1 h2 h3; omega
  | succ f ih =>
    intro i h1 h2 h3
    refine vv_iload_n C 2 dX0_remove_14 rfl rfl ?_
    refine vv_aload_n C 0 dX0_remove_15 rfl rfl ?_
    refine vv_geti C (Cn := RX0) (T := TX0) (N := 4) (mw_Dw_d hd).1 3 rfl rfl (by decide) iX0_remove_X0 (List.mem_of_getElem? (i := 1) rfl) rfl dX0_remove_16 ?_
    refine vv_iconst (v := 4) C dX0_remove_19 (by decide) ?_
    refine vv_imul C dX0_remove_20 ?_
    refine vv_top (y := nI (4 * (n - 1))) (by rw [rem_size hd]; exact m4_nI0 (n - 1)) ?_
    refine vv_icmp_ge C 48 dX0_remove_21 (by decide) (fun hge => ?_) (fun hlt => ?_)
    · have hin : i = 4 * (n - 1) := by
        rcases Nat.lt_or_ge i (4 * (n - 1)) with z | z
        · exact absurd hge (nI_ge z (by omega))
        · omega
      subst hin
      exact hk
    · have hlt2 : i < 4 * (n - 1) := by
        rcases Nat.lt_or_ge i (4 * (n - 1)) with z | z
        · exact z
        · exact absurd (nI_le z (by omega)) hlt
      refine vv_aload_n C 0 dX0_remove_24 rfl rfl ?_
      refine vv_getr C (Cn := RX0) (T := TX0) (N := 4) (mw_Dw_d hd).1 0 rfl rfl (by decide) iX0_remove_X0 (List.mem_of_getElem? (i := 2) rfl) rfl dX0_remove_25 ?_
      refine vv_iload_n C 2 dX0_remove_28 rfl rfl ?_
      refine vv_aload_n C 0 dX0_remove_29 rfl rfl ?_
      refine vv_getr C (Cn := RX0) (T := TX0) (N := 4) (mw_Dw_d hd).1 0 rfl rfl (by decide) iX0_remove_X0 (List.mem_of_getElem? (i := 2) rfl) rfl dX0_remove_30 ?_
      refine vv_iload_n C 2 dX0_remove_33 rfl rfl ?_
      refine vv_iconst (v := 4) C dX0_remove_34 (by decide) ?_
      refine vv_iadd C dX0_remove_35 ?_
      refine vv_callVI C [.int ((nI i) + 4)] (c_X3_at (mw_Dw_d hd).2.1 (s_rem M d n k i) (i := ((nI i) + 4)) (j := (i + 4)) (nI_add i 4) (by omega)) (mw_Dw_d hd).2.1.1 rfl (cwV 1 C.1.2.2.2.2 gX0_remove_X3_at rfl rfl rfl (by decide +kernel) ⟨Nat.le_of_ble_eq_true rfl, Nat.le_of_ble_eq_true rfl⟩) rfl rfl rfl (Nat.le_of_ble_eq_true rfl) dX0_remove_36 ⟨Nat.le_refl _, Nat.le_refl _⟩ ?_
      refine vv_callVV C [.int (nI i), .int ((s_rem M d n k i) (4 + 48 * d + 1 * (i + 4)))] (c_X3_set (mw_Dw_d hd).2.1 (s_rem M d n k i) (i := (nI i)) (j := i) rfl (by omega) ((s_rem M d n k i) (4 + 48 * d + 1 * (i + 4)))) (mw_Dw_d hd).2.1.1 rfl (cwV 2 C.1.2.2.2.2 gX0_remove_X3_set rfl rfl rfl (by decide +kernel) ⟨Nat.le_of_ble_eq_true rfl, Nat.le_of_ble_eq_true rfl⟩) rfl rfl rfl (Nat.le_of_ble_eq_true rfl) dX0_remove_39 ⟨Nat.le_refl _, Nat.le_refl _⟩ ?_
      refine vv_mem (rem_step hd h2 (by omega)) ?_
      refine vv_iinc (v := nI (i + 1)) (ls2 := [some (.ref (G.1 (1 + 10 * d))), some (.int x), some (.int (nI (i + 1)))]) C 2 dX0_remove_42 rfl (nI_1 _) rfl ?_
      refine vv_goto C 14 dX0_remove_45 (by decide) ?_
      exact ih (i + 1) (by omega) (by omega) (by omega)
set_option maxRecDepth 100000 in
set_option maxHeartbeats 4000000 in
theorem c_X0_remove {l : Launch} {G : mw_GG} {d : Nat} (hd : d < 2) (M : mw_M) {n k : Nat} (hn : M (2 + d) = nI n) (hn12 : n ≤ 12) (hkn : k < n) {x : Int32} (hx : x = nI k) : mw_Met l yX0_remove wsX0_remove ({ frames := 1, cells := 0, slots := 0, locals := 22 } : Room) G [.ref (G.1 (1 + 10 * d)), .int x] M (qI (nI (n - 1)) (s_rem M d n k (4 * (n - 1)))) := by
  refine mw_ofV (cc := cX0_remove) 3 (by decide) rfl rfl (Nat.le_of_ble_eq_true rfl) ?_
  intro p e s m args below meth c C hR hN0
  refine vv_loc (ls2 := [some (.ref (G.1 (1 + 10 * d))), some (.int x), none]) rfl ?_
  refine vv_aload_n C 0 dX0_remove_0 rfl rfl ?_
  refine vv_dup C dX0_remove_1 rfl ?_
  refine vv_geti C (Cn := RX0) (T := TX0) (N := 4) (mw_Dw_d hd).1 3 rfl rfl (by decide) iX0_remove_X0 (List.mem_of_getElem? (i := 1) rfl) rfl dX0_remove_2 ?_
  refine vv_iconst (v := 1) C dX0_remove_5 (by decide) ?_
  refine vv_isub C dX0_remove_6 ?_
  refine vv_top (y := nI (n - 1)) (by rw [hn]; exact pk_sub (show 1 ≤ n by omega)) ?_
  refine vv_putf C (Cn := RX0) (T := TX0) (N := 4) (mw_Dw_d hd).1 3 rfl rfl (by decide) iX0_remove_X0 (List.mem_of_getElem? (i := 1) rfl) rfl tyX0_ok nmX0 rfl rfl dX0_remove_7 ?_
  refine vv_mem (rem_start (k := k) hd) ?_
  refine vv_iload_n C 1 dX0_remove_10 rfl rfl ?_
  refine vv_iconst (v := 4) C dX0_remove_11 (by decide) ?_
  refine vv_imul C dX0_remove_12 ?_
  refine vv_top (y := nI (4 * k)) (by rw [hx]; exact m4_nI0 k) ?_
  refine vv_istore_n (ls2 := [some (.ref (G.1 (1 + 10 * d))), some (.int x), some (.int (nI (4 * k)))]) C 2 dX0_remove_13 rfl (Nat.le_of_ble_eq_true rfl) rfl ?_
  refine lp_X0_remove C hd M hn12 hkn x ?_ (4 * (n - 1) + 1) (4 * k) (by omega) (by omega) (by omega)
  refine vv_aload_n C 0 dX0_remove_48 rfl rfl ?_
  refine vv_geti C (Cn := RX0) (T := TX0) (N := 4) (mw_Dw_d hd).1 3 rfl rfl (by decide) iX0_remove_X0 (List.mem_of_getElem? (i := 1) rfl) rfl dX0_remove_49 ?_
  exact vv_iret C hR dX0_remove_52 (qI_of (rem_size hd) rfl)
/-- how many cards fit a cell by themselves -/
def s_cf (M : mw_M) (d c : Nat) (k : Nat) : Bool := tkB (M (100 + 12 * d + 3 * c)) (M (100 + 12 * d + 1 + 3 * c)) (M (100 + 12 * d + 2 + 3 * c)) (entI M d (nI k) (nI c))
theorem iX0_countFitting_X0 : ∀ w ∈ u_ws RX0 TX0 4, w ∈ wsX0_countFitting := fun w hw => (List.mem_cons_of_mem _ (List.mem_append_left _ (List.mem_append_left _ (List.mem_append_right _ hw))))
set_option maxRecDepth 100000 in
set_option maxHeartbeats 4000000 in
theorem lp_X0_countFitting {p : Program} {l : Launch} {e : Env} {s : State} {m : MethodId} {args : Array Value} {below : List Frame} {meth : Method} {c : Code} {G : mw_GG} {Q : State → Prop} (C : vv_C p s m args c G cX0_countFitting 4 wsX0_countFitting RX0) {d : Nat} (hd : d < 2) (M : mw_M) (hz : szP M d) {n j : Nat} (hn : M (2 + d) = nI n) (hn12 : n ≤ 12) (hj : j < 4) (hk : vv p l e ({ frames := 2, cells := 0, slots := 0, locals := 45 } : Room) s m args below meth c G 0 0 Q M 38 [some (.ref (G.1 (1 + 10 * d))), some (.int (nI j)), some (.int (nI (cntB (s_cf M d j) n))), some (.int (nI n))] []) : ∀ (f i : Nat), n + 1 ≤ i + f → i ≤ n → vv p l e ({ frames := 2, cells := 0, slots := 0, locals := 45 } : Room) s m args below meth c G 0 0 Q M 4 [some (.ref (G.1 (1 + 10 * d))), some (.int (nI j)), some (.int (nI (cntB (s_cf M d j) i))), some (.int (nI i))] [] := by
  intro f
  induction f with
  | zero => intro i h1 h2; omega
  | succ f ih =>
    intro i h1 h2
    refine vv_iload_n C 3 dX0_countFitting_4 rfl rfl ?_
    refine vv_aload_n C 0 dX0_countFitting_5 rfl rfl ?_
    refine vv_geti C (Cn := RX0) (T := TX0) (N := 4) (mw_Dw_d hd).1 3 rfl rfl (by decide) iX0_countFitting_X0 (List.mem_of_getElem? (i := 1) rfl) rfl dX0_countFitting_6 ?_
    refine vv_top hn ?_
    refine vv_icmp_ge C 38 dX0_countFitting_9 (by decide) (fun hge => ?_) (fun hlt => ?_)
    · have hin : i = n := by
        rcases Nat.lt_or_ge i n with z | z
        · exact absurd hge (nI_ge z (by omega))
        · omega
      subst hin
      exact hk
    · have hlt2 : i < n := by
        rcases Nat.lt_or_ge i n with z | z
        · exact z
        · exact absurd (nI_le z (by omega)) hlt
      refine vv_aload_n C 0 dX0_countFitting_12 rfl rfl ?_
      refine vv_getr C (Cn := RX0) (T := TX0) (N := 4) (mw_Dw_d hd).1 1 rfl rfl (by decide) iX0_countFitting_X0 (List.mem_of_getElem? (i := 2) rfl) rfl dX0_countFitting_13 ?_
      refine vv_iload_n C 1 dX0_countFitting_16 rfl rfl ?_
      refine vv_aload_n C 0 dX0_countFitting_17 rfl rfl ?_
      refine vv_iload_n C 3 dX0_countFitting_18 rfl rfl ?_
      refine vv_iload_n C 1 dX0_countFitting_19 rfl rfl ?_
      refine vv_callVI C [.int (nI i), .int (nI j)] (c_X0_entry (d := d) hd M hz (nI i) (nI j)) (mw_Dw_d hd).1 rfl (cwV 2 C.1.2.2.2.2 gX0_countFitting_X0_entry rfl rfl rfl (by decide +kernel) ⟨Nat.le_of_ble_eq_true rfl, Nat.le_of_ble_eq_true rfl⟩) rfl rfl rfl (Nat.le_of_ble_eq_true rfl) dX0_countFitting_20 ⟨Nat.le_refl _, Nat.le_refl _⟩ ?_
      refine vv_callVI C [.int (nI j), .int (entI M d (nI i) (nI j))] (c_X1_takesAlone (mw_Dw_d hd).2.2 M (i := (nI j)) (j := j) rfl hj (entI M d (nI i) (nI j))) (mw_Dw_d hd).2.2.1 rfl (cwV 2 C.1.2.2.2.2 gX0_countFitting_X1_takesAlone rfl rfl rfl (by decide +kernel) ⟨Nat.le_of_ble_eq_true rfl, Nat.le_of_ble_eq_true rfl⟩) rfl rfl rfl (Nat.le_of_ble_eq_true rfl) dX0_countFitting_23 ⟨Nat.le_refl _, Nat.le_refl _⟩ ?_
      refine vv_bif_eq C 32 dX0_countFitting_26 (by decide) (fun he => ?_) (fun hne => ?_)
      · refine vv_iinc (v := nI (i + 1)) (ls2 := [some (.ref (G.1 (1 + 10 * d))), some (.int (nI j)), some (.int (nI (cntB (s_cf M d j) i))), some (.int (nI (i + 1)))]) C 3 dX0_countFitting_32 rfl (nI_1 _) rfl ?_
        refine vv_goto C 4 dX0_countFitting_35 (by decide) ?_
        have e := ih (i + 1) (by omega) (by omega)
        rw [cntB_f (f := s_cf M d j) (n := i) (Bool.eq_false_iff.mpr he)] at e
        exact e
      · refine vv_iinc (v := nI (cntB (s_cf M d j) i + 1)) (ls2 := [some (.ref (G.1 (1 + 10 * d))), some (.int (nI j)), some (.int (nI (cntB (s_cf M d j) i + 1))), some (.int (nI i))]) C 2 dX0_countFitting_29 rfl (nI_1 _) rfl ?_
        refine vv_iinc (v := nI (i + 1)) (ls2 := [some (.ref (G.1 (1 + 10 * d))), some (.int (nI j)), some (.int (nI (cntB (s_cf M d j) i + 1))), some (.int (nI (i + 1)))]) C 3 dX0_countFitting_32 rfl (nI_1 _) rfl ?_
        refine vv_goto C 4 dX0_countFitting_35 (by decide) ?_
        have e := ih (i + 1) (by omega) (by omega)
        rw [cntB_t (f := s_cf M d j) (n := i) hne] at e
        exact e
set_option maxRecDepth 100000 in
set_option maxHeartbeats 4000000 in
theorem c_X0_countFitting {l : Launch} {G : mw_GG} {d : Nat} (hd : d < 2) (M : mw_M) (hz : szP M d) {n j : Nat} (hn : M (2 + d) = nI n) (hn12 : n ≤ 12) (hj : j < 4) {x : Int32} (hx : x = nI j) : mw_Met l yX0_countFitting wsX0_countFitting ({ frames := 2, cells := 0, slots := 0, locals := 45 } : Room) G [.ref (G.1 (1 + 10 * d)), .int x] M (qI (nI (cntB (s_cf M d j) n)) M) := by
  refine mw_ofV (cc := cX0_countFitting) 4 (by decide) rfl rfl (Nat.le_of_ble_eq_true rfl) ?_
  intro p e s m args below meth c C hR hN0
  subst hx
  refine vv_loc (ls2 := [some (.ref (G.1 (1 + 10 * d))), some (.int (nI j)), none, none]) rfl ?_
  refine vv_iconst (v := 0) C dX0_countFitting_0 (by decide) ?_
  refine vv_istore_n (ls2 := [some (.ref (G.1 (1 + 10 * d))), some (.int (nI j)), some (.int 0), none]) C 2 dX0_countFitting_1 rfl (Nat.le_of_ble_eq_true rfl) rfl ?_
  refine vv_iconst (v := 0) C dX0_countFitting_2 (by decide) ?_
  refine vv_istore_n (ls2 := [some (.ref (G.1 (1 + 10 * d))), some (.int (nI j)), some (.int 0), some (.int 0)]) C 3 dX0_countFitting_3 rfl (Nat.le_of_ble_eq_true rfl) rfl ?_
  refine lp_X0_countFitting C hd M hz hn hn12 hj ?_ (n + 1) 0 (by omega) (by omega)
  refine vv_iload_n C 2 dX0_countFitting_38 rfl rfl ?_
  exact vv_iret C hR dX0_countFitting_39 (qI_of rfl rfl)
theorem iX0_copyFrom_X0 : ∀ w ∈ u_ws RX0 TX0 4, w ∈ wsX0_copyFrom := fun w hw => (List.mem_cons_of_mem _ (List.mem_append_left _ (List.mem_append_left _ (List.mem_append_right _ hw))))
set_option maxRecDepth 100000 in
set_option maxHeartbeats 4000000 in
theorem c_X0_copyFrom {l : Launch} {G : mw_GG} {d : Nat} (hd : d < 2) {x P x2 P2 : Nat} (hX : mw_Dr x P d) (hX2 : mw_Dr x2 P2 d) (hP : P + 130 ≤ P2 ∨ P2 + 130 ≤ P) (M : mw_M) : mw_Met l yX0_copyFrom wsX0_copyFrom ({ frames := 3, cells := 0, slots := 0, locals := 64 } : Room) G [.ref (G.1 x), .ref (G.1 x2)] M (qV (s_dr M P P2 d)) := by
  refine mw_ofV (cc := cX0_copyFrom) 2 (by decide) rfl rfl (Nat.le_of_ble_eq_true rfl) ?_
  intro p e s m args below meth c C hR hN0
  refine vv_loc (ls2 := [some (.ref (G.1 x)), some (.ref (G.1 x2))]) rfl ?_
  refine vv_aload_n C 0 dX0_copyFrom_0 rfl rfl ?_
  refine vv_getr C (Cn := RX0) (T := TX0) (N := 4) hX.1 0 rfl rfl (by decide) iX0_copyFrom_X0 (List.mem_of_getElem? (i := 1) rfl) rfl dX0_copyFrom_1 ?_
  refine vv_aload_n C 1 dX0_copyFrom_4 rfl rfl ?_
  refine vv_getr C (Cn := RX0) (T := TX0) (N := 4) hX2.1 0 rfl rfl (by decide) iX0_copyFrom_X0 (List.mem_of_getElem? (i := 1) rfl) rfl dX0_copyFrom_5 ?_
  refine vv_callVVP C [.ref (G.1 (x2 + 1))] (c_X3_copyFrom hX.2.1 hX2.2.1 (by omega) (by intro i j hi hj; omega) M) hX.2.1.1 rfl (cwV 1 C.1.2.2.2.2 gX0_copyFrom_X3_copyFrom rfl rfl rfl (by decide +kernel) ⟨Nat.le_of_ble_eq_true rfl, Nat.le_of_ble_eq_true rfl⟩) rfl rfl rfl (Nat.le_of_ble_eq_true rfl) dX0_copyFrom_8 ⟨Nat.le_refl _, Nat.le_refl _⟩ (fun M_1 h_2 => ?_)
  refine vv_aload_n C 0 dX0_copyFrom_11 rfl rfl ?_
  refine vv_getr C (Cn := RX0) (T := TX0) (N := 4) hX.1 1 rfl rfl (by decide) iX0_copyFrom_X0 (List.mem_of_getElem? (i := 2) rfl) rfl dX0_copyFrom_12 ?_
  refine vv_aload_n C 1 dX0_copyFrom_15 rfl rfl ?_
  refine vv_getr C (Cn := RX0) (T := TX0) (N := 4) hX2.1 1 rfl rfl (by decide) iX0_copyFrom_X0 (List.mem_of_getElem? (i := 2) rfl) rfl dX0_copyFrom_16 ?_
  refine vv_callVV C [.ref (G.1 (x2 + 3))] (c_X1_copyFrom hX.2.2 hX2.2.2 (by omega) M_1) hX.2.2.1 rfl (cwV 1 C.1.2.2.2.2 gX0_copyFrom_X1_copyFrom rfl rfl rfl (by decide +kernel) ⟨Nat.le_of_ble_eq_true rfl, Nat.le_of_ble_eq_true rfl⟩) rfl rfl rfl (Nat.le_of_ble_eq_true rfl) dX0_copyFrom_19 ⟨Nat.le_refl _, Nat.le_refl _⟩ ?_
  refine vv_aload_n C 0 dX0_copyFrom_22 rfl rfl ?_
  refine vv_aload_n C 1 dX0_copyFrom_23 rfl rfl ?_
  refine vv_geti C (Cn := RX0) (T := TX0) (N := 4) hX2.1 2 rfl rfl (by decide) iX0_copyFrom_X0 (List.mem_of_getElem? (i := 3) rfl) rfl dX0_copyFrom_24 ?_
  refine vv_putf C (Cn := RX0) (T := TX0) (N := 4) hX.1 2 rfl rfl (by decide) iX0_copyFrom_X0 (List.mem_of_getElem? (i := 3) rfl) rfl tyX0_ok nmX0 rfl rfl dX0_copyFrom_27 ?_
  refine vv_aload_n C 0 dX0_copyFrom_30 rfl rfl ?_
  refine vv_aload_n C 1 dX0_copyFrom_31 rfl rfl ?_
  refine vv_geti C (Cn := RX0) (T := TX0) (N := 4) hX2.1 3 rfl rfl (by decide) iX0_copyFrom_X0 (List.mem_of_getElem? (i := 4) rfl) rfl dX0_copyFrom_32 ?_
  refine vv_putf C (Cn := RX0) (T := TX0) (N := 4) hX.1 3 rfl rfl (by decide) iX0_copyFrom_X0 (List.mem_of_getElem? (i := 4) rfl) rfl tyX0_ok nmX0 rfl rfl dX0_copyFrom_35 ?_
  exact vv_vret C hR dX0_copyFrom_38 (qV_of (dr_eq hd hP h_2 _ rfl))
end
section
theorem st_eq {M M3 M4 : mw_M} {P P2 : Nat} (hP : P + 130 ≤ P2 ∨ P2 + 130 ≤ P) (h3 : r_Put (s_dr (s_dr M P P2 0) P P2 1) M3 2 (P + 125) 2 (fun i => (s_dr (s_dr M P P2 0) P P2 1) (P2 + 125 + 2 * i))) (h4 : r_Put M3 M4 2 (P + 126) 2 (fun i => M3 (P2 + 126 + 2 * i))) {M5 : mw_M} (h5 : M5 = upd (upd M4 (P + 124) (M4 (P2 + 124))) (P + 129) (upd M4 (P + 124) (M4 (P2 + 124)) (P2 + 129))) : M5 = s_blk M P P2 130 := by
  have far : ∀ q, ¬ (P ≤ q ∧ q < P + 130) → s_dr (s_dr M P P2 0) P P2 1 q = M q := fun q hq => by
    unfold s_dr
    rw [if_neg (fun z => hq ⟨z.1, z.2.1⟩), if_neg (fun z => hq ⟨z.1, z.2.1⟩)]
  have far4 : ∀ q, ¬ (P + 125 ≤ q ∧ q < P + 129) → M4 q = s_dr (s_dr M P P2 0) P P2 1 q := fun q hq => by
    rw [h4.2 q (fun i hi => by omega), h3.2 q (fun i hi => by omega)]
  subst h5
  funext q
  unfold s_blk
  by_cases hin : P ≤ q ∧ q < P + 130
  · rw [if_pos hin]
    obtain ⟨k, rfl⟩ : ∃ k, q = P + k := ⟨q - P, by omega⟩
    rw [show P + k - P = k by omega]
    by_cases c1 : k = 129
    · subst c1
      rw [upd_s, upd_o (by omega), far4 _ (by omega), far _ (by omega)]
    · by_cases c2 : k = 124
      · subst c2
        rw [upd_o (by omega), upd_s, far4 _ (by omega), far _ (by omega)]
      · rw [upd_o (by omega), upd_o (by omega)]
        by_cases c3 : 125 ≤ k
        · rcases (show k = 125 ∨ k = 126 ∨ k = 127 ∨ k = 128 by omega) with rfl | rfl | rfl | rfl
          · have e := h3.1 0 (by omega)
            rw [h4.2 _ (fun i hi => by omega)]
            exact e.trans (far _ (by omega))
          · have e := h4.1 0 (by omega)
            refine e.trans ?_
            show M3 (P2 + 126 + 2 * 0) = _
            rw [h3.2 _ (fun i hi => by omega)]
            exact far _ (by omega)
          · have e := h3.1 1 (by omega)
            rw [h4.2 _ (fun i hi => by omega)]
            refine Eq.trans ?_ (e.trans ((far _ (by omega)).trans ?_))
            · congr 1
            · congr 1
          · have e := h4.1 1 (by omega)
            refine Eq.trans ?_ (e.trans ?_)
            · congr 1
            · show M3 (P2 + 126 + 2 * 1) = _
              rw [h3.2 _ (fun i hi => by omega)]
              exact (far _ (by omega)).trans (by congr 1)
        · rw [far4 _ (by omega)]
          have hd : dOf k = 0 ∨ dOf k = 1 := by
            unfold dOf
            split
            · omega
            · split
              · omega
              · split <;> omega
          unfold s_dr
          rw [show P + k - P = k by omega]
          rcases hd with hd | hd
          · rw [if_neg (fun z => by rw [hd] at z; exact absurd z.2.2 (by decide)), if_pos ⟨hin.1, hin.2, hd⟩]
          · rw [if_pos ⟨hin.1, hin.2, hd⟩, if_neg (by omega)]
  · rw [if_neg hin, upd_o (by omega), upd_o (by omega), far4 _ (by omega), far _ hin]
def s_keep (M : mw_M) (h : Nat) : mw_M := fun q => if q = 650 then nI (min (h + 1) 4) else if 130 ≤ q ∧ q < 650 then M (q - 130) else M q
def s_rest (M : mw_M) (h : Nat) : mw_M := fun q => if q = 650 then nI (h - 1) else if q < 520 then M (q + 130) else M q
theorem s_blk_o {M : mw_M} {b b2 w q : Nat} (h : ¬ (b ≤ q ∧ q < b + w)) : s_blk M b b2 w q = M q := by unfold s_blk; rw [if_neg h]
theorem s_blk_i {M : mw_M} {b b2 w q : Nat} (h : b ≤ q ∧ q < b + w) : s_blk M b b2 w q = M (b2 + (q - b)) := by unfold s_blk; rw [if_pos h]
theorem min_nI {a : Nat} (h : a < 1000) : (if (4 : Int32) < nI a then 4 else nI a) = nI (min a 4) := by
  by_cases z : 4 < a
  · rw [if_pos (show (4 : Int32) < nI a from nI_lt (a := 4) z (by omega)), Nat.min_eq_right (by omega)]
    rfl
  · rw [if_neg (show ¬ (4 : Int32) < nI a from nI_nlt (b := a) (a := 4) (by omega) (by omega)), Nat.min_eq_left (by omega)]
theorem keep_eq {M : mw_M} {h : Nat} (hh : M 650 = nI h) (h4 : h ≤ 4) : upd (s_blk (s_blk (s_blk (s_blk M 520 390 130) 390 260 130) 260 130 130) 130 0 130) 650 (if 4 < (s_blk (s_blk (s_blk (s_blk M 520 390 130) 390 260 130) 260 130 130) 130 0 130) 650 + 1 then 4 else (s_blk (s_blk (s_blk (s_blk M 520 390 130) 390 260 130) 260 130 130) 130 0 130) 650 + 1) = s_keep M h := by
  funext q
  unfold s_keep
  rw [s_blk_o (q := 650) (by omega), s_blk_o (q := 650) (by omega), s_blk_o (q := 650) (by omega), s_blk_o (q := 650) (by omega), hh, nI_1, min_nI (by omega)]
  by_cases h1 : q = 650
  · rw [if_pos h1, h1, upd_s]
  · rw [if_neg h1, upd_o h1]
    by_cases c1 : 130 ≤ q ∧ q < 260
    · rw [s_blk_i (by omega), s_blk_o (by omega), s_blk_o (by omega), s_blk_o (by omega), if_pos (by omega)]
      exact congrArg M (by omega)
    · rw [s_blk_o (by omega)]
      by_cases c2 : 260 ≤ q ∧ q < 390
      · rw [s_blk_i (by omega), s_blk_o (by omega), s_blk_o (by omega), if_pos (by omega)]
        exact congrArg M (by omega)
      · rw [s_blk_o (by omega)]
        by_cases c3 : 390 ≤ q ∧ q < 520
        · rw [s_blk_i (by omega), s_blk_o (by omega), if_pos (by omega)]
          exact congrArg M (by omega)
        · rw [s_blk_o (by omega)]
          by_cases c4 : 520 ≤ q ∧ q < 650
          · rw [s_blk_i (by omega), if_pos (by omega)]
            exact congrArg M (by omega)
          · rw [s_blk_o (by omega), if_neg (by omega)]
theorem max_nI {a : Nat} (h : a < 1000) : (if nI a < (0 : Int32) then 0 else nI a) = nI a := if_neg (nI_pos (by omega))
theorem rest_eq {M : mw_M} {h : Nat} (hh : M 650 = nI h) (h1 : 1 ≤ h) (h4 : h ≤ 4) : upd (s_blk (s_blk (s_blk (s_blk M 0 130 130) 130 260 130) 260 390 130) 390 520 130) 650 (if (s_blk (s_blk (s_blk (s_blk M 0 130 130) 130 260 130) 260 390 130) 390 520 130) 650 - 1 < 0 then 0 else (s_blk (s_blk (s_blk (s_blk M 0 130 130) 130 260 130) 260 390 130) 390 520 130) 650 - 1) = s_rest M h := by
  funext q
  unfold s_rest
  rw [s_blk_o (q := 650) (by omega), s_blk_o (q := 650) (by omega), s_blk_o (q := 650) (by omega), s_blk_o (q := 650) (by omega), hh, show nI h - 1 = nI (h - 1) from pk_sub (show 1 ≤ h from h1), max_nI (by omega)]
  by_cases c0 : q = 650
  · rw [if_pos c0, c0, upd_s]
  · rw [if_neg c0, upd_o c0]
    by_cases c4 : 390 ≤ q ∧ q < 520
    · rw [s_blk_i (by omega), s_blk_o (by omega), s_blk_o (by omega), s_blk_o (by omega), if_pos (by omega)]
      exact congrArg M (by omega)
    · rw [s_blk_o (by omega)]
      by_cases c3 : 260 ≤ q ∧ q < 390
      · rw [s_blk_i (by omega), s_blk_o (by omega), s_blk_o (by omega), if_pos (by omega)]
        exact congrArg M (by omega)
      · rw [s_blk_o (by omega)]
        by_cases c2 : 130 ≤ q ∧ q < 260
        · rw [s_blk_i (by omega), s_blk_o (by omega), if_pos (by omega)]
          exact congrArg M (by omega)
        · rw [s_blk_o (by omega)]
          by_cases c1 : q < 130
          · rw [s_blk_i (by omega), if_pos (by omega)]
            exact congrArg M (by omega)
          · rw [s_blk_o (by omega), if_neg (by omega)]
/-- the character at a place of the text, -1 behind its end -/
def chA (M : mw_M) (t p : Nat) : Int32 := if p < t then M (1000 + p) else -1

theorem iX6_drawer_X6 : ∀ w ∈ u_ws RX6 TX6 6, w ∈ wsX6_drawer := fun w hw => (List.mem_cons_of_mem _ (List.mem_append_right _ hw))
set_option maxRecDepth 100000 in
set_option maxHeartbeats 4000000 in
theorem c_X6_drawer {l : Launch} {G : mw_GG} (M : mw_M) (x : Int32) : mw_Met l yX6_drawer wsX6_drawer ({ frames := 0, cells := 0, slots := 0, locals := 0 } : Room) G [.ref (G.1 0), .int x] M (qR (G.1 (1 + 10 * dN x)) M) := by
  refine mw_ofV (cc := cX6_drawer) 2 (by decide) rfl rfl (Nat.le_of_ble_eq_true rfl) ?_
  intro p e s m args below meth c C hR hN0
  refine vv_loc (ls2 := [some (.ref (G.1 0)), some (.int x)]) rfl ?_
  refine vv_iload_n C 1 dX6_drawer_0 rfl rfl ?_
  refine vv_if_ne C 11 dX6_drawer_1 (by decide) (fun h_1 => ?_) (fun h_2 => ?_)
  · refine vv_aload_n C 0 dX6_drawer_11 rfl rfl ?_
    refine vv_getr C (Cn := RX6) (T := TX6) (N := 6) sh_0 1 rfl rfl (by decide) iX6_drawer_X6 (List.mem_of_getElem? (i := 2) rfl) rfl dX6_drawer_12 ?_
    exact vv_aret C hR dX6_drawer_15 (qR_of (by simp [dN, h_1]) rfl)
  · refine vv_aload_n C 0 dX6_drawer_4 rfl rfl ?_
    refine vv_getr C (Cn := RX6) (T := TX6) (N := 6) sh_0 0 rfl rfl (by decide) iX6_drawer_X6 (List.mem_of_getElem? (i := 1) rfl) rfl dX6_drawer_5 ?_
    refine vv_goto C 15 dX6_drawer_8 (by decide) ?_
    exact vv_aret C hR dX6_drawer_15 (qR_of (by simp [dN, h_2]) rfl)
theorem iX6_isOfBoth_X6 : ∀ w ∈ u_ws RX6 TX6 6, w ∈ wsX6_isOfBoth := fun w hw => (List.mem_cons_of_mem _ (List.mem_append_right _ hw))
set_option maxRecDepth 100000 in
set_option maxHeartbeats 4000000 in
theorem c_X6_isOfBoth {l : Launch} {G : mw_GG} (M : mw_M) : mw_Met l yX6_isOfBoth wsX6_isOfBoth ({ frames := 0, cells := 0, slots := 0, locals := 0 } : Room) G [.ref (G.1 0)] M (qI (bI (M 124 = 1)) M) := by
  refine mw_ofV (cc := cX6_isOfBoth) 1 (by decide) rfl rfl (Nat.le_of_ble_eq_true rfl) ?_
  intro p e s m args below meth c C hR hN0
  refine vv_loc (ls2 := [some (.ref (G.1 0))]) rfl ?_
  refine vv_aload_n C 0 dX6_isOfBoth_0 rfl rfl ?_
  refine vv_geti C (Cn := RX6) (T := TX6) (N := 6) sh_0 4 rfl rfl (by decide) iX6_isOfBoth_X6 (List.mem_of_getElem? (i := 1) rfl) rfl dX6_isOfBoth_1 ?_
  refine vv_iconst (v := 1) C dX6_isOfBoth_4 (by decide) ?_
  refine vv_icmp_ne C 12 dX6_isOfBoth_5 (by decide) (fun h_1 => ?_) (fun h_2 => ?_)
  · refine vv_iconst (v := 0) C dX6_isOfBoth_12 (by decide) ?_
    exact vv_zret0 C hR dX6_isOfBoth_13 (qI_of (by simp [bI, h_1]) (rfl))
  · refine vv_iconst (v := 1) C dX6_isOfBoth_8 (by decide) ?_
    refine vv_goto C 13 dX6_isOfBoth_9 (by decide) ?_
    exact vv_zret1 C hR dX6_isOfBoth_13 (qI_of (by simp [bI, h_2]) (rfl))
theorem iX6_askBoth_X6 : ∀ w ∈ u_ws RX6 TX6 6, w ∈ wsX6_askBoth := fun w hw => (List.mem_cons_of_mem _ (List.mem_append_right _ hw))
set_option maxRecDepth 100000 in
set_option maxHeartbeats 4000000 in
theorem c_X6_askBoth {l : Launch} {G : mw_GG} (M : mw_M) (x : Int32) : mw_Met l yX6_askBoth wsX6_askBoth ({ frames := 0, cells := 0, slots := 0, locals := 0 } : Room) G [.ref (G.1 0), .int x] M (qI (M 124) (upd M 124 x)) := by
  refine mw_ofV (cc := cX6_askBoth) 3 (by decide) rfl rfl (Nat.le_of_ble_eq_true rfl) ?_
  intro p e s m args below meth c C hR hN0
  refine vv_loc (ls2 := [some (.ref (G.1 0)), some (.int x), none]) rfl ?_
  refine vv_aload_n C 0 dX6_askBoth_0 rfl rfl ?_
  refine vv_geti C (Cn := RX6) (T := TX6) (N := 6) sh_0 4 rfl rfl (by decide) iX6_askBoth_X6 (List.mem_of_getElem? (i := 1) rfl) rfl dX6_askBoth_1 ?_
  refine vv_istore_n (ls2 := [some (.ref (G.1 0)), some (.int x), some (.int (M 124))]) C 2 dX6_askBoth_4 rfl (Nat.le_of_ble_eq_true rfl) rfl ?_
  refine vv_aload_n C 0 dX6_askBoth_5 rfl rfl ?_
  refine vv_iload_n C 1 dX6_askBoth_6 rfl rfl ?_
  refine vv_putf C (Cn := RX6) (T := TX6) (N := 6) sh_0 4 rfl rfl (by decide) iX6_askBoth_X6 (List.mem_of_getElem? (i := 1) rfl) rfl tyX6_ok nmX6 rfl rfl dX6_askBoth_7 ?_
  refine vv_iload_n C 2 dX6_askBoth_10 rfl rfl ?_
  exact vv_iret C hR dX6_askBoth_11 (qI_of (rfl) (rfl))
theorem iX6_orderColumn_X6 : ∀ w ∈ u_ws RX6 TX6 6, w ∈ wsX6_orderColumn := fun w hw => (List.mem_cons_of_mem _ (List.mem_append_left _ (List.mem_append_right _ hw)))
set_option maxRecDepth 100000 in
set_option maxHeartbeats 4000000 in
theorem c_X6_orderColumn {l : Launch} {G : mw_GG} (M : mw_M) {i : Int32} {j : Nat} (hi : i = nI j) (hj : j < 2) : mw_Met l yX6_orderColumn wsX6_orderColumn ({ frames := 1, cells := 0, slots := 0, locals := 21 } : Room) G [.ref (G.1 0), .int i] M (qI (M (125 + 2 * j)) M) := by
  refine mw_ofV (cc := cX6_orderColumn) 2 (by decide) rfl rfl (Nat.le_of_ble_eq_true rfl) ?_
  intro p e s m args below meth c C hR hN0
  refine vv_loc (ls2 := [some (.ref (G.1 0)), some (.int i)]) rfl ?_
  refine vv_aload_n C 0 dX6_orderColumn_0 rfl rfl ?_
  refine vv_getr C (Cn := RX6) (T := TX6) (N := 6) sh_0 2 rfl rfl (by decide) iX6_orderColumn_X6 (List.mem_of_getElem? (i := 1) rfl) rfl dX6_orderColumn_1 ?_
  refine vv_iload_n C 1 dX6_orderColumn_4 rfl rfl ?_
  refine vv_callVI C [.int i] (c_X3_at nu_21 M (i := i) (j := j) hi hj) nu_21.1 rfl (cwV 1 C.1.2.2.2.2 gX6_orderColumn_X3_at rfl rfl rfl (by decide +kernel) ⟨Nat.le_of_ble_eq_true rfl, Nat.le_of_ble_eq_true rfl⟩) rfl rfl rfl (Nat.le_of_ble_eq_true rfl) dX6_orderColumn_5 ⟨Nat.le_refl _, Nat.le_refl _⟩ ?_
  exact vv_iret C hR dX6_orderColumn_8 (qI_of (rfl) (rfl))
theorem iX6_isDownwards_X6 : ∀ w ∈ u_ws RX6 TX6 6, w ∈ wsX6_isDownwards := fun w hw => (List.mem_cons_of_mem _ (List.mem_append_left _ (List.mem_append_right _ hw)))
set_option maxRecDepth 100000 in
set_option maxHeartbeats 4000000 in
theorem c_X6_isDownwards {l : Launch} {G : mw_GG} (M : mw_M) {i : Int32} {j : Nat} (hi : i = nI j) (hj : j < 2) : mw_Met l yX6_isDownwards wsX6_isDownwards ({ frames := 1, cells := 0, slots := 0, locals := 21 } : Room) G [.ref (G.1 0), .int i] M (qI (bI (M (126 + 2 * j) = 1)) M) := by
  refine mw_ofV (cc := cX6_isDownwards) 2 (by decide) rfl rfl (Nat.le_of_ble_eq_true rfl) ?_
  intro p e s m args below meth c C hR hN0
  refine vv_loc (ls2 := [some (.ref (G.1 0)), some (.int i)]) rfl ?_
  refine vv_aload_n C 0 dX6_isDownwards_0 rfl rfl ?_
  refine vv_getr C (Cn := RX6) (T := TX6) (N := 6) sh_0 3 rfl rfl (by decide) iX6_isDownwards_X6 (List.mem_of_getElem? (i := 1) rfl) rfl dX6_isDownwards_1 ?_
  refine vv_iload_n C 1 dX6_isDownwards_4 rfl rfl ?_
  refine vv_callVI C [.int i] (c_X3_at nu_23 M (i := i) (j := j) hi hj) nu_23.1 rfl (cwV 1 C.1.2.2.2.2 gX6_isDownwards_X3_at rfl rfl rfl (by decide +kernel) ⟨Nat.le_of_ble_eq_true rfl, Nat.le_of_ble_eq_true rfl⟩) rfl rfl rfl (Nat.le_of_ble_eq_true rfl) dX6_isDownwards_5 ⟨Nat.le_refl _, Nat.le_refl _⟩ ?_
  refine vv_iconst (v := 1) C dX6_isDownwards_8 (by decide) ?_
  refine vv_icmp_ne C 16 dX6_isDownwards_9 (by decide) (fun h_1 => ?_) (fun h_2 => ?_)
  · refine vv_iconst (v := 0) C dX6_isDownwards_16 (by decide) ?_
    exact vv_zret0 C hR dX6_isDownwards_17 (qI_of (by simp [bI, h_1]) (rfl))
  · refine vv_iconst (v := 1) C dX6_isDownwards_12 (by decide) ?_
    refine vv_goto C 17 dX6_isDownwards_13 (by decide) ?_
    exact vv_zret1 C hR dX6_isDownwards_17 (qI_of (by simp [bI, h_2]) (rfl))
theorem iX6_setOrder_X6 : ∀ w ∈ u_ws RX6 TX6 6, w ∈ wsX6_setOrder := fun w hw => (List.mem_cons_of_mem _ (List.mem_append_left _ (List.mem_append_right _ hw)))
set_option maxRecDepth 100000 in
set_option maxHeartbeats 4000000 in
theorem c_X6_setOrder {l : Launch} {G : mw_GG} (M : mw_M) {i : Int32} {j : Nat} (hi : i = nI j) (hj : j < 2) (u v : Int32) : mw_Met l yX6_setOrder wsX6_setOrder ({ frames := 1, cells := 0, slots := 0, locals := 22 } : Room) G [.ref (G.1 0), .int i, .int u, .int v] M (qV (upd (upd M (125 + 2 * j) u) (126 + 2 * j) v)) := by
  refine mw_ofV (cc := cX6_setOrder) 4 (by decide) rfl rfl (Nat.le_of_ble_eq_true rfl) ?_
  intro p e s m args below meth c C hR hN0
  refine vv_loc (ls2 := [some (.ref (G.1 0)), some (.int i), some (.int u), some (.int v)]) rfl ?_
  refine vv_aload_n C 0 dX6_setOrder_0 rfl rfl ?_
  refine vv_getr C (Cn := RX6) (T := TX6) (N := 6) sh_0 2 rfl rfl (by decide) iX6_setOrder_X6 (List.mem_of_getElem? (i := 1) rfl) rfl dX6_setOrder_1 ?_
  refine vv_iload_n C 1 dX6_setOrder_4 rfl rfl ?_
  refine vv_iload_n C 2 dX6_setOrder_5 rfl rfl ?_
  refine vv_callVV C [.int i, .int u] (c_X3_set nu_21 M (i := i) (j := j) hi hj u) nu_21.1 rfl (cwV 2 C.1.2.2.2.2 gX6_setOrder_X3_set rfl rfl rfl (by decide +kernel) ⟨Nat.le_of_ble_eq_true rfl, Nat.le_of_ble_eq_true rfl⟩) rfl rfl rfl (Nat.le_of_ble_eq_true rfl) dX6_setOrder_6 ⟨Nat.le_refl _, Nat.le_refl _⟩ ?_
  refine vv_aload_n C 0 dX6_setOrder_9 rfl rfl ?_
  refine vv_getr C (Cn := RX6) (T := TX6) (N := 6) sh_0 3 rfl rfl (by decide) iX6_setOrder_X6 (List.mem_of_getElem? (i := 2) rfl) rfl dX6_setOrder_10 ?_
  refine vv_iload_n C 1 dX6_setOrder_13 rfl rfl ?_
  refine vv_iload_n C 3 dX6_setOrder_14 rfl rfl ?_
  refine vv_callVV C [.int i, .int v] (c_X3_set nu_23 (upd M (125 + 2 * j) u) (i := i) (j := j) hi hj v) nu_23.1 rfl (cwV 2 C.1.2.2.2.2 gX6_setOrder_X3_set rfl rfl rfl (by decide +kernel) ⟨Nat.le_of_ble_eq_true rfl, Nat.le_of_ble_eq_true rfl⟩) rfl rfl rfl (Nat.le_of_ble_eq_true rfl) dX6_setOrder_15 ⟨Nat.le_refl _, Nat.le_refl _⟩ ?_
  exact vv_vret C hR dX6_setOrder_18 (qV_of (rfl))
theorem iX6_shownSet_X6 : ∀ w ∈ u_ws RX6 TX6 6, w ∈ wsX6_shownSet := fun w hw => (List.mem_cons_of_mem _ (List.mem_append_right _ hw))
set_option maxRecDepth 100000 in
set_option maxHeartbeats 4000000 in
theorem c_X6_shownSet {l : Launch} {G : mw_GG} (M : mw_M) : mw_Met l yX6_shownSet wsX6_shownSet ({ frames := 0, cells := 0, slots := 0, locals := 0 } : Room) G [.ref (G.1 0)] M (qI (M 129) M) := by
  refine mw_ofV (cc := cX6_shownSet) 1 (by decide) rfl rfl (Nat.le_of_ble_eq_true rfl) ?_
  intro p e s m args below meth c C hR hN0
  refine vv_loc (ls2 := [some (.ref (G.1 0))]) rfl ?_
  refine vv_aload_n C 0 dX6_shownSet_0 rfl rfl ?_
  refine vv_geti C (Cn := RX6) (T := TX6) (N := 6) sh_0 5 rfl rfl (by decide) iX6_shownSet_X6 (List.mem_of_getElem? (i := 1) rfl) rfl dX6_shownSet_1 ?_
  exact vv_iret C hR dX6_shownSet_4 (qI_of (rfl) (rfl))
theorem iX6_setShown_X6 : ∀ w ∈ u_ws RX6 TX6 6, w ∈ wsX6_setShown := fun w hw => (List.mem_cons_of_mem _ (List.mem_append_right _ hw))
set_option maxRecDepth 100000 in
set_option maxHeartbeats 4000000 in
theorem c_X6_setShown {l : Launch} {G : mw_GG} (M : mw_M) (x : Int32) : mw_Met l yX6_setShown wsX6_setShown ({ frames := 0, cells := 0, slots := 0, locals := 0 } : Room) G [.ref (G.1 0), .int x] M (qV (upd M 129 x)) := by
  refine mw_ofV (cc := cX6_setShown) 2 (by decide) rfl rfl (Nat.le_of_ble_eq_true rfl) ?_
  intro p e s m args below meth c C hR hN0
  refine vv_loc (ls2 := [some (.ref (G.1 0)), some (.int x)]) rfl ?_
  refine vv_aload_n C 0 dX6_setShown_0 rfl rfl ?_
  refine vv_iload_n C 1 dX6_setShown_1 rfl rfl ?_
  refine vv_putf C (Cn := RX6) (T := TX6) (N := 6) sh_0 5 rfl rfl (by decide) iX6_setShown_X6 (List.mem_of_getElem? (i := 1) rfl) rfl tyX6_ok nmX6 rfl rfl dX6_setShown_2 ?_
  exact vv_vret C hR dX6_setShown_5 (qV_of (rfl))
theorem iX6_isAsked_X6 : ∀ w ∈ u_ws RX6 TX6 6, w ∈ wsX6_isAsked := fun w hw => (List.mem_cons_of_mem _ (List.mem_append_left _ (List.mem_append_right _ hw)))
set_option maxRecDepth 100000 in
set_option maxHeartbeats 4000000 in
theorem c_X6_isAsked {l : Launch} {G : mw_GG} (M : mw_M) (x : Int32) : mw_Met l yX6_isAsked wsX6_isAsked ({ frames := 1, cells := 0, slots := 0, locals := 21 } : Room) G [.ref (G.1 0), .int x] M (qI (bI (askP M x)) M) := by
  refine mw_ofV (cc := cX6_isAsked) 2 (by decide) rfl rfl (Nat.le_of_ble_eq_true rfl) ?_
  intro p e s m args below meth c C hR hN0
  refine vv_loc (ls2 := [some (.ref (G.1 0)), some (.int x)]) rfl ?_
  refine vv_iload_n C 1 dX6_isAsked_0 rfl rfl ?_
  refine vv_iconst (v := 4) C dX6_isAsked_1 (by decide) ?_
  refine vv_icmp_ge C 14 dX6_isAsked_2 (by decide) (fun h_1 => ?_) (fun h_2 => ?_)
  · refine vv_aload_n C 0 dX6_isAsked_14 rfl rfl ?_
    refine vv_callVI C [] (c_X6_isOfBoth M) sh_0 rfl (cwV 0 C.1.2.2.2.2 gX6_isAsked_X6_isOfBoth rfl rfl rfl (by decide +kernel) ⟨Nat.le_of_ble_eq_true rfl, Nat.le_of_ble_eq_true rfl⟩) rfl rfl rfl (Nat.le_of_ble_eq_true rfl) dX6_isAsked_15 ⟨Nat.le_refl _, Nat.le_refl _⟩ ?_
    refine vv_bif_eq C 38 dX6_isAsked_18 (by decide) (fun h_3 => ?_) (fun h_4 => ?_)
    · refine vv_iconst (v := 0) C dX6_isAsked_38 (by decide) ?_
      exact vv_zret0 C hR dX6_isAsked_39 (qI_of (bI_f (fun z => z.elim (fun q => q.1 h_1) (fun q => h_3 q.2.1))).symm rfl)
    · refine vv_aload_n C 0 dX6_isAsked_21 rfl rfl ?_
      refine vv_getr C (Cn := RX6) (T := TX6) (N := 6) sh_0 1 rfl rfl (by decide) iX6_isAsked_X6 (List.mem_of_getElem? (i := 2) rfl) rfl dX6_isAsked_22 ?_
      refine vv_iload_n C 1 dX6_isAsked_25 rfl rfl ?_
      refine vv_iconst (v := 4) C dX6_isAsked_26 (by decide) ?_
      refine vv_isub C dX6_isAsked_27 ?_
      refine vv_callVI C [.int (x - 4)] (c_X0_hasColumn (d := 1) (show 1 < 2 by decide) M (x - 4)) dw_1.1 rfl (cwV 1 C.1.2.2.2.2 gX6_isAsked_X0_hasColumn rfl rfl rfl (by decide +kernel) ⟨Nat.le_of_ble_eq_true rfl, Nat.le_of_ble_eq_true rfl⟩) rfl rfl rfl (Nat.le_of_ble_eq_true rfl) dX6_isAsked_28 ⟨Nat.le_refl _, Nat.le_refl _⟩ ?_
      refine vv_bif_eq C 38 dX6_isAsked_31 (by decide) (fun h_5 => ?_) (fun h_6 => ?_)
      · refine vv_iconst (v := 0) C dX6_isAsked_38 (by decide) ?_
        exact vv_zret0 C hR dX6_isAsked_39 (qI_of (bI_f (fun z => z.elim (fun q => q.1 h_1) (fun q => h_5 q.2.2))).symm rfl)
      · refine vv_iconst (v := 1) C dX6_isAsked_34 (by decide) ?_
        refine vv_goto C 39 dX6_isAsked_35 (by decide) ?_
        exact vv_zret1 C hR dX6_isAsked_39 (qI_of (bI_t (Or.inr ⟨h_1, h_4, h_6⟩)).symm rfl)
  · refine vv_aload_n C 0 dX6_isAsked_5 rfl rfl ?_
    refine vv_getr C (Cn := RX6) (T := TX6) (N := 6) sh_0 0 rfl rfl (by decide) iX6_isAsked_X6 (List.mem_of_getElem? (i := 1) rfl) rfl dX6_isAsked_6 ?_
    refine vv_iload_n C 1 dX6_isAsked_9 rfl rfl ?_
    refine vv_callVI C [.int x] (c_X0_hasColumn (d := 0) (show 0 < 2 by decide) M x) dw_0.1 rfl (cwV 1 C.1.2.2.2.2 gX6_isAsked_X0_hasColumn rfl rfl rfl (by decide +kernel) ⟨Nat.le_of_ble_eq_true rfl, Nat.le_of_ble_eq_true rfl⟩) rfl rfl rfl (Nat.le_of_ble_eq_true rfl) dX6_isAsked_10 ⟨Nat.le_refl _, Nat.le_refl _⟩ ?_
    exact vv_zret C hR dX6_isAsked_13 (qI_of (bI_c ⟨fun z => Or.inl ⟨h_2, z⟩, fun z => z.elim (fun q => q.2) (fun q => absurd q.1 h_2)⟩) rfl)
theorem iX6_isShown_X6 : ∀ w ∈ u_ws RX6 TX6 6, w ∈ wsX6_isShown := fun w hw => (List.mem_cons_of_mem _ (List.mem_append_left _ (List.mem_append_right _ hw)))
set_option maxRecDepth 100000 in
set_option maxHeartbeats 4000000 in
theorem c_X6_isShown {l : Launch} {G : mw_GG} (M : mw_M) (x : Int32) : mw_Met l yX6_isShown wsX6_isShown ({ frames := 2, cells := 0, slots := 0, locals := 42 } : Room) G [.ref (G.1 0), .int x] M (qI (bI (shwP M x)) M) := by
  refine mw_ofV (cc := cX6_isShown) 2 (by decide) rfl rfl (Nat.le_of_ble_eq_true rfl) ?_
  intro p e s m args below meth c C hR hN0
  refine vv_loc (ls2 := [some (.ref (G.1 0)), some (.int x)]) rfl ?_
  refine vv_aload_n C 0 dX6_isShown_0 rfl rfl ?_
  refine vv_iload_n C 1 dX6_isShown_1 rfl rfl ?_
  refine vv_callVI C [.int x] (c_X6_isAsked M x) sh_0 rfl (cwV 1 C.1.2.2.2.2 gX6_isShown_X6_isAsked rfl rfl rfl (by decide +kernel) ⟨Nat.le_of_ble_eq_true rfl, Nat.le_of_ble_eq_true rfl⟩) rfl rfl rfl (Nat.le_of_ble_eq_true rfl) dX6_isShown_2 ⟨Nat.le_refl _, Nat.le_refl _⟩ ?_
  refine vv_bif_eq C 24 dX6_isShown_5 (by decide) (fun h_1 => ?_) (fun h_2 => ?_)
  · refine vv_iconst (v := 0) C dX6_isShown_24 (by decide) ?_
    exact vv_zret0 C hR dX6_isShown_25 (qI_of (bI_f (fun z => h_1 z.1)).symm rfl)
  · refine vv_aload_n C 0 dX6_isShown_8 rfl rfl ?_
    refine vv_geti C (Cn := RX6) (T := TX6) (N := 6) sh_0 5 rfl rfl (by decide) iX6_isShown_X6 (List.mem_of_getElem? (i := 1) rfl) rfl dX6_isShown_9 ?_
    refine vv_iload_n C 1 dX6_isShown_12 rfl rfl ?_
    refine vv_ishr C dX6_isShown_13 ?_
    refine vv_iconst (v := 1) C dX6_isShown_14 (by decide) ?_
    refine vv_iand C dX6_isShown_15 ?_
    refine vv_iconst (v := 1) C dX6_isShown_16 (by decide) ?_
    refine vv_icmp_ne C 24 dX6_isShown_17 (by decide) (fun h_3 => ?_) (fun h_4 => ?_)
    · refine vv_iconst (v := 0) C dX6_isShown_24 (by decide) ?_
      exact vv_zret0 C hR dX6_isShown_25 (qI_of (bI_f (fun z => h_3 z.2)).symm rfl)
    · refine vv_iconst (v := 1) C dX6_isShown_20 (by decide) ?_
      refine vv_goto C 25 dX6_isShown_21 (by decide) ?_
      exact vv_zret1 C hR dX6_isShown_25 (qI_of (bI_t ⟨h_2, h_4⟩).symm rfl)
theorem iX6_entry_X6 : ∀ w ∈ u_ws RX6 TX6 6, w ∈ wsX6_entry := fun w hw => (List.mem_cons_of_mem _ (List.mem_append_left _ (List.mem_append_left _ (List.mem_append_right _ hw))))
set_option maxRecDepth 100000 in
set_option maxHeartbeats 4000000 in
theorem c_X6_entry {l : Launch} {G : mw_GG} (M : mw_M) (hz0 : szP M 0) (hz1 : szP M 1) (x y : Int32) : mw_Met l yX6_entry wsX6_entry ({ frames := 2, cells := 0, slots := 0, locals := 43 } : Room) G [.ref (G.1 0), .int x, .int y] M (qI (rowE M x y) M) := by
  refine mw_ofV (cc := cX6_entry) 3 (by decide) rfl rfl (Nat.le_of_ble_eq_true rfl) ?_
  intro p e s m args below meth c C hR hN0
  refine vv_loc (ls2 := [some (.ref (G.1 0)), some (.int x), some (.int y)]) rfl ?_
  refine vv_iload_n C 1 dX6_entry_0 rfl rfl ?_
  refine vv_iconst (v := 4) C dX6_entry_1 (by decide) ?_
  refine vv_icmp_ge C 18 dX6_entry_2 (by decide) (fun h_1 => ?_) (fun h_2 => ?_)
  · refine vv_aload_n C 0 dX6_entry_18 rfl rfl ?_
    refine vv_getr C (Cn := RX6) (T := TX6) (N := 6) sh_0 1 rfl rfl (by decide) iX6_entry_X6 (List.mem_of_getElem? (i := 2) rfl) rfl dX6_entry_19 ?_
    refine vv_iload_n C 2 dX6_entry_22 rfl rfl ?_
    refine vv_bipush (v := 12) C dX6_entry_23 (by decide) ?_
    refine vv_irem C dX6_entry_25 (by decide) ?_
    refine vv_iload_n C 1 dX6_entry_26 rfl rfl ?_
    refine vv_iconst (v := 4) C dX6_entry_27 (by decide) ?_
    refine vv_isub C dX6_entry_28 ?_
    refine vv_callVI C [.int (y - y / 12 * 12), .int (x - 4)] (c_X0_entry (d := 1) (show 1 < 2 by decide) M hz1 (y - y / 12 * 12) (x - 4)) dw_1.1 rfl (cwV 2 C.1.2.2.2.2 gX6_entry_X0_entry rfl rfl rfl (by decide +kernel) ⟨Nat.le_of_ble_eq_true rfl, Nat.le_of_ble_eq_true rfl⟩) rfl rfl rfl (Nat.le_of_ble_eq_true rfl) dX6_entry_29 ⟨Nat.le_refl _, Nat.le_refl _⟩ ?_
    exact vv_iret C hR dX6_entry_32 (qI_of (by unfold rowE; rw [if_pos h_1]) (rfl))
  · refine vv_aload_n C 0 dX6_entry_5 rfl rfl ?_
    refine vv_getr C (Cn := RX6) (T := TX6) (N := 6) sh_0 0 rfl rfl (by decide) iX6_entry_X6 (List.mem_of_getElem? (i := 1) rfl) rfl dX6_entry_6 ?_
    refine vv_iload_n C 2 dX6_entry_9 rfl rfl ?_
    refine vv_bipush (v := 12) C dX6_entry_10 (by decide) ?_
    refine vv_idiv C dX6_entry_12 (by decide) ?_
    refine vv_iload_n C 1 dX6_entry_13 rfl rfl ?_
    refine vv_callVI C [.int (y / 12), .int x] (c_X0_entry (d := 0) (show 0 < 2 by decide) M hz0 (y / 12) x) dw_0.1 rfl (cwV 2 C.1.2.2.2.2 gX6_entry_X0_entry rfl rfl rfl (by decide +kernel) ⟨Nat.le_of_ble_eq_true rfl, Nat.le_of_ble_eq_true rfl⟩) rfl rfl rfl (Nat.le_of_ble_eq_true rfl) dX6_entry_14 ⟨Nat.le_refl _, Nat.le_refl _⟩ ?_
    exact vv_iret C hR dX6_entry_17 (qI_of (by unfold rowE; rw [if_neg h_2]) (rfl))
theorem iX6_exampleOf_X6 : ∀ w ∈ u_ws RX6 TX6 6, w ∈ wsX6_exampleOf := fun w hw => (List.mem_cons_of_mem _ (List.mem_append_left _ (List.mem_append_right _ hw)))
set_option maxRecDepth 100000 in
set_option maxHeartbeats 4000000 in
theorem c_X6_exampleOf {l : Launch} {G : mw_GG} (M : mw_M) (x : Int32) : mw_Met l yX6_exampleOf wsX6_exampleOf ({ frames := 1, cells := 0, slots := 0, locals := 20 } : Room) G [.ref (G.1 0), .int x] M (qR (G.1 (4 + 10 * xN x)) M) := by
  refine mw_ofV (cc := cX6_exampleOf) 2 (by decide) rfl rfl (Nat.le_of_ble_eq_true rfl) ?_
  intro p e s m args below meth c C hR hN0
  refine vv_loc (ls2 := [some (.ref (G.1 0)), some (.int x)]) rfl ?_
  refine vv_iload_n C 1 dX6_exampleOf_0 rfl rfl ?_
  refine vv_iconst (v := 4) C dX6_exampleOf_1 (by decide) ?_
  refine vv_icmp_ge C 15 dX6_exampleOf_2 (by decide) (fun h_1 => ?_) (fun h_2 => ?_)
  · refine vv_aload_n C 0 dX6_exampleOf_15 rfl rfl ?_
    refine vv_getr C (Cn := RX6) (T := TX6) (N := 6) sh_0 1 rfl rfl (by decide) iX6_exampleOf_X6 (List.mem_of_getElem? (i := 2) rfl) rfl dX6_exampleOf_16 ?_
    refine vv_callVR C [] (c_X0_example (d := 1) (show 1 < 2 by decide) M) dw_1.1 rfl (cwV 0 C.1.2.2.2.2 gX6_exampleOf_X0_example rfl rfl rfl (by decide +kernel) ⟨Nat.le_of_ble_eq_true rfl, Nat.le_of_ble_eq_true rfl⟩) rfl rfl rfl (Nat.le_of_ble_eq_true rfl) dX6_exampleOf_19 ⟨Nat.le_refl _, Nat.le_refl _⟩ ?_
    exact vv_aret C hR dX6_exampleOf_22 (qR_of (by simp [xN, h_1]) rfl)
  · refine vv_aload_n C 0 dX6_exampleOf_5 rfl rfl ?_
    refine vv_getr C (Cn := RX6) (T := TX6) (N := 6) sh_0 0 rfl rfl (by decide) iX6_exampleOf_X6 (List.mem_of_getElem? (i := 1) rfl) rfl dX6_exampleOf_6 ?_
    refine vv_callVR C [] (c_X0_example (d := 0) (show 0 < 2 by decide) M) dw_0.1 rfl (cwV 0 C.1.2.2.2.2 gX6_exampleOf_X0_example rfl rfl rfl (by decide +kernel) ⟨Nat.le_of_ble_eq_true rfl, Nat.le_of_ble_eq_true rfl⟩) rfl rfl rfl (Nat.le_of_ble_eq_true rfl) dX6_exampleOf_9 ⟨Nat.le_refl _, Nat.le_refl _⟩ ?_
    refine vv_goto C 22 dX6_exampleOf_12 (by decide) ?_
    exact vv_aret C hR dX6_exampleOf_22 (qR_of (by simp [xN, h_2]) rfl)
theorem iX6_copyFrom_X6 : ∀ w ∈ u_ws RX6 TX6 6, w ∈ wsX6_copyFrom := fun w hw => (List.mem_cons_of_mem _ (List.mem_append_left _ (List.mem_append_left _ (List.mem_append_left _ (List.mem_append_right _ hw)))))
set_option maxRecDepth 100000 in
set_option maxHeartbeats 4000000 in
theorem c_X6_copyFrom {l : Launch} {G : mw_GG} {x P x2 P2 : Nat} (hX : mw_St x P) (hX2 : mw_St x2 P2) (hP : P + 130 ≤ P2 ∨ P2 + 130 ≤ P) (M : mw_M) : mw_Met l yX6_copyFrom wsX6_copyFrom ({ frames := 4, cells := 0, slots := 0, locals := 85 } : Room) G [.ref (G.1 x), .ref (G.1 x2)] M (qV (s_blk M P P2 130)) := by
  refine mw_ofV (cc := cX6_copyFrom) 2 (by decide) rfl rfl (Nat.le_of_ble_eq_true rfl) ?_
  intro p e s m args below meth c C hR hN0
  refine vv_loc (ls2 := [some (.ref (G.1 x)), some (.ref (G.1 x2))]) rfl ?_
  refine vv_aload_n C 0 dX6_copyFrom_0 rfl rfl ?_
  refine vv_getr C (Cn := RX6) (T := TX6) (N := 6) hX.1 0 rfl rfl (by decide) iX6_copyFrom_X6 (List.mem_of_getElem? (i := 1) rfl) rfl dX6_copyFrom_1 ?_
  refine vv_aload_n C 1 dX6_copyFrom_4 rfl rfl ?_
  refine vv_getr C (Cn := RX6) (T := TX6) (N := 6) hX2.1 0 rfl rfl (by decide) iX6_copyFrom_X6 (List.mem_of_getElem? (i := 1) rfl) rfl dX6_copyFrom_5 ?_
  refine vv_callVV C [.ref (G.1 (x2 + 1))] (c_X0_copyFrom (d := 0) (by decide) hX.2.1 hX2.2.1 hP M) hX.2.1.1 rfl (cwV 1 C.1.2.2.2.2 gX6_copyFrom_X0_copyFrom rfl rfl rfl (by decide +kernel) ⟨Nat.le_of_ble_eq_true rfl, Nat.le_of_ble_eq_true rfl⟩) rfl rfl rfl (Nat.le_of_ble_eq_true rfl) dX6_copyFrom_8 ⟨Nat.le_refl _, Nat.le_refl _⟩ ?_
  refine vv_aload_n C 0 dX6_copyFrom_11 rfl rfl ?_
  refine vv_getr C (Cn := RX6) (T := TX6) (N := 6) hX.1 1 rfl rfl (by decide) iX6_copyFrom_X6 (List.mem_of_getElem? (i := 2) rfl) rfl dX6_copyFrom_12 ?_
  refine vv_aload_n C 1 dX6_copyFrom_15 rfl rfl ?_
  refine vv_getr C (Cn := RX6) (T := TX6) (N := 6) hX2.1 1 rfl rfl (by decide) iX6_copyFrom_X6 (List.mem_of_getElem? (i := 2) rfl) rfl dX6_copyFrom_16 ?_
  refine vv_callVV C [.ref (G.1 (x2 + 11))] (c_X0_copyFrom (d := 1) (by decide) hX.2.2.1 hX2.2.2.1 hP (s_dr M P P2 0)) hX.2.2.1.1 rfl (cwV 1 C.1.2.2.2.2 gX6_copyFrom_X0_copyFrom rfl rfl rfl (by decide +kernel) ⟨Nat.le_of_ble_eq_true rfl, Nat.le_of_ble_eq_true rfl⟩) rfl rfl rfl (Nat.le_of_ble_eq_true rfl) dX6_copyFrom_19 ⟨Nat.le_refl _, Nat.le_refl _⟩ ?_
  refine vv_aload_n C 0 dX6_copyFrom_22 rfl rfl ?_
  refine vv_getr C (Cn := RX6) (T := TX6) (N := 6) hX.1 2 rfl rfl (by decide) iX6_copyFrom_X6 (List.mem_of_getElem? (i := 3) rfl) rfl dX6_copyFrom_23 ?_
  refine vv_aload_n C 1 dX6_copyFrom_26 rfl rfl ?_
  refine vv_getr C (Cn := RX6) (T := TX6) (N := 6) hX2.1 2 rfl rfl (by decide) iX6_copyFrom_X6 (List.mem_of_getElem? (i := 3) rfl) rfl dX6_copyFrom_27 ?_
  refine vv_callVVP C [.ref (G.1 (x2 + 21))] (c_X3_copyFrom hX.2.2.2.1 hX2.2.2.2.1 (by omega) (by intro i j hi hj; omega) (s_dr (s_dr M P P2 0) P P2 1)) hX.2.2.2.1.1 rfl (cwV 1 C.1.2.2.2.2 gX6_copyFrom_X3_copyFrom rfl rfl rfl (by decide +kernel) ⟨Nat.le_of_ble_eq_true rfl, Nat.le_of_ble_eq_true rfl⟩) rfl rfl rfl (Nat.le_of_ble_eq_true rfl) dX6_copyFrom_30 ⟨Nat.le_refl _, Nat.le_refl _⟩ (fun M_1 h_2 => ?_)
  refine vv_aload_n C 0 dX6_copyFrom_33 rfl rfl ?_
  refine vv_getr C (Cn := RX6) (T := TX6) (N := 6) hX.1 3 rfl rfl (by decide) iX6_copyFrom_X6 (List.mem_of_getElem? (i := 4) rfl) rfl dX6_copyFrom_34 ?_
  refine vv_aload_n C 1 dX6_copyFrom_37 rfl rfl ?_
  refine vv_getr C (Cn := RX6) (T := TX6) (N := 6) hX2.1 3 rfl rfl (by decide) iX6_copyFrom_X6 (List.mem_of_getElem? (i := 4) rfl) rfl dX6_copyFrom_38 ?_
  refine vv_callVVP C [.ref (G.1 (x2 + 23))] (c_X3_copyFrom hX.2.2.2.2 hX2.2.2.2.2 (by omega) (by intro i j hi hj; omega) M_1) hX.2.2.2.2.1 rfl (cwV 1 C.1.2.2.2.2 gX6_copyFrom_X3_copyFrom rfl rfl rfl (by decide +kernel) ⟨Nat.le_of_ble_eq_true rfl, Nat.le_of_ble_eq_true rfl⟩) rfl rfl rfl (Nat.le_of_ble_eq_true rfl) dX6_copyFrom_41 ⟨Nat.le_refl _, Nat.le_refl _⟩ (fun M_3 h_4 => ?_)
  refine vv_aload_n C 0 dX6_copyFrom_44 rfl rfl ?_
  refine vv_aload_n C 1 dX6_copyFrom_45 rfl rfl ?_
  refine vv_geti C (Cn := RX6) (T := TX6) (N := 6) hX2.1 4 rfl rfl (by decide) iX6_copyFrom_X6 (List.mem_of_getElem? (i := 5) rfl) rfl dX6_copyFrom_46 ?_
  refine vv_putf C (Cn := RX6) (T := TX6) (N := 6) hX.1 4 rfl rfl (by decide) iX6_copyFrom_X6 (List.mem_of_getElem? (i := 5) rfl) rfl tyX6_ok nmX6 rfl rfl dX6_copyFrom_49 ?_
  refine vv_aload_n C 0 dX6_copyFrom_52 rfl rfl ?_
  refine vv_aload_n C 1 dX6_copyFrom_53 rfl rfl ?_
  refine vv_geti C (Cn := RX6) (T := TX6) (N := 6) hX2.1 5 rfl rfl (by decide) iX6_copyFrom_X6 (List.mem_of_getElem? (i := 6) rfl) rfl dX6_copyFrom_54 ?_
  refine vv_putf C (Cn := RX6) (T := TX6) (N := 6) hX.1 5 rfl rfl (by decide) iX6_copyFrom_X6 (List.mem_of_getElem? (i := 6) rfl) rfl tyX6_ok nmX6 rfl rfl dX6_copyFrom_57 ?_
  exact vv_vret C hR dX6_copyFrom_60 (qV_of (st_eq hP h_2 h_4 rfl))
theorem iX2_size_X2 : ∀ w ∈ u_ws RX2 TX2 5, w ∈ wsX2_size := fun w hw => (List.mem_cons_of_mem _ (List.mem_append_right _ hw))
set_option maxRecDepth 100000 in
set_option maxHeartbeats 4000000 in
theorem c_X2_size {l : Launch} {G : mw_GG} (M : mw_M) : mw_Met l yX2_size wsX2_size ({ frames := 0, cells := 0, slots := 0, locals := 0 } : Room) G [.ref (G.1 125)] M (qI (M 650) M) := by
  refine mw_ofV (cc := cX2_size) 1 (by decide) rfl rfl (Nat.le_of_ble_eq_true rfl) ?_
  intro p e s m args below meth c C hR hN0
  refine vv_loc (ls2 := [some (.ref (G.1 125))]) rfl ?_
  refine vv_aload_n C 0 dX2_size_0 rfl rfl ?_
  refine vv_geti C (Cn := RX2) (T := TX2) (N := 5) sh_125 4 rfl rfl (by decide) iX2_size_X2 (List.mem_of_getElem? (i := 1) rfl) rfl dX2_size_1 ?_
  exact vv_iret C hR dX2_size_4 (qI_of (rfl) (rfl))
theorem iX2_keep_X2 : ∀ w ∈ u_ws RX2 TX2 5, w ∈ wsX2_keep := fun w hw => (List.mem_cons_of_mem _ (List.mem_append_left _ (List.mem_append_left _ (List.mem_append_left _ (List.mem_append_left _ (List.mem_append_right _ hw))))))
set_option maxRecDepth 100000 in
set_option maxHeartbeats 4000000 in
theorem c_X2_keep {l : Launch} {G : mw_GG} (M : mw_M) {h : Nat} (hh : M 650 = nI h) (hh4 : h ≤ 4) : mw_Met l yX2_keep wsX2_keep ({ frames := 5, cells := 0, slots := 0, locals := 106 } : Room) G [.ref (G.1 125), .ref (G.1 0)] M (qV (s_keep M h)) := by
  refine mw_ofV (cc := cX2_keep) 2 (by decide) rfl rfl (Nat.le_of_ble_eq_true rfl) ?_
  intro p e s m args below meth c C hR hN0
  refine vv_loc (ls2 := [some (.ref (G.1 125)), some (.ref (G.1 0))]) rfl ?_
  refine vv_aload_n C 0 dX2_keep_0 rfl rfl ?_
  refine vv_getr C (Cn := RX2) (T := TX2) (N := 5) sh_125 3 rfl rfl (by decide) iX2_keep_X2 (List.mem_of_getElem? (i := 1) rfl) rfl dX2_keep_1 ?_
  refine vv_aload_n C 0 dX2_keep_4 rfl rfl ?_
  refine vv_getr C (Cn := RX2) (T := TX2) (N := 5) sh_125 2 rfl rfl (by decide) iX2_keep_X2 (List.mem_of_getElem? (i := 2) rfl) rfl dX2_keep_5 ?_
  refine vv_callVV C [.ref (G.1 75)] (c_X6_copyFrom st_4 st_3 (by decide) M) st_4.1 rfl (cwV 1 C.1.2.2.2.2 gX2_keep_X6_copyFrom rfl rfl rfl (by decide +kernel) ⟨Nat.le_of_ble_eq_true rfl, Nat.le_of_ble_eq_true rfl⟩) rfl rfl rfl (Nat.le_of_ble_eq_true rfl) dX2_keep_8 ⟨Nat.le_refl _, Nat.le_refl _⟩ ?_
  refine vv_aload_n C 0 dX2_keep_11 rfl rfl ?_
  refine vv_getr C (Cn := RX2) (T := TX2) (N := 5) sh_125 2 rfl rfl (by decide) iX2_keep_X2 (List.mem_of_getElem? (i := 2) rfl) rfl dX2_keep_12 ?_
  refine vv_aload_n C 0 dX2_keep_15 rfl rfl ?_
  refine vv_getr C (Cn := RX2) (T := TX2) (N := 5) sh_125 1 rfl rfl (by decide) iX2_keep_X2 (List.mem_of_getElem? (i := 3) rfl) rfl dX2_keep_16 ?_
  refine vv_callVV C [.ref (G.1 50)] (c_X6_copyFrom st_3 st_2 (by decide) (s_blk M 520 390 130)) st_3.1 rfl (cwV 1 C.1.2.2.2.2 gX2_keep_X6_copyFrom rfl rfl rfl (by decide +kernel) ⟨Nat.le_of_ble_eq_true rfl, Nat.le_of_ble_eq_true rfl⟩) rfl rfl rfl (Nat.le_of_ble_eq_true rfl) dX2_keep_19 ⟨Nat.le_refl _, Nat.le_refl _⟩ ?_
  refine vv_aload_n C 0 dX2_keep_22 rfl rfl ?_
  refine vv_getr C (Cn := RX2) (T := TX2) (N := 5) sh_125 1 rfl rfl (by decide) iX2_keep_X2 (List.mem_of_getElem? (i := 3) rfl) rfl dX2_keep_23 ?_
  refine vv_aload_n C 0 dX2_keep_26 rfl rfl ?_
  refine vv_getr C (Cn := RX2) (T := TX2) (N := 5) sh_125 0 rfl rfl (by decide) iX2_keep_X2 (List.mem_of_getElem? (i := 4) rfl) rfl dX2_keep_27 ?_
  refine vv_callVV C [.ref (G.1 25)] (c_X6_copyFrom st_2 st_1 (by decide) (s_blk (s_blk M 520 390 130) 390 260 130)) st_2.1 rfl (cwV 1 C.1.2.2.2.2 gX2_keep_X6_copyFrom rfl rfl rfl (by decide +kernel) ⟨Nat.le_of_ble_eq_true rfl, Nat.le_of_ble_eq_true rfl⟩) rfl rfl rfl (Nat.le_of_ble_eq_true rfl) dX2_keep_30 ⟨Nat.le_refl _, Nat.le_refl _⟩ ?_
  refine vv_aload_n C 0 dX2_keep_33 rfl rfl ?_
  refine vv_getr C (Cn := RX2) (T := TX2) (N := 5) sh_125 0 rfl rfl (by decide) iX2_keep_X2 (List.mem_of_getElem? (i := 4) rfl) rfl dX2_keep_34 ?_
  refine vv_aload_n C 1 dX2_keep_37 rfl rfl ?_
  refine vv_callVV C [.ref (G.1 0)] (c_X6_copyFrom st_1 st_0 (by decide) (s_blk (s_blk (s_blk M 520 390 130) 390 260 130) 260 130 130)) st_1.1 rfl (cwV 1 C.1.2.2.2.2 gX2_keep_X6_copyFrom rfl rfl rfl (by decide +kernel) ⟨Nat.le_of_ble_eq_true rfl, Nat.le_of_ble_eq_true rfl⟩) rfl rfl rfl (Nat.le_of_ble_eq_true rfl) dX2_keep_38 ⟨Nat.le_refl _, Nat.le_refl _⟩ ?_
  refine vv_aload_n C 0 dX2_keep_41 rfl rfl ?_
  refine vv_aload_n C 0 dX2_keep_42 rfl rfl ?_
  refine vv_geti C (Cn := RX2) (T := TX2) (N := 5) sh_125 4 rfl rfl (by decide) iX2_keep_X2 (List.mem_of_getElem? (i := 5) rfl) rfl dX2_keep_43 ?_
  refine vv_iconst (v := 1) C dX2_keep_46 (by decide) ?_
  refine vv_iadd C dX2_keep_47 ?_
  refine vv_iconst (v := 4) C dX2_keep_48 (by decide) ?_
  refine vv_mmin C rfl (List.mem_of_getElem? (i := 6) rfl) (List.mem_of_getElem? (i := 7) rfl) (List.mem_of_getElem? (i := 8) rfl) (List.mem_of_getElem? (i := 9) rfl) (Nat.le_of_ble_eq_true rfl) (Nat.le_of_ble_eq_true rfl) (Nat.le_refl _) (Nat.le_refl _) dX2_keep_49 ?_
  refine vv_putf C (Cn := RX2) (T := TX2) (N := 5) sh_125 4 rfl rfl (by decide) iX2_keep_X2 (List.mem_of_getElem? (i := 5) rfl) rfl tyX2_ok nmX2 rfl rfl dX2_keep_52 ?_
  exact vv_vret C hR dX2_keep_55 (qV_of (keep_eq hh hh4))
theorem iX2_restore_X2 : ∀ w ∈ u_ws RX2 TX2 5, w ∈ wsX2_restore := fun w hw => (List.mem_cons_of_mem _ (List.mem_append_left _ (List.mem_append_left _ (List.mem_append_left _ (List.mem_append_left _ (List.mem_append_right _ hw))))))
set_option maxRecDepth 100000 in
set_option maxHeartbeats 4000000 in
theorem c_X2_restore {l : Launch} {G : mw_GG} (M : mw_M) {h : Nat} (hh : M 650 = nI h) (hh4 : 1 ≤ h ∧ h ≤ 4) : mw_Met l yX2_restore wsX2_restore ({ frames := 5, cells := 0, slots := 0, locals := 106 } : Room) G [.ref (G.1 125), .ref (G.1 0)] M (qV (s_rest M h)) := by
  refine mw_ofV (cc := cX2_restore) 2 (by decide) rfl rfl (Nat.le_of_ble_eq_true rfl) ?_
  intro p e s m args below meth c C hR hN0
  refine vv_loc (ls2 := [some (.ref (G.1 125)), some (.ref (G.1 0))]) rfl ?_
  refine vv_aload_n C 1 dX2_restore_0 rfl rfl ?_
  refine vv_aload_n C 0 dX2_restore_1 rfl rfl ?_
  refine vv_getr C (Cn := RX2) (T := TX2) (N := 5) sh_125 0 rfl rfl (by decide) iX2_restore_X2 (List.mem_of_getElem? (i := 1) rfl) rfl dX2_restore_2 ?_
  refine vv_callVV C [.ref (G.1 25)] (c_X6_copyFrom st_0 st_1 (by decide) M) sh_0 rfl (cwV 1 C.1.2.2.2.2 gX2_restore_X6_copyFrom rfl rfl rfl (by decide +kernel) ⟨Nat.le_of_ble_eq_true rfl, Nat.le_of_ble_eq_true rfl⟩) rfl rfl rfl (Nat.le_of_ble_eq_true rfl) dX2_restore_5 ⟨Nat.le_refl _, Nat.le_refl _⟩ ?_
  refine vv_aload_n C 0 dX2_restore_8 rfl rfl ?_
  refine vv_getr C (Cn := RX2) (T := TX2) (N := 5) sh_125 0 rfl rfl (by decide) iX2_restore_X2 (List.mem_of_getElem? (i := 1) rfl) rfl dX2_restore_9 ?_
  refine vv_aload_n C 0 dX2_restore_12 rfl rfl ?_
  refine vv_getr C (Cn := RX2) (T := TX2) (N := 5) sh_125 1 rfl rfl (by decide) iX2_restore_X2 (List.mem_of_getElem? (i := 2) rfl) rfl dX2_restore_13 ?_
  refine vv_callVV C [.ref (G.1 50)] (c_X6_copyFrom st_1 st_2 (by decide) (s_blk M 0 130 130)) st_1.1 rfl (cwV 1 C.1.2.2.2.2 gX2_restore_X6_copyFrom rfl rfl rfl (by decide +kernel) ⟨Nat.le_of_ble_eq_true rfl, Nat.le_of_ble_eq_true rfl⟩) rfl rfl rfl (Nat.le_of_ble_eq_true rfl) dX2_restore_16 ⟨Nat.le_refl _, Nat.le_refl _⟩ ?_
  refine vv_aload_n C 0 dX2_restore_19 rfl rfl ?_
  refine vv_getr C (Cn := RX2) (T := TX2) (N := 5) sh_125 1 rfl rfl (by decide) iX2_restore_X2 (List.mem_of_getElem? (i := 2) rfl) rfl dX2_restore_20 ?_
  refine vv_aload_n C 0 dX2_restore_23 rfl rfl ?_
  refine vv_getr C (Cn := RX2) (T := TX2) (N := 5) sh_125 2 rfl rfl (by decide) iX2_restore_X2 (List.mem_of_getElem? (i := 3) rfl) rfl dX2_restore_24 ?_
  refine vv_callVV C [.ref (G.1 75)] (c_X6_copyFrom st_2 st_3 (by decide) (s_blk (s_blk M 0 130 130) 130 260 130)) st_2.1 rfl (cwV 1 C.1.2.2.2.2 gX2_restore_X6_copyFrom rfl rfl rfl (by decide +kernel) ⟨Nat.le_of_ble_eq_true rfl, Nat.le_of_ble_eq_true rfl⟩) rfl rfl rfl (Nat.le_of_ble_eq_true rfl) dX2_restore_27 ⟨Nat.le_refl _, Nat.le_refl _⟩ ?_
  refine vv_aload_n C 0 dX2_restore_30 rfl rfl ?_
  refine vv_getr C (Cn := RX2) (T := TX2) (N := 5) sh_125 2 rfl rfl (by decide) iX2_restore_X2 (List.mem_of_getElem? (i := 3) rfl) rfl dX2_restore_31 ?_
  refine vv_aload_n C 0 dX2_restore_34 rfl rfl ?_
  refine vv_getr C (Cn := RX2) (T := TX2) (N := 5) sh_125 3 rfl rfl (by decide) iX2_restore_X2 (List.mem_of_getElem? (i := 4) rfl) rfl dX2_restore_35 ?_
  refine vv_callVV C [.ref (G.1 100)] (c_X6_copyFrom st_3 st_4 (by decide) (s_blk (s_blk (s_blk M 0 130 130) 130 260 130) 260 390 130)) st_3.1 rfl (cwV 1 C.1.2.2.2.2 gX2_restore_X6_copyFrom rfl rfl rfl (by decide +kernel) ⟨Nat.le_of_ble_eq_true rfl, Nat.le_of_ble_eq_true rfl⟩) rfl rfl rfl (Nat.le_of_ble_eq_true rfl) dX2_restore_38 ⟨Nat.le_refl _, Nat.le_refl _⟩ ?_
  refine vv_aload_n C 0 dX2_restore_41 rfl rfl ?_
  refine vv_aload_n C 0 dX2_restore_42 rfl rfl ?_
  refine vv_geti C (Cn := RX2) (T := TX2) (N := 5) sh_125 4 rfl rfl (by decide) iX2_restore_X2 (List.mem_of_getElem? (i := 5) rfl) rfl dX2_restore_43 ?_
  refine vv_iconst (v := 1) C dX2_restore_46 (by decide) ?_
  refine vv_isub C dX2_restore_47 ?_
  refine vv_iconst (v := 0) C dX2_restore_48 (by decide) ?_
  refine vv_mmax C rfl (List.mem_of_getElem? (i := 6) rfl) (List.mem_of_getElem? (i := 7) rfl) (List.mem_of_getElem? (i := 8) rfl) (List.mem_of_getElem? (i := 9) rfl) (Nat.le_of_ble_eq_true rfl) (Nat.le_of_ble_eq_true rfl) (Nat.le_refl _) (Nat.le_refl _) dX2_restore_49 ?_
  refine vv_putf C (Cn := RX2) (T := TX2) (N := 5) sh_125 4 rfl rfl (by decide) iX2_restore_X2 (List.mem_of_getElem? (i := 5) rfl) rfl tyX2_ok nmX2 rfl rfl dX2_restore_52 ?_
  exact vv_vret C hR dX2_restore_55 (qV_of (rest_eq hh hh4.1 hh4.2))
theorem iX7_length_X7 : ∀ w ∈ u_ws RX7 TX7 2, w ∈ wsX7_length := fun w hw => (List.mem_cons_of_mem _ (List.mem_append_right _ hw))
set_option maxRecDepth 100000 in
set_option maxHeartbeats 4000000 in
theorem c_X7_length {l : Launch} {G : mw_GG} (M : mw_M) : mw_Met l yX7_length wsX7_length ({ frames := 0, cells := 0, slots := 0, locals := 0 } : Room) G [.ref (G.1 133)] M (qI (M 653) M) := by
  refine mw_ofV (cc := cX7_length) 1 (by decide) rfl rfl (Nat.le_of_ble_eq_true rfl) ?_
  intro p e s m args below meth c C hR hN0
  refine vv_loc (ls2 := [some (.ref (G.1 133))]) rfl ?_
  refine vv_aload_n C 0 dX7_length_0 rfl rfl ?_
  refine vv_geti C (Cn := RX7) (T := TX7) (N := 2) sh_133 1 rfl rfl (by decide) iX7_length_X7 (List.mem_of_getElem? (i := 1) rfl) rfl dX7_length_1 ?_
  exact vv_iret C hR dX7_length_4 (qI_of (rfl) (rfl))
theorem iX7_characterAt_X7 : ∀ w ∈ u_ws RX7 TX7 2, w ∈ wsX7_characterAt := fun w hw => (List.mem_cons_of_mem _ (List.mem_append_left _ (List.mem_append_right _ hw)))
set_option maxRecDepth 100000 in
set_option maxHeartbeats 4000000 in
theorem c_X7_characterAt {l : Launch} {G : mw_GG} (M : mw_M) {t : Nat} (ht : M 653 = nI t) (ht60 : t ≤ 60) {i : Int32} {j : Nat} (hi : i = nI j) (hj : j < 1000) : mw_Met l yX7_characterAt wsX7_characterAt ({ frames := 1, cells := 0, slots := 0, locals := 21 } : Room) G [.ref (G.1 133), .int i] M (qI (chA M t j) M) := by
  refine mw_ofV (cc := cX7_characterAt) 2 (by decide) rfl rfl (Nat.le_of_ble_eq_true rfl) ?_
  intro p e s m args below meth c C hR hN0
  refine vv_loc (ls2 := [some (.ref (G.1 133)), some (.int i)]) rfl ?_
  refine vv_iload_n C 1 dX7_characterAt_0 rfl rfl ?_
  refine vv_aload_n C 0 dX7_characterAt_1 rfl rfl ?_
  refine vv_geti C (Cn := RX7) (T := TX7) (N := 2) sh_133 1 rfl rfl (by decide) iX7_characterAt_X7 (List.mem_of_getElem? (i := 1) rfl) rfl dX7_characterAt_2 ?_
  refine vv_icmp_ge C 19 dX7_characterAt_5 (by decide) (fun hge => ?_) (fun hlt => ?_)
  · refine vv_iconst (v := (-1)) C dX7_characterAt_19 (by decide) ?_
    exact vv_iret C hR dX7_characterAt_20 (qI_of (by unfold chA; rw [if_neg (fun z => nI_ge z (by omega) (by rw [ht, hi] at hge; exact hge))]) (rfl))
  · have hlt2 : j < t := by
      rcases Nat.lt_or_ge j t with z | z
      · exact z
      · exact absurd (by rw [ht, hi]; exact nI_le z (by omega)) hlt
    refine vv_aload_n C 0 dX7_characterAt_8 rfl rfl ?_
    refine vv_getr C (Cn := RX7) (T := TX7) (N := 2) sh_133 0 rfl rfl (by decide) iX7_characterAt_X7 (List.mem_of_getElem? (i := 2) rfl) rfl dX7_characterAt_9 ?_
    refine vv_iload_n C 1 dX7_characterAt_12 rfl rfl ?_
    refine vv_callVI C [.int i] (c_X3_at nu_134 M (i := i) (j := j) hi (by omega)) nu_134.1 rfl (cwV 1 C.1.2.2.2.2 gX7_characterAt_X3_at rfl rfl rfl (by decide +kernel) ⟨Nat.le_of_ble_eq_true rfl, Nat.le_of_ble_eq_true rfl⟩) rfl rfl rfl (Nat.le_of_ble_eq_true rfl) dX7_characterAt_13 ⟨Nat.le_refl _, Nat.le_refl _⟩ ?_
    refine vv_goto C 20 dX7_characterAt_16 (by decide) ?_
    exact vv_iret C hR dX7_characterAt_20 (qI_of (by unfold chA; rw [if_pos hlt2, Nat.one_mul]) (rfl))
theorem iX7_append_X7 : ∀ w ∈ u_ws RX7 TX7 2, w ∈ wsX7_append := fun w hw => (List.mem_cons_of_mem _ (List.mem_append_left _ (List.mem_append_right _ hw)))
set_option maxRecDepth 100000 in
set_option maxHeartbeats 4000000 in
theorem c_X7_append {l : Launch} {G : mw_GG} (M : mw_M) {t : Nat} (ht : M 653 = nI t) (ht60 : t < 60) (x : Int32) : mw_Met l yX7_append wsX7_append ({ frames := 1, cells := 0, slots := 0, locals := 22 } : Room) G [.ref (G.1 133), .int x] M (qI (nI (t + 1)) (upd (upd M (1000 + t) x) 653 (nI (t + 1)))) := by
  refine mw_ofV (cc := cX7_append) 2 (by decide) rfl rfl (Nat.le_of_ble_eq_true rfl) ?_
  intro p e s m args below meth c C hR hN0
  refine vv_loc (ls2 := [some (.ref (G.1 133)), some (.int x)]) rfl ?_
  refine vv_aload_n C 0 dX7_append_0 rfl rfl ?_
  refine vv_getr C (Cn := RX7) (T := TX7) (N := 2) sh_133 0 rfl rfl (by decide) iX7_append_X7 (List.mem_of_getElem? (i := 1) rfl) rfl dX7_append_1 ?_
  refine vv_aload_n C 0 dX7_append_4 rfl rfl ?_
  refine vv_geti C (Cn := RX7) (T := TX7) (N := 2) sh_133 1 rfl rfl (by decide) iX7_append_X7 (List.mem_of_getElem? (i := 2) rfl) rfl dX7_append_5 ?_
  refine vv_iload_n C 1 dX7_append_8 rfl rfl ?_
  refine vv_callVV C [.int (M 653), .int x] (c_X3_set nu_134 M (i := (M 653)) (j := t) ht ht60 x) nu_134.1 rfl (cwV 2 C.1.2.2.2.2 gX7_append_X3_set rfl rfl rfl (by decide +kernel) ⟨Nat.le_of_ble_eq_true rfl, Nat.le_of_ble_eq_true rfl⟩) rfl rfl rfl (Nat.le_of_ble_eq_true rfl) dX7_append_9 ⟨Nat.le_refl _, Nat.le_refl _⟩ ?_
  refine vv_aload_n C 0 dX7_append_12 rfl rfl ?_
  refine vv_dup C dX7_append_13 rfl ?_
  refine vv_geti C (Cn := RX7) (T := TX7) (N := 2) sh_133 1 rfl rfl (by decide) iX7_append_X7 (List.mem_of_getElem? (i := 2) rfl) rfl dX7_append_14 ?_
  refine vv_iconst (v := 1) C dX7_append_17 (by decide) ?_
  refine vv_iadd C dX7_append_18 ?_
  refine vv_putf C (Cn := RX7) (T := TX7) (N := 2) sh_133 1 rfl rfl (by decide) iX7_append_X7 (List.mem_of_getElem? (i := 2) rfl) rfl tyX7_ok nmX7 rfl rfl dX7_append_19 ?_
  refine vv_aload_n C 0 dX7_append_22 rfl rfl ?_
  refine vv_geti C (Cn := RX7) (T := TX7) (N := 2) sh_133 1 rfl rfl (by decide) iX7_append_X7 (List.mem_of_getElem? (i := 2) rfl) rfl dX7_append_23 ?_
  exact vv_iret C hR dX7_append_26 (qI_of (by rw [upd_s, upd_o (by omega), ht, nI_1]) (by rw [Nat.one_mul]; congr 1; rw [upd_o (by omega), ht, nI_1]))
theorem iX7_empty_X7 : ∀ w ∈ u_ws RX7 TX7 2, w ∈ wsX7_empty := fun w hw => (List.mem_cons_of_mem _ (List.mem_append_right _ hw))
set_option maxRecDepth 100000 in
set_option maxHeartbeats 4000000 in
theorem c_X7_empty {l : Launch} {G : mw_GG} (M : mw_M) : mw_Met l yX7_empty wsX7_empty ({ frames := 0, cells := 0, slots := 0, locals := 0 } : Room) G [.ref (G.1 133)] M (qI (M 653) (upd M 653 0)) := by
  refine mw_ofV (cc := cX7_empty) 2 (by decide) rfl rfl (Nat.le_of_ble_eq_true rfl) ?_
  intro p e s m args below meth c C hR hN0
  refine vv_loc (ls2 := [some (.ref (G.1 133)), none]) rfl ?_
  refine vv_aload_n C 0 dX7_empty_0 rfl rfl ?_
  refine vv_geti C (Cn := RX7) (T := TX7) (N := 2) sh_133 1 rfl rfl (by decide) iX7_empty_X7 (List.mem_of_getElem? (i := 1) rfl) rfl dX7_empty_1 ?_
  refine vv_istore_n (ls2 := [some (.ref (G.1 133)), some (.int (M 653))]) C 1 dX7_empty_4 rfl (Nat.le_of_ble_eq_true rfl) rfl ?_
  refine vv_aload_n C 0 dX7_empty_5 rfl rfl ?_
  refine vv_iconst (v := 0) C dX7_empty_6 (by decide) ?_
  refine vv_putf C (Cn := RX7) (T := TX7) (N := 2) sh_133 1 rfl rfl (by decide) iX7_empty_X7 (List.mem_of_getElem? (i := 1) rfl) rfl tyX7_ok nmX7 rfl rfl dX7_empty_7 ?_
  refine vv_iload_n C 1 dX7_empty_10 rfl rfl ?_
  exact vv_iret C hR dX7_empty_11 (qI_of (rfl) (rfl))
end
section
/-! the rows: what fits, in numbers of cells, rows and columns; S is the flat memory, of which only places below 130 count -/
def tcI (k : Nat) : Int32 := if k < 8 then nI k else -1
theorem tcI_eq {k lo : Nat} (hk : k < 8) : nI k = tcI lo ↔ k = lo := by
  unfold tcI
  by_cases h : lo < 8
  · rw [if_pos h, nI_eq (by omega) (by omega)]
  · rw [if_neg h]
    constructor
    · intro e
      rcases (show k = 0 ∨ k = 1 ∨ k = 2 ∨ k = 3 ∨ k = 4 ∨ k = 5 ∨ k = 6 ∨ k = 7 by omega) with rfl | rfl | rfl | rfl | rfl | rfl | rfl | rfl <;> exact absurd e (by decide)
    · intro e
      omega
/-- the least c below 8 with P c, looked for from 7 - n down; 8 if there is none -/
def tlD (P : Nat → Bool) : Nat → Nat
  | 0 => 8
  | n + 1 => if P (7 - n) then 7 - n else tlD P n
theorem tlD_step (P : Nat → Bool) {k : Nat} (hk : k < 8) : tlD P (8 - k) = if P k then k else tlD P (7 - k) := by
  rw [show 8 - k = (7 - k) + 1 by omega]
  show (if P (7 - (7 - k)) then 7 - (7 - k) else tlD P (7 - k)) = _
  rw [show 7 - (7 - k) = k by omega]
theorem tlD_c {P Q : Nat → Bool} (h : ∀ c, c < 8 → P c = Q c) : ∀ n, n ≤ 8 → tlD P n = tlD Q n
  | 0, _ => rfl
  | n + 1, hn => by
    unfold tlD
    rw [h (7 - n) (by omega), tlD_c h n (by omega)]
theorem tlD_le (P : Nat → Bool) : ∀ n, tlD P n ≤ 8
  | 0 => Nat.le_refl 8
  | n + 1 => by
    unfold tlD
    split
    · omega
    · exact tlD_le P n
/-- nothing below k: the search goes on from k -/
theorem tlD_skip {P : Nat → Bool} : ∀ k, k ≤ 8 → (∀ j, j < k → P j = false) → tlD P 8 = tlD P (8 - k)
  | 0, _, _ => rfl
  | k + 1, hk, h => by
    rw [tlD_skip k (by omega) (fun j hj => h j (by omega)), tlD_step P (show k < 8 by omega), h k (by omega), show 8 - (k + 1) = 7 - k by omega, if_neg (by decide)]
theorem tlD_first {P : Nat → Bool} {k : Nat} (hk : k < 8) (h : ∀ j, j < k → P j = false) (hp : P k = true) : tlD P 8 = k := by
  rw [tlD_skip k (by omega) h, tlD_step P hk, hp]
  rfl
theorem tlD_none {P : Nat → Bool} (h : ∀ j, j < 8 → P j = false) : tlD P 8 = 8 := by
  rw [tlD_skip 8 (by omega) h]
  rfl
theorem tlD_p {P : Nat → Bool} : ∀ n, n ≤ 8 → tlD P n < 8 → P (tlD P n) = true
  | 0, _, h => absurd h (show ¬ (8 : Nat) < 8 by decide)
  | n + 1, hn, h => by
    unfold tlD at h ⊢
    split
    · assumption
    · rename_i hP
      rw [if_neg hP] at h
      exact tlD_p n (by omega) h
def telP (S : mw_M) (lo a c : Nat) : Bool := decide (askP S (nI c)) && (decide (¬ c = lo) && (decide (S (100 + 3 * c) = 8) && decide (S (101 + 3 * c) = nI a)))
def telS (S : mw_M) (lo a : Nat) : Nat := tlD (telP S lo a) 8
/-- what a row (f, g) has in the column c -/
def vS (S : mw_M) (c f g : Nat) : Int32 := S (4 + 48 * (c / 4) + (4 * (if c < 4 then f else g) + c % 4))
/-- whether a row fits the cell c, if the cell lo is left out -/
def fitS (S : mw_M) (lo c f g : Nat) : Bool :=
  if S (100 + 3 * c) < 8 then tkB (S (100 + 3 * c)) (S (101 + 3 * c)) (S (102 + 3 * c)) (vS S c f g)
  else (let t := telS S lo (S (101 + 3 * c)).toNatClampNeg
        let w := if t < 8 then vS S t f g else -1
        decide (¬ vS S c f g = -1) && (decide (¬ w = -1) && (if S (100 + 3 * c) = 8 then decide (vS S c f g = w) else if S (100 + 3 * c) = 9 then decide (¬ w ≤ vS S c f g) else decide (¬ vS S c f g ≤ w))))
def misP (S : mw_M) (lo f g c : Nat) : Bool := decide (askP S (nI c)) && (decide (¬ c = lo) && !fitS S lo c f g)
def misS (S : mw_M) (lo f g : Nat) : Nat := tlD (misP S lo f g) 8
/-- the sizes, and the letters of the cells, are within their limits -/
def wfR (S : mw_M) : Prop := szP S 0 ∧ szP S 1 ∧ ∀ c, c < 8 → ¬ S (100 + 3 * c) < 8 → ∃ a, a < 4 ∧ S (101 + 3 * c) = nI a
/-- the cards of a row are there -/
def valP (S : mw_M) (f g : Nat) : Prop := f < 12 ∧ g < 12 ∧ ¬ S 2 ≤ nI f ∧ (S 124 = 1 → ¬ S 3 ≤ nI g)
/-- two memories are alike where the question lies -/
def eqS (S S2 : mw_M) : Prop := ∀ q, q < 130 → S2 q = S q
theorem eqS.sz {S S2 : mw_M} (h : eqS S S2) {d : Nat} (hd : d < 2) (z : szP S d) : szP S2 d := by
  obtain ⟨w, n, h1, h2, h3, h4⟩ := z
  exact ⟨w, n, by rw [h d (by omega)]; exact h1, h2, by rw [h (2 + d) (by omega)]; exact h3, h4⟩
theorem eqS.wf {S S2 : mw_M} (h : eqS S S2) (z : wfR S) : wfR S2 := by
  refine ⟨h.sz (by omega) z.1, h.sz (by omega) z.2.1, fun c hc hk => ?_⟩
  rw [h (101 + 3 * c) (by omega)]
  rw [h (100 + 3 * c) (by omega)] at hk
  exact z.2.2 c hc hk
theorem eqS.val {S S2 : mw_M} (h : eqS S S2) {f g : Nat} (z : valP S f g) : valP S2 f g := by
  obtain ⟨h1, h2, h3, h4⟩ := z
  refine ⟨h1, h2, by rw [h 2 (by omega)]; exact h3, fun e => ?_⟩
  rw [h 124 (by omega)] at e
  rw [h 3 (by omega)]
  exact h4 e
theorem eqS.ask {S S2 : mw_M} (h : eqS S S2) {x : Int32} : askP S2 x ↔ askP S x := by
  unfold askP hcP
  rw [h 0 (by omega), h 124 (by omega), h 1 (by omega)]
theorem eqS.tel {S S2 : mw_M} (h : eqS S S2) {lo a c : Nat} (hc : c < 8) : telP S2 lo a c = telP S lo a c := by
  unfold telP
  rw [h (100 + 3 * c) (by omega), h (101 + 3 * c) (by omega), decide_eq_decide.mpr h.ask]
theorem eqS.tels {S S2 : mw_M} (h : eqS S S2) {lo a : Nat} : telS S2 lo a = telS S lo a := tlD_c (fun c hc => h.tel hc) 8 (by omega)
theorem eqS.col {S S2 : mw_M} (h : eqS S S2) {c f g : Nat} (hc : c < 8) (hf : f < 12) (hg : g < 12) : vS S2 c f g = vS S c f g := by
  refine h _ ?_
  split <;> omega
theorem eqS.fit {S S2 : mw_M} (h : eqS S S2) {lo c f g : Nat} (hc : c < 8) (hf : f < 12) (hg : g < 12) : fitS S2 lo c f g = fitS S lo c f g := by
  unfold fitS
  simp only [h (100 + 3 * c) (by omega), h (101 + 3 * c) (by omega), h (102 + 3 * c) (by omega), h.tels, h.col hc hf hg]
  by_cases ht : telS S lo (S (101 + 3 * c)).toNatClampNeg < 8
  · simp only [if_pos ht, h.col ht hf hg]
  · simp only [if_neg ht]
theorem eqS.mis {S S2 : mw_M} (h : eqS S S2) {lo f g : Nat} (hf : f < 12) (hg : g < 12) : misS S2 lo f g = misS S lo f g := by
  refine tlD_c (fun c hc => ?_) 8 (by omega)
  unfold misP
  rw [h.fit hc hf hg, decide_eq_decide.mpr h.ask]
theorem eqS.rf {S : mw_M} : eqS S S := fun _ _ => rfl
theorem eqS.tr {S S2 S3 : mw_M} (h : eqS S S2) (h2 : eqS S2 S3) : eqS S S3 := fun q hq => (h2 q hq).trans (h q hq)
/-! the places of cells and entries in the class's words -/
theorem xN_nI {k : Nat} (hk : k < 8) : xN (nI k) = k / 4 := by
  rcases (show k = 0 ∨ k = 1 ∨ k = 2 ∨ k = 3 ∨ k = 4 ∨ k = 5 ∨ k = 6 ∨ k = 7 by omega) with rfl | rfl | rfl | rfl | rfl | rfl | rfl | rfl <;> decide
theorem cell_pos {k : Nat} (hk : k < 8) (u : Nat) : 100 + 12 * xN (nI k) + u + 3 * (k % 4) = 100 + u + 3 * k := by
  rw [xN_nI hk]
  omega
theorem cell_pos0 {k : Nat} (hk : k < 8) : 100 + 12 * xN (nI k) + 3 * (k % 4) = 100 + 3 * k := by
  rw [xN_nI hk]
  omega
theorem rem4 {k : Nat} (hk : k < 1000) : nI k - nI k / 4 * 4 = nI (k % 4) := pk_rem (d := 4) (by omega) (by omega) (by omega)
theorem row_div {f g : Nat} (hf : f < 12) (hg : g < 12) : nI (12 * f + g) / 12 = nI f := by
  rw [show (12 : Int32) = nI 12 from rfl, pk_div (by omega) (by omega) (by omega)]
  congr 1
  omega
theorem row_rem {f g : Nat} (hf : f < 12) (hg : g < 12) : nI (12 * f + g) - nI (12 * f + g) / 12 * 12 = nI g := by
  rw [show (12 : Int32) = nI 12 from rfl, pk_rem (by omega) (by omega) (by omega)]
  congr 1
  omega
theorem c4_le {c : Nat} (hc : c < 8) : (4 : Int32) ≤ nI c ↔ 4 ≤ c := nI_leI (a := 4) (by omega) (by omega)
theorem c4_sub {c : Nat} (h : 4 ≤ c) : nI c - 4 = nI (c - 4) := pk_sub (b := 4) h
/-- what the class reads of a row in a column that is asked -/
theorem rowE_vS {S : mw_M} {c f g : Nat} (hc : c < 8) (hv : valP S f g) (ha : askP S (nI c)) : rowE S (nI c) (nI (12 * f + g)) = vS S c f g := by
  obtain ⟨hf, hg, h3, h4⟩ := hv
  unfold rowE vS entI
  rw [row_rem hf hg, row_div hf hg]
  rcases ha with ⟨a1, a2⟩ | ⟨a1, a2, a3⟩
  · rw [if_neg a1, if_pos ⟨⟨nI_pos (by omega), h3⟩, a2⟩, nI_clamp (by omega), nI_clamp (by omega)]
    have : c < 4 := by
      rcases Nat.lt_or_ge c 4 with z | z
      · exact z
      · exact absurd ((c4_le hc).mpr z) a1
    rw [if_pos this]
    congr 1
    omega
  · have z : 4 ≤ c := (c4_le hc).mp a1
    rw [if_pos a1, if_pos ⟨⟨nI_pos (by omega), h4 a2⟩, a3⟩, c4_sub z, nI_clamp (by omega), nI_clamp (by omega), if_neg (by omega)]
    congr 1
    omega
theorem rowE_none {S : mw_M} {r : Int32} : rowE S (-1) r = -1 := by
  unfold rowE entI
  rw [if_neg (by decide), if_neg (fun z => z.2.1 (by decide))]
/-! the letters, looked for from the last cell on -/
def telI (M M1 : mw_M) (lo c : Nat) : Prop := (∀ q, ¬ q = 652 → ¬ (660 ≤ q ∧ q < 664) → M1 q = M q) ∧ M1 652 = tcI lo ∧ ∀ a, a < 4 → M1 (660 + a) = tcI (tlD (telP M lo a) (8 - c))
theorem telI.eq {M M1 : mw_M} {lo c : Nat} (h : telI M M1 lo c) : eqS M M1 := fun q hq => h.1 q (by omega) (by omega)
theorem telI.start {M M1 : mw_M} {lo : Nat} (h : r_Put (upd M 652 (tcI lo)) M1 4 660 1 (fun _ => -1)) : telI M M1 lo 8 := by
  refine ⟨fun q h1 h2 => ?_, ?_, fun a ha => ?_⟩
  · rw [h.2 q (fun i hi => by omega), upd_o h1]
  · rw [h.2 652 (fun i hi => by omega), upd_s]
  · have := h.1 a ha
    rw [Nat.one_mul] at this
    rw [this]
    rfl
theorem telI.no {M M1 : mw_M} {lo k : Nat} (h : telI M M1 lo (k + 1)) (hk : k < 8) (hn : ¬ (askP M (nI k) ∧ ¬ k = lo ∧ M (100 + 3 * k) = 8)) : telI M M1 lo k := by
  refine ⟨h.1, h.2.1, fun a ha => ?_⟩
  have e : telP M lo a k = false := by
    unfold telP
    rw [Bool.eq_false_iff]
    intro z
    simp only [Bool.and_eq_true, decide_eq_true_eq] at z
    exact hn ⟨z.1, z.2.1, z.2.2.1⟩
  rw [h.2.2 a ha, tlD_step _ hk, e, show 8 - (k + 1) = 7 - k by omega]
  rfl
theorem telI.yes {M M1 : mw_M} {lo k b : Nat} (h : telI M M1 lo (k + 1)) (hk : k < 8) (h1 : askP M (nI k)) (h2 : ¬ k = lo) (h3 : M (100 + 3 * k) = 8) (hb : b < 4) (h4 : M (101 + 3 * k) = nI b) : telI M (upd M1 (660 + 1 * b) (nI k)) lo k := by
  refine ⟨fun q z1 z2 => by rw [upd_o (by omega)]; exact h.1 q z1 z2, by rw [upd_o (by omega)]; exact h.2.1, fun a ha => ?_⟩
  rw [tlD_step _ hk]
  by_cases e : a = b
  · subst e
    have ht : telP M lo a k = true := by
      unfold telP
      simp only [Bool.and_eq_true, decide_eq_true_eq]
      exact ⟨h1, h2, h3, h4⟩
    rw [ht, Nat.one_mul, upd_s]
    show nI k = tcI k
    unfold tcI
    rw [if_pos hk]
  · have ht : telP M lo a k = false := by
      unfold telP
      rw [Bool.eq_false_iff]
      intro z
      simp only [Bool.and_eq_true, decide_eq_true_eq] at z
      have := z.2.2.2
      rw [h4, nI_eq (by omega) (by omega)] at this
      exact e this.symm
    rw [ht, upd_o (by omega), h.2.2 a ha, show 8 - (k + 1) = 7 - k by omega]
    rfl
/-- the tellers stand in the memory -/
def telM (M : mw_M) (lo : Nat) : Prop := M 652 = tcI lo ∧ ∀ a, a < 4 → M (660 + a) = tcI (telS M lo a)
theorem telI.done {M M1 : mw_M} {lo : Nat} (h : telI M M1 lo 0) : telM M1 lo := ⟨h.2.1, fun a ha => by rw [h.2.2 a ha, h.eq.tels]; rfl⟩
theorem tel_asked {S : mw_M} {lo a : Nat} (h : telS S lo a < 8) : askP S (nI (telS S lo a)) := by
  have := tlD_p (P := telP S lo a) 8 (by omega) h
  unfold telP at this
  simp only [Bool.and_eq_true, decide_eq_true_eq] at this
  exact this.1
/-- what the told cell has -/
theorem rowE_tel {S : mw_M} {lo a f g : Nat} (hv : valP S f g) : rowE S (tcI (telS S lo a)) (nI (12 * f + g)) = if telS S lo a < 8 then vS S (telS S lo a) f g else -1 := by
  unfold tcI
  by_cases h : telS S lo a < 8
  · rw [if_pos h, if_pos h]
    exact rowE_vS h hv (tel_asked h)
  · rw [if_neg h, if_neg h]
    exact rowE_none

theorem iX5_tellerOf_X5 : ∀ w ∈ u_ws RX5 TX5 6, w ∈ wsX5_tellerOf := fun w hw => (List.mem_cons_of_mem _ (List.mem_append_left _ (List.mem_append_right _ hw)))
set_option maxRecDepth 100000 in
set_option maxHeartbeats 4000000 in
theorem c_X5_tellerOf {l : Launch} {G : mw_GG} (M : mw_M) {i : Int32} {j : Nat} (hi : i = nI j) (hj : j < 4) : mw_Met l yX5_tellerOf wsX5_tellerOf ({ frames := 1, cells := 0, slots := 0, locals := 21 } : Room) G [.ref (G.1 126), .int i] M (qI (M (660 + j)) M) := by
  refine mw_ofV (cc := cX5_tellerOf) 2 (by decide) rfl rfl (Nat.le_of_ble_eq_true rfl) ?_
  intro p e s m args below meth c C hR hN0
  refine vv_loc (ls2 := [some (.ref (G.1 126)), some (.int i)]) rfl ?_
  refine vv_aload_n C 0 dX5_tellerOf_0 rfl rfl ?_
  refine vv_getr C (Cn := RX5) (T := TX5) (N := 6) sh_126 3 rfl rfl (by decide) iX5_tellerOf_X5 (List.mem_of_getElem? (i := 1) rfl) rfl dX5_tellerOf_1 ?_
  refine vv_iload_n C 1 dX5_tellerOf_4 rfl rfl ?_
  refine vv_callVI C [.int i] (c_X3_at nu_131 M (i := i) (j := j) hi hj) nu_131.1 rfl (cwV 1 C.1.2.2.2.2 gX5_tellerOf_X3_at rfl rfl rfl (by decide +kernel) ⟨Nat.le_of_ble_eq_true rfl, Nat.le_of_ble_eq_true rfl⟩) rfl rfl rfl (Nat.le_of_ble_eq_true rfl) dX5_tellerOf_5 ⟨Nat.le_refl _, Nat.le_refl _⟩ ?_
  exact vv_iret C hR dX5_tellerOf_8 (qI_of (by rw [Nat.one_mul]) (rfl))
theorem iX5_findTellers_X5 : ∀ w ∈ u_ws RX5 TX5 6, w ∈ wsX5_findTellers := fun w hw => (List.mem_cons_of_mem _ (List.mem_append_left _ (List.mem_append_left _ (List.mem_append_left _ (List.mem_append_left _ (List.mem_append_right _ hw))))))
set_option maxRecDepth 100000 in
set_option maxHeartbeats 4000000 in
theorem lp_X5_findTellers {p : Program} {l : Launch} {e : Env} {s : State} {m : MethodId} {args : Array Value} {below : List Frame} {meth : Method} {c : Code} {G : mw_GG} {Q : State → Prop} (C : vv_C p s m args c G cX5_findTellers 6 wsX5_findTellers RX5) (M : mw_M) (hw : wfR M) {lo : Nat} (hk : ∀ M1, telI M M1 lo 0 → vv p l e ({ frames := 2, cells := 0, slots := 0, locals := 42 } : Room) s m args below meth c G 0 0 Q M1 96 [some (.ref (G.1 126)), some (.int (tcI lo)), some (.int (nI 0 + (-1))), none, none, none] []) : ∀ (n c0 : Nat) (M1 : mw_M), c0 + 1 ≤ n → c0 ≤ 8 → telI M M1 lo c0 → vv p l e ({ frames := 2, cells := 0, slots := 0, locals := 42 } : Room) s m args below meth c G 0 0 Q M1 16 [some (.ref (G.1 126)), some (.int (tcI lo)), some (.int (nI c0 + (-1))), none, none, none] [] := by
  intro n
  induction n with
  | zero => intro c0 M1 h1 h2 _; omega
  | succ n ih =>
    intro c0 M1 h1 h2 hI
    refine vv_iload_n C 2 dX5_findTellers_16 rfl rfl ?_
    refine vv_if_lt C 96 dX5_findTellers_17 (by decide) (fun h_end => ?_) (fun h_go => ?_)
    · have hc0 : c0 = 0 := by
        rcases Nat.eq_zero_or_pos c0 with z | z
        · exact z
        · obtain ⟨k, rfl⟩ : ∃ k, c0 = k + 1 := ⟨c0 - 1, by omega⟩
          rw [pk_m1] at h_end
          exact absurd h_end (nI_pos (by omega))
      subst hc0
      exact hk M1 hI
    · obtain ⟨k, rfl⟩ : ∃ k, c0 = k + 1 := ⟨c0 - 1, by
        rcases Nat.eq_zero_or_pos c0 with z | z
        · exact absurd (by rw [z]; decide) h_go
        · omega⟩
      have hk8 : k < 8 := by omega
      have hm1 : nI (k + 1) + (-1) = nI k := pk_m1 k
      refine vv_loc (ls2 := [some (.ref (G.1 126)), some (.int (tcI lo)), some (.int (nI k)), none, none, none]) (by rw [hm1]) ?_
      refine vv_aload_n C 0 dX5_findTellers_20 rfl rfl ?_
      refine vv_getr C (Cn := RX5) (T := TX5) (N := 6) sh_126 0 rfl rfl (by decide) iX5_findTellers_X5 (List.mem_of_getElem? (i := 3) rfl) rfl dX5_findTellers_21 ?_
      refine vv_iload_n C 2 dX5_findTellers_24 rfl rfl ?_
      refine vv_callVR C [.int (nI k)] (c_X6_exampleOf M1 (nI k)) sh_0 rfl (cwV 1 C.1.2.2.2.2 gX5_findTellers_X6_exampleOf rfl rfl rfl (by decide +kernel) ⟨Nat.le_of_ble_eq_true rfl, Nat.le_of_ble_eq_true rfl⟩) rfl rfl rfl (Nat.le_of_ble_eq_true rfl) dX5_findTellers_25 ⟨Nat.le_refl _, Nat.le_refl _⟩ ?_
      refine vv_astore_n (ls2 := [some (.ref (G.1 126)), some (.int (tcI lo)), some (.int (nI k)), some (.ref (G.1 (4 + 10 * xN (nI k)))), none, none]) C 3 dX5_findTellers_28 rfl (Nat.le_of_ble_eq_true rfl) rfl ?_
      refine vv_iload_n C 2 dX5_findTellers_29 rfl rfl ?_
      refine vv_iconst (v := 4) C dX5_findTellers_30 (by decide) ?_
      refine vv_irem C dX5_findTellers_31 (by decide) ?_
      refine vv_top (y := nI (k % 4)) (rem4 (by omega)) ?_
      refine vv_istore (ls2 := [some (.ref (G.1 126)), some (.int (tcI lo)), some (.int (nI k)), some (.ref (G.1 (4 + 10 * xN (nI k)))), some (.int (nI (k % 4))), none]) C 4 dX5_findTellers_32 (Nat.le_of_ble_eq_true rfl) rfl ?_
      refine vv_aload_n C 0 dX5_findTellers_34 rfl rfl ?_
      refine vv_getr C (Cn := RX5) (T := TX5) (N := 6) sh_126 0 rfl rfl (by decide) iX5_findTellers_X5 (List.mem_of_getElem? (i := 3) rfl) rfl dX5_findTellers_35 ?_
      refine vv_iload_n C 2 dX5_findTellers_38 rfl rfl ?_
      refine vv_callVI C [.int (nI k)] (c_X6_isAsked M1 (nI k)) sh_0 rfl (cwV 1 C.1.2.2.2.2 gX5_findTellers_X6_isAsked rfl rfl rfl (by decide +kernel) ⟨Nat.le_of_ble_eq_true rfl, Nat.le_of_ble_eq_true rfl⟩) rfl rfl rfl (Nat.le_of_ble_eq_true rfl) dX5_findTellers_39 ⟨Nat.le_refl _, Nat.le_refl _⟩ ?_
      refine vv_bif_eq C 57 dX5_findTellers_42 (by decide) (fun h_nask => ?_) (fun h_ask => ?_)
      · refine vv_iconst (v := 0) C dX5_findTellers_57 (by decide) ?_
        refine vv_istore (ls2 := [some (.ref (G.1 126)), some (.int (tcI lo)), some (.int (nI k)), some (.ref (G.1 (4 + 10 * xN (nI k)))), some (.int (nI (k % 4))), some (.int 0)]) C 5 dX5_findTellers_58 (Nat.le_of_ble_eq_true rfl) rfl ?_
        refine vv_iload C 5 dX5_findTellers_60 rfl ?_
        refine vv_if_eq C 90 dX5_findTellers_62 (by decide) (fun h_6 => ?_) (fun h_5 => absurd h_5 (by decide))
        refine vv_iinc (v := nI k + (-1)) (ls2 := [some (.ref (G.1 126)), some (.int (tcI lo)), some (.int (nI k + (-1))), some (.ref (G.1 (4 + 10 * xN (nI k)))), some (.int (nI (k % 4))), some (.int 0)]) C 2 dX5_findTellers_90 rfl rfl rfl ?_
        refine vv_goto C 16 dX5_findTellers_93 (by decide) ?_
        refine vv_keep (ls2 := [some (.ref (G.1 126)), some (.int (tcI lo)), some (.int (nI k + (-1))), none, none, none]) ⟨rfl, rfl, rfl, trivial⟩ ?_
        exact ih k _ (by omega) (by omega) (hI.no hk8 (fun z => h_nask (hI.eq.ask.mpr z.1)))
      · refine vv_iload_n C 2 dX5_findTellers_45 rfl rfl ?_
        refine vv_aload_n C 0 dX5_findTellers_46 rfl rfl ?_
        refine vv_geti C (Cn := RX5) (T := TX5) (N := 6) sh_126 5 rfl rfl (by decide) iX5_findTellers_X5 (List.mem_of_getElem? (i := 1) rfl) rfl dX5_findTellers_47 ?_
        refine vv_icmp_eq C 57 dX5_findTellers_50 (by decide) (fun h_lo => ?_) (fun h_nlo => ?_)
        · refine vv_iconst (v := 0) C dX5_findTellers_57 (by decide) ?_
          refine vv_istore (ls2 := [some (.ref (G.1 126)), some (.int (tcI lo)), some (.int (nI k)), some (.ref (G.1 (4 + 10 * xN (nI k)))), some (.int (nI (k % 4))), some (.int 0)]) C 5 dX5_findTellers_58 (Nat.le_of_ble_eq_true rfl) rfl ?_
          refine vv_iload C 5 dX5_findTellers_60 rfl ?_
          refine vv_if_eq C 90 dX5_findTellers_62 (by decide) (fun h_10 => ?_) (fun h_9 => absurd h_9 (by decide))
          refine vv_iinc (v := nI k + (-1)) (ls2 := [some (.ref (G.1 126)), some (.int (tcI lo)), some (.int (nI k + (-1))), some (.ref (G.1 (4 + 10 * xN (nI k)))), some (.int (nI (k % 4))), some (.int 0)]) C 2 dX5_findTellers_90 rfl rfl rfl ?_
          refine vv_goto C 16 dX5_findTellers_93 (by decide) ?_
          refine vv_keep (ls2 := [some (.ref (G.1 126)), some (.int (tcI lo)), some (.int (nI k + (-1))), none, none, none]) ⟨rfl, rfl, rfl, trivial⟩ ?_
          exact ih k _ (by omega) (by omega) (hI.no hk8 (fun z => z.2.1 ((tcI_eq hk8).mp (by rw [← hI.2.1]; exact h_lo))))
        · refine vv_iconst (v := 1) C dX5_findTellers_53 (by decide) ?_
          refine vv_goto C 58 dX5_findTellers_54 (by decide) ?_
          refine vv_istore (ls2 := [some (.ref (G.1 126)), some (.int (tcI lo)), some (.int (nI k)), some (.ref (G.1 (4 + 10 * xN (nI k)))), some (.int (nI (k % 4))), some (.int 1)]) C 5 dX5_findTellers_58 (Nat.le_of_ble_eq_true rfl) rfl ?_
          refine vv_iload C 5 dX5_findTellers_60 rfl ?_
          refine vv_if_eq C 90 dX5_findTellers_62 (by decide) (fun h_11 => absurd h_11 (by decide)) (fun h_12 => ?_)
          refine vv_aload_n C 3 dX5_findTellers_65 rfl rfl ?_
          refine vv_iload C 4 dX5_findTellers_66 rfl ?_
          refine vv_callVI C [.int (nI (k % 4))] (c_X1_kindAt (mw_DwE (xN_lt (nI k))) M1 (i := (nI (k % 4))) (j := (k % 4)) rfl (by omega)) (mw_DwE (xN_lt (nI k))).1 rfl (cwV 1 C.1.2.2.2.2 gX5_findTellers_X1_kindAt rfl rfl rfl (by decide +kernel) ⟨Nat.le_of_ble_eq_true rfl, Nat.le_of_ble_eq_true rfl⟩) rfl rfl rfl (Nat.le_of_ble_eq_true rfl) dX5_findTellers_68 ⟨Nat.le_refl _, Nat.le_refl _⟩ ?_
          refine vv_bipush (v := 8) C dX5_findTellers_71 (by decide) ?_
          refine vv_icmp_ne C 90 dX5_findTellers_73 (by decide) (fun h_nk => ?_) (fun h_k => ?_)
          · refine vv_iinc (v := nI k + (-1)) (ls2 := [some (.ref (G.1 126)), some (.int (tcI lo)), some (.int (nI k + (-1))), some (.ref (G.1 (4 + 10 * xN (nI k)))), some (.int (nI (k % 4))), some (.int 1)]) C 2 dX5_findTellers_90 rfl rfl rfl ?_
            refine vv_goto C 16 dX5_findTellers_93 (by decide) ?_
            refine vv_keep (ls2 := [some (.ref (G.1 126)), some (.int (tcI lo)), some (.int (nI k + (-1))), none, none, none]) ⟨rfl, rfl, rfl, trivial⟩ ?_
            exact ih k _ (by omega) (by omega) (hI.no hk8 (fun z => h_nk (by rw [cell_pos0 hk8, hI.eq _ (by omega)]; exact z.2.2)))
          · obtain ⟨b, hb4, hbe⟩ : ∃ b, b < 4 ∧ M (101 + 3 * k) = nI b := hw.2.2 k hk8 (by rw [← hI.eq _ (by omega), ← cell_pos0 hk8, h_k]; decide)
            refine vv_aload_n C 0 dX5_findTellers_76 rfl rfl ?_
            refine vv_getr C (Cn := RX5) (T := TX5) (N := 6) sh_126 3 rfl rfl (by decide) iX5_findTellers_X5 (List.mem_of_getElem? (i := 2) rfl) rfl dX5_findTellers_77 ?_
            refine vv_aload_n C 3 dX5_findTellers_80 rfl rfl ?_
            refine vv_iload C 4 dX5_findTellers_81 rfl ?_
            refine vv_callVI C [.int (nI (k % 4))] (c_X1_firstAt (mw_DwE (xN_lt (nI k))) M1 (i := (nI (k % 4))) (j := (k % 4)) rfl (by omega)) (mw_DwE (xN_lt (nI k))).1 rfl (cwV 1 C.1.2.2.2.2 gX5_findTellers_X1_firstAt rfl rfl rfl (by decide +kernel) ⟨Nat.le_of_ble_eq_true rfl, Nat.le_of_ble_eq_true rfl⟩) rfl rfl rfl (Nat.le_of_ble_eq_true rfl) dX5_findTellers_83 ⟨Nat.le_refl _, Nat.le_refl _⟩ ?_
            refine vv_iload_n C 2 dX5_findTellers_86 rfl rfl ?_
            refine vv_callVV C [.int (M1 (100 + 12 * xN (nI k) + 1 + 3 * (k % 4))), .int (nI k)] (c_X3_set nu_131 M1 (i := (M1 (100 + 12 * xN (nI k) + 1 + 3 * (k % 4)))) (j := b) (by rw [cell_pos hk8 1, hI.eq _ (by omega)]; exact hbe) hb4 (nI k)) nu_131.1 rfl (cwV 2 C.1.2.2.2.2 gX5_findTellers_X3_set rfl rfl rfl (by decide +kernel) ⟨Nat.le_of_ble_eq_true rfl, Nat.le_of_ble_eq_true rfl⟩) rfl rfl rfl (Nat.le_of_ble_eq_true rfl) dX5_findTellers_87 ⟨Nat.le_refl _, Nat.le_refl _⟩ ?_
            refine vv_iinc (v := nI k + (-1)) (ls2 := [some (.ref (G.1 126)), some (.int (tcI lo)), some (.int (nI k + (-1))), some (.ref (G.1 (4 + 10 * xN (nI k)))), some (.int (nI (k % 4))), some (.int 1)]) C 2 dX5_findTellers_90 rfl rfl rfl ?_
            refine vv_goto C 16 dX5_findTellers_93 (by decide) ?_
            refine vv_keep (ls2 := [some (.ref (G.1 126)), some (.int (tcI lo)), some (.int (nI k + (-1))), none, none, none]) ⟨rfl, rfl, rfl, trivial⟩ ?_
            exact ih k _ (by omega) (by omega) (hI.yes hk8 (hI.eq.ask.mp h_ask) (fun z => h_nlo (by rw [hI.2.1]; exact (tcI_eq hk8).mpr z)) (by rw [← hI.eq _ (by omega), ← cell_pos0 hk8]; exact h_k) hb4 hbe)
set_option maxRecDepth 100000 in
set_option maxHeartbeats 4000000 in
theorem c_X5_findTellers {l : Launch} {G : mw_GG} (M : mw_M) (hw : wfR M) {lo : Nat} {x : Int32} (hx : x = tcI lo) : mw_Met l yX5_findTellers wsX5_findTellers ({ frames := 2, cells := 0, slots := 0, locals := 42 } : Room) G [.ref (G.1 126), .int x] M (qVP (fun M2 => telI M M2 lo 0)) := by
  refine mw_ofV (cc := cX5_findTellers) 6 (by decide) rfl rfl (Nat.le_of_ble_eq_true rfl) ?_
  intro p e s m args below meth c C hR hN0
  subst hx
  refine vv_loc (ls2 := [some (.ref (G.1 126)), some (.int (tcI lo)), none, none, none, none]) rfl ?_
  refine vv_aload_n C 0 dX5_findTellers_0 rfl rfl ?_
  refine vv_iload_n C 1 dX5_findTellers_1 rfl rfl ?_
  refine vv_putf C (Cn := RX5) (T := TX5) (N := 6) sh_126 5 rfl rfl (by decide) iX5_findTellers_X5 (List.mem_of_getElem? (i := 1) rfl) rfl tyX5_ok nmX5 rfl rfl dX5_findTellers_2 ?_
  refine vv_aload_n C 0 dX5_findTellers_5 rfl rfl ?_
  refine vv_getr C (Cn := RX5) (T := TX5) (N := 6) sh_126 3 rfl rfl (by decide) iX5_findTellers_X5 (List.mem_of_getElem? (i := 2) rfl) rfl dX5_findTellers_6 ?_
  refine vv_iconst (v := (-1)) C dX5_findTellers_9 (by decide) ?_
  refine vv_callVVP C [.int (-1)] (c_X3_fill nu_131 (upd M 652 (tcI lo)) (-1)) nu_131.1 rfl (cwV 1 C.1.2.2.2.2 gX5_findTellers_X3_fill rfl rfl rfl (by decide +kernel) ⟨Nat.le_of_ble_eq_true rfl, Nat.le_of_ble_eq_true rfl⟩) rfl rfl rfl (Nat.le_of_ble_eq_true rfl) dX5_findTellers_10 ⟨Nat.le_refl _, Nat.le_refl _⟩ (fun M_1 h_2 => ?_)
  refine vv_bipush (v := 7) C dX5_findTellers_13 (by decide) ?_
  refine vv_istore_n (ls2 := [some (.ref (G.1 126)), some (.int (tcI lo)), some (.int 7), none, none, none]) C 2 dX5_findTellers_15 rfl (Nat.le_of_ble_eq_true rfl) rfl ?_
  refine vv_loc (ls2 := [some (.ref (G.1 126)), some (.int (tcI lo)), some (.int (nI 8 + (-1))), none, none, none]) (by rw [show nI 8 + (-1) = 7 by decide]) ?_
  refine lp_X5_findTellers C M hw (fun M1 hI => ?_) 9 8 _ (by omega) (by omega) (telI.start h_2)
  exact vv_vret C hR dX5_findTellers_96 (qVP_of hI)
theorem iX5_isFitted_X5 : ∀ w ∈ u_ws RX5 TX5 6, w ∈ wsX5_isFitted := fun w hw => (List.mem_cons_of_mem _ (List.mem_append_left _ (List.mem_append_left _ (List.mem_append_left _ (List.mem_append_left _ (List.mem_append_right _ hw))))))
set_option maxRecDepth 100000 in
set_option maxHeartbeats 4000000 in
theorem c_X5_isFitted {l : Launch} {G : mw_GG} (M : mw_M) (hw : wfR M) {lo k f g : Nat} (hT : telM M lo) (hk8 : k < 8) (hv : valP M f g) (ha : askP M (nI k)) {x y : Int32} (hx : x = nI k) (hy : y = nI (12 * f + g)) : mw_Met l yX5_isFitted wsX5_isFitted ({ frames := 3, cells := 0, slots := 0, locals := 65 } : Room) G [.ref (G.1 126), .int x, .int y] M (qI (bI (fitS M lo k f g = true)) M) := by
  refine mw_ofV (cc := cX5_isFitted) 8 (by decide) rfl rfl (Nat.le_of_ble_eq_true rfl) ?_
  intro p e s m args below meth c C hR hN0
  subst hx
  subst hy
  refine vv_loc (ls2 := [some (.ref (G.1 126)), some (.int (nI k)), some (.int (nI (12 * f + g))), none, none, none, none, none]) rfl ?_
  refine vv_aload_n C 0 dX5_isFitted_0 rfl rfl ?_
  refine vv_getr C (Cn := RX5) (T := TX5) (N := 6) sh_126 0 rfl rfl (by decide) iX5_isFitted_X5 (List.mem_of_getElem? (i := 1) rfl) rfl dX5_isFitted_1 ?_
  refine vv_iload_n C 1 dX5_isFitted_4 rfl rfl ?_
  refine vv_callVR C [.int (nI k)] (c_X6_exampleOf M (nI k)) sh_0 rfl (cwV 1 C.1.2.2.2.2 gX5_isFitted_X6_exampleOf rfl rfl rfl (by decide +kernel) ⟨Nat.le_of_ble_eq_true rfl, Nat.le_of_ble_eq_true rfl⟩) rfl rfl rfl (Nat.le_of_ble_eq_true rfl) dX5_isFitted_5 ⟨Nat.le_refl _, Nat.le_refl _⟩ ?_
  refine vv_astore_n (ls2 := [some (.ref (G.1 126)), some (.int (nI k)), some (.int (nI (12 * f + g))), some (.ref (G.1 (4 + 10 * xN (nI k)))), none, none, none, none]) C 3 dX5_isFitted_8 rfl (Nat.le_of_ble_eq_true rfl) rfl ?_
  refine vv_iload_n C 1 dX5_isFitted_9 rfl rfl ?_
  refine vv_iconst (v := 4) C dX5_isFitted_10 (by decide) ?_
  refine vv_irem C dX5_isFitted_11 (by decide) ?_
  refine vv_top (y := nI (k % 4)) (rem4 (by omega)) ?_
  refine vv_istore (ls2 := [some (.ref (G.1 126)), some (.int (nI k)), some (.int (nI (12 * f + g))), some (.ref (G.1 (4 + 10 * xN (nI k)))), some (.int (nI (k % 4))), none, none, none]) C 4 dX5_isFitted_12 (Nat.le_of_ble_eq_true rfl) rfl ?_
  refine vv_aload_n C 0 dX5_isFitted_14 rfl rfl ?_
  refine vv_getr C (Cn := RX5) (T := TX5) (N := 6) sh_126 0 rfl rfl (by decide) iX5_isFitted_X5 (List.mem_of_getElem? (i := 1) rfl) rfl dX5_isFitted_15 ?_
  refine vv_iload_n C 1 dX5_isFitted_18 rfl rfl ?_
  refine vv_iload_n C 2 dX5_isFitted_19 rfl rfl ?_
  refine vv_callVI C [.int (nI k), .int (nI (12 * f + g))] (c_X6_entry M hw.1 hw.2.1 (nI k) (nI (12 * f + g))) sh_0 rfl (cwV 2 C.1.2.2.2.2 gX5_isFitted_X6_entry rfl rfl rfl (by decide +kernel) ⟨Nat.le_of_ble_eq_true rfl, Nat.le_of_ble_eq_true rfl⟩) rfl rfl rfl (Nat.le_of_ble_eq_true rfl) dX5_isFitted_20 ⟨Nat.le_refl _, Nat.le_refl _⟩ ?_
  refine vv_top (y := vS M k f g) (rowE_vS hk8 hv ha) ?_
  refine vv_istore (ls2 := [some (.ref (G.1 126)), some (.int (nI k)), some (.int (nI (12 * f + g))), some (.ref (G.1 (4 + 10 * xN (nI k)))), some (.int (nI (k % 4))), some (.int (vS M k f g)), none, none]) C 5 dX5_isFitted_23 (Nat.le_of_ble_eq_true rfl) rfl ?_
  refine vv_aload_n C 3 dX5_isFitted_25 rfl rfl ?_
  refine vv_iload C 4 dX5_isFitted_26 rfl ?_
  refine vv_callVI C [.int (nI (k % 4))] (c_X1_kindAt (mw_DwE (xN_lt (nI k))) M (i := (nI (k % 4))) (j := (k % 4)) rfl (by omega)) (mw_DwE (xN_lt (nI k))).1 rfl (cwV 1 C.1.2.2.2.2 gX5_isFitted_X1_kindAt rfl rfl rfl (by decide +kernel) ⟨Nat.le_of_ble_eq_true rfl, Nat.le_of_ble_eq_true rfl⟩) rfl rfl rfl (Nat.le_of_ble_eq_true rfl) dX5_isFitted_28 ⟨Nat.le_refl _, Nat.le_refl _⟩ ?_
  refine vv_top (y := M (100 + 3 * k)) (by rw [cell_pos0 hk8]) ?_
  refine vv_istore (ls2 := [some (.ref (G.1 126)), some (.int (nI k)), some (.int (nI (12 * f + g))), some (.ref (G.1 (4 + 10 * xN (nI k)))), some (.int (nI (k % 4))), some (.int (vS M k f g)), some (.int (M (100 + 3 * k))), none]) C 6 dX5_isFitted_31 (Nat.le_of_ble_eq_true rfl) rfl ?_
  refine vv_iload C 6 dX5_isFitted_33 rfl ?_
  refine vv_bipush (v := 8) C dX5_isFitted_35 (by decide) ?_
  refine vv_icmp_ge C 49 dX5_isFitted_37 (by decide) (fun h_8 => ?_) (fun h_n8 => ?_)
  · have hnlt8 : ¬ M (100 + 3 * k) < 8 := Int32.not_lt.mpr h_8
    obtain ⟨b, hb4, hbe⟩ := hw.2.2 k hk8 hnlt8
    have hfit : fitS M lo k f g = (decide (¬ vS M k f g = -1) && (decide (¬ (if telS M lo b < 8 then vS M (telS M lo b) f g else -1) = -1) && (if M (100 + 3 * k) = 8 then decide (vS M k f g = (if telS M lo b < 8 then vS M (telS M lo b) f g else -1)) else if M (100 + 3 * k) = 9 then decide (¬ (if telS M lo b < 8 then vS M (telS M lo b) f g else -1) ≤ vS M k f g) else decide (¬ vS M k f g ≤ (if telS M lo b < 8 then vS M (telS M lo b) f g else -1))))) := by
      unfold fitS
      rw [if_neg hnlt8, hbe, nI_clamp (by omega)]
    generalize hwd : (if telS M lo b < 8 then vS M (telS M lo b) f g else -1) = w at hfit
    refine vv_aload_n C 0 dX5_isFitted_49 rfl rfl ?_
    refine vv_getr C (Cn := RX5) (T := TX5) (N := 6) sh_126 0 rfl rfl (by decide) iX5_isFitted_X5 (List.mem_of_getElem? (i := 1) rfl) rfl dX5_isFitted_50 ?_
    refine vv_aload_n C 0 dX5_isFitted_53 rfl rfl ?_
    refine vv_getr C (Cn := RX5) (T := TX5) (N := 6) sh_126 3 rfl rfl (by decide) iX5_isFitted_X5 (List.mem_of_getElem? (i := 2) rfl) rfl dX5_isFitted_54 ?_
    refine vv_aload_n C 3 dX5_isFitted_57 rfl rfl ?_
    refine vv_iload C 4 dX5_isFitted_58 rfl ?_
    refine vv_callVI C [.int (nI (k % 4))] (c_X1_firstAt (mw_DwE (xN_lt (nI k))) M (i := (nI (k % 4))) (j := (k % 4)) rfl (by omega)) (mw_DwE (xN_lt (nI k))).1 rfl (cwV 1 C.1.2.2.2.2 gX5_isFitted_X1_firstAt rfl rfl rfl (by decide +kernel) ⟨Nat.le_of_ble_eq_true rfl, Nat.le_of_ble_eq_true rfl⟩) rfl rfl rfl (Nat.le_of_ble_eq_true rfl) dX5_isFitted_60 ⟨Nat.le_refl _, Nat.le_refl _⟩ ?_
    refine vv_callVI C [.int (M (100 + 12 * xN (nI k) + 1 + 3 * (k % 4)))] (c_X3_at nu_131 M (i := (M (100 + 12 * xN (nI k) + 1 + 3 * (k % 4)))) (j := b) (by rw [cell_pos hk8 1]; exact hbe) hb4) nu_131.1 rfl (cwV 1 C.1.2.2.2.2 gX5_isFitted_X3_at rfl rfl rfl (by decide +kernel) ⟨Nat.le_of_ble_eq_true rfl, Nat.le_of_ble_eq_true rfl⟩) rfl rfl rfl (Nat.le_of_ble_eq_true rfl) dX5_isFitted_63 ⟨Nat.le_refl _, Nat.le_refl _⟩ ?_
    refine vv_top (y := tcI (telS M lo b)) (by rw [Nat.one_mul]; exact hT.2 b hb4) ?_
    refine vv_iload_n C 2 dX5_isFitted_66 rfl rfl ?_
    refine vv_callVI C [.int (tcI (telS M lo b)), .int (nI (12 * f + g))] (c_X6_entry M hw.1 hw.2.1 (tcI (telS M lo b)) (nI (12 * f + g))) sh_0 rfl (cwV 2 C.1.2.2.2.2 gX5_isFitted_X6_entry rfl rfl rfl (by decide +kernel) ⟨Nat.le_of_ble_eq_true rfl, Nat.le_of_ble_eq_true rfl⟩) rfl rfl rfl (Nat.le_of_ble_eq_true rfl) dX5_isFitted_67 ⟨Nat.le_refl _, Nat.le_refl _⟩ ?_
    refine vv_top (y := w) (by rw [rowE_tel hv]; exact hwd) ?_
    refine vv_istore (ls2 := [some (.ref (G.1 126)), some (.int (nI k)), some (.int (nI (12 * f + g))), some (.ref (G.1 (4 + 10 * xN (nI k)))), some (.int (nI (k % 4))), some (.int (vS M k f g)), some (.int (M (100 + 3 * k))), some (.int w)]) C 7 dX5_isFitted_70 (Nat.le_of_ble_eq_true rfl) rfl ?_
    refine vv_iload C 5 dX5_isFitted_72 rfl ?_
    refine vv_iconst (v := (-1)) C dX5_isFitted_74 (by decide) ?_
    refine vv_icmp_eq C 84 dX5_isFitted_75 (by decide) (fun q_v => ?_) (fun q_nv => ?_)
    · refine vv_iconst (v := 0) C dX5_isFitted_84 (by decide) ?_
      exact vv_zret0 C hR dX5_isFitted_85 (qI_of (by rw [hfit]; simp [bI, q_v]) rfl)
    · refine vv_iload C 7 dX5_isFitted_78 rfl ?_
      refine vv_iconst (v := (-1)) C dX5_isFitted_80 (by decide) ?_
      refine vv_icmp_ne C 86 dX5_isFitted_81 (by decide) (fun q_nw => ?_) (fun q_w => ?_)
      · refine vv_iload C 6 dX5_isFitted_86 rfl ?_
        refine vv_bipush (v := 8) C dX5_isFitted_88 (by decide) ?_
        refine vv_icmp_ne C 106 dX5_isFitted_90 (by decide) (fun q_n8 => ?_) (fun q_8 => ?_)
        · refine vv_iload C 6 dX5_isFitted_106 rfl ?_
          refine vv_bipush (v := 9) C dX5_isFitted_108 (by decide) ?_
          refine vv_icmp_ne C 128 dX5_isFitted_110 (by decide) (fun q_n9 => ?_) (fun q_9 => ?_)
          · refine vv_iload C 5 dX5_isFitted_128 rfl ?_
            refine vv_iload C 7 dX5_isFitted_130 rfl ?_
            refine vv_icmp_le C 139 dX5_isFitted_132 (by decide) (fun q_le => ?_) (fun q_gt => ?_)
            · refine vv_iconst (v := 0) C dX5_isFitted_139 (by decide) ?_
              exact vv_zret0 C hR dX5_isFitted_140 (qI_of (by rw [hfit]; simp [bI, q_nv, q_nw, q_n8, q_n9, q_le]) rfl)
            · refine vv_iconst (v := 1) C dX5_isFitted_135 (by decide) ?_
              refine vv_goto C 140 dX5_isFitted_136 (by decide) ?_
              exact vv_zret1 C hR dX5_isFitted_140 (qI_of (by rw [hfit]; simp [bI, q_nv, q_nw, q_n8, q_n9, q_gt]) rfl)
          · refine vv_iload C 5 dX5_isFitted_113 rfl ?_
            refine vv_iload C 7 dX5_isFitted_115 rfl ?_
            refine vv_icmp_ge C 124 dX5_isFitted_117 (by decide) (fun q_ge => ?_) (fun q_lt => ?_)
            · refine vv_iconst (v := 0) C dX5_isFitted_124 (by decide) ?_
              refine vv_goto C 140 dX5_isFitted_125 (by decide) ?_
              exact vv_zret0 C hR dX5_isFitted_140 (qI_of (by rw [hfit]; simp [bI, q_nv, q_nw, q_n8, q_9, q_ge]) rfl)
            · refine vv_iconst (v := 1) C dX5_isFitted_120 (by decide) ?_
              refine vv_goto C 140 dX5_isFitted_121 (by decide) ?_
              exact vv_zret1 C hR dX5_isFitted_140 (qI_of (by rw [hfit]; simp [bI, q_nv, q_nw, q_n8, q_9, q_lt]) rfl)
        · refine vv_iload C 5 dX5_isFitted_93 rfl ?_
          refine vv_iload C 7 dX5_isFitted_95 rfl ?_
          refine vv_icmp_ne C 104 dX5_isFitted_97 (by decide) (fun q_ne => ?_) (fun q_eq => ?_)
          · refine vv_iconst (v := 0) C dX5_isFitted_104 (by decide) ?_
            exact vv_zret0 C hR dX5_isFitted_105 (qI_of (by rw [hfit]; simp [bI, q_nv, q_nw, q_8, q_ne]) rfl)
          · refine vv_iconst (v := 1) C dX5_isFitted_100 (by decide) ?_
            refine vv_goto C 105 dX5_isFitted_101 (by decide) ?_
            exact vv_zret1 C hR dX5_isFitted_105 (qI_of (by rw [hfit]; simp [bI, q_nv, q_nw, q_8, q_eq]) rfl)
      · refine vv_iconst (v := 0) C dX5_isFitted_84 (by decide) ?_
        exact vv_zret0 C hR dX5_isFitted_85 (qI_of (by rw [hfit]; simp [bI, q_nv, q_w]) rfl)
  · have hlt8 : M (100 + 3 * k) < 8 := Int32.not_le.mp h_n8
    refine vv_aload_n C 3 dX5_isFitted_40 rfl rfl ?_
    refine vv_iload C 4 dX5_isFitted_41 rfl ?_
    refine vv_iload C 5 dX5_isFitted_43 rfl ?_
    refine vv_callVI C [.int (nI (k % 4)), .int (vS M k f g)] (c_X1_takesAlone (mw_DwE (xN_lt (nI k))) M (i := (nI (k % 4))) (j := (k % 4)) rfl (by omega) (vS M k f g)) (mw_DwE (xN_lt (nI k))).1 rfl (cwV 2 C.1.2.2.2.2 gX5_isFitted_X1_takesAlone rfl rfl rfl (by decide +kernel) ⟨Nat.le_of_ble_eq_true rfl, Nat.le_of_ble_eq_true rfl⟩) rfl rfl rfl (Nat.le_of_ble_eq_true rfl) dX5_isFitted_45 ⟨Nat.le_refl _, Nat.le_refl _⟩ ?_
    exact vv_zret C hR dX5_isFitted_48 (qI_of (by rw [cell_pos0 hk8, cell_pos hk8 1, cell_pos hk8 2]; unfold fitS; rw [if_pos hlt8]) rfl)
theorem iX5_firstMisfit_X5 : ∀ w ∈ u_ws RX5 TX5 6, w ∈ wsX5_firstMisfit := fun w hw => (List.mem_cons_of_mem _ (List.mem_append_left _ (List.mem_append_left _ (List.mem_append_left _ (List.mem_append_left _ (List.mem_append_right _ hw))))))
set_option maxRecDepth 100000 in
set_option maxHeartbeats 4000000 in
theorem lp_X5_firstMisfit {p : Program} {l : Launch} {e : Env} {s : State} {m : MethodId} {args : Array Value} {below : List Frame} {meth : Method} {c : Code} {G : mw_GG} (C : vv_C p s m args c G cX5_firstMisfit 3 wsX5_firstMisfit RX5) (hR : vv_R meth (some .int)) (M : mw_M) (hw : wfR M) {lo f g : Nat} (hT : telM M lo) (hv : valP M f g) : ∀ (n i : Nat), 9 ≤ i + n → i ≤ 8 → (∀ j, j < i → misP M lo f g j = false) → vv p l e ({ frames := 4, cells := 0, slots := 0, locals := 92 } : Room) s m args below meth c G 0 0 (mw_E below args s G (qI (tcI (misS M lo f g)) M)) M 2 [some (.ref (G.1 126)), some (.int (nI (12 * f + g))), some (.int (nI i))] [] := by
  intro n
  induction n with
  | zero => intro i h1 h2 _; omega
  | succ n ih =>
    intro i h1 h2 hno
    refine vv_iload_n C 2 dX5_firstMisfit_2 rfl rfl ?_
    refine vv_bipush (v := 8) C dX5_firstMisfit_3 (by decide) ?_
    refine vv_icmp_ge C 44 dX5_firstMisfit_5 (by decide) (fun hge => ?_) (fun hlt => ?_)
    · have hin : i = 8 := by
        rcases Nat.lt_or_ge i 8 with z | z
        · exact absurd hge (nI_ge (b := 8) z (by omega))
        · omega
      subst hin
      have e : misS M lo f g = 8 := tlD_none hno
      refine vv_iconst (v := (-1)) C dX5_firstMisfit_44 (by decide) ?_
      exact vv_iret C hR dX5_firstMisfit_45 (qI_of (by rw [e]; rfl) rfl)
    · have hi8 : i < 8 := by
        rcases Nat.lt_or_ge i 8 with z | z
        · exact z
        · exact absurd (nI_le (a := 8) z (by omega)) hlt
      refine vv_aload_n C 0 dX5_firstMisfit_8 rfl rfl ?_
      refine vv_getr C (Cn := RX5) (T := TX5) (N := 6) sh_126 0 rfl rfl (by decide) iX5_firstMisfit_X5 (List.mem_of_getElem? (i := 1) rfl) rfl dX5_firstMisfit_9 ?_
      refine vv_iload_n C 2 dX5_firstMisfit_12 rfl rfl ?_
      refine vv_callVI C [.int (nI i)] (c_X6_isAsked M (nI i)) sh_0 rfl (cwV 1 C.1.2.2.2.2 gX5_firstMisfit_X6_isAsked rfl rfl rfl (by decide +kernel) ⟨Nat.le_of_ble_eq_true rfl, Nat.le_of_ble_eq_true rfl⟩) rfl rfl rfl (Nat.le_of_ble_eq_true rfl) dX5_firstMisfit_13 ⟨Nat.le_refl _, Nat.le_refl _⟩ ?_
      refine vv_bif_eq C 38 dX5_firstMisfit_16 (by decide) (fun h_nask => ?_) (fun h_ask => ?_)
      · refine vv_iinc (v := nI (i + 1)) (ls2 := [some (.ref (G.1 126)), some (.int (nI (12 * f + g))), some (.int (nI (i + 1)))]) C 2 dX5_firstMisfit_38 rfl (nI_1 _) rfl ?_
        refine vv_goto C 2 dX5_firstMisfit_41 (by decide) ?_
        have hPi : misP M lo f g i = false := by simp [misP, h_nask]
        exact ih (i + 1) (by omega) (by omega) (fun j hj => by
          rcases Nat.lt_or_ge j i with z | z
          · exact hno j z
          · rw [show j = i by omega]; exact hPi)
      · refine vv_iload_n C 2 dX5_firstMisfit_19 rfl rfl ?_
        refine vv_aload_n C 0 dX5_firstMisfit_20 rfl rfl ?_
        refine vv_geti C (Cn := RX5) (T := TX5) (N := 6) sh_126 5 rfl rfl (by decide) iX5_firstMisfit_X5 (List.mem_of_getElem? (i := 2) rfl) rfl dX5_firstMisfit_21 ?_
        refine vv_icmp_eq C 38 dX5_firstMisfit_24 (by decide) (fun h_lo => ?_) (fun h_nlo => ?_)
        · refine vv_iinc (v := nI (i + 1)) (ls2 := [some (.ref (G.1 126)), some (.int (nI (12 * f + g))), some (.int (nI (i + 1)))]) C 2 dX5_firstMisfit_38 rfl (nI_1 _) rfl ?_
          refine vv_goto C 2 dX5_firstMisfit_41 (by decide) ?_
          have hPi : misP M lo f g i = false := by simp [misP, (tcI_eq hi8).mp (h_lo.trans hT.1)]
          exact ih (i + 1) (by omega) (by omega) (fun j hj => by
            rcases Nat.lt_or_ge j i with z | z
            · exact hno j z
            · rw [show j = i by omega]; exact hPi)
        · refine vv_aload_n C 0 dX5_firstMisfit_27 rfl rfl ?_
          refine vv_iload_n C 2 dX5_firstMisfit_28 rfl rfl ?_
          refine vv_iload_n C 1 dX5_firstMisfit_29 rfl rfl ?_
          refine vv_callVI C [.int (nI i), .int (nI (12 * f + g))] (c_X5_isFitted M hw (lo := lo) (k := i) (f := f) (g := g) hT hi8 hv h_ask (x := (nI i)) (y := (nI (12 * f + g))) rfl rfl) sh_126 rfl (cwV 2 C.1.2.2.2.2 gX5_firstMisfit_X5_isFitted rfl rfl rfl (by decide +kernel) ⟨Nat.le_of_ble_eq_true rfl, Nat.le_of_ble_eq_true rfl⟩) rfl rfl rfl (Nat.le_of_ble_eq_true rfl) dX5_firstMisfit_30 ⟨Nat.le_refl _, Nat.le_refl _⟩ ?_
          refine vv_bif_ne C 38 dX5_firstMisfit_33 (by decide) (fun h_fit => ?_) (fun h_nfit => ?_)
          · refine vv_iinc (v := nI (i + 1)) (ls2 := [some (.ref (G.1 126)), some (.int (nI (12 * f + g))), some (.int (nI (i + 1)))]) C 2 dX5_firstMisfit_38 rfl (nI_1 _) rfl ?_
            refine vv_goto C 2 dX5_firstMisfit_41 (by decide) ?_
            have hPi : misP M lo f g i = false := by simp [misP, h_fit]
            exact ih (i + 1) (by omega) (by omega) (fun j hj => by
              rcases Nat.lt_or_ge j i with z | z
              · exact hno j z
              · rw [show j = i by omega]; exact hPi)
          · refine vv_iload_n C 2 dX5_firstMisfit_36 rfl rfl ?_
            have hlo2 : ¬ i = lo := fun z => h_nlo (by rw [hT.1]; exact (tcI_eq hi8).mpr z)
            have e : misS M lo f g = i := tlD_first hi8 hno (by simp [misP, h_ask, h_nfit, hlo2])
            exact vv_iret C hR dX5_firstMisfit_37 (qI_of (by rw [e]; unfold tcI; rw [if_pos hi8]) rfl)
set_option maxRecDepth 100000 in
set_option maxHeartbeats 4000000 in
theorem c_X5_firstMisfit {l : Launch} {G : mw_GG} (M : mw_M) (hw : wfR M) {lo f g : Nat} (hT : telM M lo) (hv : valP M f g) {x : Int32} (hx : x = nI (12 * f + g)) : mw_Met l yX5_firstMisfit wsX5_firstMisfit ({ frames := 4, cells := 0, slots := 0, locals := 92 } : Room) G [.ref (G.1 126), .int x] M (qI (tcI (misS M lo f g)) M) := by
  refine mw_ofV (cc := cX5_firstMisfit) 3 (by decide) rfl rfl (Nat.le_of_ble_eq_true rfl) ?_
  intro p e s m args below meth c C hR hN0
  subst hx
  refine vv_loc (ls2 := [some (.ref (G.1 126)), some (.int (nI (12 * f + g))), none]) rfl ?_
  refine vv_iconst (v := 0) C dX5_firstMisfit_0 (by decide) ?_
  refine vv_istore_n (ls2 := [some (.ref (G.1 126)), some (.int (nI (12 * f + g))), some (.int 0)]) C 2 dX5_firstMisfit_1 rfl (Nat.le_of_ble_eq_true rfl) rfl ?_
  refine lp_X5_firstMisfit C hR M hw hT hv 9 0 (by omega) (by omega) (fun j hj => by omega)
set_option maxRecDepth 100000 in
set_option maxHeartbeats 4000000 in
theorem c_X5_explain {l : Launch} {G : mw_GG} (M : mw_M) (hw : wfR M) {f g : Nat} (hv : valP M f g) {x : Int32} (hx : x = nI (12 * f + g)) : mw_Met l yX5_explain wsX5_explain ({ frames := 5, cells := 0, slots := 0, locals := 114 } : Room) G [.ref (G.1 126), .int x] M (qIP (fun r M2 => r = tcI (misS M 8 f g) ∧ telI M M2 8 0)) := by
  refine mw_ofV (cc := cX5_explain) 2 (by decide) rfl rfl (Nat.le_of_ble_eq_true rfl) ?_
  intro p e s m args below meth c C hR hN0
  refine vv_loc (ls2 := [some (.ref (G.1 126)), some (.int x)]) rfl ?_
  refine vv_aload_n C 0 dX5_explain_0 rfl rfl ?_
  refine vv_iconst (v := (-1)) C dX5_explain_1 (by decide) ?_
  refine vv_callVVP C [.int (-1)] (c_X5_findTellers M hw (lo := 8) (x := (-1)) (by decide)) sh_126 rfl (cwV 1 C.1.2.2.2.2 gX5_explain_X5_findTellers rfl rfl rfl (by decide +kernel) ⟨Nat.le_of_ble_eq_true rfl, Nat.le_of_ble_eq_true rfl⟩) rfl rfl rfl (Nat.le_of_ble_eq_true rfl) dX5_explain_2 ⟨Nat.le_refl _, Nat.le_refl _⟩ (fun M_1 h_2 => ?_)
  have hE := h_2.eq
  have hTT := h_2.done
  refine vv_aload_n C 0 dX5_explain_5 rfl rfl ?_
  refine vv_iload_n C 1 dX5_explain_6 rfl rfl ?_
  refine vv_callVI C [.int x] (c_X5_firstMisfit M_1 (hE.wf hw) (lo := 8) (f := f) (g := g) hTT (hE.val hv) (x := x) hx) sh_126 rfl (cwV 1 C.1.2.2.2.2 gX5_explain_X5_firstMisfit rfl rfl rfl (by decide +kernel) ⟨Nat.le_of_ble_eq_true rfl, Nat.le_of_ble_eq_true rfl⟩) rfl rfl rfl (Nat.le_of_ble_eq_true rfl) dX5_explain_7 ⟨Nat.le_refl _, Nat.le_refl _⟩ ?_
  exact vv_iret C hR dX5_explain_10 (qIP_of (⟨by rw [hE.mis hv.1 hv.2.1], h_2⟩))
end
section
theorem zz_done : (1:Nat) = 1 := rfl
end
