section
-- ===== PART A: goes FIRST, ahead of the names: the tables' words, and 'selects' of the private methods out of them =====
/-- a private method of a class that the tables say can be made, by its rows of tables_1 -/
def lw_okq (q : MethodName × Nat) : Prop := (q.1.cls ≠ "java/lang/invoke/MethodHandle" ∧ q.1.cls ≠ "java/lang/invoke/VarHandle") ∧ Cond.instantiable q.1.cls q.2 ∈ tables_1 ∧ Cond.privateMethod q.1 ∈ tables_1 ∧ Cond.instanceMethod q.1 ∈ tables_1
theorem lw_p0 : lw_okq (⟨"ScanRing$History", "placeAt", "(I)LScanRing$State;"⟩, 3) := ⟨⟨by decide +kernel, by decide +kernel⟩, List.mem_of_getElem? (i := 147) (by decide +kernel), List.mem_of_getElem? (i := 295) (by decide +kernel), List.mem_of_getElem? (i := 296) (by decide +kernel)⟩
theorem lw_p1 : lw_okq (⟨"ScanRing", "isEntry", "(I)Z"⟩, 7) := ⟨⟨by decide +kernel, by decide +kernel⟩, List.mem_of_getElem? (i := 16) (by decide +kernel), List.mem_of_getElem? (i := 376) (by decide +kernel), List.mem_of_getElem? (i := 377) (by decide +kernel)⟩
theorem lw_p2 : lw_okq (⟨"ScanRing$Sorter", "sortIn", "(II)V"⟩, 3) := ⟨⟨by decide +kernel, by decide +kernel⟩, List.mem_of_getElem? (i := 215) (by decide +kernel), List.mem_of_getElem? (i := 422) (by decide +kernel), List.mem_of_getElem? (i := 423) (by decide +kernel)⟩
theorem lw_p3 : lw_okq (⟨"ScanRing", "scanOnce", "()V"⟩, 7) := ⟨⟨by decide +kernel, by decide +kernel⟩, List.mem_of_getElem? (i := 16) (by decide +kernel), List.mem_of_getElem? (i := 446) (by decide +kernel), List.mem_of_getElem? (i := 447) (by decide +kernel)⟩
theorem lw_p4 : lw_okq (⟨"ScanRing$TextReader", "next", "()C"⟩, 4) := ⟨⟨by decide +kernel, by decide +kernel⟩, List.mem_of_getElem? (i := 235) (by decide +kernel), List.mem_of_getElem? (i := 555) (by decide +kernel), List.mem_of_getElem? (i := 556) (by decide +kernel)⟩
theorem lw_p5 : lw_okq (⟨"ScanRing$TextReader", "readItem", "()V"⟩, 4) := ⟨⟨by decide +kernel, by decide +kernel⟩, List.mem_of_getElem? (i := 235) (by decide +kernel), List.mem_of_getElem? (i := 563) (by decide +kernel), List.mem_of_getElem? (i := 564) (by decide +kernel)⟩
theorem lw_p6 : lw_okq (⟨"ScanRing$TextReader", "readEntry", "(I)V"⟩, 4) := ⟨⟨by decide +kernel, by decide +kernel⟩, List.mem_of_getElem? (i := 235) (by decide +kernel), List.mem_of_getElem? (i := 567) (by decide +kernel), List.mem_of_getElem? (i := 568) (by decide +kernel)⟩
theorem lw_p7 : lw_okq (⟨"ScanRing$TextReader", "failAt", "(I)V"⟩, 4) := ⟨⟨by decide +kernel, by decide +kernel⟩, List.mem_of_getElem? (i := 235) (by decide +kernel), List.mem_of_getElem? (i := 571) (by decide +kernel), List.mem_of_getElem? (i := 572) (by decide +kernel)⟩
theorem lw_p8 : lw_okq (⟨"ScanRing$TextReader", "expect", "(C)V"⟩, 4) := ⟨⟨by decide +kernel, by decide +kernel⟩, List.mem_of_getElem? (i := 235) (by decide +kernel), List.mem_of_getElem? (i := 575) (by decide +kernel), List.mem_of_getElem? (i := 576) (by decide +kernel)⟩
theorem lw_p9 : lw_okq (⟨"ScanRing$TextReader", "readNumber", "(II)I"⟩, 4) := ⟨⟨by decide +kernel, by decide +kernel⟩, List.mem_of_getElem? (i := 235) (by decide +kernel), List.mem_of_getElem? (i := 579) (by decide +kernel), List.mem_of_getElem? (i := 580) (by decide +kernel)⟩
theorem lw_p10 : lw_okq (⟨"ScanRing$TextReader", "readSource", "(I)V"⟩, 4) := ⟨⟨by decide +kernel, by decide +kernel⟩, List.mem_of_getElem? (i := 235) (by decide +kernel), List.mem_of_getElem? (i := 589) (by decide +kernel), List.mem_of_getElem? (i := 590) (by decide +kernel)⟩
theorem lw_p11 : lw_okq (⟨"ScanRing$TextReader", "readResistance", "(I)V"⟩, 4) := ⟨⟨by decide +kernel, by decide +kernel⟩, List.mem_of_getElem? (i := 235) (by decide +kernel), List.mem_of_getElem? (i := 594) (by decide +kernel), List.mem_of_getElem? (i := 595) (by decide +kernel)⟩
theorem lw_p12 : lw_okq (⟨"ScanRing", "tryEntries", "(LScanRing$Setup;I)I"⟩, 7) := ⟨⟨by decide +kernel, by decide +kernel⟩, List.mem_of_getElem? (i := 16) (by decide +kernel), List.mem_of_getElem? (i := 661) (by decide +kernel), List.mem_of_getElem? (i := 662) (by decide +kernel)⟩
theorem lw_p13 : lw_okq (⟨"ScanRingModel", "act", "()V"⟩, 17) := ⟨⟨by decide +kernel, by decide +kernel⟩, List.mem_of_getElem? (i := 685) (by decide +kernel), List.mem_of_getElem? (i := 758) (by decide +kernel), List.mem_of_getElem? (i := 759) (by decide +kernel)⟩
theorem lw_p14 : lw_okq (⟨"ScanRingModel", "of", "(II)I"⟩, 17) := ⟨⟨by decide +kernel, by decide +kernel⟩, List.mem_of_getElem? (i := 685) (by decide +kernel), List.mem_of_getElem? (i := 762) (by decide +kernel), List.mem_of_getElem? (i := 763) (by decide +kernel)⟩
theorem lw_p15 : lw_okq (⟨"ScanRingModel", "putSource", "(IIIII)V"⟩, 17) := ⟨⟨by decide +kernel, by decide +kernel⟩, List.mem_of_getElem? (i := 685) (by decide +kernel), List.mem_of_getElem? (i := 766) (by decide +kernel), List.mem_of_getElem? (i := 767) (by decide +kernel)⟩
def lw_privs_1 : List (MethodName × Nat) := [(⟨"ScanRing$History", "placeAt", "(I)LScanRing$State;"⟩, 3), (⟨"ScanRing", "isEntry", "(I)Z"⟩, 7), (⟨"ScanRing$Sorter", "sortIn", "(II)V"⟩, 3), (⟨"ScanRing", "scanOnce", "()V"⟩, 7), (⟨"ScanRing$TextReader", "next", "()C"⟩, 4), (⟨"ScanRing$TextReader", "readItem", "()V"⟩, 4), (⟨"ScanRing$TextReader", "readEntry", "(I)V"⟩, 4), (⟨"ScanRing$TextReader", "failAt", "(I)V"⟩, 4), (⟨"ScanRing$TextReader", "expect", "(C)V"⟩, 4), (⟨"ScanRing$TextReader", "readNumber", "(II)I"⟩, 4), (⟨"ScanRing$TextReader", "readSource", "(I)V"⟩, 4), (⟨"ScanRing$TextReader", "readResistance", "(I)V"⟩, 4), (⟨"ScanRing", "tryEntries", "(LScanRing$Setup;I)I"⟩, 7), (⟨"ScanRingModel", "act", "()V"⟩, 17), (⟨"ScanRingModel", "of", "(II)I"⟩, 17), (⟨"ScanRingModel", "putSource", "(IIIII)V"⟩, 17)]
theorem lw_r1 : ∀ q ∈ lw_privs_1, lw_okq q := List.forall_mem_cons.mpr ⟨lw_p0, List.forall_mem_cons.mpr ⟨lw_p1, List.forall_mem_cons.mpr ⟨lw_p2, List.forall_mem_cons.mpr ⟨lw_p3, List.forall_mem_cons.mpr ⟨lw_p4, List.forall_mem_cons.mpr ⟨lw_p5, List.forall_mem_cons.mpr ⟨lw_p6, List.forall_mem_cons.mpr ⟨lw_p7, List.forall_mem_cons.mpr ⟨lw_p8, List.forall_mem_cons.mpr ⟨lw_p9, List.forall_mem_cons.mpr ⟨lw_p10, List.forall_mem_cons.mpr ⟨lw_p11, List.forall_mem_cons.mpr ⟨lw_p12, List.forall_mem_cons.mpr ⟨lw_p13, List.forall_mem_cons.mpr ⟨lw_p14, List.forall_mem_cons.mpr ⟨lw_p15, fun _ h => absurd h List.not_mem_nil⟩⟩⟩⟩⟩⟩⟩⟩⟩⟩⟩⟩⟩⟩⟩⟩
theorem lw_p16 : lw_okq (⟨"ScanRingModel", "put", "(II)I"⟩, 17) := ⟨⟨by decide +kernel, by decide +kernel⟩, List.mem_of_getElem? (i := 685) (by decide +kernel), List.mem_of_getElem? (i := 774) (by decide +kernel), List.mem_of_getElem? (i := 775) (by decide +kernel)⟩
theorem lw_p17 : lw_okq (⟨"ScanRingModel", "insert", "(III)V"⟩, 17) := ⟨⟨by decide +kernel, by decide +kernel⟩, List.mem_of_getElem? (i := 685) (by decide +kernel), List.mem_of_getElem? (i := 787) (by decide +kernel), List.mem_of_getElem? (i := 788) (by decide +kernel)⟩
theorem lw_p18 : lw_okq (⟨"ScanRingModel", "isEntry", "(I)Z"⟩, 17) := ⟨⟨by decide +kernel, by decide +kernel⟩, List.mem_of_getElem? (i := 685) (by decide +kernel), List.mem_of_getElem? (i := 795) (by decide +kernel), List.mem_of_getElem? (i := 796) (by decide +kernel)⟩
theorem lw_p19 : lw_okq (⟨"ScanRingModel", "orderBy", "(I)I"⟩, 17) := ⟨⟨by decide +kernel, by decide +kernel⟩, List.mem_of_getElem? (i := 685) (by decide +kernel), List.mem_of_getElem? (i := 807) (by decide +kernel), List.mem_of_getElem? (i := 808) (by decide +kernel)⟩
theorem lw_p20 : lw_okq (⟨"ScanRingModel", "swap", "(II)V"⟩, 17) := ⟨⟨by decide +kernel, by decide +kernel⟩, List.mem_of_getElem? (i := 685) (by decide +kernel), List.mem_of_getElem? (i := 811) (by decide +kernel), List.mem_of_getElem? (i := 812) (by decide +kernel)⟩
theorem lw_p21 : lw_okq (⟨"ScanRingModel", "keyOf", "(II)I"⟩, 17) := ⟨⟨by decide +kernel, by decide +kernel⟩, List.mem_of_getElem? (i := 685) (by decide +kernel), List.mem_of_getElem? (i := 815) (by decide +kernel), List.mem_of_getElem? (i := 816) (by decide +kernel)⟩
theorem lw_p22 : lw_okq (⟨"ScanRingModel", "placeOf", "(I)I"⟩, 17) := ⟨⟨by decide +kernel, by decide +kernel⟩, List.mem_of_getElem? (i := 685) (by decide +kernel), List.mem_of_getElem? (i := 819) (by decide +kernel), List.mem_of_getElem? (i := 820) (by decide +kernel)⟩
theorem lw_p23 : lw_okq (⟨"ScanRingModel", "valueOf", "(II)I"⟩, 17) := ⟨⟨by decide +kernel, by decide +kernel⟩, List.mem_of_getElem? (i := 685) (by decide +kernel), List.mem_of_getElem? (i := 823) (by decide +kernel), List.mem_of_getElem? (i := 824) (by decide +kernel)⟩
theorem lw_p24 : lw_okq (⟨"ScanRingModel", "valueAt", "(II)I"⟩, 17) := ⟨⟨by decide +kernel, by decide +kernel⟩, List.mem_of_getElem? (i := 685) (by decide +kernel), List.mem_of_getElem? (i := 827) (by decide +kernel), List.mem_of_getElem? (i := 828) (by decide +kernel)⟩
theorem lw_p25 : lw_okq (⟨"ScanRingModel", "slots", "()I"⟩, 17) := ⟨⟨by decide +kernel, by decide +kernel⟩, List.mem_of_getElem? (i := 685) (by decide +kernel), List.mem_of_getElem? (i := 839) (by decide +kernel), List.mem_of_getElem? (i := 840) (by decide +kernel)⟩
theorem lw_p26 : lw_okq (⟨"ScanRingModel", "settleOf", "(I)I"⟩, 17) := ⟨⟨by decide +kernel, by decide +kernel⟩, List.mem_of_getElem? (i := 685) (by decide +kernel), List.mem_of_getElem? (i := 843) (by decide +kernel), List.mem_of_getElem? (i := 844) (by decide +kernel)⟩
theorem lw_p27 : lw_okq (⟨"ScanRingModel", "begin", "()V"⟩, 17) := ⟨⟨by decide +kernel, by decide +kernel⟩, List.mem_of_getElem? (i := 685) (by decide +kernel), List.mem_of_getElem? (i := 847) (by decide +kernel), List.mem_of_getElem? (i := 848) (by decide +kernel)⟩
theorem lw_p28 : lw_okq (⟨"ScanRingModel", "carryOut", "(II)V"⟩, 17) := ⟨⟨by decide +kernel, by decide +kernel⟩, List.mem_of_getElem? (i := 685) (by decide +kernel), List.mem_of_getElem? (i := 851) (by decide +kernel), List.mem_of_getElem? (i := 852) (by decide +kernel)⟩
theorem lw_p29 : lw_okq (⟨"ScanRingModel", "slot", "(FII)F"⟩, 17) := ⟨⟨by decide +kernel, by decide +kernel⟩, List.mem_of_getElem? (i := 685) (by decide +kernel), List.mem_of_getElem? (i := 855) (by decide +kernel), List.mem_of_getElem? (i := 856) (by decide +kernel)⟩
theorem lw_p30 : lw_okq (⟨"ScanRingModel", "reading", "(F)I"⟩, 17) := ⟨⟨by decide +kernel, by decide +kernel⟩, List.mem_of_getElem? (i := 685) (by decide +kernel), List.mem_of_getElem? (i := 859) (by decide +kernel), List.mem_of_getElem? (i := 860) (by decide +kernel)⟩
theorem lw_p31 : lw_okq (⟨"ScanRingModel", "note", "(II)V"⟩, 17) := ⟨⟨by decide +kernel, by decide +kernel⟩, List.mem_of_getElem? (i := 685) (by decide +kernel), List.mem_of_getElem? (i := 868) (by decide +kernel), List.mem_of_getElem? (i := 869) (by decide +kernel)⟩
def lw_privs_2 : List (MethodName × Nat) := [(⟨"ScanRingModel", "put", "(II)I"⟩, 17), (⟨"ScanRingModel", "insert", "(III)V"⟩, 17), (⟨"ScanRingModel", "isEntry", "(I)Z"⟩, 17), (⟨"ScanRingModel", "orderBy", "(I)I"⟩, 17), (⟨"ScanRingModel", "swap", "(II)V"⟩, 17), (⟨"ScanRingModel", "keyOf", "(II)I"⟩, 17), (⟨"ScanRingModel", "placeOf", "(I)I"⟩, 17), (⟨"ScanRingModel", "valueOf", "(II)I"⟩, 17), (⟨"ScanRingModel", "valueAt", "(II)I"⟩, 17), (⟨"ScanRingModel", "slots", "()I"⟩, 17), (⟨"ScanRingModel", "settleOf", "(I)I"⟩, 17), (⟨"ScanRingModel", "begin", "()V"⟩, 17), (⟨"ScanRingModel", "carryOut", "(II)V"⟩, 17), (⟨"ScanRingModel", "slot", "(FII)F"⟩, 17), (⟨"ScanRingModel", "reading", "(F)I"⟩, 17), (⟨"ScanRingModel", "note", "(II)V"⟩, 17)]
theorem lw_r2 : ∀ q ∈ lw_privs_2, lw_okq q := List.forall_mem_cons.mpr ⟨lw_p16, List.forall_mem_cons.mpr ⟨lw_p17, List.forall_mem_cons.mpr ⟨lw_p18, List.forall_mem_cons.mpr ⟨lw_p19, List.forall_mem_cons.mpr ⟨lw_p20, List.forall_mem_cons.mpr ⟨lw_p21, List.forall_mem_cons.mpr ⟨lw_p22, List.forall_mem_cons.mpr ⟨lw_p23, List.forall_mem_cons.mpr ⟨lw_p24, List.forall_mem_cons.mpr ⟨lw_p25, List.forall_mem_cons.mpr ⟨lw_p26, List.forall_mem_cons.mpr ⟨lw_p27, List.forall_mem_cons.mpr ⟨lw_p28, List.forall_mem_cons.mpr ⟨lw_p29, List.forall_mem_cons.mpr ⟨lw_p30, List.forall_mem_cons.mpr ⟨lw_p31, fun _ h => absurd h List.not_mem_nil⟩⟩⟩⟩⟩⟩⟩⟩⟩⟩⟩⟩⟩⟩⟩⟩
theorem lw_p32 : lw_okq (⟨"ScanRingModel", "hold", "()V"⟩, 17) := ⟨⟨by decide +kernel, by decide +kernel⟩, List.mem_of_getElem? (i := 685) (by decide +kernel), List.mem_of_getElem? (i := 903) (by decide +kernel), List.mem_of_getElem? (i := 904) (by decide +kernel)⟩
theorem lw_p33 : lw_okq (⟨"ScanRingModel", "here", "()I"⟩, 17) := ⟨⟨by decide +kernel, by decide +kernel⟩, List.mem_of_getElem? (i := 685) (by decide +kernel), List.mem_of_getElem? (i := 907) (by decide +kernel), List.mem_of_getElem? (i := 908) (by decide +kernel)⟩
theorem lw_p34 : lw_okq (⟨"ScanRingModel", "readsItem", "()Z"⟩, 17) := ⟨⟨by decide +kernel, by decide +kernel⟩, List.mem_of_getElem? (i := 685) (by decide +kernel), List.mem_of_getElem? (i := 911) (by decide +kernel), List.mem_of_getElem? (i := 912) (by decide +kernel)⟩
theorem lw_p35 : lw_okq (⟨"ScanRingModel", "takes", "(I)Z"⟩, 17) := ⟨⟨by decide +kernel, by decide +kernel⟩, List.mem_of_getElem? (i := 685) (by decide +kernel), List.mem_of_getElem? (i := 915) (by decide +kernel), List.mem_of_getElem? (i := 916) (by decide +kernel)⟩
theorem lw_p36 : lw_okq (⟨"ScanRingModel", "readsEntry", "(I)Z"⟩, 17) := ⟨⟨by decide +kernel, by decide +kernel⟩, List.mem_of_getElem? (i := 685) (by decide +kernel), List.mem_of_getElem? (i := 919) (by decide +kernel), List.mem_of_getElem? (i := 920) (by decide +kernel)⟩
theorem lw_p37 : lw_okq (⟨"ScanRingModel", "reads", "(II)Z"⟩, 17) := ⟨⟨by decide +kernel, by decide +kernel⟩, List.mem_of_getElem? (i := 685) (by decide +kernel), List.mem_of_getElem? (i := 923) (by decide +kernel), List.mem_of_getElem? (i := 924) (by decide +kernel)⟩
theorem lw_p38 : lw_okq (⟨"ScanRingModel", "readsSource", "(I)Z"⟩, 17) := ⟨⟨by decide +kernel, by decide +kernel⟩, List.mem_of_getElem? (i := 685) (by decide +kernel), List.mem_of_getElem? (i := 928) (by decide +kernel), List.mem_of_getElem? (i := 929) (by decide +kernel)⟩
theorem lw_p39 : lw_okq (⟨"ScanRingModel", "readsRising", "(III)Z"⟩, 17) := ⟨⟨by decide +kernel, by decide +kernel⟩, List.mem_of_getElem? (i := 685) (by decide +kernel), List.mem_of_getElem? (i := 932) (by decide +kernel), List.mem_of_getElem? (i := 933) (by decide +kernel)⟩
theorem lw_p40 : lw_okq (⟨"ScanRingModel", "readsJumping", "(II)Z"⟩, 17) := ⟨⟨by decide +kernel, by decide +kernel⟩, List.mem_of_getElem? (i := 685) (by decide +kernel), List.mem_of_getElem? (i := 936) (by decide +kernel), List.mem_of_getElem? (i := 937) (by decide +kernel)⟩
theorem lw_p41 : lw_okq (⟨"ScanRingModel", "readsResistance", "(I)Z"⟩, 17) := ⟨⟨by decide +kernel, by decide +kernel⟩, List.mem_of_getElem? (i := 685) (by decide +kernel), List.mem_of_getElem? (i := 940) (by decide +kernel), List.mem_of_getElem? (i := 941) (by decide +kernel)⟩
theorem lw_p42 : lw_okq (⟨"ScanRingModel", "exchange", "()V"⟩, 17) := ⟨⟨by decide +kernel, by decide +kernel⟩, List.mem_of_getElem? (i := 685) (by decide +kernel), List.mem_of_getElem? (i := 944) (by decide +kernel), List.mem_of_getElem? (i := 945) (by decide +kernel)⟩
theorem lw_p43 : lw_okq (⟨"ScanRingModel", "kinds", "(I)I"⟩, 17) := ⟨⟨by decide +kernel, by decide +kernel⟩, List.mem_of_getElem? (i := 685) (by decide +kernel), List.mem_of_getElem? (i := 953) (by decide +kernel), List.mem_of_getElem? (i := 954) (by decide +kernel)⟩
theorem lw_p44 : lw_okq (⟨"ScanRingModel", "corrected", "(I)I"⟩, 17) := ⟨⟨by decide +kernel, by decide +kernel⟩, List.mem_of_getElem? (i := 685) (by decide +kernel), List.mem_of_getElem? (i := 962) (by decide +kernel), List.mem_of_getElem? (i := 963) (by decide +kernel)⟩
theorem lw_p45 : lw_okq (⟨"ScanRingModel", "entriesOf", "(I)I"⟩, 17) := ⟨⟨by decide +kernel, by decide +kernel⟩, List.mem_of_getElem? (i := 685) (by decide +kernel), List.mem_of_getElem? (i := 966) (by decide +kernel), List.mem_of_getElem? (i := 967) (by decide +kernel)⟩
theorem lw_p46 : lw_okq (⟨"ScanRingModel", "carryOutTo", "(I)V"⟩, 17) := ⟨⟨by decide +kernel, by decide +kernel⟩, List.mem_of_getElem? (i := 685) (by decide +kernel), List.mem_of_getElem? (i := 995) (by decide +kernel), List.mem_of_getElem? (i := 996) (by decide +kernel)⟩
theorem lw_p47 : lw_okq (⟨"ScanRingModel", "carries", "()I"⟩, 17) := ⟨⟨by decide +kernel, by decide +kernel⟩, List.mem_of_getElem? (i := 685) (by decide +kernel), List.mem_of_getElem? (i := 1011) (by decide +kernel), List.mem_of_getElem? (i := 1012) (by decide +kernel)⟩
def lw_privs_3 : List (MethodName × Nat) := [(⟨"ScanRingModel", "hold", "()V"⟩, 17), (⟨"ScanRingModel", "here", "()I"⟩, 17), (⟨"ScanRingModel", "readsItem", "()Z"⟩, 17), (⟨"ScanRingModel", "takes", "(I)Z"⟩, 17), (⟨"ScanRingModel", "readsEntry", "(I)Z"⟩, 17), (⟨"ScanRingModel", "reads", "(II)Z"⟩, 17), (⟨"ScanRingModel", "readsSource", "(I)Z"⟩, 17), (⟨"ScanRingModel", "readsRising", "(III)Z"⟩, 17), (⟨"ScanRingModel", "readsJumping", "(II)Z"⟩, 17), (⟨"ScanRingModel", "readsResistance", "(I)Z"⟩, 17), (⟨"ScanRingModel", "exchange", "()V"⟩, 17), (⟨"ScanRingModel", "kinds", "(I)I"⟩, 17), (⟨"ScanRingModel", "corrected", "(I)I"⟩, 17), (⟨"ScanRingModel", "entriesOf", "(I)I"⟩, 17), (⟨"ScanRingModel", "carryOutTo", "(I)V"⟩, 17), (⟨"ScanRingModel", "carries", "()I"⟩, 17)]
theorem lw_r3 : ∀ q ∈ lw_privs_3, lw_okq q := List.forall_mem_cons.mpr ⟨lw_p32, List.forall_mem_cons.mpr ⟨lw_p33, List.forall_mem_cons.mpr ⟨lw_p34, List.forall_mem_cons.mpr ⟨lw_p35, List.forall_mem_cons.mpr ⟨lw_p36, List.forall_mem_cons.mpr ⟨lw_p37, List.forall_mem_cons.mpr ⟨lw_p38, List.forall_mem_cons.mpr ⟨lw_p39, List.forall_mem_cons.mpr ⟨lw_p40, List.forall_mem_cons.mpr ⟨lw_p41, List.forall_mem_cons.mpr ⟨lw_p42, List.forall_mem_cons.mpr ⟨lw_p43, List.forall_mem_cons.mpr ⟨lw_p44, List.forall_mem_cons.mpr ⟨lw_p45, List.forall_mem_cons.mpr ⟨lw_p46, List.forall_mem_cons.mpr ⟨lw_p47, fun _ h => absurd h List.not_mem_nil⟩⟩⟩⟩⟩⟩⟩⟩⟩⟩⟩⟩⟩⟩⟩⟩
theorem lw_p48 : lw_okq (⟨"ScanRingModel", "release", "()V"⟩, 17) := ⟨⟨by decide +kernel, by decide +kernel⟩, List.mem_of_getElem? (i := 685) (by decide +kernel), List.mem_of_getElem? (i := 1015) (by decide +kernel), List.mem_of_getElem? (i := 1016) (by decide +kernel)⟩
def lw_privs_4 : List (MethodName × Nat) := [(⟨"ScanRingModel", "release", "()V"⟩, 17)]
theorem lw_r4 : ∀ q ∈ lw_privs_4, lw_okq q := List.forall_mem_cons.mpr ⟨lw_p48, fun _ h => absurd h List.not_mem_nil⟩
def lw_privs : List (MethodName × Nat) := lw_privs_1 ++ (lw_privs_2 ++ (lw_privs_3 ++ (lw_privs_4)))
def lw_tbl : List Cond := k2_sels lw_privs ++ tables_1
theorem lw_privs_ok : ∀ q ∈ lw_privs, lw_okq q := by
  show ∀ q ∈ lw_privs_1 ++ (lw_privs_2 ++ (lw_privs_3 ++ (lw_privs_4))), lw_okq q
  exact List.forall_mem_append.mpr ⟨lw_r1, List.forall_mem_append.mpr ⟨lw_r2, List.forall_mem_append.mpr ⟨lw_r3, lw_r4⟩⟩⟩
/-- the streams that the claim lets the run draw from -/
abbrev lw_cs : List Choice := [Jvm.Choice.named "NaN.bits"]
theorem lw_bits : nanBits ∈ lw_cs := by first | decide | exact List.mem_cons_self | simp [lw_cs, nanBits]
-- ===== end of PART A; then your names; then what follows =====
end
section
/-! ===== BEGIN words of one list among another's, by their places ===== -/
theorem goodIn_r {big : List Cond} (ws : List Cond) (ps : List Nat) (hp : ws = ps.filterMap (fun i => big[i]?)) (h : ws.all goodWord = true) : GoodIn big ws := by
  intro w hw
  have h1 := List.all_eq_true.mp h w hw
  rw [hp] at hw
  obtain ⟨i, -, hi⟩ := List.mem_filterMap.mp hw
  have hm : w ∈ big := by first | exact List.mem_of_getElem? hi | exact List.getElem?_mem hi
  exact ⟨hm, good_of_word h1⟩
theorem goodIn_app {big a b : List Cond} (ha : GoodIn big a) (hb : GoodIn big b) : GoodIn big (a ++ b) := fun w h => (List.mem_append.mp h).elim (ha w) (hb w)
theorem goodIn_ca {big a b : List Cond} {c : Cond} (ha : GoodIn big (c :: a)) (hb : GoodIn big b) : GoodIn big (c :: (a ++ b)) := fun w h => (List.mem_cons.mp h).elim (fun e => ha w (List.mem_cons.mpr (Or.inl e))) (fun h => (List.mem_append.mp h).elim (fun h => ha w (List.mem_cons.mpr (Or.inr h))) (hb w))
theorem goodIn_sub {big ws : List Cond} (hm : ∀ w ∈ ws, w ∈ big) (h : ws.all goodWord = true) : GoodIn big ws := fun w hw => ⟨hm w hw, good_of_word (List.all_eq_true.mp h w hw)⟩
/-! ===== END ===== -/

/-! ===== BEGIN printed: names, fields, word lists, decode rows ===== -/
def RX0 : String := "ScanRing$Converter"
def TX0 : u_T := fun k => match k with
  | 0 => ("ScanRing$Converter", "charge", "F", false)
  | 1 => ("ScanRing$Converter", "time", "I", false)
  | 2 => ("ScanRing$Converter", "reading", "I", false)
  | 3 => ("ScanRing$Converter", "carry", "I", false)
  | _ => ("ScanRing$Converter", "target", "I", false)
def tyX0 : Nat → FieldType := fun k => match k with
  | 0 => .float
  | 1 => .int
  | 2 => .int
  | 3 => .int
  | _ => .int
abbrev wsX00 : List Cond := u_ws RX0 TX0 5
theorem nmX0 : ∀ a, a < 5 → ∀ b, b < 5 → a ≠ b → (TX0 a).2.1 ≠ (TX0 b).2.1 := by decide +kernel
theorem tyX0_ok : ∀ k, k < 5 → parseFieldDescriptor (TX0 k).2.2.1 = some (tyX0 k) := by decide +kernel
abbrev cX0_init : ByteArray := prog_2_method_1_code
def yX0_init : MethodName := ⟨RX0, "<init>", "()V"⟩
abbrev cX0_start : ByteArray := prog_2_method_2_code
def yX0_start : MethodName := ⟨RX0, "start", "(FI)V"⟩
abbrev cX0_carryOutEntry : ByteArray := prog_2_method_3_code
def yX0_carryOutEntry : MethodName := ⟨RX0, "carryOutEntry", "(LScanRing$Setup;I)V"⟩
abbrev cX0_carryOut : ByteArray := prog_2_method_4_code
def yX0_carryOut : MethodName := ⟨RX0, "carryOut", "(LScanRing$Setup;II)V"⟩
abbrev cX0_error : ByteArray := prog_2_method_5_code
def yX0_error : MethodName := ⟨RX0, "error", "()I"⟩
abbrev cX0_chargeBehind : ByteArray := prog_2_method_6_code
def yX0_chargeBehind : MethodName := ⟨RX0, "chargeBehind", "(FFI)F"⟩
def RX1 : String := "ScanRing$History"
def TX1 : u_T := fun k => match k with
  | 0 => ("ScanRing$History", "states", "[LScanRing$State;", true)
  | 1 => ("ScanRing$History", "next", "I", false)
  | _ => ("ScanRing$History", "kept", "I", false)
def tyX1 : Nat → FieldType := fun k => match k with
  | 0 => .array (.object "ScanRing$State")
  | 1 => .int
  | _ => .int
abbrev wsX10 : List Cond := u_ws RX1 TX1 3
theorem nmX1 : ∀ a, a < 3 → ∀ b, b < 3 → a ≠ b → (TX1 a).2.1 ≠ (TX1 b).2.1 := by decide +kernel
theorem tyX1_ok : ∀ k, k < 3 → parseFieldDescriptor (TX1 k).2.2.1 = some (tyX1 k) := by decide +kernel
abbrev cX1_init : ByteArray := prog_3_method_1_code
def yX1_init : MethodName := ⟨RX1, "<init>", "()V"⟩
abbrev cX1_keep : ByteArray := prog_3_method_2_code
def yX1_keep : MethodName := ⟨RX1, "keep", "(LScanRing$State;)V"⟩
abbrev cX1_bringBack : ByteArray := prog_3_method_3_code
def yX1_bringBack : MethodName := ⟨RX1, "bringBack", "(LScanRing$State;)V"⟩
abbrev cX1_placeAt : ByteArray := prog_3_method_4_code
def yX1_placeAt : MethodName := ⟨RX1, "placeAt", "(I)LScanRing$State;"⟩
def RX2 : String := "ScanRing$Log"
def TX2 : u_T := fun k => match k with
  | 0 => ("ScanRing$Log", "rows", "LScanRing$Table;", true)
  | 1 => ("ScanRing$Log", "next", "I", false)
  | _ => ("ScanRing$Log", "kept", "I", false)
def tyX2 : Nat → FieldType := fun k => match k with
  | 0 => .object "ScanRing$Table"
  | 1 => .int
  | _ => .int
abbrev wsX20 : List Cond := u_ws RX2 TX2 3
theorem nmX2 : ∀ a, a < 3 → ∀ b, b < 3 → a ≠ b → (TX2 a).2.1 ≠ (TX2 b).2.1 := by decide +kernel
theorem tyX2_ok : ∀ k, k < 3 → parseFieldDescriptor (TX2 k).2.2.1 = some (tyX2 k) := by decide +kernel
abbrev cX2_init : ByteArray := prog_4_method_1_code
def yX2_init : MethodName := ⟨RX2, "<init>", "()V"⟩
abbrev cX2_copyFrom : ByteArray := prog_4_method_2_code
def yX2_copyFrom : MethodName := ⟨RX2, "copyFrom", "(LScanRing$Log;)V"⟩
abbrev cX2_add : ByteArray := prog_4_method_3_code
def yX2_add : MethodName := ⟨RX2, "add", "(ILScanRing$Converter;)V"⟩
abbrev cX2_part : ByteArray := prog_4_method_4_code
def yX2_part : MethodName := ⟨RX2, "part", "(II)I"⟩
def RX3 : String := "ScanRing$Setup"
def TX3 : u_T := fun k => match k with
  | 0 => ("ScanRing$Setup", "channels", "LScanRing$Table;", true)
  | 1 => ("ScanRing$Setup", "list", "LScanRing$Table;", true)
  | 2 => ("ScanRing$Setup", "settings", "LScanRing$Table;", true)
  | _ => ("ScanRing$Setup", "entries", "I", false)
def tyX3 : Nat → FieldType := fun k => match k with
  | 0 => .object "ScanRing$Table"
  | 1 => .object "ScanRing$Table"
  | 2 => .object "ScanRing$Table"
  | _ => .int
abbrev wsX30 : List Cond := u_ws RX3 TX3 4
theorem nmX3 : ∀ a, a < 4 → ∀ b, b < 4 → a ≠ b → (TX3 a).2.1 ≠ (TX3 b).2.1 := by decide +kernel
theorem tyX3_ok : ∀ k, k < 4 → parseFieldDescriptor (TX3 k).2.2.1 = some (tyX3 k) := by decide +kernel
abbrev cX3_init : ByteArray := prog_5_method_1_code
def yX3_init : MethodName := ⟨RX3, "<init>", "()V"⟩
abbrev cX3_copyFrom : ByteArray := prog_5_method_2_code
def yX3_copyFrom : MethodName := ⟨RX3, "copyFrom", "(LScanRing$Setup;)V"⟩
abbrev cX3_setting : ByteArray := prog_5_method_3_code
def yX3_setting : MethodName := ⟨RX3, "setting", "(I)I"⟩
abbrev cX3_putSource : ByteArray := prog_5_method_4_code
def yX3_putSource : MethodName := ⟨RX3, "putSource", "(IIIII)V"⟩
abbrev cX3_sourcesOf : ByteArray := prog_5_method_5_code
def yX3_sourcesOf : MethodName := ⟨RX3, "sourcesOf", "(I)I"⟩
abbrev cX3_entriesOf : ByteArray := prog_5_method_6_code
def yX3_entriesOf : MethodName := ⟨RX3, "entriesOf", "(I)I"⟩
abbrev cX3_insert : ByteArray := prog_5_method_7_code
def yX3_insert : MethodName := ⟨RX3, "insert", "(III)V"⟩
abbrev cX3_removeAt : ByteArray := prog_5_method_8_code
def yX3_removeAt : MethodName := ⟨RX3, "removeAt", "(I)V"⟩
abbrev cX3_slotsOfEntry : ByteArray := prog_5_method_9_code
def yX3_slotsOfEntry : MethodName := ⟨RX3, "slotsOfEntry", "(I)I"⟩
abbrev cX3_slotsOfScan : ByteArray := prog_5_method_10_code
def yX3_slotsOfScan : MethodName := ⟨RX3, "slotsOfScan", "()I"⟩
abbrev cX3_resistanceAt : ByteArray := prog_5_method_11_code
def yX3_resistanceAt : MethodName := ⟨RX3, "resistanceAt", "(I)I"⟩
abbrev cX3_valueAt : ByteArray := prog_5_method_12_code
def yX3_valueAt : MethodName := ⟨RX3, "valueAt", "(II)I"⟩
abbrev cX3_isFirstHalf : ByteArray := prog_5_method_13_code
def yX3_isFirstHalf : MethodName := ⟨RX3, "isFirstHalf", "(II)Z"⟩
abbrev cX3_readingOf : ByteArray := prog_5_method_14_code
def yX3_readingOf : MethodName := ⟨RX3, "readingOf", "(F)I"⟩
def RX4 : String := "ScanRing$Snapshot"
def TX4 : u_T := fun k => match k with
  | 0 => ("ScanRing$Snapshot", "setup", "LScanRing$Setup;", true)
  | _ => ("ScanRing$Snapshot", "taken", "Z", false)
def tyX4 : Nat → FieldType := fun k => match k with
  | 0 => .object "ScanRing$Setup"
  | _ => .boolean
abbrev wsX40 : List Cond := u_ws RX4 TX4 2
theorem nmX4 : ∀ a, a < 2 → ∀ b, b < 2 → a ≠ b → (TX4 a).2.1 ≠ (TX4 b).2.1 := by decide +kernel
theorem tyX4_ok : ∀ k, k < 2 → parseFieldDescriptor (TX4 k).2.2.1 = some (tyX4 k) := by decide +kernel
abbrev cX4_init : ByteArray := prog_6_method_1_code
def yX4_init : MethodName := ⟨RX4, "<init>", "()V"⟩
abbrev cX4_copyFrom : ByteArray := prog_6_method_2_code
def yX4_copyFrom : MethodName := ⟨RX4, "copyFrom", "(LScanRing$Snapshot;)V"⟩
def RX5 : String := "ScanRing$Sorter"
def TX5 : u_T := fun k => match k with
  | 0 => ("ScanRing$Sorter", "keys", "LScanRing$Table;", true)
  | 1 => ("ScanRing$Sorter", "origins", "LScanRing$Table;", true)
  | _ => ("ScanRing$Sorter", "copy", "LScanRing$Table;", true)
def tyX5 : Nat → FieldType := fun k => match k with
  | 0 => .object "ScanRing$Table"
  | 1 => .object "ScanRing$Table"
  | _ => .object "ScanRing$Table"
abbrev wsX50 : List Cond := u_ws RX5 TX5 3
theorem nmX5 : ∀ a, a < 3 → ∀ b, b < 3 → a ≠ b → (TX5 a).2.1 ≠ (TX5 b).2.1 := by decide +kernel
theorem tyX5_ok : ∀ k, k < 3 → parseFieldDescriptor (TX5 k).2.2.1 = some (tyX5 k) := by decide +kernel
abbrev cX5_init : ByteArray := prog_7_method_1_code
def yX5_init : MethodName := ⟨RX5, "<init>", "()V"⟩
abbrev cX5_arrange : ByteArray := prog_7_method_2_code
def yX5_arrange : MethodName := ⟨RX5, "arrange", "(LScanRing$Setup;II)I"⟩
abbrev cX5_sortIn : ByteArray := prog_7_method_3_code
def yX5_sortIn : MethodName := ⟨RX5, "sortIn", "(II)V"⟩
abbrev cX5_keyOf : ByteArray := prog_7_method_4_code
def yX5_keyOf : MethodName := ⟨RX5, "keyOf", "(LScanRing$Setup;III)I"⟩
def RX6 : String := "ScanRing$State"
def TX6 : u_T := fun k => match k with
  | 0 => ("ScanRing$State", "setup", "LScanRing$Setup;", true)
  | 1 => ("ScanRing$State", "log", "LScanRing$Log;", true)
  | 2 => ("ScanRing$State", "latest", "LScanRing$Table;", true)
  | 3 => ("ScanRing$State", "accounts", "LScanRing$Table;", true)
  | 4 => ("ScanRing$State", "first", "LScanRing$Snapshot;", true)
  | 5 => ("ScanRing$State", "second", "LScanRing$Snapshot;", true)
  | _ => ("ScanRing$State", "charge", "F", false)
def tyX6 : Nat → FieldType := fun k => match k with
  | 0 => .object "ScanRing$Setup"
  | 1 => .object "ScanRing$Log"
  | 2 => .object "ScanRing$Table"
  | 3 => .object "ScanRing$Table"
  | 4 => .object "ScanRing$Snapshot"
  | 5 => .object "ScanRing$Snapshot"
  | _ => .float
abbrev wsX60 : List Cond := u_ws RX6 TX6 7
theorem nmX6 : ∀ a, a < 7 → ∀ b, b < 7 → a ≠ b → (TX6 a).2.1 ≠ (TX6 b).2.1 := by decide +kernel
theorem tyX6_ok : ∀ k, k < 7 → parseFieldDescriptor (TX6 k).2.2.1 = some (tyX6 k) := by decide +kernel
abbrev cX6_init : ByteArray := prog_8_method_1_code
def yX6_init : MethodName := ⟨RX6, "<init>", "()V"⟩
abbrev cX6_copyFrom : ByteArray := prog_8_method_2_code
def yX6_copyFrom : MethodName := ⟨RX6, "copyFrom", "(LScanRing$State;)V"⟩
abbrev cX6_time : ByteArray := prog_8_method_3_code
def yX6_time : MethodName := ⟨RX6, "time", "()I"⟩
abbrev cX6_snapshotAt : ByteArray := prog_8_method_4_code
def yX6_snapshotAt : MethodName := ⟨RX6, "snapshotAt", "(I)LScanRing$Snapshot;"⟩
abbrev cX6_snapshotsTaken : ByteArray := prog_8_method_5_code
def yX6_snapshotsTaken : MethodName := ⟨RX6, "snapshotsTaken", "()I"⟩
abbrev cX6_addTo : ByteArray := prog_8_method_6_code
def yX6_addTo : MethodName := ⟨RX6, "addTo", "(II)V"⟩
abbrev cX6_book : ByteArray := prog_8_method_7_code
def yX6_book : MethodName := ⟨RX6, "book", "(IILScanRing$Converter;)V"⟩
abbrev cX6_slotAccountOf : ByteArray := prog_8_method_8_code
def yX6_slotAccountOf : MethodName := ⟨RX6, "slotAccountOf", "(I)I"⟩
abbrev cX6_correctedReading : ByteArray := prog_8_method_9_code
def yX6_correctedReading : MethodName := ⟨RX6, "correctedReading", "(I)I"⟩
def RX7 : String := "ScanRing$Table"
def TX7 : u_T := fun k => match k with
  | 0 => ("ScanRing$Table", "width", "I", true)
  | _ => ("ScanRing$Table", "cells", "[I", true)
def tyX7 : Nat → FieldType := fun k => match k with
  | 0 => .int
  | _ => .array .int
abbrev wsX70 : List Cond := u_ws RX7 TX7 2
theorem nmX7 : ∀ a, a < 2 → ∀ b, b < 2 → a ≠ b → (TX7 a).2.1 ≠ (TX7 b).2.1 := by decide +kernel
theorem tyX7_ok : ∀ k, k < 2 → parseFieldDescriptor (TX7 k).2.2.1 = some (tyX7 k) := by decide +kernel
abbrev cX7_init : ByteArray := prog_9_method_1_code
def yX7_init : MethodName := ⟨RX7, "<init>", "(II)V"⟩
abbrev cX7_at : ByteArray := prog_9_method_2_code
def yX7_at : MethodName := ⟨RX7, "at", "(II)I"⟩
abbrev cX7_put : ByteArray := prog_9_method_3_code
def yX7_put : MethodName := ⟨RX7, "put", "(III)V"⟩
abbrev cX7_copyRow : ByteArray := prog_9_method_4_code
def yX7_copyRow : MethodName := ⟨RX7, "copyRow", "(II)V"⟩
abbrev cX7_copyFrom : ByteArray := prog_9_method_5_code
def yX7_copyFrom : MethodName := ⟨RX7, "copyFrom", "(LScanRing$Table;)V"⟩
def RX8 : String := "ScanRing$Text"
def TX8 : u_T := fun k => match k with
  | 0 => ("ScanRing$Text", "characters", "[C", true)
  | _ => ("ScanRing$Text", "length", "I", false)
def tyX8 : Nat → FieldType := fun k => match k with
  | 0 => .array .char
  | _ => .int
abbrev wsX80 : List Cond := u_ws RX8 TX8 2
theorem nmX8 : ∀ a, a < 2 → ∀ b, b < 2 → a ≠ b → (TX8 a).2.1 ≠ (TX8 b).2.1 := by decide +kernel
theorem tyX8_ok : ∀ k, k < 2 → parseFieldDescriptor (TX8 k).2.2.1 = some (tyX8 k) := by decide +kernel
abbrev cX8_init : ByteArray := prog_10_method_1_code
def yX8_init : MethodName := ⟨RX8, "<init>", "()V"⟩
abbrev cX8_add : ByteArray := prog_10_method_2_code
def yX8_add : MethodName := ⟨RX8, "add", "(I)V"⟩
abbrev cX8_characterAt : ByteArray := prog_10_method_3_code
def yX8_characterAt : MethodName := ⟨RX8, "characterAt", "(I)C"⟩
def RX9 : String := "ScanRing$TextReader"
def TX9 : u_T := fun k => match k with
  | 0 => ("ScanRing$TextReader", "text", "LScanRing$Text;", true)
  | 1 => ("ScanRing$TextReader", "setup", "LScanRing$Setup;", true)
  | 2 => ("ScanRing$TextReader", "position", "I", false)
  | _ => ("ScanRing$TextReader", "failedAt", "I", false)
def tyX9 : Nat → FieldType := fun k => match k with
  | 0 => .object "ScanRing$Text"
  | 1 => .object "ScanRing$Setup"
  | 2 => .int
  | _ => .int
abbrev wsX90 : List Cond := u_ws RX9 TX9 4
theorem nmX9 : ∀ a, a < 4 → ∀ b, b < 4 → a ≠ b → (TX9 a).2.1 ≠ (TX9 b).2.1 := by decide +kernel
theorem tyX9_ok : ∀ k, k < 4 → parseFieldDescriptor (TX9 k).2.2.1 = some (tyX9 k) := by decide +kernel
abbrev cX9_init : ByteArray := prog_11_method_1_code
def yX9_init : MethodName := ⟨RX9, "<init>", "(LScanRing$Text;LScanRing$Setup;)V"⟩
abbrev cX9_readItems : ByteArray := prog_11_method_2_code
def yX9_readItems : MethodName := ⟨RX9, "readItems", "()I"⟩
abbrev cX9_hasFailed : ByteArray := prog_11_method_3_code
def yX9_hasFailed : MethodName := ⟨RX9, "hasFailed", "()Z"⟩
abbrev cX9_readItem : ByteArray := prog_11_method_4_code
def yX9_readItem : MethodName := ⟨RX9, "readItem", "()V"⟩
abbrev cX9_readSource : ByteArray := prog_11_method_5_code
def yX9_readSource : MethodName := ⟨RX9, "readSource", "(I)V"⟩
abbrev cX9_readResistance : ByteArray := prog_11_method_6_code
def yX9_readResistance : MethodName := ⟨RX9, "readResistance", "(I)V"⟩
abbrev cX9_readEntry : ByteArray := prog_11_method_7_code
def yX9_readEntry : MethodName := ⟨RX9, "readEntry", "(I)V"⟩
abbrev cX9_readNumber : ByteArray := prog_11_method_8_code
def yX9_readNumber : MethodName := ⟨RX9, "readNumber", "(II)I"⟩
abbrev cX9_expect : ByteArray := prog_11_method_9_code
def yX9_expect : MethodName := ⟨RX9, "expect", "(C)V"⟩
abbrev cX9_next : ByteArray := prog_11_method_10_code
def yX9_next : MethodName := ⟨RX9, "next", "()C"⟩
abbrev cX9_failAt : ByteArray := prog_11_method_11_code
def yX9_failAt : MethodName := ⟨RX9, "failAt", "(I)V"⟩
abbrev cX9_isDigit : ByteArray := prog_11_method_12_code
def yX9_isDigit : MethodName := ⟨RX9, "isDigit", "(C)Z"⟩
def RX10 : String := "ScanRing"
def TX10 : u_T := fun k => match k with
  | 0 => ("ScanRing", "now", "LScanRing$State;", true)
  | 1 => ("ScanRing", "history", "LScanRing$History;", true)
  | 2 => ("ScanRing", "text", "LScanRing$Text;", true)
  | 3 => ("ScanRing", "converter", "LScanRing$Converter;", true)
  | 4 => ("ScanRing", "sorter", "LScanRing$Sorter;", true)
  | 5 => ("ScanRing", "draft", "LScanRing$Setup;", true)
  | _ => ("ScanRing", "reader", "LScanRing$TextReader;", true)
def tyX10 : Nat → FieldType := fun k => match k with
  | 0 => .object "ScanRing$State"
  | 1 => .object "ScanRing$History"
  | 2 => .object "ScanRing$Text"
  | 3 => .object "ScanRing$Converter"
  | 4 => .object "ScanRing$Sorter"
  | 5 => .object "ScanRing$Setup"
  | _ => .object "ScanRing$TextReader"
abbrev wsX100 : List Cond := u_ws RX10 TX10 7
theorem nmX10 : ∀ a, a < 7 → ∀ b, b < 7 → a ≠ b → (TX10 a).2.1 ≠ (TX10 b).2.1 := by decide +kernel
theorem tyX10_ok : ∀ k, k < 7 → parseFieldDescriptor (TX10 k).2.2.1 = some (tyX10 k) := by decide +kernel
abbrev cX10_init : ByteArray := prog_1_method_1_code
def yX10_init : MethodName := ⟨RX10, "<init>", "()V"⟩
abbrev cX10_setSource : ByteArray := prog_1_method_2_code
def yX10_setSource : MethodName := ⟨RX10, "setSource", "(IIIII)I"⟩
abbrev cX10_setResistance : ByteArray := prog_1_method_3_code
def yX10_setResistance : MethodName := ⟨RX10, "setResistance", "(II)I"⟩
abbrev cX10_set : ByteArray := prog_1_method_4_code
def yX10_set : MethodName := ⟨RX10, "set", "(II)I"⟩
abbrev cX10_addEntry : ByteArray := prog_1_method_5_code
def yX10_addEntry : MethodName := ⟨RX10, "addEntry", "(III)I"⟩
abbrev cX10_removeEntry : ByteArray := prog_1_method_6_code
def yX10_removeEntry : MethodName := ⟨RX10, "removeEntry", "(I)I"⟩
abbrev cX10_setSettle : ByteArray := prog_1_method_7_code
def yX10_setSettle : MethodName := ⟨RX10, "setSettle", "(II)I"⟩
abbrev cX10_order : ByteArray := prog_1_method_8_code
def yX10_order : MethodName := ⟨RX10, "order", "(I)I"⟩
abbrev cX10_scan : ByteArray := prog_1_method_9_code
def yX10_scan : MethodName := ⟨RX10, "scan", "(I)I"⟩
abbrev cX10_pass : ByteArray := prog_1_method_10_code
def yX10_pass : MethodName := ⟨RX10, "pass", "(I)I"⟩
abbrev cX10_take : ByteArray := prog_1_method_11_code
def yX10_take : MethodName := ⟨RX10, "take", "(I)I"⟩
abbrev cX10_restore : ByteArray := prog_1_method_12_code
def yX10_restore : MethodName := ⟨RX10, "restore", "(I)I"⟩
abbrev cX10_undo : ByteArray := prog_1_method_13_code
def yX10_undo : MethodName := ⟨RX10, "undo", "()I"⟩
abbrev cX10_append : ByteArray := prog_1_method_14_code
def yX10_append : MethodName := ⟨RX10, "append", "(I)I"⟩
abbrev cX10_clearText : ByteArray := prog_1_method_15_code
def yX10_clearText : MethodName := ⟨RX10, "clearText", "()I"⟩
abbrev cX10_load : ByteArray := prog_1_method_16_code
def yX10_load : MethodName := ⟨RX10, "load", "()I"⟩
abbrev cX10_count : ByteArray := prog_1_method_17_code
def yX10_count : MethodName := ⟨RX10, "count", "(I)I"⟩
abbrev cX10_channel : ByteArray := prog_1_method_18_code
def yX10_channel : MethodName := ⟨RX10, "channel", "(II)I"⟩
abbrev cX10_entry : ByteArray := prog_1_method_19_code
def yX10_entry : MethodName := ⟨RX10, "entry", "(II)I"⟩
abbrev cX10_value : ByteArray := prog_1_method_20_code
def yX10_value : MethodName := ⟨RX10, "value", "(II)I"⟩
abbrev cX10_sample : ByteArray := prog_1_method_21_code
def yX10_sample : MethodName := ⟨RX10, "sample", "(II)I"⟩
abbrev cX10_account : ByteArray := prog_1_method_22_code
def yX10_account : MethodName := ⟨RX10, "account", "(I)I"⟩
abbrev cX10_held : ByteArray := prog_1_method_23_code
def yX10_held : MethodName := ⟨RX10, "held", "(I)I"⟩
abbrev cX10_would : ByteArray := prog_1_method_24_code
def yX10_would : MethodName := ⟨RX10, "would", "(II)I"⟩
abbrev cX10_why : ByteArray := prog_1_method_25_code
def yX10_why : MethodName := ⟨RX10, "why", "(I)I"⟩
abbrev cX10_settleFor : ByteArray := prog_1_method_26_code
def yX10_settleFor : MethodName := ⟨RX10, "settleFor", "(II)I"⟩
abbrev cX10_bestRule : ByteArray := prog_1_method_27_code
def yX10_bestRule : MethodName := ⟨RX10, "bestRule", "()I"⟩
abbrev cX10_groundsNeeded : ByteArray := prog_1_method_28_code
def yX10_groundsNeeded : MethodName := ⟨RX10, "groundsNeeded", "()I"⟩
abbrev cX10_scanOnce : ByteArray := prog_1_method_29_code
def yX10_scanOnce : MethodName := ⟨RX10, "scanOnce", "()V"⟩
abbrev cX10_tryEntries : ByteArray := prog_1_method_30_code
def yX10_tryEntries : MethodName := ⟨RX10, "tryEntries", "(LScanRing$Setup;I)I"⟩
abbrev cX10_isEntry : ByteArray := prog_1_method_31_code
def yX10_isEntry : MethodName := ⟨RX10, "isEntry", "(I)Z"⟩
abbrev cX10_isWithin : ByteArray := prog_1_method_32_code
def yX10_isWithin : MethodName := ⟨RX10, "isWithin", "(III)Z"⟩
abbrev cX10_isChannel : ByteArray := prog_1_method_33_code
def yX10_isChannel : MethodName := ⟨RX10, "isChannel", "(I)Z"⟩
abbrev cX10_isSettle : ByteArray := prog_1_method_34_code
def yX10_isSettle : MethodName := ⟨RX10, "isSettle", "(I)Z"⟩
abbrev cX10_isSnapshotPlace : ByteArray := prog_1_method_35_code
def yX10_isSnapshotPlace : MethodName := ⟨RX10, "isSnapshotPlace", "(I)Z"⟩
abbrev cX10_isSource : ByteArray := prog_1_method_36_code
def yX10_isSource : MethodName := ⟨RX10, "isSource", "(IIII)Z"⟩
abbrev cX10_isSetting : ByteArray := prog_1_method_37_code
def yX10_isSetting : MethodName := ⟨RX10, "isSetting", "(II)Z"⟩
abbrev cX10_readingWith : ByteArray := prog_1_method_38_code
def yX10_readingWith : MethodName := ⟨RX10, "readingWith", "(FII)I"⟩
def RX11 : String := "ScanRingModel"
def TX11 : u_T := fun k => match k with
  | 0 => ("ScanRingModel", "thrown", "I", false)
  | 1 => ("ScanRingModel", "s", "[I", true)
  | 2 => ("ScanRingModel", "aside", "[I", true)
  | 3 => ("ScanRingModel", "saved", "[I", true)
  | 4 => ("ScanRingModel", "savedCharge", "[F", true)
  | 5 => ("ScanRingModel", "savedMany", "I", false)
  | 6 => ("ScanRingModel", "charge", "F", false)
  | 7 => ("ScanRingModel", "text", "[I", true)
  | 8 => ("ScanRingModel", "length", "I", false)
  | 9 => ("ScanRingModel", "simCharge", "F", false)
  | 10 => ("ScanRingModel", "simTime", "I", false)
  | 11 => ("ScanRingModel", "simReading", "I", false)
  | 12 => ("ScanRingModel", "simCarry", "I", false)
  | 13 => ("ScanRingModel", "simError", "I", false)
  | 14 => ("ScanRingModel", "had", "[I", true)
  | 15 => ("ScanRingModel", "next", "I", false)
  | _ => ("ScanRingModel", "number", "I", false)
def tyX11 : Nat → FieldType := fun k => match k with
  | 0 => .int
  | 1 => .array .int
  | 2 => .array .int
  | 3 => .array .int
  | 4 => .array .float
  | 5 => .int
  | 6 => .float
  | 7 => .array .int
  | 8 => .int
  | 9 => .float
  | 10 => .int
  | 11 => .int
  | 12 => .int
  | 13 => .int
  | 14 => .array .int
  | 15 => .int
  | _ => .int
abbrev wsX110 : List Cond := u_ws RX11 TX11 17
theorem nmX11 : ∀ a, a < 17 → ∀ b, b < 17 → a ≠ b → (TX11 a).2.1 ≠ (TX11 b).2.1 := by decide +kernel
theorem tyX11_ok : ∀ k, k < 17 → parseFieldDescriptor (TX11 k).2.2.1 = some (tyX11 k) := by decide +kernel
abbrev cX11_init : ByteArray := prog_13_method_1_code
def yX11_init : MethodName := ⟨RX11, "<init>", "()V"⟩
abbrev cX11_in : ByteArray := prog_13_method_3_code
def yX11_in : MethodName := ⟨RX11, "in", "(III)Z"⟩
abbrev cX11_size : ByteArray := prog_13_method_4_code
def yX11_size : MethodName := ⟨RX11, "size", "(I)I"⟩
abbrev cX11_down : ByteArray := prog_13_method_5_code
def yX11_down : MethodName := ⟨RX11, "down", "(II)I"⟩
abbrev cX11_act : ByteArray := prog_13_method_6_code
def yX11_act : MethodName := ⟨RX11, "act", "()V"⟩
abbrev cX11_hold : ByteArray := prog_13_method_7_code
def yX11_hold : MethodName := ⟨RX11, "hold", "()V"⟩
abbrev cX11_release : ByteArray := prog_13_method_8_code
def yX11_release : MethodName := ⟨RX11, "release", "()V"⟩
abbrev cX11_exchange : ByteArray := prog_13_method_9_code
def yX11_exchange : MethodName := ⟨RX11, "exchange", "()V"⟩
abbrev cX11_isChannel : ByteArray := prog_13_method_10_code
def yX11_isChannel : MethodName := ⟨RX11, "isChannel", "(I)Z"⟩
abbrev cX11_of : ByteArray := prog_13_method_11_code
def yX11_of : MethodName := ⟨RX11, "of", "(II)I"⟩
abbrev cX11_isEntry : ByteArray := prog_13_method_12_code
def yX11_isEntry : MethodName := ⟨RX11, "isEntry", "(I)Z"⟩
abbrev cX11_placeOf : ByteArray := prog_13_method_13_code
def yX11_placeOf : MethodName := ⟨RX11, "placeOf", "(I)I"⟩
abbrev cX11_settleOf : ByteArray := prog_13_method_14_code
def yX11_settleOf : MethodName := ⟨RX11, "settleOf", "(I)I"⟩
abbrev cX11_valueAt : ByteArray := prog_13_method_15_code
def yX11_valueAt : MethodName := ⟨RX11, "valueAt", "(II)I"⟩
abbrev cX11_valueOf : ByteArray := prog_13_method_16_code
def yX11_valueOf : MethodName := ⟨RX11, "valueOf", "(II)I"⟩
abbrev cX11_slot : ByteArray := prog_13_method_17_code
def yX11_slot : MethodName := ⟨RX11, "slot", "(FII)F"⟩
abbrev cX11_readingBy : ByteArray := prog_13_method_18_code
def yX11_readingBy : MethodName := ⟨RX11, "readingBy", "(FII)I"⟩
abbrev cX11_reading : ByteArray := prog_13_method_19_code
def yX11_reading : MethodName := ⟨RX11, "reading", "(F)I"⟩
abbrev cX11_begin : ByteArray := prog_13_method_20_code
def yX11_begin : MethodName := ⟨RX11, "begin", "()V"⟩
abbrev cX11_carryOut : ByteArray := prog_13_method_21_code
def yX11_carryOut : MethodName := ⟨RX11, "carryOut", "(II)V"⟩
abbrev cX11_carryOutTo : ByteArray := prog_13_method_22_code
def yX11_carryOutTo : MethodName := ⟨RX11, "carryOutTo", "(I)V"⟩
abbrev cX11_carries : ByteArray := prog_13_method_23_code
def yX11_carries : MethodName := ⟨RX11, "carries", "()I"⟩
abbrev cX11_isSource : ByteArray := prog_13_method_24_code
def yX11_isSource : MethodName := ⟨RX11, "isSource", "(IIII)Z"⟩
abbrev cX11_putSource : ByteArray := prog_13_method_25_code
def yX11_putSource : MethodName := ⟨RX11, "putSource", "(IIIII)V"⟩
abbrev cX11_setSource : ByteArray := prog_13_method_26_code
def yX11_setSource : MethodName := ⟨RX11, "setSource", "(IIIII)I"⟩
abbrev cX11_put : ByteArray := prog_13_method_27_code
def yX11_put : MethodName := ⟨RX11, "put", "(II)I"⟩
abbrev cX11_setResistance : ByteArray := prog_13_method_28_code
def yX11_setResistance : MethodName := ⟨RX11, "setResistance", "(II)I"⟩
abbrev cX11_set : ByteArray := prog_13_method_29_code
def yX11_set : MethodName := ⟨RX11, "set", "(II)I"⟩
abbrev cX11_insert : ByteArray := prog_13_method_30_code
def yX11_insert : MethodName := ⟨RX11, "insert", "(III)V"⟩
abbrev cX11_addEntry : ByteArray := prog_13_method_31_code
def yX11_addEntry : MethodName := ⟨RX11, "addEntry", "(III)I"⟩
abbrev cX11_removeEntry : ByteArray := prog_13_method_32_code
def yX11_removeEntry : MethodName := ⟨RX11, "removeEntry", "(I)I"⟩
abbrev cX11_setSettle : ByteArray := prog_13_method_33_code
def yX11_setSettle : MethodName := ⟨RX11, "setSettle", "(II)I"⟩
abbrev cX11_keyOf : ByteArray := prog_13_method_34_code
def yX11_keyOf : MethodName := ⟨RX11, "keyOf", "(II)I"⟩
abbrev cX11_swap : ByteArray := prog_13_method_35_code
def yX11_swap : MethodName := ⟨RX11, "swap", "(II)V"⟩
abbrev cX11_orderBy : ByteArray := prog_13_method_36_code
def yX11_orderBy : MethodName := ⟨RX11, "orderBy", "(I)I"⟩
abbrev cX11_order : ByteArray := prog_13_method_37_code
def yX11_order : MethodName := ⟨RX11, "order", "(I)I"⟩
abbrev cX11_slots : ByteArray := prog_13_method_38_code
def yX11_slots : MethodName := ⟨RX11, "slots", "()I"⟩
abbrev cX11_note : ByteArray := prog_13_method_39_code
def yX11_note : MethodName := ⟨RX11, "note", "(II)V"⟩
abbrev cX11_scan : ByteArray := prog_13_method_40_code
def yX11_scan : MethodName := ⟨RX11, "scan", "(I)I"⟩
abbrev cX11_pass : ByteArray := prog_13_method_41_code
def yX11_pass : MethodName := ⟨RX11, "pass", "(I)I"⟩
abbrev cX11_take : ByteArray := prog_13_method_42_code
def yX11_take : MethodName := ⟨RX11, "take", "(I)I"⟩
abbrev cX11_restore : ByteArray := prog_13_method_43_code
def yX11_restore : MethodName := ⟨RX11, "restore", "(I)I"⟩
abbrev cX11_undo : ByteArray := prog_13_method_44_code
def yX11_undo : MethodName := ⟨RX11, "undo", "()I"⟩
abbrev cX11_append : ByteArray := prog_13_method_45_code
def yX11_append : MethodName := ⟨RX11, "append", "(I)I"⟩
abbrev cX11_clearText : ByteArray := prog_13_method_46_code
def yX11_clearText : MethodName := ⟨RX11, "clearText", "()I"⟩
abbrev cX11_here : ByteArray := prog_13_method_47_code
def yX11_here : MethodName := ⟨RX11, "here", "()I"⟩
abbrev cX11_reads : ByteArray := prog_13_method_48_code
def yX11_reads : MethodName := ⟨RX11, "reads", "(II)Z"⟩
abbrev cX11_takes : ByteArray := prog_13_method_49_code
def yX11_takes : MethodName := ⟨RX11, "takes", "(I)Z"⟩
abbrev cX11_readsEntry : ByteArray := prog_13_method_50_code
def yX11_readsEntry : MethodName := ⟨RX11, "readsEntry", "(I)Z"⟩
abbrev cX11_readsResistance : ByteArray := prog_13_method_51_code
def yX11_readsResistance : MethodName := ⟨RX11, "readsResistance", "(I)Z"⟩
abbrev cX11_readsRising : ByteArray := prog_13_method_52_code
def yX11_readsRising : MethodName := ⟨RX11, "readsRising", "(III)Z"⟩
abbrev cX11_readsJumping : ByteArray := prog_13_method_53_code
def yX11_readsJumping : MethodName := ⟨RX11, "readsJumping", "(II)Z"⟩
abbrev cX11_readsSource : ByteArray := prog_13_method_54_code
def yX11_readsSource : MethodName := ⟨RX11, "readsSource", "(I)Z"⟩
abbrev cX11_readsItem : ByteArray := prog_13_method_55_code
def yX11_readsItem : MethodName := ⟨RX11, "readsItem", "()Z"⟩
abbrev cX11_load : ByteArray := prog_13_method_56_code
def yX11_load : MethodName := ⟨RX11, "load", "()I"⟩
abbrev cX11_kinds : ByteArray := prog_13_method_57_code
def yX11_kinds : MethodName := ⟨RX11, "kinds", "(I)I"⟩
abbrev cX11_count : ByteArray := prog_13_method_58_code
def yX11_count : MethodName := ⟨RX11, "count", "(I)I"⟩
abbrev cX11_corrected : ByteArray := prog_13_method_59_code
def yX11_corrected : MethodName := ⟨RX11, "corrected", "(I)I"⟩
abbrev cX11_entriesOf : ByteArray := prog_13_method_60_code
def yX11_entriesOf : MethodName := ⟨RX11, "entriesOf", "(I)I"⟩
abbrev cX11_channel : ByteArray := prog_13_method_61_code
def yX11_channel : MethodName := ⟨RX11, "channel", "(II)I"⟩
abbrev cX11_entry : ByteArray := prog_13_method_62_code
def yX11_entry : MethodName := ⟨RX11, "entry", "(II)I"⟩
abbrev cX11_value : ByteArray := prog_13_method_63_code
def yX11_value : MethodName := ⟨RX11, "value", "(II)I"⟩
abbrev cX11_sample : ByteArray := prog_13_method_64_code
def yX11_sample : MethodName := ⟨RX11, "sample", "(II)I"⟩
abbrev cX11_account : ByteArray := prog_13_method_65_code
def yX11_account : MethodName := ⟨RX11, "account", "(I)I"⟩
abbrev cX11_held : ByteArray := prog_13_method_66_code
def yX11_held : MethodName := ⟨RX11, "held", "(I)I"⟩
abbrev cX11_would : ByteArray := prog_13_method_67_code
def yX11_would : MethodName := ⟨RX11, "would", "(II)I"⟩
abbrev cX11_why : ByteArray := prog_13_method_68_code
def yX11_why : MethodName := ⟨RX11, "why", "(I)I"⟩
abbrev cX11_settleFor : ByteArray := prog_13_method_69_code
def yX11_settleFor : MethodName := ⟨RX11, "settleFor", "(II)I"⟩
abbrev cX11_bestRule : ByteArray := prog_13_method_70_code
def yX11_bestRule : MethodName := ⟨RX11, "bestRule", "()I"⟩
abbrev cX11_groundsNeeded : ByteArray := prog_13_method_71_code
def yX11_groundsNeeded : MethodName := ⟨RX11, "groundsNeeded", "()I"⟩
def RJ9 : String := "java/lang/Math"
def TJ9 : u_T := fun k => match k with
  | _ => ("", "", "", false)
def tyJ9 : Nat → FieldType := fun k => match k with
  | _ => .int
abbrev wsJ90 : List Cond := u_ws RJ9 TJ9 0
theorem nmJ9 : ∀ a, a < 0 → ∀ b, b < 0 → a ≠ b → (TJ9 a).2.1 ≠ (TJ9 b).2.1 := by decide +kernel
theorem tyJ9_ok : ∀ k, k < 0 → parseFieldDescriptor (TJ9 k).2.2.1 = some (tyJ9 k) := by decide +kernel
abbrev cJ9_floorDiv_7cf53 : ByteArray := prog_14_method_47_code
def yJ9_floorDiv_7cf53 : MethodName := ⟨RJ9, "floorDiv", "(II)I"⟩
abbrev cJ9_floorMod_7cf53 : ByteArray := prog_14_method_50_code
def yJ9_floorMod_7cf53 : MethodName := ⟨RJ9, "floorMod", "(II)I"⟩
abbrev cJ9_abs_0f7a4 : ByteArray := prog_14_method_59_code
def yJ9_abs_0f7a4 : MethodName := ⟨RJ9, "abs", "(I)I"⟩
abbrev cJ9_max_7cf53 : ByteArray := prog_14_method_65_code
def yJ9_max_7cf53 : MethodName := ⟨RJ9, "max", "(II)I"⟩
abbrev cJ9_min_7cf53 : ByteArray := prog_14_method_69_code
def yJ9_min_7cf53 : MethodName := ⟨RJ9, "min", "(II)I"⟩
def RJ10 : String := "java/lang/System"
def TJ10 : u_T := fun k => match k with
  | _ => ("", "", "", false)
def tyJ10 : Nat → FieldType := fun k => match k with
  | _ => .int
abbrev wsJ100 : List Cond := u_ws RJ10 TJ10 0
theorem nmJ10 : ∀ a, a < 0 → ∀ b, b < 0 → a ≠ b → (TJ10 a).2.1 ≠ (TJ10 b).2.1 := by decide +kernel
theorem tyJ10_ok : ∀ k, k < 0 → parseFieldDescriptor (TJ10 k).2.2.1 = some (tyJ10 k) := by decide +kernel
def RL : String := "ScanRingLaw"
abbrev cL_law : ByteArray := code
def yL_law : MethodName := ⟨RL, "law", "([I)Z"⟩
def wsX0_init : List Cond := .code yX0_init cX0_init 1 none :: ([.methodLink RX0 3 objectInit, .instanceMethod objectInit, .code objectInit ⟨#[0xb1]⟩ 1 none])
def wsX0_start : List Cond := .code yX0_start cX0_start 3 none :: ([.fieldLink RX0 9 "ScanRing$Converter" "charge" "F", .fieldLink RX0 15 "ScanRing$Converter" "time" "I"] ++ wsX00)
def wsX7_at : List Cond := .code yX7_at cX7_at 4 (some .int) :: ([.fieldLink RX7 13 "ScanRing$Table" "width" "I", .fieldLink RX7 19 "ScanRing$Table" "cells" "[I"] ++ wsX70)
def wsX3_resistanceAt : List Cond := .code yX3_resistanceAt cX3_resistanceAt 2 (some .int) :: ([.fieldLink RX3 14 "ScanRing$Setup" "channels" "LScanRing$Table;", .methodLink RX3 38 yX7_at, .instanceMethod yX7_at, .selects RX7 yX7_at yX7_at, .initialized RX7, .code yX7_at cX7_at 4 (some .int), .fieldLink RX7 13 "ScanRing$Table" "width" "I", .fieldLink RX7 19 "ScanRing$Table" "cells" "[I"] ++ wsX30 ++ wsX70)
def wsX3_setting : List Cond := .code yX3_setting cX3_setting 2 (some .int) :: ([.fieldLink RX3 23 "ScanRing$Setup" "settings" "LScanRing$Table;", .methodLink RX3 38 yX7_at, .instanceMethod yX7_at, .selects RX7 yX7_at yX7_at, .initialized RX7, .code yX7_at cX7_at 4 (some .int), .fieldLink RX7 13 "ScanRing$Table" "width" "I", .fieldLink RX7 19 "ScanRing$Table" "cells" "[I"] ++ wsX30 ++ wsX70)
def wsJ9_floorDiv_7cf53 : List Cond := .code yJ9_floorDiv_7cf53 cJ9_floorDiv_7cf53 3 (some .int) :: ([])
def wsX3_isFirstHalf : List Cond := .code yX3_isFirstHalf cX3_isFirstHalf 2 (some .boolean) :: ([])
def wsX3_valueAt_r1 : List Cond := [Cond.fieldLink RX3 14 "ScanRing$Setup" "channels" "LScanRing$Table;", Cond.methodLink RX3 57 Lib.Math.min.name, Cond.static Lib.Math.min.name, Cond.initialized "java/lang/Math", Cond.code Lib.Math.min.name Lib.Math.min.code 2 (some .int), Cond.methodLink RX3 60 Lib.Math.max.name, Cond.static Lib.Math.max.name, Cond.code Lib.Math.max.name Lib.Math.max.code 2 (some .int), Cond.methodLink RX3 49 yX3_setting, Cond.instanceMethod yX3_setting, Cond.selects RX3 yX3_setting yX3_setting, Cond.initialized RX3, Cond.code yX3_setting cX3_setting 2 (some .int), Cond.fieldLink RX3 23 "ScanRing$Setup" "settings" "LScanRing$Table;", Cond.methodLink RX3 38 yX7_at, Cond.instanceMethod yX7_at, Cond.selects RX7 yX7_at yX7_at, Cond.initialized RX7, Cond.code yX7_at cX7_at 4 (some .int), Cond.fieldLink RX7 13 "ScanRing$Table" "width" "I", Cond.fieldLink RX7 19 "ScanRing$Table" "cells" "[I", Cond.methodLink RX3 52 yJ9_floorDiv_7cf53, Cond.static yJ9_floorDiv_7cf53, Cond.initialized RJ9]
def wsX3_valueAt_r2 : List Cond := [Cond.code yJ9_floorDiv_7cf53 cJ9_floorDiv_7cf53 3 (some .int), Cond.methodLink RX3 63 yX3_isFirstHalf, Cond.static yX3_isFirstHalf, Cond.code yX3_isFirstHalf cX3_isFirstHalf 2 (some .boolean)]
def wsX3_valueAt : List Cond := .code yX3_valueAt cX3_valueAt 5 (some .int) :: ((wsX3_valueAt_r1 ++ wsX3_valueAt_r2) ++ wsX30 ++ wsX70)
def wsX0_chargeBehind : List Cond := .code yX0_chargeBehind cX0_chargeBehind 3 (some .float) :: ([])
def wsX10_readingWith : List Cond := .code yX10_readingWith cX10_readingWith 4 (some .int) :: ([.constantFloat RX10 278 (1148846080), .constantFloat RX10 279 (1056964608), .methodLink RX10 280 Lib.Math.min.name, .static Lib.Math.min.name, .initialized "java/lang/Math", .code Lib.Math.min.name Lib.Math.min.code 2 (some .int)])
def wsX3_readingOf : List Cond := .code yX3_readingOf cX3_readingOf 2 (some .int) :: ([.methodLink RX3 49 yX3_setting, .instanceMethod yX3_setting, .selects RX3 yX3_setting yX3_setting, .initialized RX3, .code yX3_setting cX3_setting 2 (some .int), .fieldLink RX3 23 "ScanRing$Setup" "settings" "LScanRing$Table;", .methodLink RX3 38 yX7_at, .instanceMethod yX7_at, .selects RX7 yX7_at yX7_at, .initialized RX7, .code yX7_at cX7_at 4 (some .int), .fieldLink RX7 13 "ScanRing$Table" "width" "I", .fieldLink RX7 19 "ScanRing$Table" "cells" "[I", .static yX10_readingWith, .initialized RX10, .code yX10_readingWith cX10_readingWith 4 (some .int), .constantFloat RX10 278 (1148846080), .constantFloat RX10 279 (1056964608), .methodLink RX10 280 Lib.Math.min.name, .static Lib.Math.min.name, .initialized "java/lang/Math", .code Lib.Math.min.name Lib.Math.min.code 2 (some .int)] ++ wsX30 ++ wsX70)
def wsX0_carryOut_r1 : List Cond := [Cond.fieldLink RX0 15 "ScanRing$Converter" "time" "I", Cond.fieldLink RX0 42 "ScanRing$Converter" "target" "I", Cond.fieldLink RX0 9 "ScanRing$Converter" "charge" "F", Cond.fieldLink RX0 53 "ScanRing$Converter" "reading" "I", Cond.fieldLink RX0 56 "ScanRing$Converter" "carry" "I", Cond.methodLink RX0 35 yX3_resistanceAt, Cond.instanceMethod yX3_resistanceAt, Cond.selects RX3 yX3_resistanceAt yX3_resistanceAt, Cond.initialized RX3, Cond.code yX3_resistanceAt cX3_resistanceAt 2 (some .int), Cond.fieldLink RX3 14 "ScanRing$Setup" "channels" "LScanRing$Table;", Cond.methodLink RX3 38 yX7_at, Cond.instanceMethod yX7_at, Cond.selects RX7 yX7_at yX7_at, Cond.initialized RX7, Cond.code yX7_at cX7_at 4 (some .int), Cond.fieldLink RX7 13 "ScanRing$Table" "width" "I", Cond.fieldLink RX7 19 "ScanRing$Table" "cells" "[I", Cond.methodLink RX0 39 yX3_valueAt, Cond.instanceMethod yX3_valueAt, Cond.selects RX3 yX3_valueAt yX3_valueAt, Cond.code yX3_valueAt cX3_valueAt 5 (some .int), Cond.methodLink RX3 57 Lib.Math.min.name, Cond.static Lib.Math.min.name]
def wsX0_carryOut_r2 : List Cond := [Cond.initialized "java/lang/Math", Cond.code Lib.Math.min.name Lib.Math.min.code 2 (some .int), Cond.methodLink RX3 60 Lib.Math.max.name, Cond.static Lib.Math.max.name, Cond.code Lib.Math.max.name Lib.Math.max.code 2 (some .int), Cond.methodLink RX3 49 yX3_setting, Cond.instanceMethod yX3_setting, Cond.selects RX3 yX3_setting yX3_setting, Cond.code yX3_setting cX3_setting 2 (some .int), Cond.fieldLink RX3 23 "ScanRing$Setup" "settings" "LScanRing$Table;", Cond.methodLink RX3 52 yJ9_floorDiv_7cf53, Cond.static yJ9_floorDiv_7cf53, Cond.initialized RJ9, Cond.code yJ9_floorDiv_7cf53 cJ9_floorDiv_7cf53 3 (some .int), Cond.methodLink RX3 63 yX3_isFirstHalf, Cond.static yX3_isFirstHalf, Cond.code yX3_isFirstHalf cX3_isFirstHalf 2 (some .boolean), Cond.methodLink RX0 45 yX0_chargeBehind, Cond.static yX0_chargeBehind, Cond.initialized RX0, Cond.code yX0_chargeBehind cX0_chargeBehind 3 (some .float), Cond.methodLink RX0 49 yX3_readingOf, Cond.instanceMethod yX3_readingOf, Cond.selects RX3 yX3_readingOf yX3_readingOf]
def wsX0_carryOut_r3 : List Cond := [Cond.code yX3_readingOf cX3_readingOf 2 (some .int), Cond.static yX10_readingWith, Cond.initialized RX10, Cond.code yX10_readingWith cX10_readingWith 4 (some .int), Cond.constantFloat RX10 278 (1148846080), Cond.constantFloat RX10 279 (1056964608), Cond.methodLink RX10 280 Lib.Math.min.name]
def wsX0_carryOut : List Cond := .code yX0_carryOut cX0_carryOut 7 none :: ((wsX0_carryOut_r1 ++ (wsX0_carryOut_r2 ++ wsX0_carryOut_r3)) ++ wsX00 ++ wsX30 ++ wsX70)
def wsX0_carryOutEntry_r1 : List Cond := [Cond.fieldLink RX0 19 "ScanRing$Setup" "list" "LScanRing$Table;", Cond.methodLink RX0 25 yX7_at, Cond.instanceMethod yX7_at, Cond.selects RX7 yX7_at yX7_at, Cond.initialized RX7, Cond.code yX7_at cX7_at 4 (some .int), Cond.fieldLink RX7 13 "ScanRing$Table" "width" "I", Cond.fieldLink RX7 19 "ScanRing$Table" "cells" "[I", Cond.methodLink RX0 31 yX0_carryOut, Cond.instanceMethod yX0_carryOut, Cond.selects RX0 yX0_carryOut yX0_carryOut, Cond.initialized RX0, Cond.code yX0_carryOut cX0_carryOut 7 none, Cond.fieldLink RX0 15 "ScanRing$Converter" "time" "I", Cond.fieldLink RX0 42 "ScanRing$Converter" "target" "I", Cond.fieldLink RX0 9 "ScanRing$Converter" "charge" "F", Cond.fieldLink RX0 53 "ScanRing$Converter" "reading" "I", Cond.fieldLink RX0 56 "ScanRing$Converter" "carry" "I", Cond.methodLink RX0 35 yX3_resistanceAt, Cond.instanceMethod yX3_resistanceAt, Cond.selects RX3 yX3_resistanceAt yX3_resistanceAt, Cond.initialized RX3, Cond.code yX3_resistanceAt cX3_resistanceAt 2 (some .int), Cond.fieldLink RX3 14 "ScanRing$Setup" "channels" "LScanRing$Table;"]
def wsX0_carryOutEntry_r2 : List Cond := [Cond.methodLink RX3 38 yX7_at, Cond.methodLink RX0 39 yX3_valueAt, Cond.instanceMethod yX3_valueAt, Cond.selects RX3 yX3_valueAt yX3_valueAt, Cond.code yX3_valueAt cX3_valueAt 5 (some .int), Cond.methodLink RX3 57 Lib.Math.min.name, Cond.static Lib.Math.min.name, Cond.initialized "java/lang/Math", Cond.code Lib.Math.min.name Lib.Math.min.code 2 (some .int), Cond.methodLink RX3 60 Lib.Math.max.name, Cond.static Lib.Math.max.name, Cond.code Lib.Math.max.name Lib.Math.max.code 2 (some .int), Cond.methodLink RX3 49 yX3_setting, Cond.instanceMethod yX3_setting, Cond.selects RX3 yX3_setting yX3_setting, Cond.code yX3_setting cX3_setting 2 (some .int), Cond.fieldLink RX3 23 "ScanRing$Setup" "settings" "LScanRing$Table;", Cond.methodLink RX3 52 yJ9_floorDiv_7cf53, Cond.static yJ9_floorDiv_7cf53, Cond.initialized RJ9, Cond.code yJ9_floorDiv_7cf53 cJ9_floorDiv_7cf53 3 (some .int), Cond.methodLink RX3 63 yX3_isFirstHalf, Cond.static yX3_isFirstHalf, Cond.code yX3_isFirstHalf cX3_isFirstHalf 2 (some .boolean)]
def wsX0_carryOutEntry_r3 : List Cond := [Cond.methodLink RX0 45 yX0_chargeBehind, Cond.static yX0_chargeBehind, Cond.code yX0_chargeBehind cX0_chargeBehind 3 (some .float), Cond.methodLink RX0 49 yX3_readingOf, Cond.instanceMethod yX3_readingOf, Cond.selects RX3 yX3_readingOf yX3_readingOf, Cond.code yX3_readingOf cX3_readingOf 2 (some .int), Cond.static yX10_readingWith, Cond.initialized RX10, Cond.code yX10_readingWith cX10_readingWith 4 (some .int), Cond.constantFloat RX10 278 (1148846080), Cond.constantFloat RX10 279 (1056964608), Cond.methodLink RX10 280 Lib.Math.min.name]
def wsX0_carryOutEntry : List Cond := .code yX0_carryOutEntry cX0_carryOutEntry 3 none :: ((wsX0_carryOutEntry_r1 ++ (wsX0_carryOutEntry_r2 ++ wsX0_carryOutEntry_r3)) ++ wsX30 ++ wsX70 ++ wsX00)
def wsX0_error : List Cond := .code yX0_error cX0_error 1 (some .int) :: ([.fieldLink RX0 53 "ScanRing$Converter" "reading" "I", .fieldLink RX0 42 "ScanRing$Converter" "target" "I"] ++ wsX00)
def wsX7_init : List Cond := .code yX7_init cX7_init 3 none :: ([.methodLink RX7 1 objectInit, .instanceMethod objectInit, .code objectInit ⟨#[0xb1]⟩ 1 none, .methodLink RX7 7 Lib.Math.max.name, .static Lib.Math.max.name, .initialized "java/lang/Math", .code Lib.Math.max.name Lib.Math.max.code 2 (some .int), .fieldLink RX7 13 "ScanRing$Table" "width" "I", .arrayClass .int, .fieldLink RX7 19 "ScanRing$Table" "cells" "[I"] ++ wsX70)
def wsX7_put : List Cond := .code yX7_put cX7_put 5 none :: ([.fieldLink RX7 13 "ScanRing$Table" "width" "I", .fieldLink RX7 19 "ScanRing$Table" "cells" "[I"] ++ wsX70)
def wsX3_init : List Cond := .code yX3_init cX3_init 1 none :: ([.methodLink RX3 3 objectInit, .instanceMethod objectInit, .code objectInit ⟨#[0xb1]⟩ 1 none, .classLink RX3 9 RX7, .instantiable RX7 2, .initialized RX7, .fieldLink RX3 14 "ScanRing$Setup" "channels" "LScanRing$Table;", .fieldLink RX3 20 "ScanRing$Setup" "list" "LScanRing$Table;", .fieldLink RX3 23 "ScanRing$Setup" "settings" "LScanRing$Table;", .methodLink RX3 11 yX7_init, .instanceMethod yX7_init, .code yX7_init cX7_init 3 none, .methodLink RX7 1 objectInit, .methodLink RX7 7 Lib.Math.max.name, .static Lib.Math.max.name, .initialized "java/lang/Math", .code Lib.Math.max.name Lib.Math.max.code 2 (some .int), .fieldLink RX7 13 "ScanRing$Table" "width" "I", .arrayClass .int, .fieldLink RX7 19 "ScanRing$Table" "cells" "[I", .methodLink RX3 26 yX7_put, .instanceMethod yX7_put, .selects RX7 yX7_put yX7_put, .code yX7_put cX7_put 5 none] ++ wsX70 ++ wsX30)
def wsX2_init : List Cond := .code yX2_init cX2_init 1 none :: ([.methodLink RX2 3 objectInit, .instanceMethod objectInit, .code objectInit ⟨#[0xb1]⟩ 1 none, .classLink RX2 9 RX7, .instantiable RX7 2, .initialized RX7, .fieldLink RX2 14 "ScanRing$Log" "rows" "LScanRing$Table;", .methodLink RX2 11 yX7_init, .instanceMethod yX7_init, .code yX7_init cX7_init 3 none, .methodLink RX7 1 objectInit, .methodLink RX7 7 Lib.Math.max.name, .static Lib.Math.max.name, .initialized "java/lang/Math", .code Lib.Math.max.name Lib.Math.max.code 2 (some .int), .fieldLink RX7 13 "ScanRing$Table" "width" "I", .arrayClass .int, .fieldLink RX7 19 "ScanRing$Table" "cells" "[I"] ++ wsX70 ++ wsX20)
def wsX4_init_r1 : List Cond := [Cond.methodLink RX4 1 objectInit, Cond.instanceMethod objectInit, Cond.code objectInit ⟨#[0xb1]⟩ 1 none, Cond.classLink RX4 7 RX3, Cond.instantiable RX3 4, Cond.initialized RX3, Cond.fieldLink RX4 10 "ScanRing$Snapshot" "setup" "LScanRing$Setup;", Cond.methodLink RX4 9 yX3_init, Cond.instanceMethod yX3_init, Cond.code yX3_init cX3_init 1 none, Cond.methodLink RX3 3 objectInit, Cond.classLink RX3 9 RX7, Cond.instantiable RX7 2, Cond.initialized RX7, Cond.fieldLink RX3 14 "ScanRing$Setup" "channels" "LScanRing$Table;", Cond.fieldLink RX3 20 "ScanRing$Setup" "list" "LScanRing$Table;", Cond.fieldLink RX3 23 "ScanRing$Setup" "settings" "LScanRing$Table;", Cond.methodLink RX3 11 yX7_init, Cond.instanceMethod yX7_init, Cond.code yX7_init cX7_init 3 none, Cond.methodLink RX7 1 objectInit, Cond.methodLink RX7 7 Lib.Math.max.name, Cond.static Lib.Math.max.name, Cond.initialized "java/lang/Math"]
def wsX4_init_r2 : List Cond := [Cond.code Lib.Math.max.name Lib.Math.max.code 2 (some .int), Cond.fieldLink RX7 13 "ScanRing$Table" "width" "I", Cond.arrayClass .int, Cond.fieldLink RX7 19 "ScanRing$Table" "cells" "[I", Cond.methodLink RX3 26 yX7_put, Cond.instanceMethod yX7_put, Cond.selects RX7 yX7_put yX7_put, Cond.code yX7_put cX7_put 5 none]
def wsX4_init : List Cond := .code yX4_init cX4_init 1 none :: ((wsX4_init_r1 ++ wsX4_init_r2) ++ wsX30 ++ wsX40 ++ wsX70)
def wsX6_init_r1 : List Cond := [Cond.methodLink RX6 3 objectInit, Cond.instanceMethod objectInit, Cond.code objectInit ⟨#[0xb1]⟩ 1 none, Cond.classLink RX6 9 RX3, Cond.instantiable RX3 4, Cond.initialized RX3, Cond.fieldLink RX6 12 "ScanRing$State" "setup" "LScanRing$Setup;", Cond.classLink RX6 18 RX2, Cond.instantiable RX2 3, Cond.initialized RX2, Cond.fieldLink RX6 21 "ScanRing$State" "log" "LScanRing$Log;", Cond.classLink RX6 25 RX7, Cond.instantiable RX7 2, Cond.initialized RX7, Cond.fieldLink RX6 30 "ScanRing$State" "latest" "LScanRing$Table;", Cond.fieldLink RX6 34 "ScanRing$State" "accounts" "LScanRing$Table;", Cond.classLink RX6 37 RX4, Cond.instantiable RX4 2, Cond.initialized RX4, Cond.fieldLink RX6 40 "ScanRing$State" "first" "LScanRing$Snapshot;", Cond.fieldLink RX6 44 "ScanRing$State" "second" "LScanRing$Snapshot;", Cond.constant RX6 47 (-10000009), Cond.methodLink RX6 11 yX3_init, Cond.instanceMethod yX3_init]
def wsX6_init_r2 : List Cond := [Cond.code yX3_init cX3_init 1 none, Cond.methodLink RX3 3 objectInit, Cond.classLink RX3 9 RX7, Cond.fieldLink RX3 14 "ScanRing$Setup" "channels" "LScanRing$Table;", Cond.fieldLink RX3 20 "ScanRing$Setup" "list" "LScanRing$Table;", Cond.fieldLink RX3 23 "ScanRing$Setup" "settings" "LScanRing$Table;", Cond.methodLink RX3 11 yX7_init, Cond.instanceMethod yX7_init, Cond.code yX7_init cX7_init 3 none, Cond.methodLink RX7 1 objectInit, Cond.methodLink RX7 7 Lib.Math.max.name, Cond.static Lib.Math.max.name, Cond.initialized "java/lang/Math", Cond.code Lib.Math.max.name Lib.Math.max.code 2 (some .int), Cond.fieldLink RX7 13 "ScanRing$Table" "width" "I", Cond.arrayClass .int, Cond.fieldLink RX7 19 "ScanRing$Table" "cells" "[I", Cond.methodLink RX3 26 yX7_put, Cond.instanceMethod yX7_put, Cond.selects RX7 yX7_put yX7_put, Cond.code yX7_put cX7_put 5 none, Cond.instanceMethod yX2_init, Cond.code yX2_init cX2_init 1 none, Cond.methodLink RX2 3 objectInit]
def wsX6_init_r3 : List Cond := [Cond.classLink RX2 9 RX7, Cond.fieldLink RX2 14 "ScanRing$Log" "rows" "LScanRing$Table;", Cond.methodLink RX2 11 yX7_init, Cond.methodLink RX6 27 yX7_init, Cond.instanceMethod yX4_init, Cond.code yX4_init cX4_init 1 none, Cond.methodLink RX4 1 objectInit, Cond.classLink RX4 7 RX3, Cond.fieldLink RX4 10 "ScanRing$Snapshot" "setup" "LScanRing$Setup;", Cond.methodLink RX4 9 yX3_init, Cond.methodLink RX6 48 yX7_put]
def wsX6_init : List Cond := .code yX6_init cX6_init 2 none :: ((wsX6_init_r1 ++ (wsX6_init_r2 ++ wsX6_init_r3)) ++ wsX30 ++ wsX60 ++ wsX20 ++ wsX70 ++ wsX40)
def wsX1_init_r1 : List Cond := [Cond.methodLink RX1 3 objectInit, Cond.instanceMethod objectInit, Cond.code objectInit ⟨#[0xb1]⟩ 1 none, Cond.classLink RX1 9 RX6, Cond.fieldLink RX1 11 "ScanRing$History" "states" "[LScanRing$State;", Cond.instantiable RX6 7, Cond.initialized RX6, Cond.methodLink RX1 17 yX6_init, Cond.instanceMethod yX6_init, Cond.code yX6_init cX6_init 2 none, Cond.methodLink RX6 3 objectInit, Cond.classLink RX6 9 RX3, Cond.instantiable RX3 4, Cond.initialized RX3, Cond.fieldLink RX6 12 "ScanRing$State" "setup" "LScanRing$Setup;", Cond.classLink RX6 18 RX2, Cond.instantiable RX2 3, Cond.initialized RX2, Cond.fieldLink RX6 21 "ScanRing$State" "log" "LScanRing$Log;", Cond.classLink RX6 25 RX7, Cond.instantiable RX7 2, Cond.initialized RX7, Cond.fieldLink RX6 30 "ScanRing$State" "latest" "LScanRing$Table;", Cond.fieldLink RX6 34 "ScanRing$State" "accounts" "LScanRing$Table;"]
def wsX1_init_r2 : List Cond := [Cond.classLink RX6 37 RX4, Cond.instantiable RX4 2, Cond.initialized RX4, Cond.fieldLink RX6 40 "ScanRing$State" "first" "LScanRing$Snapshot;", Cond.fieldLink RX6 44 "ScanRing$State" "second" "LScanRing$Snapshot;", Cond.constant RX6 47 (-10000009), Cond.methodLink RX6 11 yX3_init, Cond.instanceMethod yX3_init, Cond.code yX3_init cX3_init 1 none, Cond.methodLink RX3 3 objectInit, Cond.classLink RX3 9 RX7, Cond.fieldLink RX3 14 "ScanRing$Setup" "channels" "LScanRing$Table;", Cond.fieldLink RX3 20 "ScanRing$Setup" "list" "LScanRing$Table;", Cond.fieldLink RX3 23 "ScanRing$Setup" "settings" "LScanRing$Table;", Cond.methodLink RX3 11 yX7_init, Cond.instanceMethod yX7_init, Cond.code yX7_init cX7_init 3 none, Cond.methodLink RX7 1 objectInit, Cond.methodLink RX7 7 Lib.Math.max.name, Cond.static Lib.Math.max.name, Cond.initialized "java/lang/Math", Cond.code Lib.Math.max.name Lib.Math.max.code 2 (some .int), Cond.fieldLink RX7 13 "ScanRing$Table" "width" "I", Cond.arrayClass .int]
def wsX1_init_r3 : List Cond := [Cond.fieldLink RX7 19 "ScanRing$Table" "cells" "[I", Cond.methodLink RX3 26 yX7_put, Cond.instanceMethod yX7_put, Cond.selects RX7 yX7_put yX7_put, Cond.code yX7_put cX7_put 5 none, Cond.instanceMethod yX2_init, Cond.code yX2_init cX2_init 1 none, Cond.methodLink RX2 3 objectInit, Cond.classLink RX2 9 RX7, Cond.fieldLink RX2 14 "ScanRing$Log" "rows" "LScanRing$Table;", Cond.methodLink RX2 11 yX7_init, Cond.methodLink RX6 27 yX7_init, Cond.instanceMethod yX4_init, Cond.code yX4_init cX4_init 1 none, Cond.methodLink RX4 1 objectInit, Cond.classLink RX4 7 RX3, Cond.fieldLink RX4 10 "ScanRing$Snapshot" "setup" "LScanRing$Setup;", Cond.methodLink RX4 9 yX3_init, Cond.methodLink RX6 48 yX7_put]
def wsX1_init : List Cond := .code yX1_init cX1_init 2 none :: ((wsX1_init_r1 ++ (wsX1_init_r2 ++ wsX1_init_r3)) ++ wsX10 ++ wsX60 ++ wsX30 ++ wsX20 ++ wsX70 ++ wsX40)
def wsX1_placeAt : List Cond := .code yX1_placeAt cX1_placeAt 2 (some (.object "ScanRing$State")) :: ([.fieldLink RX1 11 "ScanRing$History" "states" "[LScanRing$State;"] ++ wsX10)
def wsX7_copyFrom : List Cond := .code yX7_copyFrom cX7_copyFrom 2 none :: ([.fieldLink RX7 19 "ScanRing$Table" "cells" "[I", .methodLink RX7 30 Lib.Math.min.name, .static Lib.Math.min.name, .initialized "java/lang/Math", .code Lib.Math.min.name Lib.Math.min.code 2 (some .int), .methodLink RX7 33 arraycopyName, .native arraycopyName, .static arraycopyName, .initialized "java/lang/System"] ++ wsX70)
def wsX3_copyFrom : List Cond := .code yX3_copyFrom cX3_copyFrom 2 none :: ([.fieldLink RX3 14 "ScanRing$Setup" "channels" "LScanRing$Table;", .fieldLink RX3 20 "ScanRing$Setup" "list" "LScanRing$Table;", .fieldLink RX3 23 "ScanRing$Setup" "settings" "LScanRing$Table;", .fieldLink RX3 34 "ScanRing$Setup" "entries" "I", .methodLink RX3 30 yX7_copyFrom, .instanceMethod yX7_copyFrom, .selects RX7 yX7_copyFrom yX7_copyFrom, .initialized RX7, .code yX7_copyFrom cX7_copyFrom 2 none, .fieldLink RX7 19 "ScanRing$Table" "cells" "[I", .methodLink RX7 30 Lib.Math.min.name, .static Lib.Math.min.name, .initialized "java/lang/Math", .code Lib.Math.min.name Lib.Math.min.code 2 (some .int), .methodLink RX7 33 arraycopyName, .native arraycopyName, .static arraycopyName, .initialized "java/lang/System"] ++ wsX30 ++ wsX70)
def wsX2_copyFrom : List Cond := .code yX2_copyFrom cX2_copyFrom 2 none :: ([.fieldLink RX2 14 "ScanRing$Log" "rows" "LScanRing$Table;", .fieldLink RX2 24 "ScanRing$Log" "next" "I", .fieldLink RX2 28 "ScanRing$Log" "kept" "I", .methodLink RX2 20 yX7_copyFrom, .instanceMethod yX7_copyFrom, .selects RX7 yX7_copyFrom yX7_copyFrom, .initialized RX7, .code yX7_copyFrom cX7_copyFrom 2 none, .fieldLink RX7 19 "ScanRing$Table" "cells" "[I", .methodLink RX7 30 Lib.Math.min.name, .static Lib.Math.min.name, .initialized "java/lang/Math", .code Lib.Math.min.name Lib.Math.min.code 2 (some .int), .methodLink RX7 33 arraycopyName, .native arraycopyName, .static arraycopyName, .initialized "java/lang/System"] ++ wsX20 ++ wsX70)
def wsX4_copyFrom_r1 : List Cond := [Cond.fieldLink RX4 10 "ScanRing$Snapshot" "setup" "LScanRing$Setup;", Cond.fieldLink RX4 20 "ScanRing$Snapshot" "taken" "Z", Cond.methodLink RX4 16 yX3_copyFrom, Cond.instanceMethod yX3_copyFrom, Cond.selects RX3 yX3_copyFrom yX3_copyFrom, Cond.initialized RX3, Cond.code yX3_copyFrom cX3_copyFrom 2 none, Cond.fieldLink RX3 14 "ScanRing$Setup" "channels" "LScanRing$Table;", Cond.fieldLink RX3 20 "ScanRing$Setup" "list" "LScanRing$Table;", Cond.fieldLink RX3 23 "ScanRing$Setup" "settings" "LScanRing$Table;", Cond.fieldLink RX3 34 "ScanRing$Setup" "entries" "I", Cond.methodLink RX3 30 yX7_copyFrom, Cond.instanceMethod yX7_copyFrom, Cond.selects RX7 yX7_copyFrom yX7_copyFrom, Cond.initialized RX7, Cond.code yX7_copyFrom cX7_copyFrom 2 none, Cond.fieldLink RX7 19 "ScanRing$Table" "cells" "[I", Cond.methodLink RX7 30 Lib.Math.min.name, Cond.static Lib.Math.min.name, Cond.initialized "java/lang/Math", Cond.code Lib.Math.min.name Lib.Math.min.code 2 (some .int), Cond.methodLink RX7 33 arraycopyName, Cond.native arraycopyName, Cond.static arraycopyName]
def wsX4_copyFrom_r2 : List Cond := [Cond.initialized "java/lang/System"]
def wsX4_copyFrom : List Cond := .code yX4_copyFrom cX4_copyFrom 2 none :: ((wsX4_copyFrom_r1 ++ wsX4_copyFrom_r2) ++ wsX40 ++ wsX30 ++ wsX70)
def wsX6_copyFrom_r1 : List Cond := [Cond.fieldLink RX6 12 "ScanRing$State" "setup" "LScanRing$Setup;", Cond.fieldLink RX6 21 "ScanRing$State" "log" "LScanRing$Log;", Cond.fieldLink RX6 30 "ScanRing$State" "latest" "LScanRing$Table;", Cond.fieldLink RX6 34 "ScanRing$State" "accounts" "LScanRing$Table;", Cond.fieldLink RX6 40 "ScanRing$State" "first" "LScanRing$Snapshot;", Cond.fieldLink RX6 44 "ScanRing$State" "second" "LScanRing$Snapshot;", Cond.fieldLink RX6 65 "ScanRing$State" "charge" "F", Cond.methodLink RX6 52 yX3_copyFrom, Cond.instanceMethod yX3_copyFrom, Cond.selects RX3 yX3_copyFrom yX3_copyFrom, Cond.initialized RX3, Cond.code yX3_copyFrom cX3_copyFrom 2 none, Cond.fieldLink RX3 14 "ScanRing$Setup" "channels" "LScanRing$Table;", Cond.fieldLink RX3 20 "ScanRing$Setup" "list" "LScanRing$Table;", Cond.fieldLink RX3 23 "ScanRing$Setup" "settings" "LScanRing$Table;", Cond.fieldLink RX3 34 "ScanRing$Setup" "entries" "I", Cond.methodLink RX3 30 yX7_copyFrom, Cond.instanceMethod yX7_copyFrom, Cond.selects RX7 yX7_copyFrom yX7_copyFrom, Cond.initialized RX7, Cond.code yX7_copyFrom cX7_copyFrom 2 none, Cond.fieldLink RX7 19 "ScanRing$Table" "cells" "[I", Cond.methodLink RX7 30 Lib.Math.min.name, Cond.static Lib.Math.min.name]
def wsX6_copyFrom_r2 : List Cond := [Cond.initialized "java/lang/Math", Cond.code Lib.Math.min.name Lib.Math.min.code 2 (some .int), Cond.methodLink RX7 33 arraycopyName, Cond.native arraycopyName, Cond.static arraycopyName, Cond.initialized "java/lang/System", Cond.methodLink RX6 56 yX2_copyFrom, Cond.instanceMethod yX2_copyFrom, Cond.selects RX2 yX2_copyFrom yX2_copyFrom, Cond.initialized RX2, Cond.code yX2_copyFrom cX2_copyFrom 2 none, Cond.fieldLink RX2 14 "ScanRing$Log" "rows" "LScanRing$Table;", Cond.fieldLink RX2 24 "ScanRing$Log" "next" "I", Cond.fieldLink RX2 28 "ScanRing$Log" "kept" "I", Cond.methodLink RX2 20 yX7_copyFrom, Cond.methodLink RX6 59 yX7_copyFrom, Cond.methodLink RX6 62 yX4_copyFrom, Cond.instanceMethod yX4_copyFrom, Cond.selects RX4 yX4_copyFrom yX4_copyFrom, Cond.initialized RX4, Cond.code yX4_copyFrom cX4_copyFrom 2 none, Cond.fieldLink RX4 10 "ScanRing$Snapshot" "setup" "LScanRing$Setup;", Cond.fieldLink RX4 20 "ScanRing$Snapshot" "taken" "Z", Cond.methodLink RX4 16 yX3_copyFrom]
def wsX6_copyFrom : List Cond := .code yX6_copyFrom cX6_copyFrom 2 none :: ((wsX6_copyFrom_r1 ++ wsX6_copyFrom_r2) ++ wsX60 ++ wsX30 ++ wsX70 ++ wsX20 ++ wsX40)
def wsX1_keep_r1 : List Cond := [Cond.fieldLink RX1 18 "ScanRing$History" "next" "I", Cond.fieldLink RX1 30 "ScanRing$History" "kept" "I", Cond.methodLink RX1 33 Lib.Math.min.name, Cond.static Lib.Math.min.name, Cond.initialized "java/lang/Math", Cond.code Lib.Math.min.name Lib.Math.min.code 2 (some .int), Cond.methodLink RX1 22 yX1_placeAt, Cond.instanceMethod yX1_placeAt, Cond.selects RX1 yX1_placeAt yX1_placeAt, Cond.initialized RX1, Cond.code yX1_placeAt cX1_placeAt 2 (some (.object "ScanRing$State")), Cond.fieldLink RX1 11 "ScanRing$History" "states" "[LScanRing$State;", Cond.methodLink RX1 26 yX6_copyFrom, Cond.instanceMethod yX6_copyFrom, Cond.selects RX6 yX6_copyFrom yX6_copyFrom, Cond.initialized RX6, Cond.code yX6_copyFrom cX6_copyFrom 2 none, Cond.fieldLink RX6 12 "ScanRing$State" "setup" "LScanRing$Setup;", Cond.fieldLink RX6 21 "ScanRing$State" "log" "LScanRing$Log;", Cond.fieldLink RX6 30 "ScanRing$State" "latest" "LScanRing$Table;", Cond.fieldLink RX6 34 "ScanRing$State" "accounts" "LScanRing$Table;", Cond.fieldLink RX6 40 "ScanRing$State" "first" "LScanRing$Snapshot;", Cond.fieldLink RX6 44 "ScanRing$State" "second" "LScanRing$Snapshot;", Cond.fieldLink RX6 65 "ScanRing$State" "charge" "F"]
def wsX1_keep_r2 : List Cond := [Cond.methodLink RX6 52 yX3_copyFrom, Cond.instanceMethod yX3_copyFrom, Cond.selects RX3 yX3_copyFrom yX3_copyFrom, Cond.initialized RX3, Cond.code yX3_copyFrom cX3_copyFrom 2 none, Cond.fieldLink RX3 14 "ScanRing$Setup" "channels" "LScanRing$Table;", Cond.fieldLink RX3 20 "ScanRing$Setup" "list" "LScanRing$Table;", Cond.fieldLink RX3 23 "ScanRing$Setup" "settings" "LScanRing$Table;", Cond.fieldLink RX3 34 "ScanRing$Setup" "entries" "I", Cond.methodLink RX3 30 yX7_copyFrom, Cond.instanceMethod yX7_copyFrom, Cond.selects RX7 yX7_copyFrom yX7_copyFrom, Cond.initialized RX7, Cond.code yX7_copyFrom cX7_copyFrom 2 none, Cond.fieldLink RX7 19 "ScanRing$Table" "cells" "[I", Cond.methodLink RX7 30 Lib.Math.min.name, Cond.methodLink RX7 33 arraycopyName, Cond.native arraycopyName, Cond.static arraycopyName, Cond.initialized "java/lang/System", Cond.methodLink RX6 56 yX2_copyFrom, Cond.instanceMethod yX2_copyFrom, Cond.selects RX2 yX2_copyFrom yX2_copyFrom, Cond.initialized RX2]
def wsX1_keep_r3 : List Cond := [Cond.code yX2_copyFrom cX2_copyFrom 2 none, Cond.fieldLink RX2 14 "ScanRing$Log" "rows" "LScanRing$Table;", Cond.fieldLink RX2 24 "ScanRing$Log" "next" "I", Cond.fieldLink RX2 28 "ScanRing$Log" "kept" "I", Cond.methodLink RX2 20 yX7_copyFrom, Cond.methodLink RX6 59 yX7_copyFrom, Cond.methodLink RX6 62 yX4_copyFrom, Cond.instanceMethod yX4_copyFrom, Cond.selects RX4 yX4_copyFrom yX4_copyFrom, Cond.initialized RX4, Cond.code yX4_copyFrom cX4_copyFrom 2 none, Cond.fieldLink RX4 10 "ScanRing$Snapshot" "setup" "LScanRing$Setup;", Cond.fieldLink RX4 20 "ScanRing$Snapshot" "taken" "Z", Cond.methodLink RX4 16 yX3_copyFrom]
def wsX1_keep : List Cond := .code yX1_keep cX1_keep 3 none :: ((wsX1_keep_r1 ++ (wsX1_keep_r2 ++ wsX1_keep_r3)) ++ wsX10 ++ wsX60 ++ wsX30 ++ wsX70 ++ wsX20 ++ wsX40)
def wsJ9_floorMod_7cf53 : List Cond := .code yJ9_floorMod_7cf53 cJ9_floorMod_7cf53 3 (some .int) :: ([])
def wsX1_bringBack_r1 : List Cond := [Cond.fieldLink RX1 18 "ScanRing$History" "next" "I", Cond.fieldLink RX1 30 "ScanRing$History" "kept" "I", Cond.methodLink RX1 39 yJ9_floorMod_7cf53, Cond.static yJ9_floorMod_7cf53, Cond.initialized RJ9, Cond.code yJ9_floorMod_7cf53 cJ9_floorMod_7cf53 3 (some .int), Cond.methodLink RX1 22 yX1_placeAt, Cond.instanceMethod yX1_placeAt, Cond.selects RX1 yX1_placeAt yX1_placeAt, Cond.initialized RX1, Cond.code yX1_placeAt cX1_placeAt 2 (some (.object "ScanRing$State")), Cond.fieldLink RX1 11 "ScanRing$History" "states" "[LScanRing$State;", Cond.methodLink RX1 26 yX6_copyFrom, Cond.instanceMethod yX6_copyFrom, Cond.selects RX6 yX6_copyFrom yX6_copyFrom, Cond.initialized RX6, Cond.code yX6_copyFrom cX6_copyFrom 2 none, Cond.fieldLink RX6 12 "ScanRing$State" "setup" "LScanRing$Setup;", Cond.fieldLink RX6 21 "ScanRing$State" "log" "LScanRing$Log;", Cond.fieldLink RX6 30 "ScanRing$State" "latest" "LScanRing$Table;", Cond.fieldLink RX6 34 "ScanRing$State" "accounts" "LScanRing$Table;", Cond.fieldLink RX6 40 "ScanRing$State" "first" "LScanRing$Snapshot;", Cond.fieldLink RX6 44 "ScanRing$State" "second" "LScanRing$Snapshot;", Cond.fieldLink RX6 65 "ScanRing$State" "charge" "F"]
def wsX1_bringBack_r2 : List Cond := [Cond.methodLink RX6 52 yX3_copyFrom, Cond.instanceMethod yX3_copyFrom, Cond.selects RX3 yX3_copyFrom yX3_copyFrom, Cond.initialized RX3, Cond.code yX3_copyFrom cX3_copyFrom 2 none, Cond.fieldLink RX3 14 "ScanRing$Setup" "channels" "LScanRing$Table;", Cond.fieldLink RX3 20 "ScanRing$Setup" "list" "LScanRing$Table;", Cond.fieldLink RX3 23 "ScanRing$Setup" "settings" "LScanRing$Table;", Cond.fieldLink RX3 34 "ScanRing$Setup" "entries" "I", Cond.methodLink RX3 30 yX7_copyFrom, Cond.instanceMethod yX7_copyFrom, Cond.selects RX7 yX7_copyFrom yX7_copyFrom, Cond.initialized RX7, Cond.code yX7_copyFrom cX7_copyFrom 2 none, Cond.fieldLink RX7 19 "ScanRing$Table" "cells" "[I", Cond.methodLink RX7 30 Lib.Math.min.name, Cond.static Lib.Math.min.name, Cond.initialized "java/lang/Math", Cond.code Lib.Math.min.name Lib.Math.min.code 2 (some .int), Cond.methodLink RX7 33 arraycopyName, Cond.native arraycopyName, Cond.static arraycopyName, Cond.initialized "java/lang/System", Cond.methodLink RX6 56 yX2_copyFrom]
def wsX1_bringBack_r3 : List Cond := [Cond.instanceMethod yX2_copyFrom, Cond.selects RX2 yX2_copyFrom yX2_copyFrom, Cond.initialized RX2, Cond.code yX2_copyFrom cX2_copyFrom 2 none, Cond.fieldLink RX2 14 "ScanRing$Log" "rows" "LScanRing$Table;", Cond.fieldLink RX2 24 "ScanRing$Log" "next" "I", Cond.fieldLink RX2 28 "ScanRing$Log" "kept" "I", Cond.methodLink RX2 20 yX7_copyFrom, Cond.methodLink RX6 59 yX7_copyFrom, Cond.methodLink RX6 62 yX4_copyFrom, Cond.instanceMethod yX4_copyFrom, Cond.selects RX4 yX4_copyFrom yX4_copyFrom, Cond.initialized RX4, Cond.code yX4_copyFrom cX4_copyFrom 2 none, Cond.fieldLink RX4 10 "ScanRing$Snapshot" "setup" "LScanRing$Setup;", Cond.fieldLink RX4 20 "ScanRing$Snapshot" "taken" "Z", Cond.methodLink RX4 16 yX3_copyFrom]
def wsX1_bringBack : List Cond := .code yX1_bringBack cX1_bringBack 4 none :: ((wsX1_bringBack_r1 ++ (wsX1_bringBack_r2 ++ wsX1_bringBack_r3)) ++ wsX10 ++ wsX60 ++ wsX30 ++ wsX70 ++ wsX20 ++ wsX40)
def wsX2_add : List Cond := .code yX2_add cX2_add 3 none :: ([.fieldLink RX2 14 "ScanRing$Log" "rows" "LScanRing$Table;", .fieldLink RX2 24 "ScanRing$Log" "next" "I", .fieldLink RX2 35 "ScanRing$Converter" "time" "I", .fieldLink RX2 40 "ScanRing$Converter" "reading" "I", .fieldLink RX2 43 "ScanRing$Converter" "carry" "I", .fieldLink RX2 28 "ScanRing$Log" "kept" "I", .methodLink RX2 50 Lib.Math.min.name, .static Lib.Math.min.name, .initialized "java/lang/Math", .code Lib.Math.min.name Lib.Math.min.code 2 (some .int), .methodLink RX2 31 yX7_put, .instanceMethod yX7_put, .selects RX7 yX7_put yX7_put, .initialized RX7, .code yX7_put cX7_put 5 none, .fieldLink RX7 13 "ScanRing$Table" "width" "I", .fieldLink RX7 19 "ScanRing$Table" "cells" "[I", .methodLink RX2 46 yX0_error, .instanceMethod yX0_error, .selects RX0 yX0_error yX0_error, .initialized RX0, .code yX0_error cX0_error 1 (some .int), .fieldLink RX0 53 "ScanRing$Converter" "reading" "I", .fieldLink RX0 42 "ScanRing$Converter" "target" "I"] ++ wsX20 ++ wsX00 ++ wsX70)
def wsX2_part : List Cond := .code yX2_part cX2_part 3 (some .int) :: ([.fieldLink RX2 14 "ScanRing$Log" "rows" "LScanRing$Table;", .fieldLink RX2 24 "ScanRing$Log" "next" "I", .methodLink RX2 56 yJ9_floorMod_7cf53, .static yJ9_floorMod_7cf53, .initialized RJ9, .code yJ9_floorMod_7cf53 cJ9_floorMod_7cf53 3 (some .int), .methodLink RX2 59 yX7_at, .instanceMethod yX7_at, .selects RX7 yX7_at yX7_at, .initialized RX7, .code yX7_at cX7_at 4 (some .int), .fieldLink RX7 13 "ScanRing$Table" "width" "I", .fieldLink RX7 19 "ScanRing$Table" "cells" "[I"] ++ wsX20 ++ wsX70)
def wsX3_putSource : List Cond := .code yX3_putSource cX3_putSource 6 none :: ([.fieldLink RX3 14 "ScanRing$Setup" "channels" "LScanRing$Table;", .methodLink RX3 26 yX7_put, .instanceMethod yX7_put, .selects RX7 yX7_put yX7_put, .initialized RX7, .code yX7_put cX7_put 5 none, .fieldLink RX7 13 "ScanRing$Table" "width" "I", .fieldLink RX7 19 "ScanRing$Table" "cells" "[I"] ++ wsX30 ++ wsX70)
def wsX3_sourcesOf : List Cond := .code yX3_sourcesOf cX3_sourcesOf 4 (some .int) :: ([.fieldLink RX3 14 "ScanRing$Setup" "channels" "LScanRing$Table;", .methodLink RX3 38 yX7_at, .instanceMethod yX7_at, .selects RX7 yX7_at yX7_at, .initialized RX7, .code yX7_at cX7_at 4 (some .int), .fieldLink RX7 13 "ScanRing$Table" "width" "I", .fieldLink RX7 19 "ScanRing$Table" "cells" "[I"] ++ wsX30 ++ wsX70)
def wsX3_entriesOf : List Cond := .code yX3_entriesOf cX3_entriesOf 4 (some .int) :: ([.fieldLink RX3 34 "ScanRing$Setup" "entries" "I", .fieldLink RX3 20 "ScanRing$Setup" "list" "LScanRing$Table;", .methodLink RX3 38 yX7_at, .instanceMethod yX7_at, .selects RX7 yX7_at yX7_at, .initialized RX7, .code yX7_at cX7_at 4 (some .int), .fieldLink RX7 13 "ScanRing$Table" "width" "I", .fieldLink RX7 19 "ScanRing$Table" "cells" "[I"] ++ wsX30 ++ wsX70)
def wsX7_copyRow : List Cond := .code yX7_copyRow cX7_copyRow 4 none :: ([.fieldLink RX7 13 "ScanRing$Table" "width" "I", .methodLink RX7 23 yX7_at, .instanceMethod yX7_at, .selects RX7 yX7_at yX7_at, .initialized RX7, .code yX7_at cX7_at 4 (some .int), .fieldLink RX7 19 "ScanRing$Table" "cells" "[I", .methodLink RX7 26 yX7_put, .instanceMethod yX7_put, .selects RX7 yX7_put yX7_put, .code yX7_put cX7_put 5 none] ++ wsX70)
def wsX3_insert : List Cond := .code yX3_insert cX3_insert 5 none :: ([.fieldLink RX3 34 "ScanRing$Setup" "entries" "I", .fieldLink RX3 20 "ScanRing$Setup" "list" "LScanRing$Table;", .methodLink RX3 42 yX7_copyRow, .instanceMethod yX7_copyRow, .selects RX7 yX7_copyRow yX7_copyRow, .initialized RX7, .code yX7_copyRow cX7_copyRow 4 none, .fieldLink RX7 13 "ScanRing$Table" "width" "I", .methodLink RX7 23 yX7_at, .instanceMethod yX7_at, .selects RX7 yX7_at yX7_at, .code yX7_at cX7_at 4 (some .int), .fieldLink RX7 19 "ScanRing$Table" "cells" "[I", .methodLink RX7 26 yX7_put, .instanceMethod yX7_put, .selects RX7 yX7_put yX7_put, .code yX7_put cX7_put 5 none, .methodLink RX3 26 yX7_put] ++ wsX30 ++ wsX70)
def wsX3_removeAt : List Cond := .code yX3_removeAt cX3_removeAt 3 none :: ([.fieldLink RX3 34 "ScanRing$Setup" "entries" "I", .fieldLink RX3 20 "ScanRing$Setup" "list" "LScanRing$Table;", .methodLink RX3 42 yX7_copyRow, .instanceMethod yX7_copyRow, .selects RX7 yX7_copyRow yX7_copyRow, .initialized RX7, .code yX7_copyRow cX7_copyRow 4 none, .fieldLink RX7 13 "ScanRing$Table" "width" "I", .methodLink RX7 23 yX7_at, .instanceMethod yX7_at, .selects RX7 yX7_at yX7_at, .code yX7_at cX7_at 4 (some .int), .fieldLink RX7 19 "ScanRing$Table" "cells" "[I", .methodLink RX7 26 yX7_put, .instanceMethod yX7_put, .selects RX7 yX7_put yX7_put, .code yX7_put cX7_put 5 none] ++ wsX30 ++ wsX70)
def wsX3_slotsOfEntry : List Cond := .code yX3_slotsOfEntry cX3_slotsOfEntry 2 (some .int) :: ([.fieldLink RX3 20 "ScanRing$Setup" "list" "LScanRing$Table;", .methodLink RX3 38 yX7_at, .instanceMethod yX7_at, .selects RX7 yX7_at yX7_at, .initialized RX7, .code yX7_at cX7_at 4 (some .int), .fieldLink RX7 13 "ScanRing$Table" "width" "I", .fieldLink RX7 19 "ScanRing$Table" "cells" "[I"] ++ wsX30 ++ wsX70)
def wsX3_slotsOfScan : List Cond := .code yX3_slotsOfScan cX3_slotsOfScan 3 (some .int) :: ([.fieldLink RX3 34 "ScanRing$Setup" "entries" "I", .methodLink RX3 45 yX3_slotsOfEntry, .instanceMethod yX3_slotsOfEntry, .selects RX3 yX3_slotsOfEntry yX3_slotsOfEntry, .initialized RX3, .code yX3_slotsOfEntry cX3_slotsOfEntry 2 (some .int), .fieldLink RX3 20 "ScanRing$Setup" "list" "LScanRing$Table;", .methodLink RX3 38 yX7_at, .instanceMethod yX7_at, .selects RX7 yX7_at yX7_at, .initialized RX7, .code yX7_at cX7_at 4 (some .int), .fieldLink RX7 13 "ScanRing$Table" "width" "I", .fieldLink RX7 19 "ScanRing$Table" "cells" "[I"] ++ wsX30 ++ wsX70)
def wsX5_init : List Cond := .code yX5_init cX5_init 1 none :: ([.methodLink RX5 3 objectInit, .instanceMethod objectInit, .code objectInit ⟨#[0xb1]⟩ 1 none, .classLink RX5 9 RX7, .instantiable RX7 2, .initialized RX7, .fieldLink RX5 14 "ScanRing$Sorter" "keys" "LScanRing$Table;", .fieldLink RX5 20 "ScanRing$Sorter" "origins" "LScanRing$Table;", .fieldLink RX5 23 "ScanRing$Sorter" "copy" "LScanRing$Table;", .methodLink RX5 11 yX7_init, .instanceMethod yX7_init, .code yX7_init cX7_init 3 none, .methodLink RX7 1 objectInit, .methodLink RX7 7 Lib.Math.max.name, .static Lib.Math.max.name, .initialized "java/lang/Math", .code Lib.Math.max.name Lib.Math.max.code 2 (some .int), .fieldLink RX7 13 "ScanRing$Table" "width" "I", .arrayClass .int, .fieldLink RX7 19 "ScanRing$Table" "cells" "[I"] ++ wsX70 ++ wsX50)
def wsX5_keyOf_r1 : List Cond := [Cond.fieldLink RX5 39 "ScanRing$Setup" "list" "LScanRing$Table;", Cond.methodLink RX5 46 yX7_at, Cond.instanceMethod yX7_at, Cond.selects RX7 yX7_at yX7_at, Cond.initialized RX7, Cond.code yX7_at cX7_at 4 (some .int), Cond.fieldLink RX7 13 "ScanRing$Table" "width" "I", Cond.fieldLink RX7 19 "ScanRing$Table" "cells" "[I", Cond.methodLink RX5 57 yX3_resistanceAt, Cond.instanceMethod yX3_resistanceAt, Cond.selects RX3 yX3_resistanceAt yX3_resistanceAt, Cond.initialized RX3, Cond.code yX3_resistanceAt cX3_resistanceAt 2 (some .int), Cond.fieldLink RX3 14 "ScanRing$Setup" "channels" "LScanRing$Table;", Cond.methodLink RX3 38 yX7_at, Cond.methodLink RX5 61 yX3_valueAt, Cond.instanceMethod yX3_valueAt, Cond.selects RX3 yX3_valueAt yX3_valueAt, Cond.code yX3_valueAt cX3_valueAt 5 (some .int), Cond.methodLink RX3 57 Lib.Math.min.name, Cond.static Lib.Math.min.name, Cond.initialized "java/lang/Math", Cond.code Lib.Math.min.name Lib.Math.min.code 2 (some .int), Cond.methodLink RX3 60 Lib.Math.max.name]
def wsX5_keyOf_r2 : List Cond := [Cond.static Lib.Math.max.name, Cond.code Lib.Math.max.name Lib.Math.max.code 2 (some .int), Cond.methodLink RX3 49 yX3_setting, Cond.instanceMethod yX3_setting, Cond.selects RX3 yX3_setting yX3_setting, Cond.code yX3_setting cX3_setting 2 (some .int), Cond.fieldLink RX3 23 "ScanRing$Setup" "settings" "LScanRing$Table;", Cond.methodLink RX3 52 yJ9_floorDiv_7cf53, Cond.static yJ9_floorDiv_7cf53, Cond.initialized RJ9, Cond.code yJ9_floorDiv_7cf53 cJ9_floorDiv_7cf53 3 (some .int), Cond.methodLink RX3 63 yX3_isFirstHalf, Cond.static yX3_isFirstHalf, Cond.code yX3_isFirstHalf cX3_isFirstHalf 2 (some .boolean)]
def wsX5_keyOf : List Cond := .code yX5_keyOf cX5_keyOf 5 (some .int) :: ((wsX5_keyOf_r1 ++ wsX5_keyOf_r2) ++ wsX30 ++ wsX70)
def wsX5_sortIn : List Cond := .code yX5_sortIn cX5_sortIn 4 none :: ([.fieldLink RX5 14 "ScanRing$Sorter" "keys" "LScanRing$Table;", .fieldLink RX5 20 "ScanRing$Sorter" "origins" "LScanRing$Table;", .methodLink RX5 46 yX7_at, .instanceMethod yX7_at, .selects RX7 yX7_at yX7_at, .initialized RX7, .code yX7_at cX7_at 4 (some .int), .fieldLink RX7 13 "ScanRing$Table" "width" "I", .fieldLink RX7 19 "ScanRing$Table" "cells" "[I", .methodLink RX5 54 yX7_copyRow, .instanceMethod yX7_copyRow, .selects RX7 yX7_copyRow yX7_copyRow, .code yX7_copyRow cX7_copyRow 4 none, .methodLink RX7 23 yX7_at, .methodLink RX7 26 yX7_put, .instanceMethod yX7_put, .selects RX7 yX7_put yX7_put, .code yX7_put cX7_put 5 none, .methodLink RX5 50 yX7_put] ++ wsX50 ++ wsX70)
def wsX5_arrange_r1 : List Cond := [Cond.fieldLink RX5 26 "ScanRing$Setup" "entries" "I", Cond.fieldLink RX5 23 "ScanRing$Sorter" "copy" "LScanRing$Table;", Cond.fieldLink RX5 39 "ScanRing$Setup" "list" "LScanRing$Table;", Cond.fieldLink RX5 20 "ScanRing$Sorter" "origins" "LScanRing$Table;", Cond.methodLink RX5 32 yX5_keyOf, Cond.static yX5_keyOf, Cond.initialized RX5, Cond.code yX5_keyOf cX5_keyOf 5 (some .int), Cond.methodLink RX5 46 yX7_at, Cond.instanceMethod yX7_at, Cond.selects RX7 yX7_at yX7_at, Cond.initialized RX7, Cond.code yX7_at cX7_at 4 (some .int), Cond.fieldLink RX7 13 "ScanRing$Table" "width" "I", Cond.fieldLink RX7 19 "ScanRing$Table" "cells" "[I", Cond.methodLink RX5 57 yX3_resistanceAt, Cond.instanceMethod yX3_resistanceAt, Cond.selects RX3 yX3_resistanceAt yX3_resistanceAt, Cond.initialized RX3, Cond.code yX3_resistanceAt cX3_resistanceAt 2 (some .int), Cond.fieldLink RX3 14 "ScanRing$Setup" "channels" "LScanRing$Table;", Cond.methodLink RX3 38 yX7_at, Cond.methodLink RX5 61 yX3_valueAt, Cond.instanceMethod yX3_valueAt]
def wsX5_arrange_r2 : List Cond := [Cond.selects RX3 yX3_valueAt yX3_valueAt, Cond.code yX3_valueAt cX3_valueAt 5 (some .int), Cond.methodLink RX3 57 Lib.Math.min.name, Cond.static Lib.Math.min.name, Cond.initialized "java/lang/Math", Cond.code Lib.Math.min.name Lib.Math.min.code 2 (some .int), Cond.methodLink RX3 60 Lib.Math.max.name, Cond.static Lib.Math.max.name, Cond.code Lib.Math.max.name Lib.Math.max.code 2 (some .int), Cond.methodLink RX3 49 yX3_setting, Cond.instanceMethod yX3_setting, Cond.selects RX3 yX3_setting yX3_setting, Cond.code yX3_setting cX3_setting 2 (some .int), Cond.fieldLink RX3 23 "ScanRing$Setup" "settings" "LScanRing$Table;", Cond.methodLink RX3 52 yJ9_floorDiv_7cf53, Cond.static yJ9_floorDiv_7cf53, Cond.initialized RJ9, Cond.code yJ9_floorDiv_7cf53 cJ9_floorDiv_7cf53 3 (some .int), Cond.methodLink RX3 63 yX3_isFirstHalf, Cond.static yX3_isFirstHalf, Cond.code yX3_isFirstHalf cX3_isFirstHalf 2 (some .boolean), Cond.methodLink RX5 36 yX5_sortIn, Cond.instanceMethod yX5_sortIn, Cond.selects RX5 yX5_sortIn yX5_sortIn]
def wsX5_arrange_r3 : List Cond := [Cond.code yX5_sortIn cX5_sortIn 4 none, Cond.fieldLink RX5 14 "ScanRing$Sorter" "keys" "LScanRing$Table;", Cond.methodLink RX5 54 yX7_copyRow, Cond.instanceMethod yX7_copyRow, Cond.selects RX7 yX7_copyRow yX7_copyRow, Cond.code yX7_copyRow cX7_copyRow 4 none, Cond.methodLink RX7 23 yX7_at, Cond.methodLink RX7 26 yX7_put, Cond.instanceMethod yX7_put, Cond.selects RX7 yX7_put yX7_put, Cond.code yX7_put cX7_put 5 none, Cond.methodLink RX5 50 yX7_put, Cond.methodLink RX5 42 yX7_copyFrom, Cond.instanceMethod yX7_copyFrom, Cond.selects RX7 yX7_copyFrom yX7_copyFrom, Cond.code yX7_copyFrom cX7_copyFrom 2 none, Cond.methodLink RX7 30 Lib.Math.min.name, Cond.methodLink RX7 33 arraycopyName, Cond.native arraycopyName, Cond.static arraycopyName, Cond.initialized "java/lang/System"]
def wsX5_arrange : List Cond := .code yX5_arrange cX5_arrange 7 (some .int) :: ((wsX5_arrange_r1 ++ (wsX5_arrange_r2 ++ wsX5_arrange_r3)) ++ wsX30 ++ wsX50 ++ wsX70)
def wsX6_time : List Cond := .code yX6_time cX6_time 1 (some .int) :: ([.fieldLink RX6 34 "ScanRing$State" "accounts" "LScanRing$Table;", .methodLink RX6 69 yX7_at, .instanceMethod yX7_at, .selects RX7 yX7_at yX7_at, .initialized RX7, .code yX7_at cX7_at 4 (some .int), .fieldLink RX7 13 "ScanRing$Table" "width" "I", .fieldLink RX7 19 "ScanRing$Table" "cells" "[I"] ++ wsX60 ++ wsX70)
def wsX6_snapshotAt : List Cond := .code yX6_snapshotAt cX6_snapshotAt 2 (some (.object "ScanRing$Snapshot")) :: ([.fieldLink RX6 40 "ScanRing$State" "first" "LScanRing$Snapshot;", .fieldLink RX6 44 "ScanRing$State" "second" "LScanRing$Snapshot;"] ++ wsX60)
def wsX6_snapshotsTaken : List Cond := .code yX6_snapshotsTaken cX6_snapshotsTaken 1 (some .int) :: ([.fieldLink RX6 40 "ScanRing$State" "first" "LScanRing$Snapshot;", .fieldLink RX6 73 "ScanRing$Snapshot" "taken" "Z", .fieldLink RX6 44 "ScanRing$State" "second" "LScanRing$Snapshot;"] ++ wsX60 ++ wsX40)
def wsX6_addTo : List Cond := .code yX6_addTo cX6_addTo 3 none :: ([.fieldLink RX6 34 "ScanRing$State" "accounts" "LScanRing$Table;", .methodLink RX6 69 yX7_at, .instanceMethod yX7_at, .selects RX7 yX7_at yX7_at, .initialized RX7, .code yX7_at cX7_at 4 (some .int), .fieldLink RX7 13 "ScanRing$Table" "width" "I", .fieldLink RX7 19 "ScanRing$Table" "cells" "[I", .methodLink RX6 48 yX7_put, .instanceMethod yX7_put, .selects RX7 yX7_put yX7_put, .code yX7_put cX7_put 5 none] ++ wsX60 ++ wsX70)
def wsX6_slotAccountOf : List Cond := .code yX6_slotAccountOf cX6_slotAccountOf 1 (some .int) :: ([])
def wsX6_book_r1 : List Cond := [Cond.fieldLink RX6 21 "ScanRing$State" "log" "LScanRing$Log;", Cond.fieldLink RX6 30 "ScanRing$State" "latest" "LScanRing$Table;", Cond.fieldLink RX6 81 "ScanRing$Converter" "reading" "I", Cond.fieldLink RX6 94 "ScanRing$Converter" "carry" "I", Cond.methodLink RX6 97 Lib.Math.abs.name, Cond.static Lib.Math.abs.name, Cond.initialized "java/lang/Math", Cond.code Lib.Math.abs.name Lib.Math.abs.code 1 (some .int), Cond.fieldLink RX6 102 "ScanRing$Converter" "charge" "F", Cond.fieldLink RX6 65 "ScanRing$State" "charge" "F", Cond.methodLink RX6 77 yX2_add, Cond.instanceMethod yX2_add, Cond.selects RX2 yX2_add yX2_add, Cond.initialized RX2, Cond.code yX2_add cX2_add 3 none, Cond.fieldLink RX2 14 "ScanRing$Log" "rows" "LScanRing$Table;", Cond.fieldLink RX2 24 "ScanRing$Log" "next" "I", Cond.fieldLink RX2 35 "ScanRing$Converter" "time" "I", Cond.fieldLink RX2 40 "ScanRing$Converter" "reading" "I", Cond.fieldLink RX2 43 "ScanRing$Converter" "carry" "I", Cond.fieldLink RX2 28 "ScanRing$Log" "kept" "I", Cond.methodLink RX2 50 Lib.Math.min.name, Cond.static Lib.Math.min.name, Cond.code Lib.Math.min.name Lib.Math.min.code 2 (some .int)]
def wsX6_book_r2 : List Cond := [Cond.methodLink RX2 31 yX7_put, Cond.instanceMethod yX7_put, Cond.selects RX7 yX7_put yX7_put, Cond.initialized RX7, Cond.code yX7_put cX7_put 5 none, Cond.fieldLink RX7 13 "ScanRing$Table" "width" "I", Cond.fieldLink RX7 19 "ScanRing$Table" "cells" "[I", Cond.methodLink RX2 46 yX0_error, Cond.instanceMethod yX0_error, Cond.selects RX0 yX0_error yX0_error, Cond.initialized RX0, Cond.code yX0_error cX0_error 1 (some .int), Cond.fieldLink RX0 53 "ScanRing$Converter" "reading" "I", Cond.fieldLink RX0 42 "ScanRing$Converter" "target" "I", Cond.methodLink RX6 48 yX7_put, Cond.methodLink RX6 87 yX6_slotAccountOf, Cond.static yX6_slotAccountOf, Cond.initialized RX6, Cond.code yX6_slotAccountOf cX6_slotAccountOf 1 (some .int), Cond.methodLink RX6 91 yX6_addTo, Cond.instanceMethod yX6_addTo, Cond.selects RX6 yX6_addTo yX6_addTo, Cond.code yX6_addTo cX6_addTo 3 none, Cond.fieldLink RX6 34 "ScanRing$State" "accounts" "LScanRing$Table;"]
def wsX6_book_r3 : List Cond := [Cond.methodLink RX6 69 yX7_at, Cond.instanceMethod yX7_at, Cond.selects RX7 yX7_at yX7_at, Cond.code yX7_at cX7_at 4 (some .int)]
def wsX6_book : List Cond := .code yX6_book cX6_book 4 none :: ((wsX6_book_r1 ++ (wsX6_book_r2 ++ wsX6_book_r3)) ++ wsX60 ++ wsX00 ++ wsX20 ++ wsX70)
def wsX6_correctedReading : List Cond := .code yX6_correctedReading cX6_correctedReading 5 (some .int) :: ([.fieldLink RX6 30 "ScanRing$State" "latest" "LScanRing$Table;", .constant RX6 47 (-10000009), .fieldLink RX6 12 "ScanRing$State" "setup" "LScanRing$Setup;", .methodLink RX6 69 yX7_at, .instanceMethod yX7_at, .selects RX7 yX7_at yX7_at, .initialized RX7, .code yX7_at cX7_at 4 (some .int), .fieldLink RX7 13 "ScanRing$Table" "width" "I", .fieldLink RX7 19 "ScanRing$Table" "cells" "[I", .methodLink RX6 103 yX3_setting, .instanceMethod yX3_setting, .selects RX3 yX3_setting yX3_setting, .initialized RX3, .code yX3_setting cX3_setting 2 (some .int), .fieldLink RX3 23 "ScanRing$Setup" "settings" "LScanRing$Table;", .methodLink RX3 38 yX7_at, .methodLink RX6 106 yJ9_floorDiv_7cf53, .static yJ9_floorDiv_7cf53, .initialized RJ9, .code yJ9_floorDiv_7cf53 cJ9_floorDiv_7cf53 3 (some .int)] ++ wsX60 ++ wsX70 ++ wsX30)
def wsX8_init : List Cond := .code yX8_init cX8_init 1 none :: ([.methodLink RX8 3 objectInit, .instanceMethod objectInit, .code objectInit ⟨#[0xb1]⟩ 1 none, .arrayClass .char, .fieldLink RX8 9 "ScanRing$Text" "characters" "[C"] ++ wsX80)
def wsX8_add : List Cond := .code yX8_add cX8_add 2 none :: ([.fieldLink RX8 15 "ScanRing$Text" "length" "I", .fieldLink RX8 9 "ScanRing$Text" "characters" "[C"] ++ wsX80)
def wsX8_characterAt : List Cond := .code yX8_characterAt cX8_characterAt 3 (some .char) :: ([.fieldLink RX8 15 "ScanRing$Text" "length" "I", .fieldLink RX8 9 "ScanRing$Text" "characters" "[C"] ++ wsX80)
def wsX9_init : List Cond := .code yX9_init cX9_init 3 none :: ([.methodLink RX9 3 objectInit, .instanceMethod objectInit, .code objectInit ⟨#[0xb1]⟩ 1 none, .fieldLink RX9 9 "ScanRing$TextReader" "text" "LScanRing$Text;", .fieldLink RX9 15 "ScanRing$TextReader" "setup" "LScanRing$Setup;"] ++ wsX90)
def wsX9_hasFailed : List Cond := .code yX9_hasFailed cX9_hasFailed 1 (some .boolean) :: ([.fieldLink RX9 23 "ScanRing$TextReader" "failedAt" "I"] ++ wsX90)
def wsX9_next : List Cond := .code yX9_next cX9_next 1 (some .char) :: ([.fieldLink RX9 19 "ScanRing$TextReader" "position" "I", .fieldLink RX9 9 "ScanRing$TextReader" "text" "LScanRing$Text;", .methodLink RX9 80 yX8_characterAt, .instanceMethod yX8_characterAt, .selects RX8 yX8_characterAt yX8_characterAt, .initialized RX8, .code yX8_characterAt cX8_characterAt 3 (some .char), .fieldLink RX8 15 "ScanRing$Text" "length" "I", .fieldLink RX8 9 "ScanRing$Text" "characters" "[C"] ++ wsX90 ++ wsX80)
def wsX9_failAt : List Cond := .code yX9_failAt cX9_failAt 2 none :: ([.fieldLink RX9 23 "ScanRing$TextReader" "failedAt" "I", .methodLink RX9 26 yX9_hasFailed, .instanceMethod yX9_hasFailed, .selects RX9 yX9_hasFailed yX9_hasFailed, .initialized RX9, .code yX9_hasFailed cX9_hasFailed 1 (some .boolean)] ++ wsX90)
def wsX9_expect : List Cond := .code yX9_expect cX9_expect 2 none :: ([.fieldLink RX9 19 "ScanRing$TextReader" "position" "I", .methodLink RX9 30 yX9_next, .instanceMethod yX9_next, .selects RX9 yX9_next yX9_next, .initialized RX9, .code yX9_next cX9_next 1 (some .char), .fieldLink RX9 9 "ScanRing$TextReader" "text" "LScanRing$Text;", .methodLink RX9 80 yX8_characterAt, .instanceMethod yX8_characterAt, .selects RX8 yX8_characterAt yX8_characterAt, .initialized RX8, .code yX8_characterAt cX8_characterAt 3 (some .char), .fieldLink RX8 15 "ScanRing$Text" "length" "I", .fieldLink RX8 9 "ScanRing$Text" "characters" "[C", .methodLink RX9 51 yX9_failAt, .instanceMethod yX9_failAt, .selects RX9 yX9_failAt yX9_failAt, .code yX9_failAt cX9_failAt 2 none, .fieldLink RX9 23 "ScanRing$TextReader" "failedAt" "I", .methodLink RX9 26 yX9_hasFailed, .instanceMethod yX9_hasFailed, .selects RX9 yX9_hasFailed yX9_hasFailed, .code yX9_hasFailed cX9_hasFailed 1 (some .boolean)] ++ wsX90 ++ wsX80)
def wsX9_isDigit : List Cond := .code yX9_isDigit cX9_isDigit 1 (some .boolean) :: ([])
def wsX10_isWithin : List Cond := .code yX10_isWithin cX10_isWithin 3 (some .boolean) :: ([])
def wsX9_readNumber_r1 : List Cond := [Cond.fieldLink RX9 19 "ScanRing$TextReader" "position" "I", Cond.fieldLink RX9 9 "ScanRing$TextReader" "text" "LScanRing$Text;", Cond.methodLink RX9 90 Lib.Math.min.name, Cond.static Lib.Math.min.name, Cond.initialized "java/lang/Math", Cond.code Lib.Math.min.name Lib.Math.min.code 2 (some .int), Cond.methodLink RX9 30 yX9_next, Cond.instanceMethod yX9_next, Cond.selects RX9 yX9_next yX9_next, Cond.initialized RX9, Cond.code yX9_next cX9_next 1 (some .char), Cond.methodLink RX9 80 yX8_characterAt, Cond.instanceMethod yX8_characterAt, Cond.selects RX8 yX8_characterAt yX8_characterAt, Cond.initialized RX8, Cond.code yX8_characterAt cX8_characterAt 3 (some .char), Cond.fieldLink RX8 15 "ScanRing$Text" "length" "I", Cond.fieldLink RX8 9 "ScanRing$Text" "characters" "[C", Cond.methodLink RX9 86 yX9_isDigit, Cond.static yX9_isDigit, Cond.code yX9_isDigit cX9_isDigit 1 (some .boolean), Cond.static yX10_isWithin, Cond.initialized RX10, Cond.code yX10_isWithin cX10_isWithin 3 (some .boolean)]
def wsX9_readNumber_r2 : List Cond := [Cond.methodLink RX9 51 yX9_failAt, Cond.instanceMethod yX9_failAt, Cond.selects RX9 yX9_failAt yX9_failAt, Cond.code yX9_failAt cX9_failAt 2 none, Cond.fieldLink RX9 23 "ScanRing$TextReader" "failedAt" "I", Cond.methodLink RX9 26 yX9_hasFailed, Cond.instanceMethod yX9_hasFailed, Cond.selects RX9 yX9_hasFailed yX9_hasFailed, Cond.code yX9_hasFailed cX9_hasFailed 1 (some .boolean)]
def wsX9_readNumber : List Cond := .code yX9_readNumber cX9_readNumber 7 (some .int) :: ((wsX9_readNumber_r1 ++ wsX9_readNumber_r2) ++ wsX90 ++ wsX80)
def wsX9_readEntry_r1 : List Cond := [Cond.fieldLink RX9 15 "ScanRing$TextReader" "setup" "LScanRing$Setup;", Cond.fieldLink RX9 74 "ScanRing$Setup" "entries" "I", Cond.fieldLink RX9 19 "ScanRing$TextReader" "position" "I", Cond.methodLink RX9 30 yX9_next, Cond.instanceMethod yX9_next, Cond.selects RX9 yX9_next yX9_next, Cond.initialized RX9, Cond.code yX9_next cX9_next 1 (some .char), Cond.fieldLink RX9 9 "ScanRing$TextReader" "text" "LScanRing$Text;", Cond.methodLink RX9 80 yX8_characterAt, Cond.instanceMethod yX8_characterAt, Cond.selects RX8 yX8_characterAt yX8_characterAt, Cond.initialized RX8, Cond.code yX8_characterAt cX8_characterAt 3 (some .char), Cond.fieldLink RX8 15 "ScanRing$Text" "length" "I", Cond.fieldLink RX8 9 "ScanRing$Text" "characters" "[C", Cond.methodLink RX9 51 yX9_failAt, Cond.instanceMethod yX9_failAt, Cond.selects RX9 yX9_failAt yX9_failAt, Cond.code yX9_failAt cX9_failAt 2 none, Cond.fieldLink RX9 23 "ScanRing$TextReader" "failedAt" "I", Cond.methodLink RX9 26 yX9_hasFailed, Cond.instanceMethod yX9_hasFailed, Cond.selects RX9 yX9_hasFailed yX9_hasFailed]
def wsX9_readEntry_r2 : List Cond := [Cond.code yX9_hasFailed cX9_hasFailed 1 (some .boolean), Cond.methodLink RX9 54 yX9_expect, Cond.instanceMethod yX9_expect, Cond.selects RX9 yX9_expect yX9_expect, Cond.code yX9_expect cX9_expect 2 none, Cond.methodLink RX9 41 yX9_readNumber, Cond.instanceMethod yX9_readNumber, Cond.selects RX9 yX9_readNumber yX9_readNumber, Cond.code yX9_readNumber cX9_readNumber 7 (some .int), Cond.methodLink RX9 90 Lib.Math.min.name, Cond.static Lib.Math.min.name, Cond.initialized "java/lang/Math", Cond.code Lib.Math.min.name Lib.Math.min.code 2 (some .int), Cond.methodLink RX9 86 yX9_isDigit, Cond.static yX9_isDigit, Cond.code yX9_isDigit cX9_isDigit 1 (some .boolean), Cond.static yX10_isWithin, Cond.initialized RX10, Cond.code yX10_isWithin cX10_isWithin 3 (some .boolean), Cond.methodLink RX9 77 yX3_insert, Cond.instanceMethod yX3_insert, Cond.selects RX3 yX3_insert yX3_insert, Cond.initialized RX3, Cond.code yX3_insert cX3_insert 5 none]
def wsX9_readEntry_r3 : List Cond := [Cond.fieldLink RX3 34 "ScanRing$Setup" "entries" "I", Cond.fieldLink RX3 20 "ScanRing$Setup" "list" "LScanRing$Table;", Cond.methodLink RX3 42 yX7_copyRow, Cond.instanceMethod yX7_copyRow, Cond.selects RX7 yX7_copyRow yX7_copyRow, Cond.initialized RX7, Cond.code yX7_copyRow cX7_copyRow 4 none, Cond.fieldLink RX7 13 "ScanRing$Table" "width" "I", Cond.methodLink RX7 23 yX7_at, Cond.instanceMethod yX7_at, Cond.selects RX7 yX7_at yX7_at, Cond.code yX7_at cX7_at 4 (some .int), Cond.fieldLink RX7 19 "ScanRing$Table" "cells" "[I", Cond.methodLink RX7 26 yX7_put, Cond.instanceMethod yX7_put, Cond.selects RX7 yX7_put yX7_put, Cond.code yX7_put cX7_put 5 none, Cond.methodLink RX3 26 yX7_put]
def wsX9_readEntry : List Cond := .code yX9_readEntry cX9_readEntry 3 none :: ((wsX9_readEntry_r1 ++ (wsX9_readEntry_r2 ++ wsX9_readEntry_r3)) ++ wsX90 ++ wsX30 ++ wsX80 ++ wsX70)
def wsX9_readSource_r1 : List Cond := [Cond.fieldLink RX9 19 "ScanRing$TextReader" "position" "I", Cond.fieldLink RX9 15 "ScanRing$TextReader" "setup" "LScanRing$Setup;", Cond.methodLink RX9 41 yX9_readNumber, Cond.instanceMethod yX9_readNumber, Cond.selects RX9 yX9_readNumber yX9_readNumber, Cond.initialized RX9, Cond.code yX9_readNumber cX9_readNumber 7 (some .int), Cond.fieldLink RX9 9 "ScanRing$TextReader" "text" "LScanRing$Text;", Cond.methodLink RX9 90 Lib.Math.min.name, Cond.static Lib.Math.min.name, Cond.initialized "java/lang/Math", Cond.code Lib.Math.min.name Lib.Math.min.code 2 (some .int), Cond.methodLink RX9 30 yX9_next, Cond.instanceMethod yX9_next, Cond.selects RX9 yX9_next yX9_next, Cond.code yX9_next cX9_next 1 (some .char), Cond.methodLink RX9 80 yX8_characterAt, Cond.instanceMethod yX8_characterAt, Cond.selects RX8 yX8_characterAt yX8_characterAt, Cond.initialized RX8, Cond.code yX8_characterAt cX8_characterAt 3 (some .char), Cond.fieldLink RX8 15 "ScanRing$Text" "length" "I", Cond.fieldLink RX8 9 "ScanRing$Text" "characters" "[C", Cond.methodLink RX9 86 yX9_isDigit]
def wsX9_readSource_r2 : List Cond := [Cond.static yX9_isDigit, Cond.code yX9_isDigit cX9_isDigit 1 (some .boolean), Cond.static yX10_isWithin, Cond.initialized RX10, Cond.code yX10_isWithin cX10_isWithin 3 (some .boolean), Cond.methodLink RX9 51 yX9_failAt, Cond.instanceMethod yX9_failAt, Cond.selects RX9 yX9_failAt yX9_failAt, Cond.code yX9_failAt cX9_failAt 2 none, Cond.fieldLink RX9 23 "ScanRing$TextReader" "failedAt" "I", Cond.methodLink RX9 26 yX9_hasFailed, Cond.instanceMethod yX9_hasFailed, Cond.selects RX9 yX9_hasFailed yX9_hasFailed, Cond.code yX9_hasFailed cX9_hasFailed 1 (some .boolean), Cond.methodLink RX9 54 yX9_expect, Cond.instanceMethod yX9_expect, Cond.selects RX9 yX9_expect yX9_expect, Cond.code yX9_expect cX9_expect 2 none, Cond.methodLink RX9 58 yX3_putSource, Cond.instanceMethod yX3_putSource, Cond.selects RX3 yX3_putSource yX3_putSource, Cond.initialized RX3, Cond.code yX3_putSource cX3_putSource 6 none, Cond.fieldLink RX3 14 "ScanRing$Setup" "channels" "LScanRing$Table;"]
def wsX9_readSource_r3 : List Cond := [Cond.methodLink RX3 26 yX7_put, Cond.instanceMethod yX7_put, Cond.selects RX7 yX7_put yX7_put, Cond.initialized RX7, Cond.code yX7_put cX7_put 5 none, Cond.fieldLink RX7 13 "ScanRing$Table" "width" "I", Cond.fieldLink RX7 19 "ScanRing$Table" "cells" "[I"]
def wsX9_readSource : List Cond := .code yX9_readSource cX9_readSource 8 none :: ((wsX9_readSource_r1 ++ (wsX9_readSource_r2 ++ wsX9_readSource_r3)) ++ wsX90 ++ wsX80 ++ wsX30 ++ wsX70)
def wsX9_readResistance_r1 : List Cond := [Cond.fieldLink RX9 15 "ScanRing$TextReader" "setup" "LScanRing$Setup;", Cond.fieldLink RX9 64 "ScanRing$Setup" "channels" "LScanRing$Table;", Cond.methodLink RX9 41 yX9_readNumber, Cond.instanceMethod yX9_readNumber, Cond.selects RX9 yX9_readNumber yX9_readNumber, Cond.initialized RX9, Cond.code yX9_readNumber cX9_readNumber 7 (some .int), Cond.fieldLink RX9 19 "ScanRing$TextReader" "position" "I", Cond.fieldLink RX9 9 "ScanRing$TextReader" "text" "LScanRing$Text;", Cond.methodLink RX9 90 Lib.Math.min.name, Cond.static Lib.Math.min.name, Cond.initialized "java/lang/Math", Cond.code Lib.Math.min.name Lib.Math.min.code 2 (some .int), Cond.methodLink RX9 30 yX9_next, Cond.instanceMethod yX9_next, Cond.selects RX9 yX9_next yX9_next, Cond.code yX9_next cX9_next 1 (some .char), Cond.methodLink RX9 80 yX8_characterAt, Cond.instanceMethod yX8_characterAt, Cond.selects RX8 yX8_characterAt yX8_characterAt, Cond.initialized RX8, Cond.code yX8_characterAt cX8_characterAt 3 (some .char), Cond.fieldLink RX8 15 "ScanRing$Text" "length" "I", Cond.fieldLink RX8 9 "ScanRing$Text" "characters" "[C"]
def wsX9_readResistance_r2 : List Cond := [Cond.methodLink RX9 86 yX9_isDigit, Cond.static yX9_isDigit, Cond.code yX9_isDigit cX9_isDigit 1 (some .boolean), Cond.static yX10_isWithin, Cond.initialized RX10, Cond.code yX10_isWithin cX10_isWithin 3 (some .boolean), Cond.methodLink RX9 51 yX9_failAt, Cond.instanceMethod yX9_failAt, Cond.selects RX9 yX9_failAt yX9_failAt, Cond.code yX9_failAt cX9_failAt 2 none, Cond.fieldLink RX9 23 "ScanRing$TextReader" "failedAt" "I", Cond.methodLink RX9 26 yX9_hasFailed, Cond.instanceMethod yX9_hasFailed, Cond.selects RX9 yX9_hasFailed yX9_hasFailed, Cond.code yX9_hasFailed cX9_hasFailed 1 (some .boolean), Cond.methodLink RX9 54 yX9_expect, Cond.instanceMethod yX9_expect, Cond.selects RX9 yX9_expect yX9_expect, Cond.code yX9_expect cX9_expect 2 none, Cond.methodLink RX9 68 yX7_put, Cond.instanceMethod yX7_put, Cond.selects RX7 yX7_put yX7_put, Cond.initialized RX7, Cond.code yX7_put cX7_put 5 none]
def wsX9_readResistance_r3 : List Cond := [Cond.fieldLink RX7 13 "ScanRing$Table" "width" "I", Cond.fieldLink RX7 19 "ScanRing$Table" "cells" "[I"]
def wsX9_readResistance : List Cond := .code yX9_readResistance cX9_readResistance 3 none :: ((wsX9_readResistance_r1 ++ (wsX9_readResistance_r2 ++ wsX9_readResistance_r3)) ++ wsX90 ++ wsX30 ++ wsX80 ++ wsX70)
def wsX9_readItem_r1 : List Cond := [Cond.fieldLink RX9 19 "ScanRing$TextReader" "position" "I", Cond.methodLink RX9 30 yX9_next, Cond.instanceMethod yX9_next, Cond.selects RX9 yX9_next yX9_next, Cond.initialized RX9, Cond.code yX9_next cX9_next 1 (some .char), Cond.fieldLink RX9 9 "ScanRing$TextReader" "text" "LScanRing$Text;", Cond.methodLink RX9 80 yX8_characterAt, Cond.instanceMethod yX8_characterAt, Cond.selects RX8 yX8_characterAt yX8_characterAt, Cond.initialized RX8, Cond.code yX8_characterAt cX8_characterAt 3 (some .char), Cond.fieldLink RX8 15 "ScanRing$Text" "length" "I", Cond.fieldLink RX8 9 "ScanRing$Text" "characters" "[C", Cond.methodLink RX9 37 yX9_readEntry, Cond.instanceMethod yX9_readEntry, Cond.selects RX9 yX9_readEntry yX9_readEntry, Cond.code yX9_readEntry cX9_readEntry 3 none, Cond.fieldLink RX9 15 "ScanRing$TextReader" "setup" "LScanRing$Setup;", Cond.fieldLink RX9 74 "ScanRing$Setup" "entries" "I", Cond.methodLink RX9 51 yX9_failAt, Cond.instanceMethod yX9_failAt, Cond.selects RX9 yX9_failAt yX9_failAt, Cond.code yX9_failAt cX9_failAt 2 none]
def wsX9_readItem_r2 : List Cond := [Cond.fieldLink RX9 23 "ScanRing$TextReader" "failedAt" "I", Cond.methodLink RX9 26 yX9_hasFailed, Cond.instanceMethod yX9_hasFailed, Cond.selects RX9 yX9_hasFailed yX9_hasFailed, Cond.code yX9_hasFailed cX9_hasFailed 1 (some .boolean), Cond.methodLink RX9 54 yX9_expect, Cond.instanceMethod yX9_expect, Cond.selects RX9 yX9_expect yX9_expect, Cond.code yX9_expect cX9_expect 2 none, Cond.methodLink RX9 41 yX9_readNumber, Cond.instanceMethod yX9_readNumber, Cond.selects RX9 yX9_readNumber yX9_readNumber, Cond.code yX9_readNumber cX9_readNumber 7 (some .int), Cond.methodLink RX9 90 Lib.Math.min.name, Cond.static Lib.Math.min.name, Cond.initialized "java/lang/Math", Cond.code Lib.Math.min.name Lib.Math.min.code 2 (some .int), Cond.methodLink RX9 86 yX9_isDigit, Cond.static yX9_isDigit, Cond.code yX9_isDigit cX9_isDigit 1 (some .boolean), Cond.static yX10_isWithin, Cond.initialized RX10, Cond.code yX10_isWithin cX10_isWithin 3 (some .boolean), Cond.methodLink RX9 77 yX3_insert]
def wsX9_readItem_r3 : List Cond := [Cond.instanceMethod yX3_insert, Cond.selects RX3 yX3_insert yX3_insert, Cond.initialized RX3, Cond.code yX3_insert cX3_insert 5 none, Cond.fieldLink RX3 34 "ScanRing$Setup" "entries" "I", Cond.fieldLink RX3 20 "ScanRing$Setup" "list" "LScanRing$Table;", Cond.methodLink RX3 42 yX7_copyRow, Cond.instanceMethod yX7_copyRow, Cond.selects RX7 yX7_copyRow yX7_copyRow, Cond.initialized RX7, Cond.code yX7_copyRow cX7_copyRow 4 none, Cond.fieldLink RX7 13 "ScanRing$Table" "width" "I", Cond.methodLink RX7 23 yX7_at, Cond.instanceMethod yX7_at, Cond.selects RX7 yX7_at yX7_at, Cond.code yX7_at cX7_at 4 (some .int), Cond.fieldLink RX7 19 "ScanRing$Table" "cells" "[I", Cond.methodLink RX7 26 yX7_put, Cond.instanceMethod yX7_put, Cond.selects RX7 yX7_put yX7_put, Cond.code yX7_put cX7_put 5 none, Cond.methodLink RX3 26 yX7_put, Cond.methodLink RX9 45 yX9_readSource, Cond.instanceMethod yX9_readSource]
def wsX9_readItem_r4 : List Cond := [Cond.selects RX9 yX9_readSource yX9_readSource, Cond.code yX9_readSource cX9_readSource 8 none, Cond.methodLink RX9 58 yX3_putSource, Cond.instanceMethod yX3_putSource, Cond.selects RX3 yX3_putSource yX3_putSource, Cond.code yX3_putSource cX3_putSource 6 none, Cond.fieldLink RX3 14 "ScanRing$Setup" "channels" "LScanRing$Table;", Cond.methodLink RX9 48 yX9_readResistance, Cond.instanceMethod yX9_readResistance, Cond.selects RX9 yX9_readResistance yX9_readResistance, Cond.code yX9_readResistance cX9_readResistance 3 none, Cond.fieldLink RX9 64 "ScanRing$Setup" "channels" "LScanRing$Table;", Cond.methodLink RX9 68 yX7_put]
def wsX9_readItem : List Cond := .code yX9_readItem cX9_readItem 3 none :: ((wsX9_readItem_r1 ++ (wsX9_readItem_r2 ++ (wsX9_readItem_r3 ++ wsX9_readItem_r4))) ++ wsX90 ++ wsX80 ++ wsX30 ++ wsX70)
def wsX9_readItems_r1 : List Cond := [Cond.fieldLink RX9 19 "ScanRing$TextReader" "position" "I", Cond.fieldLink RX9 23 "ScanRing$TextReader" "failedAt" "I", Cond.methodLink RX9 26 yX9_hasFailed, Cond.instanceMethod yX9_hasFailed, Cond.selects RX9 yX9_hasFailed yX9_hasFailed, Cond.initialized RX9, Cond.code yX9_hasFailed cX9_hasFailed 1 (some .boolean), Cond.methodLink RX9 30 yX9_next, Cond.instanceMethod yX9_next, Cond.selects RX9 yX9_next yX9_next, Cond.code yX9_next cX9_next 1 (some .char), Cond.fieldLink RX9 9 "ScanRing$TextReader" "text" "LScanRing$Text;", Cond.methodLink RX9 80 yX8_characterAt, Cond.instanceMethod yX8_characterAt, Cond.selects RX8 yX8_characterAt yX8_characterAt, Cond.initialized RX8, Cond.code yX8_characterAt cX8_characterAt 3 (some .char), Cond.fieldLink RX8 15 "ScanRing$Text" "length" "I", Cond.fieldLink RX8 9 "ScanRing$Text" "characters" "[C", Cond.methodLink RX9 34 yX9_readItem, Cond.instanceMethod yX9_readItem, Cond.selects RX9 yX9_readItem yX9_readItem, Cond.code yX9_readItem cX9_readItem 3 none, Cond.methodLink RX9 37 yX9_readEntry]
def wsX9_readItems_r2 : List Cond := [Cond.instanceMethod yX9_readEntry, Cond.selects RX9 yX9_readEntry yX9_readEntry, Cond.code yX9_readEntry cX9_readEntry 3 none, Cond.fieldLink RX9 15 "ScanRing$TextReader" "setup" "LScanRing$Setup;", Cond.fieldLink RX9 74 "ScanRing$Setup" "entries" "I", Cond.methodLink RX9 51 yX9_failAt, Cond.instanceMethod yX9_failAt, Cond.selects RX9 yX9_failAt yX9_failAt, Cond.code yX9_failAt cX9_failAt 2 none, Cond.methodLink RX9 54 yX9_expect, Cond.instanceMethod yX9_expect, Cond.selects RX9 yX9_expect yX9_expect, Cond.code yX9_expect cX9_expect 2 none, Cond.methodLink RX9 41 yX9_readNumber, Cond.instanceMethod yX9_readNumber, Cond.selects RX9 yX9_readNumber yX9_readNumber, Cond.code yX9_readNumber cX9_readNumber 7 (some .int), Cond.methodLink RX9 90 Lib.Math.min.name, Cond.static Lib.Math.min.name, Cond.initialized "java/lang/Math", Cond.code Lib.Math.min.name Lib.Math.min.code 2 (some .int), Cond.methodLink RX9 86 yX9_isDigit, Cond.static yX9_isDigit, Cond.code yX9_isDigit cX9_isDigit 1 (some .boolean)]
def wsX9_readItems_r3 : List Cond := [Cond.static yX10_isWithin, Cond.initialized RX10, Cond.code yX10_isWithin cX10_isWithin 3 (some .boolean), Cond.methodLink RX9 77 yX3_insert, Cond.instanceMethod yX3_insert, Cond.selects RX3 yX3_insert yX3_insert, Cond.initialized RX3, Cond.code yX3_insert cX3_insert 5 none, Cond.fieldLink RX3 34 "ScanRing$Setup" "entries" "I", Cond.fieldLink RX3 20 "ScanRing$Setup" "list" "LScanRing$Table;", Cond.methodLink RX3 42 yX7_copyRow, Cond.instanceMethod yX7_copyRow, Cond.selects RX7 yX7_copyRow yX7_copyRow, Cond.initialized RX7, Cond.code yX7_copyRow cX7_copyRow 4 none, Cond.fieldLink RX7 13 "ScanRing$Table" "width" "I", Cond.methodLink RX7 23 yX7_at, Cond.instanceMethod yX7_at, Cond.selects RX7 yX7_at yX7_at, Cond.code yX7_at cX7_at 4 (some .int), Cond.fieldLink RX7 19 "ScanRing$Table" "cells" "[I", Cond.methodLink RX7 26 yX7_put, Cond.instanceMethod yX7_put, Cond.selects RX7 yX7_put yX7_put]
def wsX9_readItems_r4 : List Cond := [Cond.code yX7_put cX7_put 5 none, Cond.methodLink RX3 26 yX7_put, Cond.methodLink RX9 45 yX9_readSource, Cond.instanceMethod yX9_readSource, Cond.selects RX9 yX9_readSource yX9_readSource, Cond.code yX9_readSource cX9_readSource 8 none, Cond.methodLink RX9 58 yX3_putSource, Cond.instanceMethod yX3_putSource, Cond.selects RX3 yX3_putSource yX3_putSource, Cond.code yX3_putSource cX3_putSource 6 none, Cond.fieldLink RX3 14 "ScanRing$Setup" "channels" "LScanRing$Table;", Cond.methodLink RX9 48 yX9_readResistance, Cond.instanceMethod yX9_readResistance, Cond.selects RX9 yX9_readResistance yX9_readResistance, Cond.code yX9_readResistance cX9_readResistance 3 none, Cond.fieldLink RX9 64 "ScanRing$Setup" "channels" "LScanRing$Table;", Cond.methodLink RX9 68 yX7_put]
def wsX9_readItems : List Cond := .code yX9_readItems cX9_readItems 2 (some .int) :: ((wsX9_readItems_r1 ++ (wsX9_readItems_r2 ++ (wsX9_readItems_r3 ++ wsX9_readItems_r4))) ++ wsX90 ++ wsX80 ++ wsX30 ++ wsX70)
def wsX10_init_r1 : List Cond := [Cond.methodLink RX10 1 objectInit, Cond.instanceMethod objectInit, Cond.code objectInit ⟨#[0xb1]⟩ 1 none, Cond.classLink RX10 7 RX6, Cond.instantiable RX6 7, Cond.initialized RX6, Cond.fieldLink RX10 10 "ScanRing" "now" "LScanRing$State;", Cond.classLink RX10 16 RX1, Cond.instantiable RX1 3, Cond.initialized RX1, Cond.fieldLink RX10 19 "ScanRing" "history" "LScanRing$History;", Cond.classLink RX10 23 RX8, Cond.instantiable RX8 2, Cond.initialized RX8, Cond.fieldLink RX10 26 "ScanRing" "text" "LScanRing$Text;", Cond.classLink RX10 30 RX0, Cond.instantiable RX0 5, Cond.initialized RX0, Cond.fieldLink RX10 33 "ScanRing" "converter" "LScanRing$Converter;", Cond.classLink RX10 37 RX5, Cond.instantiable RX5 3, Cond.initialized RX5, Cond.fieldLink RX10 40 "ScanRing" "sorter" "LScanRing$Sorter;", Cond.classLink RX10 44 RX3]
def wsX10_init_r2 : List Cond := [Cond.instantiable RX3 4, Cond.initialized RX3, Cond.fieldLink RX10 47 "ScanRing" "draft" "LScanRing$Setup;", Cond.classLink RX10 51 RX9, Cond.instantiable RX9 4, Cond.initialized RX9, Cond.fieldLink RX10 56 "ScanRing" "reader" "LScanRing$TextReader;", Cond.methodLink RX10 9 yX6_init, Cond.instanceMethod yX6_init, Cond.code yX6_init cX6_init 2 none, Cond.methodLink RX6 3 objectInit, Cond.classLink RX6 9 RX3, Cond.fieldLink RX6 12 "ScanRing$State" "setup" "LScanRing$Setup;", Cond.classLink RX6 18 RX2, Cond.instantiable RX2 3, Cond.initialized RX2, Cond.fieldLink RX6 21 "ScanRing$State" "log" "LScanRing$Log;", Cond.classLink RX6 25 RX7, Cond.instantiable RX7 2, Cond.initialized RX7, Cond.fieldLink RX6 30 "ScanRing$State" "latest" "LScanRing$Table;", Cond.fieldLink RX6 34 "ScanRing$State" "accounts" "LScanRing$Table;", Cond.classLink RX6 37 RX4, Cond.instantiable RX4 2]
def wsX10_init_r3 : List Cond := [Cond.initialized RX4, Cond.fieldLink RX6 40 "ScanRing$State" "first" "LScanRing$Snapshot;", Cond.fieldLink RX6 44 "ScanRing$State" "second" "LScanRing$Snapshot;", Cond.constant RX6 47 (-10000009), Cond.methodLink RX6 11 yX3_init, Cond.instanceMethod yX3_init, Cond.code yX3_init cX3_init 1 none, Cond.methodLink RX3 3 objectInit, Cond.classLink RX3 9 RX7, Cond.fieldLink RX3 14 "ScanRing$Setup" "channels" "LScanRing$Table;", Cond.fieldLink RX3 20 "ScanRing$Setup" "list" "LScanRing$Table;", Cond.fieldLink RX3 23 "ScanRing$Setup" "settings" "LScanRing$Table;", Cond.methodLink RX3 11 yX7_init, Cond.instanceMethod yX7_init, Cond.code yX7_init cX7_init 3 none, Cond.methodLink RX7 1 objectInit, Cond.methodLink RX7 7 Lib.Math.max.name, Cond.static Lib.Math.max.name, Cond.initialized "java/lang/Math", Cond.code Lib.Math.max.name Lib.Math.max.code 2 (some .int), Cond.fieldLink RX7 13 "ScanRing$Table" "width" "I", Cond.arrayClass .int, Cond.fieldLink RX7 19 "ScanRing$Table" "cells" "[I", Cond.methodLink RX3 26 yX7_put]
def wsX10_init_r4 : List Cond := [Cond.instanceMethod yX7_put, Cond.selects RX7 yX7_put yX7_put, Cond.code yX7_put cX7_put 5 none, Cond.instanceMethod yX2_init, Cond.code yX2_init cX2_init 1 none, Cond.methodLink RX2 3 objectInit, Cond.classLink RX2 9 RX7, Cond.fieldLink RX2 14 "ScanRing$Log" "rows" "LScanRing$Table;", Cond.methodLink RX2 11 yX7_init, Cond.methodLink RX6 27 yX7_init, Cond.instanceMethod yX4_init, Cond.code yX4_init cX4_init 1 none, Cond.methodLink RX4 1 objectInit, Cond.classLink RX4 7 RX3, Cond.fieldLink RX4 10 "ScanRing$Snapshot" "setup" "LScanRing$Setup;", Cond.methodLink RX4 9 yX3_init, Cond.methodLink RX6 48 yX7_put, Cond.methodLink RX10 18 yX1_init, Cond.instanceMethod yX1_init, Cond.code yX1_init cX1_init 2 none, Cond.methodLink RX1 3 objectInit, Cond.classLink RX1 9 RX6, Cond.fieldLink RX1 11 "ScanRing$History" "states" "[LScanRing$State;", Cond.methodLink RX1 17 yX6_init]
def wsX10_init_r5 : List Cond := [Cond.instanceMethod yX8_init, Cond.code yX8_init cX8_init 1 none, Cond.methodLink RX8 3 objectInit, Cond.arrayClass .char, Cond.fieldLink RX8 9 "ScanRing$Text" "characters" "[C", Cond.instanceMethod yX0_init, Cond.code yX0_init cX0_init 1 none, Cond.methodLink RX0 3 objectInit, Cond.instanceMethod yX5_init, Cond.code yX5_init cX5_init 1 none, Cond.methodLink RX5 3 objectInit, Cond.classLink RX5 9 RX7, Cond.fieldLink RX5 14 "ScanRing$Sorter" "keys" "LScanRing$Table;", Cond.fieldLink RX5 20 "ScanRing$Sorter" "origins" "LScanRing$Table;", Cond.fieldLink RX5 23 "ScanRing$Sorter" "copy" "LScanRing$Table;", Cond.methodLink RX5 11 yX7_init, Cond.methodLink RX10 46 yX3_init, Cond.methodLink RX10 53 yX9_init, Cond.instanceMethod yX9_init, Cond.code yX9_init cX9_init 3 none, Cond.methodLink RX9 3 objectInit, Cond.fieldLink RX9 9 "ScanRing$TextReader" "text" "LScanRing$Text;", Cond.fieldLink RX9 15 "ScanRing$TextReader" "setup" "LScanRing$Setup;"]
def wsX10_init : List Cond := .code yX10_init cX10_init 1 none :: ((wsX10_init_r1 ++ (wsX10_init_r2 ++ (wsX10_init_r3 ++ (wsX10_init_r4 ++ wsX10_init_r5)))) ++ wsX60 ++ wsX100 ++ wsX10 ++ wsX80 ++ wsX00 ++ wsX50 ++ wsX30 ++ wsX90 ++ wsX20 ++ wsX70 ++ wsX40)
def wsX10_isChannel : List Cond := .code yX10_isChannel cX10_isChannel 1 (some .boolean) :: ([.methodLink RX10 90 yX10_isWithin, .static yX10_isWithin, .initialized RX10, .code yX10_isWithin cX10_isWithin 3 (some .boolean)])
def wsX10_isSource : List Cond := .code yX10_isSource cX10_isSource 4 (some .boolean) :: ([.methodLink RX10 90 yX10_isWithin, .static yX10_isWithin, .initialized RX10, .code yX10_isWithin cX10_isWithin 3 (some .boolean)])
def wsX10_setSource_r1 : List Cond := [Cond.constant RX10 68 (-10000001), Cond.fieldLink RX10 19 "ScanRing" "history" "LScanRing$History;", Cond.fieldLink RX10 10 "ScanRing" "now" "LScanRing$State;", Cond.fieldLink RX10 73 "ScanRing$State" "setup" "LScanRing$Setup;", Cond.fieldLink RX10 76 "ScanRing$Setup" "channels" "LScanRing$Table;", Cond.methodLink RX10 60 yX10_isChannel, Cond.static yX10_isChannel, Cond.initialized RX10, Cond.code yX10_isChannel cX10_isChannel 1 (some .boolean), Cond.methodLink RX10 90 yX10_isWithin, Cond.static yX10_isWithin, Cond.code yX10_isWithin cX10_isWithin 3 (some .boolean), Cond.methodLink RX10 64 yX10_isSource, Cond.static yX10_isSource, Cond.code yX10_isSource cX10_isSource 4 (some .boolean), Cond.methodLink RX10 69 yX1_keep, Cond.instanceMethod yX1_keep, Cond.selects RX1 yX1_keep yX1_keep, Cond.initialized RX1, Cond.code yX1_keep cX1_keep 3 none, Cond.fieldLink RX1 18 "ScanRing$History" "next" "I", Cond.fieldLink RX1 30 "ScanRing$History" "kept" "I", Cond.methodLink RX1 33 Lib.Math.min.name, Cond.static Lib.Math.min.name]
def wsX10_setSource_r2 : List Cond := [Cond.initialized "java/lang/Math", Cond.code Lib.Math.min.name Lib.Math.min.code 2 (some .int), Cond.methodLink RX1 22 yX1_placeAt, Cond.instanceMethod yX1_placeAt, Cond.selects RX1 yX1_placeAt yX1_placeAt, Cond.code yX1_placeAt cX1_placeAt 2 (some (.object "ScanRing$State")), Cond.fieldLink RX1 11 "ScanRing$History" "states" "[LScanRing$State;", Cond.methodLink RX1 26 yX6_copyFrom, Cond.instanceMethod yX6_copyFrom, Cond.selects RX6 yX6_copyFrom yX6_copyFrom, Cond.initialized RX6, Cond.code yX6_copyFrom cX6_copyFrom 2 none, Cond.fieldLink RX6 12 "ScanRing$State" "setup" "LScanRing$Setup;", Cond.fieldLink RX6 21 "ScanRing$State" "log" "LScanRing$Log;", Cond.fieldLink RX6 30 "ScanRing$State" "latest" "LScanRing$Table;", Cond.fieldLink RX6 34 "ScanRing$State" "accounts" "LScanRing$Table;", Cond.fieldLink RX6 40 "ScanRing$State" "first" "LScanRing$Snapshot;", Cond.fieldLink RX6 44 "ScanRing$State" "second" "LScanRing$Snapshot;", Cond.fieldLink RX6 65 "ScanRing$State" "charge" "F", Cond.methodLink RX6 52 yX3_copyFrom, Cond.instanceMethod yX3_copyFrom, Cond.selects RX3 yX3_copyFrom yX3_copyFrom, Cond.initialized RX3, Cond.code yX3_copyFrom cX3_copyFrom 2 none]
def wsX10_setSource_r3 : List Cond := [Cond.fieldLink RX3 14 "ScanRing$Setup" "channels" "LScanRing$Table;", Cond.fieldLink RX3 20 "ScanRing$Setup" "list" "LScanRing$Table;", Cond.fieldLink RX3 23 "ScanRing$Setup" "settings" "LScanRing$Table;", Cond.fieldLink RX3 34 "ScanRing$Setup" "entries" "I", Cond.methodLink RX3 30 yX7_copyFrom, Cond.instanceMethod yX7_copyFrom, Cond.selects RX7 yX7_copyFrom yX7_copyFrom, Cond.initialized RX7, Cond.code yX7_copyFrom cX7_copyFrom 2 none, Cond.fieldLink RX7 19 "ScanRing$Table" "cells" "[I", Cond.methodLink RX7 30 Lib.Math.min.name, Cond.methodLink RX7 33 arraycopyName, Cond.native arraycopyName, Cond.static arraycopyName, Cond.initialized "java/lang/System", Cond.methodLink RX6 56 yX2_copyFrom, Cond.instanceMethod yX2_copyFrom, Cond.selects RX2 yX2_copyFrom yX2_copyFrom, Cond.initialized RX2, Cond.code yX2_copyFrom cX2_copyFrom 2 none, Cond.fieldLink RX2 14 "ScanRing$Log" "rows" "LScanRing$Table;", Cond.fieldLink RX2 24 "ScanRing$Log" "next" "I", Cond.fieldLink RX2 28 "ScanRing$Log" "kept" "I", Cond.methodLink RX2 20 yX7_copyFrom]
def wsX10_setSource_r4 : List Cond := [Cond.methodLink RX6 59 yX7_copyFrom, Cond.methodLink RX6 62 yX4_copyFrom, Cond.instanceMethod yX4_copyFrom, Cond.selects RX4 yX4_copyFrom yX4_copyFrom, Cond.initialized RX4, Cond.code yX4_copyFrom cX4_copyFrom 2 none, Cond.fieldLink RX4 10 "ScanRing$Snapshot" "setup" "LScanRing$Setup;", Cond.fieldLink RX4 20 "ScanRing$Snapshot" "taken" "Z", Cond.methodLink RX4 16 yX3_copyFrom, Cond.methodLink RX10 80 yX7_at, Cond.instanceMethod yX7_at, Cond.selects RX7 yX7_at yX7_at, Cond.code yX7_at cX7_at 4 (some .int), Cond.fieldLink RX7 13 "ScanRing$Table" "width" "I", Cond.methodLink RX10 86 yX3_putSource, Cond.instanceMethod yX3_putSource, Cond.selects RX3 yX3_putSource yX3_putSource, Cond.code yX3_putSource cX3_putSource 6 none, Cond.methodLink RX3 26 yX7_put, Cond.instanceMethod yX7_put, Cond.selects RX7 yX7_put yX7_put, Cond.code yX7_put cX7_put 5 none]
def wsX10_setSource : List Cond := .code yX10_setSource cX10_setSource 7 (some .int) :: ((wsX10_setSource_r1 ++ (wsX10_setSource_r2 ++ (wsX10_setSource_r3 ++ wsX10_setSource_r4))) ++ wsX100 ++ wsX60 ++ wsX30 ++ wsX10 ++ wsX70 ++ wsX20 ++ wsX40)
def wsX10_setResistance_r1 : List Cond := [Cond.constant RX10 68 (-10000001), Cond.fieldLink RX10 19 "ScanRing" "history" "LScanRing$History;", Cond.fieldLink RX10 10 "ScanRing" "now" "LScanRing$State;", Cond.fieldLink RX10 73 "ScanRing$State" "setup" "LScanRing$Setup;", Cond.fieldLink RX10 76 "ScanRing$Setup" "channels" "LScanRing$Table;", Cond.methodLink RX10 60 yX10_isChannel, Cond.static yX10_isChannel, Cond.initialized RX10, Cond.code yX10_isChannel cX10_isChannel 1 (some .boolean), Cond.methodLink RX10 90 yX10_isWithin, Cond.static yX10_isWithin, Cond.code yX10_isWithin cX10_isWithin 3 (some .boolean), Cond.methodLink RX10 69 yX1_keep, Cond.instanceMethod yX1_keep, Cond.selects RX1 yX1_keep yX1_keep, Cond.initialized RX1, Cond.code yX1_keep cX1_keep 3 none, Cond.fieldLink RX1 18 "ScanRing$History" "next" "I", Cond.fieldLink RX1 30 "ScanRing$History" "kept" "I", Cond.methodLink RX1 33 Lib.Math.min.name, Cond.static Lib.Math.min.name, Cond.initialized "java/lang/Math", Cond.code Lib.Math.min.name Lib.Math.min.code 2 (some .int), Cond.methodLink RX1 22 yX1_placeAt]
def wsX10_setResistance_r2 : List Cond := [Cond.instanceMethod yX1_placeAt, Cond.selects RX1 yX1_placeAt yX1_placeAt, Cond.code yX1_placeAt cX1_placeAt 2 (some (.object "ScanRing$State")), Cond.fieldLink RX1 11 "ScanRing$History" "states" "[LScanRing$State;", Cond.methodLink RX1 26 yX6_copyFrom, Cond.instanceMethod yX6_copyFrom, Cond.selects RX6 yX6_copyFrom yX6_copyFrom, Cond.initialized RX6, Cond.code yX6_copyFrom cX6_copyFrom 2 none, Cond.fieldLink RX6 12 "ScanRing$State" "setup" "LScanRing$Setup;", Cond.fieldLink RX6 21 "ScanRing$State" "log" "LScanRing$Log;", Cond.fieldLink RX6 30 "ScanRing$State" "latest" "LScanRing$Table;", Cond.fieldLink RX6 34 "ScanRing$State" "accounts" "LScanRing$Table;", Cond.fieldLink RX6 40 "ScanRing$State" "first" "LScanRing$Snapshot;", Cond.fieldLink RX6 44 "ScanRing$State" "second" "LScanRing$Snapshot;", Cond.fieldLink RX6 65 "ScanRing$State" "charge" "F", Cond.methodLink RX6 52 yX3_copyFrom, Cond.instanceMethod yX3_copyFrom, Cond.selects RX3 yX3_copyFrom yX3_copyFrom, Cond.initialized RX3, Cond.code yX3_copyFrom cX3_copyFrom 2 none, Cond.fieldLink RX3 14 "ScanRing$Setup" "channels" "LScanRing$Table;", Cond.fieldLink RX3 20 "ScanRing$Setup" "list" "LScanRing$Table;", Cond.fieldLink RX3 23 "ScanRing$Setup" "settings" "LScanRing$Table;"]
def wsX10_setResistance_r3 : List Cond := [Cond.fieldLink RX3 34 "ScanRing$Setup" "entries" "I", Cond.methodLink RX3 30 yX7_copyFrom, Cond.instanceMethod yX7_copyFrom, Cond.selects RX7 yX7_copyFrom yX7_copyFrom, Cond.initialized RX7, Cond.code yX7_copyFrom cX7_copyFrom 2 none, Cond.fieldLink RX7 19 "ScanRing$Table" "cells" "[I", Cond.methodLink RX7 30 Lib.Math.min.name, Cond.methodLink RX7 33 arraycopyName, Cond.native arraycopyName, Cond.static arraycopyName, Cond.initialized "java/lang/System", Cond.methodLink RX6 56 yX2_copyFrom, Cond.instanceMethod yX2_copyFrom, Cond.selects RX2 yX2_copyFrom yX2_copyFrom, Cond.initialized RX2, Cond.code yX2_copyFrom cX2_copyFrom 2 none, Cond.fieldLink RX2 14 "ScanRing$Log" "rows" "LScanRing$Table;", Cond.fieldLink RX2 24 "ScanRing$Log" "next" "I", Cond.fieldLink RX2 28 "ScanRing$Log" "kept" "I", Cond.methodLink RX2 20 yX7_copyFrom, Cond.methodLink RX6 59 yX7_copyFrom, Cond.methodLink RX6 62 yX4_copyFrom, Cond.instanceMethod yX4_copyFrom]
def wsX10_setResistance_r4 : List Cond := [Cond.selects RX4 yX4_copyFrom yX4_copyFrom, Cond.initialized RX4, Cond.code yX4_copyFrom cX4_copyFrom 2 none, Cond.fieldLink RX4 10 "ScanRing$Snapshot" "setup" "LScanRing$Setup;", Cond.fieldLink RX4 20 "ScanRing$Snapshot" "taken" "Z", Cond.methodLink RX4 16 yX3_copyFrom, Cond.methodLink RX10 80 yX7_at, Cond.instanceMethod yX7_at, Cond.selects RX7 yX7_at yX7_at, Cond.code yX7_at cX7_at 4 (some .int), Cond.fieldLink RX7 13 "ScanRing$Table" "width" "I", Cond.methodLink RX10 94 yX7_put, Cond.instanceMethod yX7_put, Cond.selects RX7 yX7_put yX7_put, Cond.code yX7_put cX7_put 5 none]
def wsX10_setResistance : List Cond := .code yX10_setResistance cX10_setResistance 4 (some .int) :: ((wsX10_setResistance_r1 ++ (wsX10_setResistance_r2 ++ (wsX10_setResistance_r3 ++ wsX10_setResistance_r4))) ++ wsX100 ++ wsX60 ++ wsX30 ++ wsX10 ++ wsX70 ++ wsX20 ++ wsX40)
def wsX10_isSetting : List Cond := .code yX10_isSetting cX10_isSetting 2 (some .boolean) :: ([.methodLink RX10 90 yX10_isWithin, .static yX10_isWithin, .initialized RX10, .code yX10_isWithin cX10_isWithin 3 (some .boolean)])
def wsX10_set_r1 : List Cond := [Cond.constant RX10 68 (-10000001), Cond.fieldLink RX10 19 "ScanRing" "history" "LScanRing$History;", Cond.fieldLink RX10 10 "ScanRing" "now" "LScanRing$State;", Cond.fieldLink RX10 73 "ScanRing$State" "setup" "LScanRing$Setup;", Cond.fieldLink RX10 106 "ScanRing$Setup" "settings" "LScanRing$Table;", Cond.methodLink RX10 98 yX10_isSetting, Cond.static yX10_isSetting, Cond.initialized RX10, Cond.code yX10_isSetting cX10_isSetting 2 (some .boolean), Cond.methodLink RX10 90 yX10_isWithin, Cond.static yX10_isWithin, Cond.code yX10_isWithin cX10_isWithin 3 (some .boolean), Cond.methodLink RX10 69 yX1_keep, Cond.instanceMethod yX1_keep, Cond.selects RX1 yX1_keep yX1_keep, Cond.initialized RX1, Cond.code yX1_keep cX1_keep 3 none, Cond.fieldLink RX1 18 "ScanRing$History" "next" "I", Cond.fieldLink RX1 30 "ScanRing$History" "kept" "I", Cond.methodLink RX1 33 Lib.Math.min.name, Cond.static Lib.Math.min.name, Cond.initialized "java/lang/Math", Cond.code Lib.Math.min.name Lib.Math.min.code 2 (some .int), Cond.methodLink RX1 22 yX1_placeAt]
def wsX10_set_r2 : List Cond := [Cond.instanceMethod yX1_placeAt, Cond.selects RX1 yX1_placeAt yX1_placeAt, Cond.code yX1_placeAt cX1_placeAt 2 (some (.object "ScanRing$State")), Cond.fieldLink RX1 11 "ScanRing$History" "states" "[LScanRing$State;", Cond.methodLink RX1 26 yX6_copyFrom, Cond.instanceMethod yX6_copyFrom, Cond.selects RX6 yX6_copyFrom yX6_copyFrom, Cond.initialized RX6, Cond.code yX6_copyFrom cX6_copyFrom 2 none, Cond.fieldLink RX6 12 "ScanRing$State" "setup" "LScanRing$Setup;", Cond.fieldLink RX6 21 "ScanRing$State" "log" "LScanRing$Log;", Cond.fieldLink RX6 30 "ScanRing$State" "latest" "LScanRing$Table;", Cond.fieldLink RX6 34 "ScanRing$State" "accounts" "LScanRing$Table;", Cond.fieldLink RX6 40 "ScanRing$State" "first" "LScanRing$Snapshot;", Cond.fieldLink RX6 44 "ScanRing$State" "second" "LScanRing$Snapshot;", Cond.fieldLink RX6 65 "ScanRing$State" "charge" "F", Cond.methodLink RX6 52 yX3_copyFrom, Cond.instanceMethod yX3_copyFrom, Cond.selects RX3 yX3_copyFrom yX3_copyFrom, Cond.initialized RX3, Cond.code yX3_copyFrom cX3_copyFrom 2 none, Cond.fieldLink RX3 14 "ScanRing$Setup" "channels" "LScanRing$Table;", Cond.fieldLink RX3 20 "ScanRing$Setup" "list" "LScanRing$Table;", Cond.fieldLink RX3 23 "ScanRing$Setup" "settings" "LScanRing$Table;"]
def wsX10_set_r3 : List Cond := [Cond.fieldLink RX3 34 "ScanRing$Setup" "entries" "I", Cond.methodLink RX3 30 yX7_copyFrom, Cond.instanceMethod yX7_copyFrom, Cond.selects RX7 yX7_copyFrom yX7_copyFrom, Cond.initialized RX7, Cond.code yX7_copyFrom cX7_copyFrom 2 none, Cond.fieldLink RX7 19 "ScanRing$Table" "cells" "[I", Cond.methodLink RX7 30 Lib.Math.min.name, Cond.methodLink RX7 33 arraycopyName, Cond.native arraycopyName, Cond.static arraycopyName, Cond.initialized "java/lang/System", Cond.methodLink RX6 56 yX2_copyFrom, Cond.instanceMethod yX2_copyFrom, Cond.selects RX2 yX2_copyFrom yX2_copyFrom, Cond.initialized RX2, Cond.code yX2_copyFrom cX2_copyFrom 2 none, Cond.fieldLink RX2 14 "ScanRing$Log" "rows" "LScanRing$Table;", Cond.fieldLink RX2 24 "ScanRing$Log" "next" "I", Cond.fieldLink RX2 28 "ScanRing$Log" "kept" "I", Cond.methodLink RX2 20 yX7_copyFrom, Cond.methodLink RX6 59 yX7_copyFrom, Cond.methodLink RX6 62 yX4_copyFrom, Cond.instanceMethod yX4_copyFrom]
def wsX10_set_r4 : List Cond := [Cond.selects RX4 yX4_copyFrom yX4_copyFrom, Cond.initialized RX4, Cond.code yX4_copyFrom cX4_copyFrom 2 none, Cond.fieldLink RX4 10 "ScanRing$Snapshot" "setup" "LScanRing$Setup;", Cond.fieldLink RX4 20 "ScanRing$Snapshot" "taken" "Z", Cond.methodLink RX4 16 yX3_copyFrom, Cond.methodLink RX10 102 yX3_setting, Cond.instanceMethod yX3_setting, Cond.selects RX3 yX3_setting yX3_setting, Cond.code yX3_setting cX3_setting 2 (some .int), Cond.methodLink RX3 38 yX7_at, Cond.instanceMethod yX7_at, Cond.selects RX7 yX7_at yX7_at, Cond.code yX7_at cX7_at 4 (some .int), Cond.fieldLink RX7 13 "ScanRing$Table" "width" "I", Cond.methodLink RX10 94 yX7_put, Cond.instanceMethod yX7_put, Cond.selects RX7 yX7_put yX7_put, Cond.code yX7_put cX7_put 5 none]
def wsX10_set : List Cond := .code yX10_set cX10_set 4 (some .int) :: ((wsX10_set_r1 ++ (wsX10_set_r2 ++ (wsX10_set_r3 ++ wsX10_set_r4))) ++ wsX100 ++ wsX60 ++ wsX30 ++ wsX10 ++ wsX70 ++ wsX20 ++ wsX40)
def wsX10_isSettle : List Cond := .code yX10_isSettle cX10_isSettle 1 (some .boolean) :: ([.methodLink RX10 90 yX10_isWithin, .static yX10_isWithin, .initialized RX10, .code yX10_isWithin cX10_isWithin 3 (some .boolean)])
def wsX10_addEntry_r1 : List Cond := [Cond.fieldLink RX10 10 "ScanRing" "now" "LScanRing$State;", Cond.fieldLink RX10 73 "ScanRing$State" "setup" "LScanRing$Setup;", Cond.fieldLink RX10 109 "ScanRing$Setup" "entries" "I", Cond.constant RX10 68 (-10000001), Cond.constant RX10 116 (-10000003), Cond.fieldLink RX10 19 "ScanRing" "history" "LScanRing$History;", Cond.methodLink RX10 90 yX10_isWithin, Cond.static yX10_isWithin, Cond.initialized RX10, Cond.code yX10_isWithin cX10_isWithin 3 (some .boolean), Cond.methodLink RX10 113 yX10_isSettle, Cond.static yX10_isSettle, Cond.code yX10_isSettle cX10_isSettle 1 (some .boolean), Cond.methodLink RX10 69 yX1_keep, Cond.instanceMethod yX1_keep, Cond.selects RX1 yX1_keep yX1_keep, Cond.initialized RX1, Cond.code yX1_keep cX1_keep 3 none, Cond.fieldLink RX1 18 "ScanRing$History" "next" "I", Cond.fieldLink RX1 30 "ScanRing$History" "kept" "I", Cond.methodLink RX1 33 Lib.Math.min.name, Cond.static Lib.Math.min.name, Cond.initialized "java/lang/Math", Cond.code Lib.Math.min.name Lib.Math.min.code 2 (some .int)]
def wsX10_addEntry_r2 : List Cond := [Cond.methodLink RX1 22 yX1_placeAt, Cond.instanceMethod yX1_placeAt, Cond.selects RX1 yX1_placeAt yX1_placeAt, Cond.code yX1_placeAt cX1_placeAt 2 (some (.object "ScanRing$State")), Cond.fieldLink RX1 11 "ScanRing$History" "states" "[LScanRing$State;", Cond.methodLink RX1 26 yX6_copyFrom, Cond.instanceMethod yX6_copyFrom, Cond.selects RX6 yX6_copyFrom yX6_copyFrom, Cond.initialized RX6, Cond.code yX6_copyFrom cX6_copyFrom 2 none, Cond.fieldLink RX6 12 "ScanRing$State" "setup" "LScanRing$Setup;", Cond.fieldLink RX6 21 "ScanRing$State" "log" "LScanRing$Log;", Cond.fieldLink RX6 30 "ScanRing$State" "latest" "LScanRing$Table;", Cond.fieldLink RX6 34 "ScanRing$State" "accounts" "LScanRing$Table;", Cond.fieldLink RX6 40 "ScanRing$State" "first" "LScanRing$Snapshot;", Cond.fieldLink RX6 44 "ScanRing$State" "second" "LScanRing$Snapshot;", Cond.fieldLink RX6 65 "ScanRing$State" "charge" "F", Cond.methodLink RX6 52 yX3_copyFrom, Cond.instanceMethod yX3_copyFrom, Cond.selects RX3 yX3_copyFrom yX3_copyFrom, Cond.initialized RX3, Cond.code yX3_copyFrom cX3_copyFrom 2 none, Cond.fieldLink RX3 14 "ScanRing$Setup" "channels" "LScanRing$Table;", Cond.fieldLink RX3 20 "ScanRing$Setup" "list" "LScanRing$Table;"]
def wsX10_addEntry_r3 : List Cond := [Cond.fieldLink RX3 23 "ScanRing$Setup" "settings" "LScanRing$Table;", Cond.fieldLink RX3 34 "ScanRing$Setup" "entries" "I", Cond.methodLink RX3 30 yX7_copyFrom, Cond.instanceMethod yX7_copyFrom, Cond.selects RX7 yX7_copyFrom yX7_copyFrom, Cond.initialized RX7, Cond.code yX7_copyFrom cX7_copyFrom 2 none, Cond.fieldLink RX7 19 "ScanRing$Table" "cells" "[I", Cond.methodLink RX7 30 Lib.Math.min.name, Cond.methodLink RX7 33 arraycopyName, Cond.native arraycopyName, Cond.static arraycopyName, Cond.initialized "java/lang/System", Cond.methodLink RX6 56 yX2_copyFrom, Cond.instanceMethod yX2_copyFrom, Cond.selects RX2 yX2_copyFrom yX2_copyFrom, Cond.initialized RX2, Cond.code yX2_copyFrom cX2_copyFrom 2 none, Cond.fieldLink RX2 14 "ScanRing$Log" "rows" "LScanRing$Table;", Cond.fieldLink RX2 24 "ScanRing$Log" "next" "I", Cond.fieldLink RX2 28 "ScanRing$Log" "kept" "I", Cond.methodLink RX2 20 yX7_copyFrom, Cond.methodLink RX6 59 yX7_copyFrom, Cond.methodLink RX6 62 yX4_copyFrom]
def wsX10_addEntry_r4 : List Cond := [Cond.instanceMethod yX4_copyFrom, Cond.selects RX4 yX4_copyFrom yX4_copyFrom, Cond.initialized RX4, Cond.code yX4_copyFrom cX4_copyFrom 2 none, Cond.fieldLink RX4 10 "ScanRing$Snapshot" "setup" "LScanRing$Setup;", Cond.fieldLink RX4 20 "ScanRing$Snapshot" "taken" "Z", Cond.methodLink RX4 16 yX3_copyFrom, Cond.methodLink RX10 117 yX3_insert, Cond.instanceMethod yX3_insert, Cond.selects RX3 yX3_insert yX3_insert, Cond.code yX3_insert cX3_insert 5 none, Cond.methodLink RX3 42 yX7_copyRow, Cond.instanceMethod yX7_copyRow, Cond.selects RX7 yX7_copyRow yX7_copyRow, Cond.code yX7_copyRow cX7_copyRow 4 none, Cond.fieldLink RX7 13 "ScanRing$Table" "width" "I", Cond.methodLink RX7 23 yX7_at, Cond.instanceMethod yX7_at, Cond.selects RX7 yX7_at yX7_at, Cond.code yX7_at cX7_at 4 (some .int), Cond.methodLink RX7 26 yX7_put, Cond.instanceMethod yX7_put, Cond.selects RX7 yX7_put yX7_put, Cond.code yX7_put cX7_put 5 none]
def wsX10_addEntry_r5 : List Cond := [Cond.methodLink RX3 26 yX7_put]
def wsX10_addEntry : List Cond := .code yX10_addEntry cX10_addEntry 5 (some .int) :: ((wsX10_addEntry_r1 ++ (wsX10_addEntry_r2 ++ (wsX10_addEntry_r3 ++ (wsX10_addEntry_r4 ++ wsX10_addEntry_r5)))) ++ wsX100 ++ wsX60 ++ wsX30 ++ wsX10 ++ wsX70 ++ wsX20 ++ wsX40)
def wsX10_isEntry : List Cond := .code yX10_isEntry cX10_isEntry 2 (some .boolean) :: ([.fieldLink RX10 10 "ScanRing" "now" "LScanRing$State;", .fieldLink RX10 73 "ScanRing$State" "setup" "LScanRing$Setup;", .fieldLink RX10 109 "ScanRing$Setup" "entries" "I", .methodLink RX10 90 yX10_isWithin, .static yX10_isWithin, .initialized RX10, .code yX10_isWithin cX10_isWithin 3 (some .boolean)] ++ wsX100 ++ wsX60 ++ wsX30)
def wsX10_removeEntry_r1 : List Cond := [Cond.constant RX10 68 (-10000001), Cond.fieldLink RX10 19 "ScanRing" "history" "LScanRing$History;", Cond.fieldLink RX10 10 "ScanRing" "now" "LScanRing$State;", Cond.fieldLink RX10 73 "ScanRing$State" "setup" "LScanRing$Setup;", Cond.fieldLink RX10 109 "ScanRing$Setup" "entries" "I", Cond.methodLink RX10 120 yX10_isEntry, Cond.instanceMethod yX10_isEntry, Cond.selects RX10 yX10_isEntry yX10_isEntry, Cond.initialized RX10, Cond.code yX10_isEntry cX10_isEntry 2 (some .boolean), Cond.methodLink RX10 90 yX10_isWithin, Cond.static yX10_isWithin, Cond.code yX10_isWithin cX10_isWithin 3 (some .boolean), Cond.methodLink RX10 69 yX1_keep, Cond.instanceMethod yX1_keep, Cond.selects RX1 yX1_keep yX1_keep, Cond.initialized RX1, Cond.code yX1_keep cX1_keep 3 none, Cond.fieldLink RX1 18 "ScanRing$History" "next" "I", Cond.fieldLink RX1 30 "ScanRing$History" "kept" "I", Cond.methodLink RX1 33 Lib.Math.min.name, Cond.static Lib.Math.min.name, Cond.initialized "java/lang/Math", Cond.code Lib.Math.min.name Lib.Math.min.code 2 (some .int)]
def wsX10_removeEntry_r2 : List Cond := [Cond.methodLink RX1 22 yX1_placeAt, Cond.instanceMethod yX1_placeAt, Cond.selects RX1 yX1_placeAt yX1_placeAt, Cond.code yX1_placeAt cX1_placeAt 2 (some (.object "ScanRing$State")), Cond.fieldLink RX1 11 "ScanRing$History" "states" "[LScanRing$State;", Cond.methodLink RX1 26 yX6_copyFrom, Cond.instanceMethod yX6_copyFrom, Cond.selects RX6 yX6_copyFrom yX6_copyFrom, Cond.initialized RX6, Cond.code yX6_copyFrom cX6_copyFrom 2 none, Cond.fieldLink RX6 12 "ScanRing$State" "setup" "LScanRing$Setup;", Cond.fieldLink RX6 21 "ScanRing$State" "log" "LScanRing$Log;", Cond.fieldLink RX6 30 "ScanRing$State" "latest" "LScanRing$Table;", Cond.fieldLink RX6 34 "ScanRing$State" "accounts" "LScanRing$Table;", Cond.fieldLink RX6 40 "ScanRing$State" "first" "LScanRing$Snapshot;", Cond.fieldLink RX6 44 "ScanRing$State" "second" "LScanRing$Snapshot;", Cond.fieldLink RX6 65 "ScanRing$State" "charge" "F", Cond.methodLink RX6 52 yX3_copyFrom, Cond.instanceMethod yX3_copyFrom, Cond.selects RX3 yX3_copyFrom yX3_copyFrom, Cond.initialized RX3, Cond.code yX3_copyFrom cX3_copyFrom 2 none, Cond.fieldLink RX3 14 "ScanRing$Setup" "channels" "LScanRing$Table;", Cond.fieldLink RX3 20 "ScanRing$Setup" "list" "LScanRing$Table;"]
def wsX10_removeEntry_r3 : List Cond := [Cond.fieldLink RX3 23 "ScanRing$Setup" "settings" "LScanRing$Table;", Cond.fieldLink RX3 34 "ScanRing$Setup" "entries" "I", Cond.methodLink RX3 30 yX7_copyFrom, Cond.instanceMethod yX7_copyFrom, Cond.selects RX7 yX7_copyFrom yX7_copyFrom, Cond.initialized RX7, Cond.code yX7_copyFrom cX7_copyFrom 2 none, Cond.fieldLink RX7 19 "ScanRing$Table" "cells" "[I", Cond.methodLink RX7 30 Lib.Math.min.name, Cond.methodLink RX7 33 arraycopyName, Cond.native arraycopyName, Cond.static arraycopyName, Cond.initialized "java/lang/System", Cond.methodLink RX6 56 yX2_copyFrom, Cond.instanceMethod yX2_copyFrom, Cond.selects RX2 yX2_copyFrom yX2_copyFrom, Cond.initialized RX2, Cond.code yX2_copyFrom cX2_copyFrom 2 none, Cond.fieldLink RX2 14 "ScanRing$Log" "rows" "LScanRing$Table;", Cond.fieldLink RX2 24 "ScanRing$Log" "next" "I", Cond.fieldLink RX2 28 "ScanRing$Log" "kept" "I", Cond.methodLink RX2 20 yX7_copyFrom, Cond.methodLink RX6 59 yX7_copyFrom, Cond.methodLink RX6 62 yX4_copyFrom]
def wsX10_removeEntry_r4 : List Cond := [Cond.instanceMethod yX4_copyFrom, Cond.selects RX4 yX4_copyFrom yX4_copyFrom, Cond.initialized RX4, Cond.code yX4_copyFrom cX4_copyFrom 2 none, Cond.fieldLink RX4 10 "ScanRing$Snapshot" "setup" "LScanRing$Setup;", Cond.fieldLink RX4 20 "ScanRing$Snapshot" "taken" "Z", Cond.methodLink RX4 16 yX3_copyFrom, Cond.methodLink RX10 123 yX3_removeAt, Cond.instanceMethod yX3_removeAt, Cond.selects RX3 yX3_removeAt yX3_removeAt, Cond.code yX3_removeAt cX3_removeAt 3 none, Cond.methodLink RX3 42 yX7_copyRow, Cond.instanceMethod yX7_copyRow, Cond.selects RX7 yX7_copyRow yX7_copyRow, Cond.code yX7_copyRow cX7_copyRow 4 none, Cond.fieldLink RX7 13 "ScanRing$Table" "width" "I", Cond.methodLink RX7 23 yX7_at, Cond.instanceMethod yX7_at, Cond.selects RX7 yX7_at yX7_at, Cond.code yX7_at cX7_at 4 (some .int), Cond.methodLink RX7 26 yX7_put, Cond.instanceMethod yX7_put, Cond.selects RX7 yX7_put yX7_put, Cond.code yX7_put cX7_put 5 none]
def wsX10_removeEntry : List Cond := .code yX10_removeEntry cX10_removeEntry 2 (some .int) :: ((wsX10_removeEntry_r1 ++ (wsX10_removeEntry_r2 ++ (wsX10_removeEntry_r3 ++ wsX10_removeEntry_r4))) ++ wsX100 ++ wsX60 ++ wsX30 ++ wsX10 ++ wsX70 ++ wsX20 ++ wsX40)
def wsX10_setSettle_r1 : List Cond := [Cond.constant RX10 68 (-10000001), Cond.fieldLink RX10 19 "ScanRing" "history" "LScanRing$History;", Cond.fieldLink RX10 10 "ScanRing" "now" "LScanRing$State;", Cond.fieldLink RX10 73 "ScanRing$State" "setup" "LScanRing$Setup;", Cond.fieldLink RX10 127 "ScanRing$Setup" "list" "LScanRing$Table;", Cond.methodLink RX10 120 yX10_isEntry, Cond.instanceMethod yX10_isEntry, Cond.selects RX10 yX10_isEntry yX10_isEntry, Cond.initialized RX10, Cond.code yX10_isEntry cX10_isEntry 2 (some .boolean), Cond.fieldLink RX10 109 "ScanRing$Setup" "entries" "I", Cond.methodLink RX10 90 yX10_isWithin, Cond.static yX10_isWithin, Cond.code yX10_isWithin cX10_isWithin 3 (some .boolean), Cond.methodLink RX10 113 yX10_isSettle, Cond.static yX10_isSettle, Cond.code yX10_isSettle cX10_isSettle 1 (some .boolean), Cond.methodLink RX10 69 yX1_keep, Cond.instanceMethod yX1_keep, Cond.selects RX1 yX1_keep yX1_keep, Cond.initialized RX1, Cond.code yX1_keep cX1_keep 3 none, Cond.fieldLink RX1 18 "ScanRing$History" "next" "I", Cond.fieldLink RX1 30 "ScanRing$History" "kept" "I"]
def wsX10_setSettle_r2 : List Cond := [Cond.methodLink RX1 33 Lib.Math.min.name, Cond.static Lib.Math.min.name, Cond.initialized "java/lang/Math", Cond.code Lib.Math.min.name Lib.Math.min.code 2 (some .int), Cond.methodLink RX1 22 yX1_placeAt, Cond.instanceMethod yX1_placeAt, Cond.selects RX1 yX1_placeAt yX1_placeAt, Cond.code yX1_placeAt cX1_placeAt 2 (some (.object "ScanRing$State")), Cond.fieldLink RX1 11 "ScanRing$History" "states" "[LScanRing$State;", Cond.methodLink RX1 26 yX6_copyFrom, Cond.instanceMethod yX6_copyFrom, Cond.selects RX6 yX6_copyFrom yX6_copyFrom, Cond.initialized RX6, Cond.code yX6_copyFrom cX6_copyFrom 2 none, Cond.fieldLink RX6 12 "ScanRing$State" "setup" "LScanRing$Setup;", Cond.fieldLink RX6 21 "ScanRing$State" "log" "LScanRing$Log;", Cond.fieldLink RX6 30 "ScanRing$State" "latest" "LScanRing$Table;", Cond.fieldLink RX6 34 "ScanRing$State" "accounts" "LScanRing$Table;", Cond.fieldLink RX6 40 "ScanRing$State" "first" "LScanRing$Snapshot;", Cond.fieldLink RX6 44 "ScanRing$State" "second" "LScanRing$Snapshot;", Cond.fieldLink RX6 65 "ScanRing$State" "charge" "F", Cond.methodLink RX6 52 yX3_copyFrom, Cond.instanceMethod yX3_copyFrom, Cond.selects RX3 yX3_copyFrom yX3_copyFrom]
def wsX10_setSettle_r3 : List Cond := [Cond.initialized RX3, Cond.code yX3_copyFrom cX3_copyFrom 2 none, Cond.fieldLink RX3 14 "ScanRing$Setup" "channels" "LScanRing$Table;", Cond.fieldLink RX3 20 "ScanRing$Setup" "list" "LScanRing$Table;", Cond.fieldLink RX3 23 "ScanRing$Setup" "settings" "LScanRing$Table;", Cond.fieldLink RX3 34 "ScanRing$Setup" "entries" "I", Cond.methodLink RX3 30 yX7_copyFrom, Cond.instanceMethod yX7_copyFrom, Cond.selects RX7 yX7_copyFrom yX7_copyFrom, Cond.initialized RX7, Cond.code yX7_copyFrom cX7_copyFrom 2 none, Cond.fieldLink RX7 19 "ScanRing$Table" "cells" "[I", Cond.methodLink RX7 30 Lib.Math.min.name, Cond.methodLink RX7 33 arraycopyName, Cond.native arraycopyName, Cond.static arraycopyName, Cond.initialized "java/lang/System", Cond.methodLink RX6 56 yX2_copyFrom, Cond.instanceMethod yX2_copyFrom, Cond.selects RX2 yX2_copyFrom yX2_copyFrom, Cond.initialized RX2, Cond.code yX2_copyFrom cX2_copyFrom 2 none, Cond.fieldLink RX2 14 "ScanRing$Log" "rows" "LScanRing$Table;", Cond.fieldLink RX2 24 "ScanRing$Log" "next" "I"]
def wsX10_setSettle_r4 : List Cond := [Cond.fieldLink RX2 28 "ScanRing$Log" "kept" "I", Cond.methodLink RX2 20 yX7_copyFrom, Cond.methodLink RX6 59 yX7_copyFrom, Cond.methodLink RX6 62 yX4_copyFrom, Cond.instanceMethod yX4_copyFrom, Cond.selects RX4 yX4_copyFrom yX4_copyFrom, Cond.initialized RX4, Cond.code yX4_copyFrom cX4_copyFrom 2 none, Cond.fieldLink RX4 10 "ScanRing$Snapshot" "setup" "LScanRing$Setup;", Cond.fieldLink RX4 20 "ScanRing$Snapshot" "taken" "Z", Cond.methodLink RX4 16 yX3_copyFrom, Cond.methodLink RX10 80 yX7_at, Cond.instanceMethod yX7_at, Cond.selects RX7 yX7_at yX7_at, Cond.code yX7_at cX7_at 4 (some .int), Cond.fieldLink RX7 13 "ScanRing$Table" "width" "I", Cond.methodLink RX10 94 yX7_put, Cond.instanceMethod yX7_put, Cond.selects RX7 yX7_put yX7_put, Cond.code yX7_put cX7_put 5 none]
def wsX10_setSettle : List Cond := .code yX10_setSettle cX10_setSettle 4 (some .int) :: ((wsX10_setSettle_r1 ++ (wsX10_setSettle_r2 ++ (wsX10_setSettle_r3 ++ wsX10_setSettle_r4))) ++ wsX100 ++ wsX60 ++ wsX30 ++ wsX10 ++ wsX70 ++ wsX20 ++ wsX40)
def wsX10_order_r1 : List Cond := [Cond.constant RX10 68 (-10000001), Cond.fieldLink RX10 19 "ScanRing" "history" "LScanRing$History;", Cond.fieldLink RX10 10 "ScanRing" "now" "LScanRing$State;", Cond.fieldLink RX10 40 "ScanRing" "sorter" "LScanRing$Sorter;", Cond.fieldLink RX10 73 "ScanRing$State" "setup" "LScanRing$Setup;", Cond.methodLink RX10 90 yX10_isWithin, Cond.static yX10_isWithin, Cond.initialized RX10, Cond.code yX10_isWithin cX10_isWithin 3 (some .boolean), Cond.methodLink RX10 69 yX1_keep, Cond.instanceMethod yX1_keep, Cond.selects RX1 yX1_keep yX1_keep, Cond.initialized RX1, Cond.code yX1_keep cX1_keep 3 none, Cond.fieldLink RX1 18 "ScanRing$History" "next" "I", Cond.fieldLink RX1 30 "ScanRing$History" "kept" "I", Cond.methodLink RX1 33 Lib.Math.min.name, Cond.static Lib.Math.min.name, Cond.initialized "java/lang/Math", Cond.code Lib.Math.min.name Lib.Math.min.code 2 (some .int), Cond.methodLink RX1 22 yX1_placeAt, Cond.instanceMethod yX1_placeAt, Cond.selects RX1 yX1_placeAt yX1_placeAt, Cond.code yX1_placeAt cX1_placeAt 2 (some (.object "ScanRing$State"))]
def wsX10_order_r2 : List Cond := [Cond.fieldLink RX1 11 "ScanRing$History" "states" "[LScanRing$State;", Cond.methodLink RX1 26 yX6_copyFrom, Cond.instanceMethod yX6_copyFrom, Cond.selects RX6 yX6_copyFrom yX6_copyFrom, Cond.initialized RX6, Cond.code yX6_copyFrom cX6_copyFrom 2 none, Cond.fieldLink RX6 12 "ScanRing$State" "setup" "LScanRing$Setup;", Cond.fieldLink RX6 21 "ScanRing$State" "log" "LScanRing$Log;", Cond.fieldLink RX6 30 "ScanRing$State" "latest" "LScanRing$Table;", Cond.fieldLink RX6 34 "ScanRing$State" "accounts" "LScanRing$Table;", Cond.fieldLink RX6 40 "ScanRing$State" "first" "LScanRing$Snapshot;", Cond.fieldLink RX6 44 "ScanRing$State" "second" "LScanRing$Snapshot;", Cond.fieldLink RX6 65 "ScanRing$State" "charge" "F", Cond.methodLink RX6 52 yX3_copyFrom, Cond.instanceMethod yX3_copyFrom, Cond.selects RX3 yX3_copyFrom yX3_copyFrom, Cond.initialized RX3, Cond.code yX3_copyFrom cX3_copyFrom 2 none, Cond.fieldLink RX3 14 "ScanRing$Setup" "channels" "LScanRing$Table;", Cond.fieldLink RX3 20 "ScanRing$Setup" "list" "LScanRing$Table;", Cond.fieldLink RX3 23 "ScanRing$Setup" "settings" "LScanRing$Table;", Cond.fieldLink RX3 34 "ScanRing$Setup" "entries" "I", Cond.methodLink RX3 30 yX7_copyFrom, Cond.instanceMethod yX7_copyFrom]
def wsX10_order_r3 : List Cond := [Cond.selects RX7 yX7_copyFrom yX7_copyFrom, Cond.initialized RX7, Cond.code yX7_copyFrom cX7_copyFrom 2 none, Cond.fieldLink RX7 19 "ScanRing$Table" "cells" "[I", Cond.methodLink RX7 30 Lib.Math.min.name, Cond.methodLink RX7 33 arraycopyName, Cond.native arraycopyName, Cond.static arraycopyName, Cond.initialized "java/lang/System", Cond.methodLink RX6 56 yX2_copyFrom, Cond.instanceMethod yX2_copyFrom, Cond.selects RX2 yX2_copyFrom yX2_copyFrom, Cond.initialized RX2, Cond.code yX2_copyFrom cX2_copyFrom 2 none, Cond.fieldLink RX2 14 "ScanRing$Log" "rows" "LScanRing$Table;", Cond.fieldLink RX2 24 "ScanRing$Log" "next" "I", Cond.fieldLink RX2 28 "ScanRing$Log" "kept" "I", Cond.methodLink RX2 20 yX7_copyFrom, Cond.methodLink RX6 59 yX7_copyFrom, Cond.methodLink RX6 62 yX4_copyFrom, Cond.instanceMethod yX4_copyFrom, Cond.selects RX4 yX4_copyFrom yX4_copyFrom, Cond.initialized RX4, Cond.code yX4_copyFrom cX4_copyFrom 2 none]
def wsX10_order_r4 : List Cond := [Cond.fieldLink RX4 10 "ScanRing$Snapshot" "setup" "LScanRing$Setup;", Cond.fieldLink RX4 20 "ScanRing$Snapshot" "taken" "Z", Cond.methodLink RX4 16 yX3_copyFrom, Cond.methodLink RX10 130 yX6_time, Cond.instanceMethod yX6_time, Cond.selects RX6 yX6_time yX6_time, Cond.code yX6_time cX6_time 1 (some .int), Cond.methodLink RX6 69 yX7_at, Cond.instanceMethod yX7_at, Cond.selects RX7 yX7_at yX7_at, Cond.code yX7_at cX7_at 4 (some .int), Cond.fieldLink RX7 13 "ScanRing$Table" "width" "I", Cond.methodLink RX10 134 yX5_arrange, Cond.instanceMethod yX5_arrange, Cond.selects RX5 yX5_arrange yX5_arrange, Cond.initialized RX5, Cond.code yX5_arrange cX5_arrange 7 (some .int), Cond.fieldLink RX5 26 "ScanRing$Setup" "entries" "I", Cond.fieldLink RX5 23 "ScanRing$Sorter" "copy" "LScanRing$Table;", Cond.fieldLink RX5 39 "ScanRing$Setup" "list" "LScanRing$Table;", Cond.fieldLink RX5 20 "ScanRing$Sorter" "origins" "LScanRing$Table;", Cond.methodLink RX5 32 yX5_keyOf, Cond.static yX5_keyOf, Cond.code yX5_keyOf cX5_keyOf 5 (some .int)]
def wsX10_order_r5 : List Cond := [Cond.methodLink RX5 46 yX7_at, Cond.methodLink RX5 57 yX3_resistanceAt, Cond.instanceMethod yX3_resistanceAt, Cond.selects RX3 yX3_resistanceAt yX3_resistanceAt, Cond.code yX3_resistanceAt cX3_resistanceAt 2 (some .int), Cond.methodLink RX3 38 yX7_at, Cond.methodLink RX5 61 yX3_valueAt, Cond.instanceMethod yX3_valueAt, Cond.selects RX3 yX3_valueAt yX3_valueAt, Cond.code yX3_valueAt cX3_valueAt 5 (some .int), Cond.methodLink RX3 57 Lib.Math.min.name, Cond.methodLink RX3 60 Lib.Math.max.name, Cond.static Lib.Math.max.name, Cond.code Lib.Math.max.name Lib.Math.max.code 2 (some .int), Cond.methodLink RX3 49 yX3_setting, Cond.instanceMethod yX3_setting, Cond.selects RX3 yX3_setting yX3_setting, Cond.code yX3_setting cX3_setting 2 (some .int), Cond.methodLink RX3 52 yJ9_floorDiv_7cf53, Cond.static yJ9_floorDiv_7cf53, Cond.initialized RJ9, Cond.code yJ9_floorDiv_7cf53 cJ9_floorDiv_7cf53 3 (some .int), Cond.methodLink RX3 63 yX3_isFirstHalf, Cond.static yX3_isFirstHalf]
def wsX10_order_r6 : List Cond := [Cond.code yX3_isFirstHalf cX3_isFirstHalf 2 (some .boolean), Cond.methodLink RX5 36 yX5_sortIn, Cond.instanceMethod yX5_sortIn, Cond.selects RX5 yX5_sortIn yX5_sortIn, Cond.code yX5_sortIn cX5_sortIn 4 none, Cond.fieldLink RX5 14 "ScanRing$Sorter" "keys" "LScanRing$Table;", Cond.methodLink RX5 54 yX7_copyRow, Cond.instanceMethod yX7_copyRow, Cond.selects RX7 yX7_copyRow yX7_copyRow, Cond.code yX7_copyRow cX7_copyRow 4 none, Cond.methodLink RX7 23 yX7_at, Cond.methodLink RX7 26 yX7_put, Cond.instanceMethod yX7_put, Cond.selects RX7 yX7_put yX7_put, Cond.code yX7_put cX7_put 5 none, Cond.methodLink RX5 50 yX7_put, Cond.methodLink RX5 42 yX7_copyFrom]
def wsX10_order : List Cond := .code yX10_order cX10_order 2 (some .int) :: ((wsX10_order_r1 ++ (wsX10_order_r2 ++ (wsX10_order_r3 ++ (wsX10_order_r4 ++ (wsX10_order_r5 ++ wsX10_order_r6))))) ++ wsX100 ++ wsX60 ++ wsX10 ++ wsX30 ++ wsX70 ++ wsX20 ++ wsX40 ++ wsX50)
def wsX10_scanOnce_r1 : List Cond := [Cond.fieldLink RX10 10 "ScanRing" "now" "LScanRing$State;", Cond.fieldLink RX10 73 "ScanRing$State" "setup" "LScanRing$Setup;", Cond.fieldLink RX10 109 "ScanRing$Setup" "entries" "I", Cond.fieldLink RX10 33 "ScanRing" "converter" "LScanRing$Converter;", Cond.fieldLink RX10 127 "ScanRing$Setup" "list" "LScanRing$Table;", Cond.methodLink RX10 267 yX0_carryOutEntry, Cond.instanceMethod yX0_carryOutEntry, Cond.selects RX0 yX0_carryOutEntry yX0_carryOutEntry, Cond.initialized RX0, Cond.code yX0_carryOutEntry cX0_carryOutEntry 3 none, Cond.fieldLink RX0 19 "ScanRing$Setup" "list" "LScanRing$Table;", Cond.methodLink RX0 25 yX7_at, Cond.instanceMethod yX7_at, Cond.selects RX7 yX7_at yX7_at, Cond.initialized RX7, Cond.code yX7_at cX7_at 4 (some .int), Cond.fieldLink RX7 13 "ScanRing$Table" "width" "I", Cond.fieldLink RX7 19 "ScanRing$Table" "cells" "[I", Cond.methodLink RX0 31 yX0_carryOut, Cond.instanceMethod yX0_carryOut, Cond.selects RX0 yX0_carryOut yX0_carryOut, Cond.code yX0_carryOut cX0_carryOut 7 none, Cond.fieldLink RX0 15 "ScanRing$Converter" "time" "I", Cond.fieldLink RX0 42 "ScanRing$Converter" "target" "I"]
def wsX10_scanOnce_r2 : List Cond := [Cond.fieldLink RX0 9 "ScanRing$Converter" "charge" "F", Cond.fieldLink RX0 53 "ScanRing$Converter" "reading" "I", Cond.fieldLink RX0 56 "ScanRing$Converter" "carry" "I", Cond.methodLink RX0 35 yX3_resistanceAt, Cond.instanceMethod yX3_resistanceAt, Cond.selects RX3 yX3_resistanceAt yX3_resistanceAt, Cond.initialized RX3, Cond.code yX3_resistanceAt cX3_resistanceAt 2 (some .int), Cond.fieldLink RX3 14 "ScanRing$Setup" "channels" "LScanRing$Table;", Cond.methodLink RX3 38 yX7_at, Cond.methodLink RX0 39 yX3_valueAt, Cond.instanceMethod yX3_valueAt, Cond.selects RX3 yX3_valueAt yX3_valueAt, Cond.code yX3_valueAt cX3_valueAt 5 (some .int), Cond.methodLink RX3 57 Lib.Math.min.name, Cond.static Lib.Math.min.name, Cond.initialized "java/lang/Math", Cond.code Lib.Math.min.name Lib.Math.min.code 2 (some .int), Cond.methodLink RX3 60 Lib.Math.max.name, Cond.static Lib.Math.max.name, Cond.code Lib.Math.max.name Lib.Math.max.code 2 (some .int), Cond.methodLink RX3 49 yX3_setting, Cond.instanceMethod yX3_setting, Cond.selects RX3 yX3_setting yX3_setting]
def wsX10_scanOnce_r3 : List Cond := [Cond.code yX3_setting cX3_setting 2 (some .int), Cond.fieldLink RX3 23 "ScanRing$Setup" "settings" "LScanRing$Table;", Cond.methodLink RX3 52 yJ9_floorDiv_7cf53, Cond.static yJ9_floorDiv_7cf53, Cond.initialized RJ9, Cond.code yJ9_floorDiv_7cf53 cJ9_floorDiv_7cf53 3 (some .int), Cond.methodLink RX3 63 yX3_isFirstHalf, Cond.static yX3_isFirstHalf, Cond.code yX3_isFirstHalf cX3_isFirstHalf 2 (some .boolean), Cond.methodLink RX0 45 yX0_chargeBehind, Cond.static yX0_chargeBehind, Cond.code yX0_chargeBehind cX0_chargeBehind 3 (some .float), Cond.methodLink RX0 49 yX3_readingOf, Cond.instanceMethod yX3_readingOf, Cond.selects RX3 yX3_readingOf yX3_readingOf, Cond.code yX3_readingOf cX3_readingOf 2 (some .int), Cond.static yX10_readingWith, Cond.initialized RX10, Cond.code yX10_readingWith cX10_readingWith 4 (some .int), Cond.constantFloat RX10 278 (1148846080), Cond.constantFloat RX10 279 (1056964608), Cond.methodLink RX10 280 Lib.Math.min.name, Cond.methodLink RX10 80 yX7_at, Cond.methodLink RX10 271 yX3_slotsOfEntry]
def wsX10_scanOnce_r4 : List Cond := [Cond.instanceMethod yX3_slotsOfEntry, Cond.selects RX3 yX3_slotsOfEntry yX3_slotsOfEntry, Cond.code yX3_slotsOfEntry cX3_slotsOfEntry 2 (some .int), Cond.fieldLink RX3 20 "ScanRing$Setup" "list" "LScanRing$Table;", Cond.methodLink RX10 274 yX6_book, Cond.instanceMethod yX6_book, Cond.selects RX6 yX6_book yX6_book, Cond.initialized RX6, Cond.code yX6_book cX6_book 4 none, Cond.fieldLink RX6 21 "ScanRing$State" "log" "LScanRing$Log;", Cond.fieldLink RX6 30 "ScanRing$State" "latest" "LScanRing$Table;", Cond.fieldLink RX6 81 "ScanRing$Converter" "reading" "I", Cond.fieldLink RX6 94 "ScanRing$Converter" "carry" "I", Cond.methodLink RX6 97 Lib.Math.abs.name, Cond.static Lib.Math.abs.name, Cond.code Lib.Math.abs.name Lib.Math.abs.code 1 (some .int), Cond.fieldLink RX6 102 "ScanRing$Converter" "charge" "F", Cond.fieldLink RX6 65 "ScanRing$State" "charge" "F", Cond.methodLink RX6 77 yX2_add, Cond.instanceMethod yX2_add, Cond.selects RX2 yX2_add yX2_add, Cond.initialized RX2, Cond.code yX2_add cX2_add 3 none, Cond.fieldLink RX2 14 "ScanRing$Log" "rows" "LScanRing$Table;"]
def wsX10_scanOnce_r5 : List Cond := [Cond.fieldLink RX2 24 "ScanRing$Log" "next" "I", Cond.fieldLink RX2 35 "ScanRing$Converter" "time" "I", Cond.fieldLink RX2 40 "ScanRing$Converter" "reading" "I", Cond.fieldLink RX2 43 "ScanRing$Converter" "carry" "I", Cond.fieldLink RX2 28 "ScanRing$Log" "kept" "I", Cond.methodLink RX2 50 Lib.Math.min.name, Cond.methodLink RX2 31 yX7_put, Cond.instanceMethod yX7_put, Cond.selects RX7 yX7_put yX7_put, Cond.code yX7_put cX7_put 5 none, Cond.methodLink RX2 46 yX0_error, Cond.instanceMethod yX0_error, Cond.selects RX0 yX0_error yX0_error, Cond.code yX0_error cX0_error 1 (some .int), Cond.methodLink RX6 48 yX7_put, Cond.methodLink RX6 87 yX6_slotAccountOf, Cond.static yX6_slotAccountOf, Cond.code yX6_slotAccountOf cX6_slotAccountOf 1 (some .int), Cond.methodLink RX6 91 yX6_addTo, Cond.instanceMethod yX6_addTo, Cond.selects RX6 yX6_addTo yX6_addTo, Cond.code yX6_addTo cX6_addTo 3 none, Cond.fieldLink RX6 34 "ScanRing$State" "accounts" "LScanRing$Table;", Cond.methodLink RX6 69 yX7_at]
def wsX10_scanOnce : List Cond := .code yX10_scanOnce cX10_scanOnce 2 none :: ((wsX10_scanOnce_r1 ++ (wsX10_scanOnce_r2 ++ (wsX10_scanOnce_r3 ++ (wsX10_scanOnce_r4 ++ wsX10_scanOnce_r5)))) ++ wsX100 ++ wsX60 ++ wsX30 ++ wsX70 ++ wsX00 ++ wsX20)
def wsX10_scan_r1 : List Cond := [Cond.constant RX10 68 (-10000001), Cond.fieldLink RX10 10 "ScanRing" "now" "LScanRing$State;", Cond.fieldLink RX10 73 "ScanRing$State" "setup" "LScanRing$Setup;", Cond.fieldLink RX10 109 "ScanRing$Setup" "entries" "I", Cond.constant RX10 138 (-10000002), Cond.constant RX10 116 (-10000003), Cond.fieldLink RX10 19 "ScanRing" "history" "LScanRing$History;", Cond.fieldLink RX10 142 "ScanRing$State" "accounts" "LScanRing$Table;", Cond.fieldLink RX10 33 "ScanRing" "converter" "LScanRing$Converter;", Cond.fieldLink RX10 145 "ScanRing$State" "charge" "F", Cond.methodLink RX10 90 yX10_isWithin, Cond.static yX10_isWithin, Cond.initialized RX10, Cond.code yX10_isWithin cX10_isWithin 3 (some .boolean), Cond.methodLink RX10 130 yX6_time, Cond.instanceMethod yX6_time, Cond.selects RX6 yX6_time yX6_time, Cond.initialized RX6, Cond.code yX6_time cX6_time 1 (some .int), Cond.fieldLink RX6 34 "ScanRing$State" "accounts" "LScanRing$Table;", Cond.methodLink RX6 69 yX7_at, Cond.instanceMethod yX7_at, Cond.selects RX7 yX7_at yX7_at, Cond.initialized RX7]
def wsX10_scan_r2 : List Cond := [Cond.code yX7_at cX7_at 4 (some .int), Cond.fieldLink RX7 13 "ScanRing$Table" "width" "I", Cond.fieldLink RX7 19 "ScanRing$Table" "cells" "[I", Cond.methodLink RX10 139 yX3_slotsOfScan, Cond.instanceMethod yX3_slotsOfScan, Cond.selects RX3 yX3_slotsOfScan yX3_slotsOfScan, Cond.initialized RX3, Cond.code yX3_slotsOfScan cX3_slotsOfScan 3 (some .int), Cond.fieldLink RX3 34 "ScanRing$Setup" "entries" "I", Cond.methodLink RX3 45 yX3_slotsOfEntry, Cond.instanceMethod yX3_slotsOfEntry, Cond.selects RX3 yX3_slotsOfEntry yX3_slotsOfEntry, Cond.code yX3_slotsOfEntry cX3_slotsOfEntry 2 (some .int), Cond.fieldLink RX3 20 "ScanRing$Setup" "list" "LScanRing$Table;", Cond.methodLink RX3 38 yX7_at, Cond.methodLink RX10 69 yX1_keep, Cond.instanceMethod yX1_keep, Cond.selects RX1 yX1_keep yX1_keep, Cond.initialized RX1, Cond.code yX1_keep cX1_keep 3 none, Cond.fieldLink RX1 18 "ScanRing$History" "next" "I", Cond.fieldLink RX1 30 "ScanRing$History" "kept" "I", Cond.methodLink RX1 33 Lib.Math.min.name, Cond.static Lib.Math.min.name]
def wsX10_scan_r3 : List Cond := [Cond.initialized "java/lang/Math", Cond.code Lib.Math.min.name Lib.Math.min.code 2 (some .int), Cond.methodLink RX1 22 yX1_placeAt, Cond.instanceMethod yX1_placeAt, Cond.selects RX1 yX1_placeAt yX1_placeAt, Cond.code yX1_placeAt cX1_placeAt 2 (some (.object "ScanRing$State")), Cond.fieldLink RX1 11 "ScanRing$History" "states" "[LScanRing$State;", Cond.methodLink RX1 26 yX6_copyFrom, Cond.instanceMethod yX6_copyFrom, Cond.selects RX6 yX6_copyFrom yX6_copyFrom, Cond.code yX6_copyFrom cX6_copyFrom 2 none, Cond.fieldLink RX6 12 "ScanRing$State" "setup" "LScanRing$Setup;", Cond.fieldLink RX6 21 "ScanRing$State" "log" "LScanRing$Log;", Cond.fieldLink RX6 30 "ScanRing$State" "latest" "LScanRing$Table;", Cond.fieldLink RX6 40 "ScanRing$State" "first" "LScanRing$Snapshot;", Cond.fieldLink RX6 44 "ScanRing$State" "second" "LScanRing$Snapshot;", Cond.fieldLink RX6 65 "ScanRing$State" "charge" "F", Cond.methodLink RX6 52 yX3_copyFrom, Cond.instanceMethod yX3_copyFrom, Cond.selects RX3 yX3_copyFrom yX3_copyFrom, Cond.code yX3_copyFrom cX3_copyFrom 2 none, Cond.fieldLink RX3 14 "ScanRing$Setup" "channels" "LScanRing$Table;", Cond.fieldLink RX3 23 "ScanRing$Setup" "settings" "LScanRing$Table;", Cond.methodLink RX3 30 yX7_copyFrom]
def wsX10_scan_r4 : List Cond := [Cond.instanceMethod yX7_copyFrom, Cond.selects RX7 yX7_copyFrom yX7_copyFrom, Cond.code yX7_copyFrom cX7_copyFrom 2 none, Cond.methodLink RX7 30 Lib.Math.min.name, Cond.methodLink RX7 33 arraycopyName, Cond.native arraycopyName, Cond.static arraycopyName, Cond.initialized "java/lang/System", Cond.methodLink RX6 56 yX2_copyFrom, Cond.instanceMethod yX2_copyFrom, Cond.selects RX2 yX2_copyFrom yX2_copyFrom, Cond.initialized RX2, Cond.code yX2_copyFrom cX2_copyFrom 2 none, Cond.fieldLink RX2 14 "ScanRing$Log" "rows" "LScanRing$Table;", Cond.fieldLink RX2 24 "ScanRing$Log" "next" "I", Cond.fieldLink RX2 28 "ScanRing$Log" "kept" "I", Cond.methodLink RX2 20 yX7_copyFrom, Cond.methodLink RX6 59 yX7_copyFrom, Cond.methodLink RX6 62 yX4_copyFrom, Cond.instanceMethod yX4_copyFrom, Cond.selects RX4 yX4_copyFrom yX4_copyFrom, Cond.initialized RX4, Cond.code yX4_copyFrom cX4_copyFrom 2 none, Cond.fieldLink RX4 10 "ScanRing$Snapshot" "setup" "LScanRing$Setup;"]
def wsX10_scan_r5 : List Cond := [Cond.fieldLink RX4 20 "ScanRing$Snapshot" "taken" "Z", Cond.methodLink RX4 16 yX3_copyFrom, Cond.methodLink RX10 80 yX7_at, Cond.methodLink RX10 149 yX0_start, Cond.instanceMethod yX0_start, Cond.selects RX0 yX0_start yX0_start, Cond.initialized RX0, Cond.code yX0_start cX0_start 3 none, Cond.fieldLink RX0 9 "ScanRing$Converter" "charge" "F", Cond.fieldLink RX0 15 "ScanRing$Converter" "time" "I", Cond.methodLink RX10 153 yX10_scanOnce, Cond.instanceMethod yX10_scanOnce, Cond.selects RX10 yX10_scanOnce yX10_scanOnce, Cond.code yX10_scanOnce cX10_scanOnce 2 none, Cond.fieldLink RX10 127 "ScanRing$Setup" "list" "LScanRing$Table;", Cond.methodLink RX10 267 yX0_carryOutEntry, Cond.instanceMethod yX0_carryOutEntry, Cond.selects RX0 yX0_carryOutEntry yX0_carryOutEntry, Cond.code yX0_carryOutEntry cX0_carryOutEntry 3 none, Cond.fieldLink RX0 19 "ScanRing$Setup" "list" "LScanRing$Table;", Cond.methodLink RX0 25 yX7_at, Cond.methodLink RX0 31 yX0_carryOut, Cond.instanceMethod yX0_carryOut, Cond.selects RX0 yX0_carryOut yX0_carryOut]
def wsX10_scan_r6 : List Cond := [Cond.code yX0_carryOut cX0_carryOut 7 none, Cond.fieldLink RX0 42 "ScanRing$Converter" "target" "I", Cond.fieldLink RX0 53 "ScanRing$Converter" "reading" "I", Cond.fieldLink RX0 56 "ScanRing$Converter" "carry" "I", Cond.methodLink RX0 35 yX3_resistanceAt, Cond.instanceMethod yX3_resistanceAt, Cond.selects RX3 yX3_resistanceAt yX3_resistanceAt, Cond.code yX3_resistanceAt cX3_resistanceAt 2 (some .int), Cond.methodLink RX0 39 yX3_valueAt, Cond.instanceMethod yX3_valueAt, Cond.selects RX3 yX3_valueAt yX3_valueAt, Cond.code yX3_valueAt cX3_valueAt 5 (some .int), Cond.methodLink RX3 57 Lib.Math.min.name, Cond.methodLink RX3 60 Lib.Math.max.name, Cond.static Lib.Math.max.name, Cond.code Lib.Math.max.name Lib.Math.max.code 2 (some .int), Cond.methodLink RX3 49 yX3_setting, Cond.instanceMethod yX3_setting, Cond.selects RX3 yX3_setting yX3_setting, Cond.code yX3_setting cX3_setting 2 (some .int), Cond.methodLink RX3 52 yJ9_floorDiv_7cf53, Cond.static yJ9_floorDiv_7cf53, Cond.initialized RJ9, Cond.code yJ9_floorDiv_7cf53 cJ9_floorDiv_7cf53 3 (some .int)]
def wsX10_scan_r7 : List Cond := [Cond.methodLink RX3 63 yX3_isFirstHalf, Cond.static yX3_isFirstHalf, Cond.code yX3_isFirstHalf cX3_isFirstHalf 2 (some .boolean), Cond.methodLink RX0 45 yX0_chargeBehind, Cond.static yX0_chargeBehind, Cond.code yX0_chargeBehind cX0_chargeBehind 3 (some .float), Cond.methodLink RX0 49 yX3_readingOf, Cond.instanceMethod yX3_readingOf, Cond.selects RX3 yX3_readingOf yX3_readingOf, Cond.code yX3_readingOf cX3_readingOf 2 (some .int), Cond.static yX10_readingWith, Cond.code yX10_readingWith cX10_readingWith 4 (some .int), Cond.constantFloat RX10 278 (1148846080), Cond.constantFloat RX10 279 (1056964608), Cond.methodLink RX10 280 Lib.Math.min.name, Cond.methodLink RX10 271 yX3_slotsOfEntry, Cond.methodLink RX10 274 yX6_book, Cond.instanceMethod yX6_book, Cond.selects RX6 yX6_book yX6_book, Cond.code yX6_book cX6_book 4 none, Cond.fieldLink RX6 81 "ScanRing$Converter" "reading" "I", Cond.fieldLink RX6 94 "ScanRing$Converter" "carry" "I", Cond.methodLink RX6 97 Lib.Math.abs.name, Cond.static Lib.Math.abs.name]
def wsX10_scan_r8 : List Cond := [Cond.code Lib.Math.abs.name Lib.Math.abs.code 1 (some .int), Cond.fieldLink RX6 102 "ScanRing$Converter" "charge" "F", Cond.methodLink RX6 77 yX2_add, Cond.instanceMethod yX2_add, Cond.selects RX2 yX2_add yX2_add, Cond.code yX2_add cX2_add 3 none, Cond.fieldLink RX2 35 "ScanRing$Converter" "time" "I", Cond.fieldLink RX2 40 "ScanRing$Converter" "reading" "I", Cond.fieldLink RX2 43 "ScanRing$Converter" "carry" "I", Cond.methodLink RX2 50 Lib.Math.min.name, Cond.methodLink RX2 31 yX7_put, Cond.instanceMethod yX7_put, Cond.selects RX7 yX7_put yX7_put, Cond.code yX7_put cX7_put 5 none, Cond.methodLink RX2 46 yX0_error, Cond.instanceMethod yX0_error, Cond.selects RX0 yX0_error yX0_error, Cond.code yX0_error cX0_error 1 (some .int), Cond.methodLink RX6 48 yX7_put, Cond.methodLink RX6 87 yX6_slotAccountOf, Cond.static yX6_slotAccountOf, Cond.code yX6_slotAccountOf cX6_slotAccountOf 1 (some .int), Cond.methodLink RX6 91 yX6_addTo, Cond.instanceMethod yX6_addTo]
def wsX10_scan_r9 : List Cond := [Cond.selects RX6 yX6_addTo yX6_addTo, Cond.code yX6_addTo cX6_addTo 3 none]
def wsX10_scan : List Cond := .code yX10_scan cX10_scan 4 (some .int) :: ((wsX10_scan_r1 ++ (wsX10_scan_r2 ++ (wsX10_scan_r3 ++ (wsX10_scan_r4 ++ (wsX10_scan_r5 ++ (wsX10_scan_r6 ++ (wsX10_scan_r7 ++ (wsX10_scan_r8 ++ wsX10_scan_r9)))))))) ++ wsX100 ++ wsX60 ++ wsX30 ++ wsX70 ++ wsX10 ++ wsX20 ++ wsX40 ++ wsX00)
def wsX10_pass_r1 : List Cond := [Cond.constant RX10 68 (-10000001), Cond.fieldLink RX10 10 "ScanRing" "now" "LScanRing$State;", Cond.constant RX10 116 (-10000003), Cond.fieldLink RX10 19 "ScanRing" "history" "LScanRing$History;", Cond.methodLink RX10 90 yX10_isWithin, Cond.static yX10_isWithin, Cond.initialized RX10, Cond.code yX10_isWithin cX10_isWithin 3 (some .boolean), Cond.methodLink RX10 130 yX6_time, Cond.instanceMethod yX6_time, Cond.selects RX6 yX6_time yX6_time, Cond.initialized RX6, Cond.code yX6_time cX6_time 1 (some .int), Cond.fieldLink RX6 34 "ScanRing$State" "accounts" "LScanRing$Table;", Cond.methodLink RX6 69 yX7_at, Cond.instanceMethod yX7_at, Cond.selects RX7 yX7_at yX7_at, Cond.initialized RX7, Cond.code yX7_at cX7_at 4 (some .int), Cond.fieldLink RX7 13 "ScanRing$Table" "width" "I", Cond.fieldLink RX7 19 "ScanRing$Table" "cells" "[I", Cond.methodLink RX10 69 yX1_keep, Cond.instanceMethod yX1_keep, Cond.selects RX1 yX1_keep yX1_keep]
def wsX10_pass_r2 : List Cond := [Cond.initialized RX1, Cond.code yX1_keep cX1_keep 3 none, Cond.fieldLink RX1 18 "ScanRing$History" "next" "I", Cond.fieldLink RX1 30 "ScanRing$History" "kept" "I", Cond.methodLink RX1 33 Lib.Math.min.name, Cond.static Lib.Math.min.name, Cond.initialized "java/lang/Math", Cond.code Lib.Math.min.name Lib.Math.min.code 2 (some .int), Cond.methodLink RX1 22 yX1_placeAt, Cond.instanceMethod yX1_placeAt, Cond.selects RX1 yX1_placeAt yX1_placeAt, Cond.code yX1_placeAt cX1_placeAt 2 (some (.object "ScanRing$State")), Cond.fieldLink RX1 11 "ScanRing$History" "states" "[LScanRing$State;", Cond.methodLink RX1 26 yX6_copyFrom, Cond.instanceMethod yX6_copyFrom, Cond.selects RX6 yX6_copyFrom yX6_copyFrom, Cond.code yX6_copyFrom cX6_copyFrom 2 none, Cond.fieldLink RX6 12 "ScanRing$State" "setup" "LScanRing$Setup;", Cond.fieldLink RX6 21 "ScanRing$State" "log" "LScanRing$Log;", Cond.fieldLink RX6 30 "ScanRing$State" "latest" "LScanRing$Table;", Cond.fieldLink RX6 40 "ScanRing$State" "first" "LScanRing$Snapshot;", Cond.fieldLink RX6 44 "ScanRing$State" "second" "LScanRing$Snapshot;", Cond.fieldLink RX6 65 "ScanRing$State" "charge" "F", Cond.methodLink RX6 52 yX3_copyFrom]
def wsX10_pass_r3 : List Cond := [Cond.instanceMethod yX3_copyFrom, Cond.selects RX3 yX3_copyFrom yX3_copyFrom, Cond.initialized RX3, Cond.code yX3_copyFrom cX3_copyFrom 2 none, Cond.fieldLink RX3 14 "ScanRing$Setup" "channels" "LScanRing$Table;", Cond.fieldLink RX3 20 "ScanRing$Setup" "list" "LScanRing$Table;", Cond.fieldLink RX3 23 "ScanRing$Setup" "settings" "LScanRing$Table;", Cond.fieldLink RX3 34 "ScanRing$Setup" "entries" "I", Cond.methodLink RX3 30 yX7_copyFrom, Cond.instanceMethod yX7_copyFrom, Cond.selects RX7 yX7_copyFrom yX7_copyFrom, Cond.code yX7_copyFrom cX7_copyFrom 2 none, Cond.methodLink RX7 30 Lib.Math.min.name, Cond.methodLink RX7 33 arraycopyName, Cond.native arraycopyName, Cond.static arraycopyName, Cond.initialized "java/lang/System", Cond.methodLink RX6 56 yX2_copyFrom, Cond.instanceMethod yX2_copyFrom, Cond.selects RX2 yX2_copyFrom yX2_copyFrom, Cond.initialized RX2, Cond.code yX2_copyFrom cX2_copyFrom 2 none, Cond.fieldLink RX2 14 "ScanRing$Log" "rows" "LScanRing$Table;", Cond.fieldLink RX2 24 "ScanRing$Log" "next" "I"]
def wsX10_pass_r4 : List Cond := [Cond.fieldLink RX2 28 "ScanRing$Log" "kept" "I", Cond.methodLink RX2 20 yX7_copyFrom, Cond.methodLink RX6 59 yX7_copyFrom, Cond.methodLink RX6 62 yX4_copyFrom, Cond.instanceMethod yX4_copyFrom, Cond.selects RX4 yX4_copyFrom yX4_copyFrom, Cond.initialized RX4, Cond.code yX4_copyFrom cX4_copyFrom 2 none, Cond.fieldLink RX4 10 "ScanRing$Snapshot" "setup" "LScanRing$Setup;", Cond.fieldLink RX4 20 "ScanRing$Snapshot" "taken" "Z", Cond.methodLink RX4 16 yX3_copyFrom, Cond.methodLink RX10 156 yX6_addTo, Cond.instanceMethod yX6_addTo, Cond.selects RX6 yX6_addTo yX6_addTo, Cond.code yX6_addTo cX6_addTo 3 none, Cond.methodLink RX6 48 yX7_put, Cond.instanceMethod yX7_put, Cond.selects RX7 yX7_put yX7_put, Cond.code yX7_put cX7_put 5 none]
def wsX10_pass : List Cond := .code yX10_pass cX10_pass 2 (some .int) :: ((wsX10_pass_r1 ++ (wsX10_pass_r2 ++ (wsX10_pass_r3 ++ wsX10_pass_r4))) ++ wsX100 ++ wsX60 ++ wsX70 ++ wsX10 ++ wsX30 ++ wsX20 ++ wsX40)
def wsX10_isSnapshotPlace : List Cond := .code yX10_isSnapshotPlace cX10_isSnapshotPlace 1 (some .boolean) :: ([.methodLink RX10 90 yX10_isWithin, .static yX10_isWithin, .initialized RX10, .code yX10_isWithin cX10_isWithin 3 (some .boolean)])
def wsX10_take_r1 : List Cond := [Cond.constant RX10 68 (-10000001), Cond.fieldLink RX10 19 "ScanRing" "history" "LScanRing$History;", Cond.fieldLink RX10 10 "ScanRing" "now" "LScanRing$State;", Cond.fieldLink RX10 167 "ScanRing$Snapshot" "taken" "Z", Cond.fieldLink RX10 173 "ScanRing$Snapshot" "setup" "LScanRing$Setup;", Cond.fieldLink RX10 73 "ScanRing$State" "setup" "LScanRing$Setup;", Cond.fieldLink RX10 109 "ScanRing$Setup" "entries" "I", Cond.methodLink RX10 160 yX10_isSnapshotPlace, Cond.static yX10_isSnapshotPlace, Cond.initialized RX10, Cond.code yX10_isSnapshotPlace cX10_isSnapshotPlace 1 (some .boolean), Cond.methodLink RX10 90 yX10_isWithin, Cond.static yX10_isWithin, Cond.code yX10_isWithin cX10_isWithin 3 (some .boolean), Cond.methodLink RX10 69 yX1_keep, Cond.instanceMethod yX1_keep, Cond.selects RX1 yX1_keep yX1_keep, Cond.initialized RX1, Cond.code yX1_keep cX1_keep 3 none, Cond.fieldLink RX1 18 "ScanRing$History" "next" "I", Cond.fieldLink RX1 30 "ScanRing$History" "kept" "I", Cond.methodLink RX1 33 Lib.Math.min.name, Cond.static Lib.Math.min.name, Cond.initialized "java/lang/Math"]
def wsX10_take_r2 : List Cond := [Cond.code Lib.Math.min.name Lib.Math.min.code 2 (some .int), Cond.methodLink RX1 22 yX1_placeAt, Cond.instanceMethod yX1_placeAt, Cond.selects RX1 yX1_placeAt yX1_placeAt, Cond.code yX1_placeAt cX1_placeAt 2 (some (.object "ScanRing$State")), Cond.fieldLink RX1 11 "ScanRing$History" "states" "[LScanRing$State;", Cond.methodLink RX1 26 yX6_copyFrom, Cond.instanceMethod yX6_copyFrom, Cond.selects RX6 yX6_copyFrom yX6_copyFrom, Cond.initialized RX6, Cond.code yX6_copyFrom cX6_copyFrom 2 none, Cond.fieldLink RX6 12 "ScanRing$State" "setup" "LScanRing$Setup;", Cond.fieldLink RX6 21 "ScanRing$State" "log" "LScanRing$Log;", Cond.fieldLink RX6 30 "ScanRing$State" "latest" "LScanRing$Table;", Cond.fieldLink RX6 34 "ScanRing$State" "accounts" "LScanRing$Table;", Cond.fieldLink RX6 40 "ScanRing$State" "first" "LScanRing$Snapshot;", Cond.fieldLink RX6 44 "ScanRing$State" "second" "LScanRing$Snapshot;", Cond.fieldLink RX6 65 "ScanRing$State" "charge" "F", Cond.methodLink RX6 52 yX3_copyFrom, Cond.instanceMethod yX3_copyFrom, Cond.selects RX3 yX3_copyFrom yX3_copyFrom, Cond.initialized RX3, Cond.code yX3_copyFrom cX3_copyFrom 2 none, Cond.fieldLink RX3 14 "ScanRing$Setup" "channels" "LScanRing$Table;"]
def wsX10_take_r3 : List Cond := [Cond.fieldLink RX3 20 "ScanRing$Setup" "list" "LScanRing$Table;", Cond.fieldLink RX3 23 "ScanRing$Setup" "settings" "LScanRing$Table;", Cond.fieldLink RX3 34 "ScanRing$Setup" "entries" "I", Cond.methodLink RX3 30 yX7_copyFrom, Cond.instanceMethod yX7_copyFrom, Cond.selects RX7 yX7_copyFrom yX7_copyFrom, Cond.initialized RX7, Cond.code yX7_copyFrom cX7_copyFrom 2 none, Cond.fieldLink RX7 19 "ScanRing$Table" "cells" "[I", Cond.methodLink RX7 30 Lib.Math.min.name, Cond.methodLink RX7 33 arraycopyName, Cond.native arraycopyName, Cond.static arraycopyName, Cond.initialized "java/lang/System", Cond.methodLink RX6 56 yX2_copyFrom, Cond.instanceMethod yX2_copyFrom, Cond.selects RX2 yX2_copyFrom yX2_copyFrom, Cond.initialized RX2, Cond.code yX2_copyFrom cX2_copyFrom 2 none, Cond.fieldLink RX2 14 "ScanRing$Log" "rows" "LScanRing$Table;", Cond.fieldLink RX2 24 "ScanRing$Log" "next" "I", Cond.fieldLink RX2 28 "ScanRing$Log" "kept" "I", Cond.methodLink RX2 20 yX7_copyFrom, Cond.methodLink RX6 59 yX7_copyFrom]
def wsX10_take_r4 : List Cond := [Cond.methodLink RX6 62 yX4_copyFrom, Cond.instanceMethod yX4_copyFrom, Cond.selects RX4 yX4_copyFrom yX4_copyFrom, Cond.initialized RX4, Cond.code yX4_copyFrom cX4_copyFrom 2 none, Cond.fieldLink RX4 10 "ScanRing$Snapshot" "setup" "LScanRing$Setup;", Cond.fieldLink RX4 20 "ScanRing$Snapshot" "taken" "Z", Cond.methodLink RX4 16 yX3_copyFrom, Cond.methodLink RX10 163 yX6_snapshotAt, Cond.instanceMethod yX6_snapshotAt, Cond.selects RX6 yX6_snapshotAt yX6_snapshotAt, Cond.code yX6_snapshotAt cX6_snapshotAt 2 (some (.object "ScanRing$Snapshot")), Cond.methodLink RX10 174 yX3_copyFrom]
def wsX10_take : List Cond := .code yX10_take cX10_take 3 (some .int) :: ((wsX10_take_r1 ++ (wsX10_take_r2 ++ (wsX10_take_r3 ++ wsX10_take_r4))) ++ wsX100 ++ wsX40 ++ wsX60 ++ wsX30 ++ wsX10 ++ wsX70 ++ wsX20)
def wsX10_restore_r1 : List Cond := [Cond.constant RX10 68 (-10000001), Cond.fieldLink RX10 10 "ScanRing" "now" "LScanRing$State;", Cond.fieldLink RX10 167 "ScanRing$Snapshot" "taken" "Z", Cond.constant RX10 138 (-10000002), Cond.fieldLink RX10 19 "ScanRing" "history" "LScanRing$History;", Cond.fieldLink RX10 73 "ScanRing$State" "setup" "LScanRing$Setup;", Cond.fieldLink RX10 173 "ScanRing$Snapshot" "setup" "LScanRing$Setup;", Cond.fieldLink RX10 109 "ScanRing$Setup" "entries" "I", Cond.methodLink RX10 160 yX10_isSnapshotPlace, Cond.static yX10_isSnapshotPlace, Cond.initialized RX10, Cond.code yX10_isSnapshotPlace cX10_isSnapshotPlace 1 (some .boolean), Cond.methodLink RX10 90 yX10_isWithin, Cond.static yX10_isWithin, Cond.code yX10_isWithin cX10_isWithin 3 (some .boolean), Cond.methodLink RX10 163 yX6_snapshotAt, Cond.instanceMethod yX6_snapshotAt, Cond.selects RX6 yX6_snapshotAt yX6_snapshotAt, Cond.initialized RX6, Cond.code yX6_snapshotAt cX6_snapshotAt 2 (some (.object "ScanRing$Snapshot")), Cond.fieldLink RX6 40 "ScanRing$State" "first" "LScanRing$Snapshot;", Cond.fieldLink RX6 44 "ScanRing$State" "second" "LScanRing$Snapshot;", Cond.methodLink RX10 69 yX1_keep, Cond.instanceMethod yX1_keep]
def wsX10_restore_r2 : List Cond := [Cond.selects RX1 yX1_keep yX1_keep, Cond.initialized RX1, Cond.code yX1_keep cX1_keep 3 none, Cond.fieldLink RX1 18 "ScanRing$History" "next" "I", Cond.fieldLink RX1 30 "ScanRing$History" "kept" "I", Cond.methodLink RX1 33 Lib.Math.min.name, Cond.static Lib.Math.min.name, Cond.initialized "java/lang/Math", Cond.code Lib.Math.min.name Lib.Math.min.code 2 (some .int), Cond.methodLink RX1 22 yX1_placeAt, Cond.instanceMethod yX1_placeAt, Cond.selects RX1 yX1_placeAt yX1_placeAt, Cond.code yX1_placeAt cX1_placeAt 2 (some (.object "ScanRing$State")), Cond.fieldLink RX1 11 "ScanRing$History" "states" "[LScanRing$State;", Cond.methodLink RX1 26 yX6_copyFrom, Cond.instanceMethod yX6_copyFrom, Cond.selects RX6 yX6_copyFrom yX6_copyFrom, Cond.code yX6_copyFrom cX6_copyFrom 2 none, Cond.fieldLink RX6 12 "ScanRing$State" "setup" "LScanRing$Setup;", Cond.fieldLink RX6 21 "ScanRing$State" "log" "LScanRing$Log;", Cond.fieldLink RX6 30 "ScanRing$State" "latest" "LScanRing$Table;", Cond.fieldLink RX6 34 "ScanRing$State" "accounts" "LScanRing$Table;", Cond.fieldLink RX6 65 "ScanRing$State" "charge" "F", Cond.methodLink RX6 52 yX3_copyFrom]
def wsX10_restore_r3 : List Cond := [Cond.instanceMethod yX3_copyFrom, Cond.selects RX3 yX3_copyFrom yX3_copyFrom, Cond.initialized RX3, Cond.code yX3_copyFrom cX3_copyFrom 2 none, Cond.fieldLink RX3 14 "ScanRing$Setup" "channels" "LScanRing$Table;", Cond.fieldLink RX3 20 "ScanRing$Setup" "list" "LScanRing$Table;", Cond.fieldLink RX3 23 "ScanRing$Setup" "settings" "LScanRing$Table;", Cond.fieldLink RX3 34 "ScanRing$Setup" "entries" "I", Cond.methodLink RX3 30 yX7_copyFrom, Cond.instanceMethod yX7_copyFrom, Cond.selects RX7 yX7_copyFrom yX7_copyFrom, Cond.initialized RX7, Cond.code yX7_copyFrom cX7_copyFrom 2 none, Cond.fieldLink RX7 19 "ScanRing$Table" "cells" "[I", Cond.methodLink RX7 30 Lib.Math.min.name, Cond.methodLink RX7 33 arraycopyName, Cond.native arraycopyName, Cond.static arraycopyName, Cond.initialized "java/lang/System", Cond.methodLink RX6 56 yX2_copyFrom, Cond.instanceMethod yX2_copyFrom, Cond.selects RX2 yX2_copyFrom yX2_copyFrom, Cond.initialized RX2, Cond.code yX2_copyFrom cX2_copyFrom 2 none]
def wsX10_restore_r4 : List Cond := [Cond.fieldLink RX2 14 "ScanRing$Log" "rows" "LScanRing$Table;", Cond.fieldLink RX2 24 "ScanRing$Log" "next" "I", Cond.fieldLink RX2 28 "ScanRing$Log" "kept" "I", Cond.methodLink RX2 20 yX7_copyFrom, Cond.methodLink RX6 59 yX7_copyFrom, Cond.methodLink RX6 62 yX4_copyFrom, Cond.instanceMethod yX4_copyFrom, Cond.selects RX4 yX4_copyFrom yX4_copyFrom, Cond.initialized RX4, Cond.code yX4_copyFrom cX4_copyFrom 2 none, Cond.fieldLink RX4 10 "ScanRing$Snapshot" "setup" "LScanRing$Setup;", Cond.fieldLink RX4 20 "ScanRing$Snapshot" "taken" "Z", Cond.methodLink RX4 16 yX3_copyFrom, Cond.methodLink RX10 174 yX3_copyFrom]
def wsX10_restore : List Cond := .code yX10_restore cX10_restore 3 (some .int) :: ((wsX10_restore_r1 ++ (wsX10_restore_r2 ++ (wsX10_restore_r3 ++ wsX10_restore_r4))) ++ wsX100 ++ wsX40 ++ wsX60 ++ wsX30 ++ wsX10 ++ wsX70 ++ wsX20)
def wsX10_undo_r1 : List Cond := [Cond.fieldLink RX10 19 "ScanRing" "history" "LScanRing$History;", Cond.fieldLink RX10 178 "ScanRing$History" "kept" "I", Cond.constant RX10 138 (-10000002), Cond.fieldLink RX10 10 "ScanRing" "now" "LScanRing$State;", Cond.methodLink RX10 181 yX1_bringBack, Cond.instanceMethod yX1_bringBack, Cond.selects RX1 yX1_bringBack yX1_bringBack, Cond.initialized RX1, Cond.code yX1_bringBack cX1_bringBack 4 none, Cond.fieldLink RX1 18 "ScanRing$History" "next" "I", Cond.fieldLink RX1 30 "ScanRing$History" "kept" "I", Cond.methodLink RX1 39 yJ9_floorMod_7cf53, Cond.static yJ9_floorMod_7cf53, Cond.initialized RJ9, Cond.code yJ9_floorMod_7cf53 cJ9_floorMod_7cf53 3 (some .int), Cond.methodLink RX1 22 yX1_placeAt, Cond.instanceMethod yX1_placeAt, Cond.selects RX1 yX1_placeAt yX1_placeAt, Cond.code yX1_placeAt cX1_placeAt 2 (some (.object "ScanRing$State")), Cond.fieldLink RX1 11 "ScanRing$History" "states" "[LScanRing$State;", Cond.methodLink RX1 26 yX6_copyFrom, Cond.instanceMethod yX6_copyFrom, Cond.selects RX6 yX6_copyFrom yX6_copyFrom, Cond.initialized RX6]
def wsX10_undo_r2 : List Cond := [Cond.code yX6_copyFrom cX6_copyFrom 2 none, Cond.fieldLink RX6 12 "ScanRing$State" "setup" "LScanRing$Setup;", Cond.fieldLink RX6 21 "ScanRing$State" "log" "LScanRing$Log;", Cond.fieldLink RX6 30 "ScanRing$State" "latest" "LScanRing$Table;", Cond.fieldLink RX6 34 "ScanRing$State" "accounts" "LScanRing$Table;", Cond.fieldLink RX6 40 "ScanRing$State" "first" "LScanRing$Snapshot;", Cond.fieldLink RX6 44 "ScanRing$State" "second" "LScanRing$Snapshot;", Cond.fieldLink RX6 65 "ScanRing$State" "charge" "F", Cond.methodLink RX6 52 yX3_copyFrom, Cond.instanceMethod yX3_copyFrom, Cond.selects RX3 yX3_copyFrom yX3_copyFrom, Cond.initialized RX3, Cond.code yX3_copyFrom cX3_copyFrom 2 none, Cond.fieldLink RX3 14 "ScanRing$Setup" "channels" "LScanRing$Table;", Cond.fieldLink RX3 20 "ScanRing$Setup" "list" "LScanRing$Table;", Cond.fieldLink RX3 23 "ScanRing$Setup" "settings" "LScanRing$Table;", Cond.fieldLink RX3 34 "ScanRing$Setup" "entries" "I", Cond.methodLink RX3 30 yX7_copyFrom, Cond.instanceMethod yX7_copyFrom, Cond.selects RX7 yX7_copyFrom yX7_copyFrom, Cond.initialized RX7, Cond.code yX7_copyFrom cX7_copyFrom 2 none, Cond.fieldLink RX7 19 "ScanRing$Table" "cells" "[I", Cond.methodLink RX7 30 Lib.Math.min.name]
def wsX10_undo_r3 : List Cond := [Cond.static Lib.Math.min.name, Cond.initialized "java/lang/Math", Cond.code Lib.Math.min.name Lib.Math.min.code 2 (some .int), Cond.methodLink RX7 33 arraycopyName, Cond.native arraycopyName, Cond.static arraycopyName, Cond.initialized "java/lang/System", Cond.methodLink RX6 56 yX2_copyFrom, Cond.instanceMethod yX2_copyFrom, Cond.selects RX2 yX2_copyFrom yX2_copyFrom, Cond.initialized RX2, Cond.code yX2_copyFrom cX2_copyFrom 2 none, Cond.fieldLink RX2 14 "ScanRing$Log" "rows" "LScanRing$Table;", Cond.fieldLink RX2 24 "ScanRing$Log" "next" "I", Cond.fieldLink RX2 28 "ScanRing$Log" "kept" "I", Cond.methodLink RX2 20 yX7_copyFrom, Cond.methodLink RX6 59 yX7_copyFrom, Cond.methodLink RX6 62 yX4_copyFrom, Cond.instanceMethod yX4_copyFrom, Cond.selects RX4 yX4_copyFrom yX4_copyFrom, Cond.initialized RX4, Cond.code yX4_copyFrom cX4_copyFrom 2 none, Cond.fieldLink RX4 10 "ScanRing$Snapshot" "setup" "LScanRing$Setup;", Cond.fieldLink RX4 20 "ScanRing$Snapshot" "taken" "Z"]
def wsX10_undo_r4 : List Cond := [Cond.methodLink RX4 16 yX3_copyFrom]
def wsX10_undo : List Cond := .code yX10_undo cX10_undo 1 (some .int) :: ((wsX10_undo_r1 ++ (wsX10_undo_r2 ++ (wsX10_undo_r3 ++ wsX10_undo_r4))) ++ wsX100 ++ wsX10 ++ wsX60 ++ wsX30 ++ wsX70 ++ wsX20 ++ wsX40)
def wsX10_append : List Cond := .code yX10_append cX10_append 2 (some .int) :: ([.constant RX10 68 (-10000001), .fieldLink RX10 26 "ScanRing" "text" "LScanRing$Text;", .fieldLink RX10 184 "ScanRing$Text" "length" "I", .constant RX10 116 (-10000003), .methodLink RX10 90 yX10_isWithin, .static yX10_isWithin, .initialized RX10, .code yX10_isWithin cX10_isWithin 3 (some .boolean), .methodLink RX10 187 yX8_add, .instanceMethod yX8_add, .selects RX8 yX8_add yX8_add, .initialized RX8, .code yX8_add cX8_add 2 none, .fieldLink RX8 15 "ScanRing$Text" "length" "I", .fieldLink RX8 9 "ScanRing$Text" "characters" "[C"] ++ wsX100 ++ wsX80)
def wsX10_clearText : List Cond := .code yX10_clearText cX10_clearText 2 (some .int) :: ([.fieldLink RX10 26 "ScanRing" "text" "LScanRing$Text;", .fieldLink RX10 184 "ScanRing$Text" "length" "I"] ++ wsX100 ++ wsX80)
def wsX10_load_r1 : List Cond := [Cond.fieldLink RX10 47 "ScanRing" "draft" "LScanRing$Setup;", Cond.fieldLink RX10 10 "ScanRing" "now" "LScanRing$State;", Cond.fieldLink RX10 73 "ScanRing$State" "setup" "LScanRing$Setup;", Cond.fieldLink RX10 56 "ScanRing" "reader" "LScanRing$TextReader;", Cond.constant RX10 197 (-20000000), Cond.fieldLink RX10 198 "ScanRing$TextReader" "failedAt" "I", Cond.fieldLink RX10 19 "ScanRing" "history" "LScanRing$History;", Cond.fieldLink RX10 26 "ScanRing" "text" "LScanRing$Text;", Cond.fieldLink RX10 184 "ScanRing$Text" "length" "I", Cond.methodLink RX10 174 yX3_copyFrom, Cond.instanceMethod yX3_copyFrom, Cond.selects RX3 yX3_copyFrom yX3_copyFrom, Cond.initialized RX3, Cond.code yX3_copyFrom cX3_copyFrom 2 none, Cond.fieldLink RX3 14 "ScanRing$Setup" "channels" "LScanRing$Table;", Cond.fieldLink RX3 20 "ScanRing$Setup" "list" "LScanRing$Table;", Cond.fieldLink RX3 23 "ScanRing$Setup" "settings" "LScanRing$Table;", Cond.fieldLink RX3 34 "ScanRing$Setup" "entries" "I", Cond.methodLink RX3 30 yX7_copyFrom, Cond.instanceMethod yX7_copyFrom, Cond.selects RX7 yX7_copyFrom yX7_copyFrom, Cond.initialized RX7, Cond.code yX7_copyFrom cX7_copyFrom 2 none, Cond.fieldLink RX7 19 "ScanRing$Table" "cells" "[I"]
def wsX10_load_r2 : List Cond := [Cond.methodLink RX7 30 Lib.Math.min.name, Cond.static Lib.Math.min.name, Cond.initialized "java/lang/Math", Cond.code Lib.Math.min.name Lib.Math.min.code 2 (some .int), Cond.methodLink RX7 33 arraycopyName, Cond.native arraycopyName, Cond.static arraycopyName, Cond.initialized "java/lang/System", Cond.methodLink RX10 190 yX9_readItems, Cond.instanceMethod yX9_readItems, Cond.selects RX9 yX9_readItems yX9_readItems, Cond.initialized RX9, Cond.code yX9_readItems cX9_readItems 2 (some .int), Cond.fieldLink RX9 19 "ScanRing$TextReader" "position" "I", Cond.fieldLink RX9 23 "ScanRing$TextReader" "failedAt" "I", Cond.methodLink RX9 26 yX9_hasFailed, Cond.instanceMethod yX9_hasFailed, Cond.selects RX9 yX9_hasFailed yX9_hasFailed, Cond.code yX9_hasFailed cX9_hasFailed 1 (some .boolean), Cond.methodLink RX9 30 yX9_next, Cond.instanceMethod yX9_next, Cond.selects RX9 yX9_next yX9_next, Cond.code yX9_next cX9_next 1 (some .char), Cond.fieldLink RX9 9 "ScanRing$TextReader" "text" "LScanRing$Text;"]
def wsX10_load_r3 : List Cond := [Cond.methodLink RX9 80 yX8_characterAt, Cond.instanceMethod yX8_characterAt, Cond.selects RX8 yX8_characterAt yX8_characterAt, Cond.initialized RX8, Cond.code yX8_characterAt cX8_characterAt 3 (some .char), Cond.fieldLink RX8 15 "ScanRing$Text" "length" "I", Cond.fieldLink RX8 9 "ScanRing$Text" "characters" "[C", Cond.methodLink RX9 34 yX9_readItem, Cond.instanceMethod yX9_readItem, Cond.selects RX9 yX9_readItem yX9_readItem, Cond.code yX9_readItem cX9_readItem 3 none, Cond.methodLink RX9 37 yX9_readEntry, Cond.instanceMethod yX9_readEntry, Cond.selects RX9 yX9_readEntry yX9_readEntry, Cond.code yX9_readEntry cX9_readEntry 3 none, Cond.fieldLink RX9 15 "ScanRing$TextReader" "setup" "LScanRing$Setup;", Cond.fieldLink RX9 74 "ScanRing$Setup" "entries" "I", Cond.methodLink RX9 51 yX9_failAt, Cond.instanceMethod yX9_failAt, Cond.selects RX9 yX9_failAt yX9_failAt, Cond.code yX9_failAt cX9_failAt 2 none, Cond.methodLink RX9 54 yX9_expect, Cond.instanceMethod yX9_expect, Cond.selects RX9 yX9_expect yX9_expect]
def wsX10_load_r4 : List Cond := [Cond.code yX9_expect cX9_expect 2 none, Cond.methodLink RX9 41 yX9_readNumber, Cond.instanceMethod yX9_readNumber, Cond.selects RX9 yX9_readNumber yX9_readNumber, Cond.code yX9_readNumber cX9_readNumber 7 (some .int), Cond.methodLink RX9 90 Lib.Math.min.name, Cond.methodLink RX9 86 yX9_isDigit, Cond.static yX9_isDigit, Cond.code yX9_isDigit cX9_isDigit 1 (some .boolean), Cond.static yX10_isWithin, Cond.initialized RX10, Cond.code yX10_isWithin cX10_isWithin 3 (some .boolean), Cond.methodLink RX9 77 yX3_insert, Cond.instanceMethod yX3_insert, Cond.selects RX3 yX3_insert yX3_insert, Cond.code yX3_insert cX3_insert 5 none, Cond.methodLink RX3 42 yX7_copyRow, Cond.instanceMethod yX7_copyRow, Cond.selects RX7 yX7_copyRow yX7_copyRow, Cond.code yX7_copyRow cX7_copyRow 4 none, Cond.fieldLink RX7 13 "ScanRing$Table" "width" "I", Cond.methodLink RX7 23 yX7_at, Cond.instanceMethod yX7_at, Cond.selects RX7 yX7_at yX7_at]
def wsX10_load_r5 : List Cond := [Cond.code yX7_at cX7_at 4 (some .int), Cond.methodLink RX7 26 yX7_put, Cond.instanceMethod yX7_put, Cond.selects RX7 yX7_put yX7_put, Cond.code yX7_put cX7_put 5 none, Cond.methodLink RX3 26 yX7_put, Cond.methodLink RX9 45 yX9_readSource, Cond.instanceMethod yX9_readSource, Cond.selects RX9 yX9_readSource yX9_readSource, Cond.code yX9_readSource cX9_readSource 8 none, Cond.methodLink RX9 58 yX3_putSource, Cond.instanceMethod yX3_putSource, Cond.selects RX3 yX3_putSource yX3_putSource, Cond.code yX3_putSource cX3_putSource 6 none, Cond.methodLink RX9 48 yX9_readResistance, Cond.instanceMethod yX9_readResistance, Cond.selects RX9 yX9_readResistance yX9_readResistance, Cond.code yX9_readResistance cX9_readResistance 3 none, Cond.fieldLink RX9 64 "ScanRing$Setup" "channels" "LScanRing$Table;", Cond.methodLink RX9 68 yX7_put, Cond.methodLink RX10 193 yX9_hasFailed, Cond.methodLink RX10 69 yX1_keep, Cond.instanceMethod yX1_keep, Cond.selects RX1 yX1_keep yX1_keep]
def wsX10_load_r6 : List Cond := [Cond.initialized RX1, Cond.code yX1_keep cX1_keep 3 none, Cond.fieldLink RX1 18 "ScanRing$History" "next" "I", Cond.fieldLink RX1 30 "ScanRing$History" "kept" "I", Cond.methodLink RX1 33 Lib.Math.min.name, Cond.methodLink RX1 22 yX1_placeAt, Cond.instanceMethod yX1_placeAt, Cond.selects RX1 yX1_placeAt yX1_placeAt, Cond.code yX1_placeAt cX1_placeAt 2 (some (.object "ScanRing$State")), Cond.fieldLink RX1 11 "ScanRing$History" "states" "[LScanRing$State;", Cond.methodLink RX1 26 yX6_copyFrom, Cond.instanceMethod yX6_copyFrom, Cond.selects RX6 yX6_copyFrom yX6_copyFrom, Cond.initialized RX6, Cond.code yX6_copyFrom cX6_copyFrom 2 none, Cond.fieldLink RX6 12 "ScanRing$State" "setup" "LScanRing$Setup;", Cond.fieldLink RX6 21 "ScanRing$State" "log" "LScanRing$Log;", Cond.fieldLink RX6 30 "ScanRing$State" "latest" "LScanRing$Table;", Cond.fieldLink RX6 34 "ScanRing$State" "accounts" "LScanRing$Table;", Cond.fieldLink RX6 40 "ScanRing$State" "first" "LScanRing$Snapshot;", Cond.fieldLink RX6 44 "ScanRing$State" "second" "LScanRing$Snapshot;", Cond.fieldLink RX6 65 "ScanRing$State" "charge" "F", Cond.methodLink RX6 52 yX3_copyFrom, Cond.methodLink RX6 56 yX2_copyFrom]
def wsX10_load_r7 : List Cond := [Cond.instanceMethod yX2_copyFrom, Cond.selects RX2 yX2_copyFrom yX2_copyFrom, Cond.initialized RX2, Cond.code yX2_copyFrom cX2_copyFrom 2 none, Cond.fieldLink RX2 14 "ScanRing$Log" "rows" "LScanRing$Table;", Cond.fieldLink RX2 24 "ScanRing$Log" "next" "I", Cond.fieldLink RX2 28 "ScanRing$Log" "kept" "I", Cond.methodLink RX2 20 yX7_copyFrom, Cond.methodLink RX6 59 yX7_copyFrom, Cond.methodLink RX6 62 yX4_copyFrom, Cond.instanceMethod yX4_copyFrom, Cond.selects RX4 yX4_copyFrom yX4_copyFrom, Cond.initialized RX4, Cond.code yX4_copyFrom cX4_copyFrom 2 none, Cond.fieldLink RX4 10 "ScanRing$Snapshot" "setup" "LScanRing$Setup;", Cond.fieldLink RX4 20 "ScanRing$Snapshot" "taken" "Z", Cond.methodLink RX4 16 yX3_copyFrom]
def wsX10_load : List Cond := .code yX10_load cX10_load 2 (some .int) :: ((wsX10_load_r1 ++ (wsX10_load_r2 ++ (wsX10_load_r3 ++ (wsX10_load_r4 ++ (wsX10_load_r5 ++ (wsX10_load_r6 ++ wsX10_load_r7)))))) ++ wsX100 ++ wsX60 ++ wsX90 ++ wsX80 ++ wsX30 ++ wsX70 ++ wsX10 ++ wsX20 ++ wsX40)
def wsX10_count_r1 : List Cond := [Cond.fieldLink RX10 10 "ScanRing" "now" "LScanRing$State;", Cond.fieldLink RX10 73 "ScanRing$State" "setup" "LScanRing$Setup;", Cond.fieldLink RX10 109 "ScanRing$Setup" "entries" "I", Cond.fieldLink RX10 201 "ScanRing$State" "log" "LScanRing$Log;", Cond.fieldLink RX10 205 "ScanRing$Log" "kept" "I", Cond.fieldLink RX10 19 "ScanRing" "history" "LScanRing$History;", Cond.fieldLink RX10 178 "ScanRing$History" "kept" "I", Cond.fieldLink RX10 26 "ScanRing" "text" "LScanRing$Text;", Cond.fieldLink RX10 184 "ScanRing$Text" "length" "I", Cond.constant RX10 68 (-10000001), Cond.methodLink RX10 130 yX6_time, Cond.instanceMethod yX6_time, Cond.selects RX6 yX6_time yX6_time, Cond.initialized RX6, Cond.code yX6_time cX6_time 1 (some .int), Cond.fieldLink RX6 34 "ScanRing$State" "accounts" "LScanRing$Table;", Cond.methodLink RX6 69 yX7_at, Cond.instanceMethod yX7_at, Cond.selects RX7 yX7_at yX7_at, Cond.initialized RX7, Cond.code yX7_at cX7_at 4 (some .int), Cond.fieldLink RX7 13 "ScanRing$Table" "width" "I", Cond.fieldLink RX7 19 "ScanRing$Table" "cells" "[I", Cond.methodLink RX10 102 yX3_setting]
def wsX10_count_r2 : List Cond := [Cond.instanceMethod yX3_setting, Cond.selects RX3 yX3_setting yX3_setting, Cond.initialized RX3, Cond.code yX3_setting cX3_setting 2 (some .int), Cond.fieldLink RX3 23 "ScanRing$Setup" "settings" "LScanRing$Table;", Cond.methodLink RX3 38 yX7_at, Cond.methodLink RX10 208 yX6_snapshotsTaken, Cond.instanceMethod yX6_snapshotsTaken, Cond.selects RX6 yX6_snapshotsTaken yX6_snapshotsTaken, Cond.code yX6_snapshotsTaken cX6_snapshotsTaken 1 (some .int), Cond.fieldLink RX6 40 "ScanRing$State" "first" "LScanRing$Snapshot;", Cond.fieldLink RX6 73 "ScanRing$Snapshot" "taken" "Z", Cond.fieldLink RX6 44 "ScanRing$State" "second" "LScanRing$Snapshot;", Cond.methodLink RX10 139 yX3_slotsOfScan, Cond.instanceMethod yX3_slotsOfScan, Cond.selects RX3 yX3_slotsOfScan yX3_slotsOfScan, Cond.code yX3_slotsOfScan cX3_slotsOfScan 3 (some .int), Cond.fieldLink RX3 34 "ScanRing$Setup" "entries" "I", Cond.methodLink RX3 45 yX3_slotsOfEntry, Cond.instanceMethod yX3_slotsOfEntry, Cond.selects RX3 yX3_slotsOfEntry yX3_slotsOfEntry, Cond.code yX3_slotsOfEntry cX3_slotsOfEntry 2 (some .int), Cond.fieldLink RX3 20 "ScanRing$Setup" "list" "LScanRing$Table;", Cond.methodLink RX10 211 yX3_sourcesOf]
def wsX10_count_r3 : List Cond := [Cond.instanceMethod yX3_sourcesOf, Cond.selects RX3 yX3_sourcesOf yX3_sourcesOf, Cond.code yX3_sourcesOf cX3_sourcesOf 4 (some .int), Cond.fieldLink RX3 14 "ScanRing$Setup" "channels" "LScanRing$Table;"]
def wsX10_count : List Cond := .code yX10_count cX10_count 2 (some .int) :: ((wsX10_count_r1 ++ (wsX10_count_r2 ++ wsX10_count_r3)) ++ wsX100 ++ wsX60 ++ wsX30 ++ wsX20 ++ wsX10 ++ wsX80 ++ wsX70 ++ wsX40)
def wsX10_channel_r1 : List Cond := [Cond.constant RX10 68 (-10000001), Cond.fieldLink RX10 10 "ScanRing" "now" "LScanRing$State;", Cond.fieldLink RX10 214 "ScanRing$State" "latest" "LScanRing$Table;", Cond.fieldLink RX10 73 "ScanRing$State" "setup" "LScanRing$Setup;", Cond.fieldLink RX10 76 "ScanRing$Setup" "channels" "LScanRing$Table;", Cond.methodLink RX10 60 yX10_isChannel, Cond.static yX10_isChannel, Cond.initialized RX10, Cond.code yX10_isChannel cX10_isChannel 1 (some .boolean), Cond.methodLink RX10 90 yX10_isWithin, Cond.static yX10_isWithin, Cond.code yX10_isWithin cX10_isWithin 3 (some .boolean), Cond.methodLink RX10 80 yX7_at, Cond.instanceMethod yX7_at, Cond.selects RX7 yX7_at yX7_at, Cond.initialized RX7, Cond.code yX7_at cX7_at 4 (some .int), Cond.fieldLink RX7 13 "ScanRing$Table" "width" "I", Cond.fieldLink RX7 19 "ScanRing$Table" "cells" "[I", Cond.methodLink RX10 217 yX6_correctedReading, Cond.instanceMethod yX6_correctedReading, Cond.selects RX6 yX6_correctedReading yX6_correctedReading, Cond.initialized RX6, Cond.code yX6_correctedReading cX6_correctedReading 5 (some .int)]
def wsX10_channel_r2 : List Cond := [Cond.fieldLink RX6 30 "ScanRing$State" "latest" "LScanRing$Table;", Cond.constant RX6 47 (-10000009), Cond.fieldLink RX6 12 "ScanRing$State" "setup" "LScanRing$Setup;", Cond.methodLink RX6 69 yX7_at, Cond.methodLink RX6 103 yX3_setting, Cond.instanceMethod yX3_setting, Cond.selects RX3 yX3_setting yX3_setting, Cond.initialized RX3, Cond.code yX3_setting cX3_setting 2 (some .int), Cond.fieldLink RX3 23 "ScanRing$Setup" "settings" "LScanRing$Table;", Cond.methodLink RX3 38 yX7_at, Cond.methodLink RX6 106 yJ9_floorDiv_7cf53, Cond.static yJ9_floorDiv_7cf53, Cond.initialized RJ9, Cond.code yJ9_floorDiv_7cf53 cJ9_floorDiv_7cf53 3 (some .int), Cond.methodLink RX10 220 yX3_entriesOf, Cond.instanceMethod yX3_entriesOf, Cond.selects RX3 yX3_entriesOf yX3_entriesOf, Cond.code yX3_entriesOf cX3_entriesOf 4 (some .int), Cond.fieldLink RX3 34 "ScanRing$Setup" "entries" "I", Cond.fieldLink RX3 20 "ScanRing$Setup" "list" "LScanRing$Table;"]
def wsX10_channel : List Cond := .code yX10_channel cX10_channel 3 (some .int) :: ((wsX10_channel_r1 ++ wsX10_channel_r2) ++ wsX100 ++ wsX60 ++ wsX30 ++ wsX70)
def wsX10_entry : List Cond := .code yX10_entry cX10_entry 3 (some .int) :: ([.constant RX10 68 (-10000001), .fieldLink RX10 10 "ScanRing" "now" "LScanRing$State;", .fieldLink RX10 73 "ScanRing$State" "setup" "LScanRing$Setup;", .fieldLink RX10 127 "ScanRing$Setup" "list" "LScanRing$Table;", .constant RX10 223 (-10000009), .methodLink RX10 90 yX10_isWithin, .static yX10_isWithin, .initialized RX10, .code yX10_isWithin cX10_isWithin 3 (some .boolean), .methodLink RX10 120 yX10_isEntry, .instanceMethod yX10_isEntry, .selects RX10 yX10_isEntry yX10_isEntry, .code yX10_isEntry cX10_isEntry 2 (some .boolean), .fieldLink RX10 109 "ScanRing$Setup" "entries" "I", .methodLink RX10 80 yX7_at, .instanceMethod yX7_at, .selects RX7 yX7_at yX7_at, .initialized RX7, .code yX7_at cX7_at 4 (some .int), .fieldLink RX7 13 "ScanRing$Table" "width" "I", .fieldLink RX7 19 "ScanRing$Table" "cells" "[I"] ++ wsX100 ++ wsX60 ++ wsX30 ++ wsX70)
def wsX10_value_r1 : List Cond := [Cond.constant RX10 68 (-10000001), Cond.fieldLink RX10 10 "ScanRing" "now" "LScanRing$State;", Cond.fieldLink RX10 73 "ScanRing$State" "setup" "LScanRing$Setup;", Cond.methodLink RX10 60 yX10_isChannel, Cond.static yX10_isChannel, Cond.initialized RX10, Cond.code yX10_isChannel cX10_isChannel 1 (some .boolean), Cond.methodLink RX10 90 yX10_isWithin, Cond.static yX10_isWithin, Cond.code yX10_isWithin cX10_isWithin 3 (some .boolean), Cond.methodLink RX10 224 yX3_valueAt, Cond.instanceMethod yX3_valueAt, Cond.selects RX3 yX3_valueAt yX3_valueAt, Cond.initialized RX3, Cond.code yX3_valueAt cX3_valueAt 5 (some .int), Cond.fieldLink RX3 14 "ScanRing$Setup" "channels" "LScanRing$Table;", Cond.methodLink RX3 57 Lib.Math.min.name, Cond.static Lib.Math.min.name, Cond.initialized "java/lang/Math", Cond.code Lib.Math.min.name Lib.Math.min.code 2 (some .int), Cond.methodLink RX3 60 Lib.Math.max.name, Cond.static Lib.Math.max.name, Cond.code Lib.Math.max.name Lib.Math.max.code 2 (some .int), Cond.methodLink RX3 49 yX3_setting]
def wsX10_value_r2 : List Cond := [Cond.instanceMethod yX3_setting, Cond.selects RX3 yX3_setting yX3_setting, Cond.code yX3_setting cX3_setting 2 (some .int), Cond.fieldLink RX3 23 "ScanRing$Setup" "settings" "LScanRing$Table;", Cond.methodLink RX3 38 yX7_at, Cond.instanceMethod yX7_at, Cond.selects RX7 yX7_at yX7_at, Cond.initialized RX7, Cond.code yX7_at cX7_at 4 (some .int), Cond.fieldLink RX7 13 "ScanRing$Table" "width" "I", Cond.fieldLink RX7 19 "ScanRing$Table" "cells" "[I", Cond.methodLink RX3 52 yJ9_floorDiv_7cf53, Cond.static yJ9_floorDiv_7cf53, Cond.initialized RJ9, Cond.code yJ9_floorDiv_7cf53 cJ9_floorDiv_7cf53 3 (some .int), Cond.methodLink RX3 63 yX3_isFirstHalf, Cond.static yX3_isFirstHalf, Cond.code yX3_isFirstHalf cX3_isFirstHalf 2 (some .boolean)]
def wsX10_value : List Cond := .code yX10_value cX10_value 3 (some .int) :: ((wsX10_value_r1 ++ wsX10_value_r2) ++ wsX100 ++ wsX60 ++ wsX30 ++ wsX70)
def wsX10_sample_r1 : List Cond := [Cond.constant RX10 68 (-10000001), Cond.fieldLink RX10 10 "ScanRing" "now" "LScanRing$State;", Cond.fieldLink RX10 201 "ScanRing$State" "log" "LScanRing$Log;", Cond.fieldLink RX10 205 "ScanRing$Log" "kept" "I", Cond.constant RX10 223 (-10000009), Cond.methodLink RX10 90 yX10_isWithin, Cond.static yX10_isWithin, Cond.initialized RX10, Cond.code yX10_isWithin cX10_isWithin 3 (some .boolean), Cond.methodLink RX10 227 yX2_part, Cond.instanceMethod yX2_part, Cond.selects RX2 yX2_part yX2_part, Cond.initialized RX2, Cond.code yX2_part cX2_part 3 (some .int), Cond.fieldLink RX2 14 "ScanRing$Log" "rows" "LScanRing$Table;", Cond.fieldLink RX2 24 "ScanRing$Log" "next" "I", Cond.methodLink RX2 56 yJ9_floorMod_7cf53, Cond.static yJ9_floorMod_7cf53, Cond.initialized RJ9, Cond.code yJ9_floorMod_7cf53 cJ9_floorMod_7cf53 3 (some .int), Cond.methodLink RX2 59 yX7_at, Cond.instanceMethod yX7_at, Cond.selects RX7 yX7_at yX7_at, Cond.initialized RX7]
def wsX10_sample_r2 : List Cond := [Cond.code yX7_at cX7_at 4 (some .int), Cond.fieldLink RX7 13 "ScanRing$Table" "width" "I", Cond.fieldLink RX7 19 "ScanRing$Table" "cells" "[I"]
def wsX10_sample : List Cond := .code yX10_sample cX10_sample 3 (some .int) :: ((wsX10_sample_r1 ++ wsX10_sample_r2) ++ wsX100 ++ wsX60 ++ wsX20 ++ wsX70)
def wsX10_account : List Cond := .code yX10_account cX10_account 2 (some .int) :: ([.fieldLink RX10 10 "ScanRing" "now" "LScanRing$State;", .fieldLink RX10 142 "ScanRing$State" "accounts" "LScanRing$Table;", .constant RX10 68 (-10000001), .methodLink RX10 130 yX6_time, .instanceMethod yX6_time, .selects RX6 yX6_time yX6_time, .initialized RX6, .code yX6_time cX6_time 1 (some .int), .fieldLink RX6 34 "ScanRing$State" "accounts" "LScanRing$Table;", .methodLink RX6 69 yX7_at, .instanceMethod yX7_at, .selects RX7 yX7_at yX7_at, .initialized RX7, .code yX7_at cX7_at 4 (some .int), .fieldLink RX7 13 "ScanRing$Table" "width" "I", .fieldLink RX7 19 "ScanRing$Table" "cells" "[I", .methodLink RX10 90 yX10_isWithin, .static yX10_isWithin, .initialized RX10, .code yX10_isWithin cX10_isWithin 3 (some .boolean), .methodLink RX10 80 yX7_at] ++ wsX100 ++ wsX60 ++ wsX70)
def wsX10_held_r1 : List Cond := [Cond.fieldLink RX10 10 "ScanRing" "now" "LScanRing$State;", Cond.fieldLink RX10 145 "ScanRing$State" "charge" "F", Cond.fieldLink RX10 73 "ScanRing$State" "setup" "LScanRing$Setup;", Cond.constantFloat RX10 234 (1132462080), Cond.constant RX10 68 (-10000001), Cond.methodLink RX10 230 yX3_readingOf, Cond.instanceMethod yX3_readingOf, Cond.selects RX3 yX3_readingOf yX3_readingOf, Cond.initialized RX3, Cond.code yX3_readingOf cX3_readingOf 2 (some .int), Cond.methodLink RX3 49 yX3_setting, Cond.instanceMethod yX3_setting, Cond.selects RX3 yX3_setting yX3_setting, Cond.code yX3_setting cX3_setting 2 (some .int), Cond.fieldLink RX3 23 "ScanRing$Setup" "settings" "LScanRing$Table;", Cond.methodLink RX3 38 yX7_at, Cond.instanceMethod yX7_at, Cond.selects RX7 yX7_at yX7_at, Cond.initialized RX7, Cond.code yX7_at cX7_at 4 (some .int), Cond.fieldLink RX7 13 "ScanRing$Table" "width" "I", Cond.fieldLink RX7 19 "ScanRing$Table" "cells" "[I", Cond.static yX10_readingWith, Cond.initialized RX10]
def wsX10_held_r2 : List Cond := [Cond.code yX10_readingWith cX10_readingWith 4 (some .int), Cond.constantFloat RX10 278 (1148846080), Cond.constantFloat RX10 279 (1056964608), Cond.methodLink RX10 280 Lib.Math.min.name, Cond.static Lib.Math.min.name, Cond.initialized "java/lang/Math", Cond.code Lib.Math.min.name Lib.Math.min.code 2 (some .int)]
def wsX10_held : List Cond := .code yX10_held cX10_held 2 (some .int) :: ((wsX10_held_r1 ++ wsX10_held_r2) ++ wsX100 ++ wsX60 ++ wsX30 ++ wsX70)
def wsX10_tryEntries_r1 : List Cond := [Cond.fieldLink RX10 33 "ScanRing" "converter" "LScanRing$Converter;", Cond.fieldLink RX10 10 "ScanRing" "now" "LScanRing$State;", Cond.fieldLink RX10 145 "ScanRing$State" "charge" "F", Cond.fieldLink RX10 242 "ScanRing$Converter" "carry" "I", Cond.methodLink RX10 262 Lib.Math.abs.name, Cond.static Lib.Math.abs.name, Cond.initialized "java/lang/Math", Cond.code Lib.Math.abs.name Lib.Math.abs.code 1 (some .int), Cond.methodLink RX10 130 yX6_time, Cond.instanceMethod yX6_time, Cond.selects RX6 yX6_time yX6_time, Cond.initialized RX6, Cond.code yX6_time cX6_time 1 (some .int), Cond.fieldLink RX6 34 "ScanRing$State" "accounts" "LScanRing$Table;", Cond.methodLink RX6 69 yX7_at, Cond.instanceMethod yX7_at, Cond.selects RX7 yX7_at yX7_at, Cond.initialized RX7, Cond.code yX7_at cX7_at 4 (some .int), Cond.fieldLink RX7 13 "ScanRing$Table" "width" "I", Cond.fieldLink RX7 19 "ScanRing$Table" "cells" "[I", Cond.methodLink RX10 149 yX0_start, Cond.instanceMethod yX0_start, Cond.selects RX0 yX0_start yX0_start]
def wsX10_tryEntries_r2 : List Cond := [Cond.initialized RX0, Cond.code yX0_start cX0_start 3 none, Cond.fieldLink RX0 9 "ScanRing$Converter" "charge" "F", Cond.fieldLink RX0 15 "ScanRing$Converter" "time" "I", Cond.methodLink RX10 267 yX0_carryOutEntry, Cond.instanceMethod yX0_carryOutEntry, Cond.selects RX0 yX0_carryOutEntry yX0_carryOutEntry, Cond.code yX0_carryOutEntry cX0_carryOutEntry 3 none, Cond.fieldLink RX0 19 "ScanRing$Setup" "list" "LScanRing$Table;", Cond.methodLink RX0 25 yX7_at, Cond.methodLink RX0 31 yX0_carryOut, Cond.instanceMethod yX0_carryOut, Cond.selects RX0 yX0_carryOut yX0_carryOut, Cond.code yX0_carryOut cX0_carryOut 7 none, Cond.fieldLink RX0 42 "ScanRing$Converter" "target" "I", Cond.fieldLink RX0 53 "ScanRing$Converter" "reading" "I", Cond.fieldLink RX0 56 "ScanRing$Converter" "carry" "I", Cond.methodLink RX0 35 yX3_resistanceAt, Cond.instanceMethod yX3_resistanceAt, Cond.selects RX3 yX3_resistanceAt yX3_resistanceAt, Cond.initialized RX3, Cond.code yX3_resistanceAt cX3_resistanceAt 2 (some .int), Cond.fieldLink RX3 14 "ScanRing$Setup" "channels" "LScanRing$Table;", Cond.methodLink RX3 38 yX7_at]
def wsX10_tryEntries_r3 : List Cond := [Cond.methodLink RX0 39 yX3_valueAt, Cond.instanceMethod yX3_valueAt, Cond.selects RX3 yX3_valueAt yX3_valueAt, Cond.code yX3_valueAt cX3_valueAt 5 (some .int), Cond.methodLink RX3 57 Lib.Math.min.name, Cond.static Lib.Math.min.name, Cond.code Lib.Math.min.name Lib.Math.min.code 2 (some .int), Cond.methodLink RX3 60 Lib.Math.max.name, Cond.static Lib.Math.max.name, Cond.code Lib.Math.max.name Lib.Math.max.code 2 (some .int), Cond.methodLink RX3 49 yX3_setting, Cond.instanceMethod yX3_setting, Cond.selects RX3 yX3_setting yX3_setting, Cond.code yX3_setting cX3_setting 2 (some .int), Cond.fieldLink RX3 23 "ScanRing$Setup" "settings" "LScanRing$Table;", Cond.methodLink RX3 52 yJ9_floorDiv_7cf53, Cond.static yJ9_floorDiv_7cf53, Cond.initialized RJ9, Cond.code yJ9_floorDiv_7cf53 cJ9_floorDiv_7cf53 3 (some .int), Cond.methodLink RX3 63 yX3_isFirstHalf, Cond.static yX3_isFirstHalf, Cond.code yX3_isFirstHalf cX3_isFirstHalf 2 (some .boolean), Cond.methodLink RX0 45 yX0_chargeBehind, Cond.static yX0_chargeBehind]
def wsX10_tryEntries_r4 : List Cond := [Cond.code yX0_chargeBehind cX0_chargeBehind 3 (some .float), Cond.methodLink RX0 49 yX3_readingOf, Cond.instanceMethod yX3_readingOf, Cond.selects RX3 yX3_readingOf yX3_readingOf, Cond.code yX3_readingOf cX3_readingOf 2 (some .int), Cond.static yX10_readingWith, Cond.initialized RX10, Cond.code yX10_readingWith cX10_readingWith 4 (some .int), Cond.constantFloat RX10 278 (1148846080), Cond.constantFloat RX10 279 (1056964608), Cond.methodLink RX10 280 Lib.Math.min.name]
def wsX10_tryEntries : List Cond := .code yX10_tryEntries cX10_tryEntries 5 (some .int) :: ((wsX10_tryEntries_r1 ++ (wsX10_tryEntries_r2 ++ (wsX10_tryEntries_r3 ++ wsX10_tryEntries_r4))) ++ wsX100 ++ wsX60 ++ wsX00 ++ wsX70 ++ wsX30)
def wsX10_would_r1 : List Cond := [Cond.constant RX10 68 (-10000001), Cond.fieldLink RX10 10 "ScanRing" "now" "LScanRing$State;", Cond.fieldLink RX10 73 "ScanRing$State" "setup" "LScanRing$Setup;", Cond.fieldLink RX10 33 "ScanRing" "converter" "LScanRing$Converter;", Cond.fieldLink RX10 239 "ScanRing$Converter" "reading" "I", Cond.fieldLink RX10 242 "ScanRing$Converter" "carry" "I", Cond.methodLink RX10 120 yX10_isEntry, Cond.instanceMethod yX10_isEntry, Cond.selects RX10 yX10_isEntry yX10_isEntry, Cond.initialized RX10, Cond.code yX10_isEntry cX10_isEntry 2 (some .boolean), Cond.fieldLink RX10 109 "ScanRing$Setup" "entries" "I", Cond.methodLink RX10 90 yX10_isWithin, Cond.static yX10_isWithin, Cond.code yX10_isWithin cX10_isWithin 3 (some .boolean), Cond.methodLink RX10 235 yX10_tryEntries, Cond.instanceMethod yX10_tryEntries, Cond.selects RX10 yX10_tryEntries yX10_tryEntries, Cond.code yX10_tryEntries cX10_tryEntries 5 (some .int), Cond.fieldLink RX10 145 "ScanRing$State" "charge" "F", Cond.methodLink RX10 262 Lib.Math.abs.name, Cond.static Lib.Math.abs.name, Cond.initialized "java/lang/Math", Cond.code Lib.Math.abs.name Lib.Math.abs.code 1 (some .int)]
def wsX10_would_r2 : List Cond := [Cond.methodLink RX10 130 yX6_time, Cond.instanceMethod yX6_time, Cond.selects RX6 yX6_time yX6_time, Cond.initialized RX6, Cond.code yX6_time cX6_time 1 (some .int), Cond.fieldLink RX6 34 "ScanRing$State" "accounts" "LScanRing$Table;", Cond.methodLink RX6 69 yX7_at, Cond.instanceMethod yX7_at, Cond.selects RX7 yX7_at yX7_at, Cond.initialized RX7, Cond.code yX7_at cX7_at 4 (some .int), Cond.fieldLink RX7 13 "ScanRing$Table" "width" "I", Cond.fieldLink RX7 19 "ScanRing$Table" "cells" "[I", Cond.methodLink RX10 149 yX0_start, Cond.instanceMethod yX0_start, Cond.selects RX0 yX0_start yX0_start, Cond.initialized RX0, Cond.code yX0_start cX0_start 3 none, Cond.fieldLink RX0 9 "ScanRing$Converter" "charge" "F", Cond.fieldLink RX0 15 "ScanRing$Converter" "time" "I", Cond.methodLink RX10 267 yX0_carryOutEntry, Cond.instanceMethod yX0_carryOutEntry, Cond.selects RX0 yX0_carryOutEntry yX0_carryOutEntry, Cond.code yX0_carryOutEntry cX0_carryOutEntry 3 none]
def wsX10_would_r3 : List Cond := [Cond.fieldLink RX0 19 "ScanRing$Setup" "list" "LScanRing$Table;", Cond.methodLink RX0 25 yX7_at, Cond.methodLink RX0 31 yX0_carryOut, Cond.instanceMethod yX0_carryOut, Cond.selects RX0 yX0_carryOut yX0_carryOut, Cond.code yX0_carryOut cX0_carryOut 7 none, Cond.fieldLink RX0 42 "ScanRing$Converter" "target" "I", Cond.fieldLink RX0 53 "ScanRing$Converter" "reading" "I", Cond.fieldLink RX0 56 "ScanRing$Converter" "carry" "I", Cond.methodLink RX0 35 yX3_resistanceAt, Cond.instanceMethod yX3_resistanceAt, Cond.selects RX3 yX3_resistanceAt yX3_resistanceAt, Cond.initialized RX3, Cond.code yX3_resistanceAt cX3_resistanceAt 2 (some .int), Cond.fieldLink RX3 14 "ScanRing$Setup" "channels" "LScanRing$Table;", Cond.methodLink RX3 38 yX7_at, Cond.methodLink RX0 39 yX3_valueAt, Cond.instanceMethod yX3_valueAt, Cond.selects RX3 yX3_valueAt yX3_valueAt, Cond.code yX3_valueAt cX3_valueAt 5 (some .int), Cond.methodLink RX3 57 Lib.Math.min.name, Cond.static Lib.Math.min.name, Cond.code Lib.Math.min.name Lib.Math.min.code 2 (some .int), Cond.methodLink RX3 60 Lib.Math.max.name]
def wsX10_would_r4 : List Cond := [Cond.static Lib.Math.max.name, Cond.code Lib.Math.max.name Lib.Math.max.code 2 (some .int), Cond.methodLink RX3 49 yX3_setting, Cond.instanceMethod yX3_setting, Cond.selects RX3 yX3_setting yX3_setting, Cond.code yX3_setting cX3_setting 2 (some .int), Cond.fieldLink RX3 23 "ScanRing$Setup" "settings" "LScanRing$Table;", Cond.methodLink RX3 52 yJ9_floorDiv_7cf53, Cond.static yJ9_floorDiv_7cf53, Cond.initialized RJ9, Cond.code yJ9_floorDiv_7cf53 cJ9_floorDiv_7cf53 3 (some .int), Cond.methodLink RX3 63 yX3_isFirstHalf, Cond.static yX3_isFirstHalf, Cond.code yX3_isFirstHalf cX3_isFirstHalf 2 (some .boolean), Cond.methodLink RX0 45 yX0_chargeBehind, Cond.static yX0_chargeBehind, Cond.code yX0_chargeBehind cX0_chargeBehind 3 (some .float), Cond.methodLink RX0 49 yX3_readingOf, Cond.instanceMethod yX3_readingOf, Cond.selects RX3 yX3_readingOf yX3_readingOf, Cond.code yX3_readingOf cX3_readingOf 2 (some .int), Cond.static yX10_readingWith, Cond.code yX10_readingWith cX10_readingWith 4 (some .int), Cond.constantFloat RX10 278 (1148846080)]
def wsX10_would_r5 : List Cond := [Cond.constantFloat RX10 279 (1056964608), Cond.methodLink RX10 280 Lib.Math.min.name, Cond.methodLink RX10 245 yX0_error, Cond.instanceMethod yX0_error, Cond.selects RX0 yX0_error yX0_error, Cond.code yX0_error cX0_error 1 (some .int)]
def wsX10_would : List Cond := .code yX10_would cX10_would 3 (some .int) :: ((wsX10_would_r1 ++ (wsX10_would_r2 ++ (wsX10_would_r3 ++ (wsX10_would_r4 ++ wsX10_would_r5)))) ++ wsX100 ++ wsX60 ++ wsX00 ++ wsX30 ++ wsX70)
def wsX10_why_r1 : List Cond := [Cond.constant RX10 68 (-10000001), Cond.fieldLink RX10 10 "ScanRing" "now" "LScanRing$State;", Cond.fieldLink RX10 73 "ScanRing$State" "setup" "LScanRing$Setup;", Cond.fieldLink RX10 33 "ScanRing" "converter" "LScanRing$Converter;", Cond.fieldLink RX10 242 "ScanRing$Converter" "carry" "I", Cond.fieldLink RX10 248 "ScanRing$Converter" "charge" "F", Cond.fieldLink RX10 253 "ScanRing$Converter" "target" "I", Cond.methodLink RX10 120 yX10_isEntry, Cond.instanceMethod yX10_isEntry, Cond.selects RX10 yX10_isEntry yX10_isEntry, Cond.initialized RX10, Cond.code yX10_isEntry cX10_isEntry 2 (some .boolean), Cond.fieldLink RX10 109 "ScanRing$Setup" "entries" "I", Cond.methodLink RX10 90 yX10_isWithin, Cond.static yX10_isWithin, Cond.code yX10_isWithin cX10_isWithin 3 (some .boolean), Cond.methodLink RX10 235 yX10_tryEntries, Cond.instanceMethod yX10_tryEntries, Cond.selects RX10 yX10_tryEntries yX10_tryEntries, Cond.code yX10_tryEntries cX10_tryEntries 5 (some .int), Cond.fieldLink RX10 145 "ScanRing$State" "charge" "F", Cond.methodLink RX10 262 Lib.Math.abs.name, Cond.static Lib.Math.abs.name, Cond.initialized "java/lang/Math"]
def wsX10_why_r2 : List Cond := [Cond.code Lib.Math.abs.name Lib.Math.abs.code 1 (some .int), Cond.methodLink RX10 130 yX6_time, Cond.instanceMethod yX6_time, Cond.selects RX6 yX6_time yX6_time, Cond.initialized RX6, Cond.code yX6_time cX6_time 1 (some .int), Cond.fieldLink RX6 34 "ScanRing$State" "accounts" "LScanRing$Table;", Cond.methodLink RX6 69 yX7_at, Cond.instanceMethod yX7_at, Cond.selects RX7 yX7_at yX7_at, Cond.initialized RX7, Cond.code yX7_at cX7_at 4 (some .int), Cond.fieldLink RX7 13 "ScanRing$Table" "width" "I", Cond.fieldLink RX7 19 "ScanRing$Table" "cells" "[I", Cond.methodLink RX10 149 yX0_start, Cond.instanceMethod yX0_start, Cond.selects RX0 yX0_start yX0_start, Cond.initialized RX0, Cond.code yX0_start cX0_start 3 none, Cond.fieldLink RX0 9 "ScanRing$Converter" "charge" "F", Cond.fieldLink RX0 15 "ScanRing$Converter" "time" "I", Cond.methodLink RX10 267 yX0_carryOutEntry, Cond.instanceMethod yX0_carryOutEntry, Cond.selects RX0 yX0_carryOutEntry yX0_carryOutEntry]
def wsX10_why_r3 : List Cond := [Cond.code yX0_carryOutEntry cX0_carryOutEntry 3 none, Cond.fieldLink RX0 19 "ScanRing$Setup" "list" "LScanRing$Table;", Cond.methodLink RX0 25 yX7_at, Cond.methodLink RX0 31 yX0_carryOut, Cond.instanceMethod yX0_carryOut, Cond.selects RX0 yX0_carryOut yX0_carryOut, Cond.code yX0_carryOut cX0_carryOut 7 none, Cond.fieldLink RX0 42 "ScanRing$Converter" "target" "I", Cond.fieldLink RX0 53 "ScanRing$Converter" "reading" "I", Cond.fieldLink RX0 56 "ScanRing$Converter" "carry" "I", Cond.methodLink RX0 35 yX3_resistanceAt, Cond.instanceMethod yX3_resistanceAt, Cond.selects RX3 yX3_resistanceAt yX3_resistanceAt, Cond.initialized RX3, Cond.code yX3_resistanceAt cX3_resistanceAt 2 (some .int), Cond.fieldLink RX3 14 "ScanRing$Setup" "channels" "LScanRing$Table;", Cond.methodLink RX3 38 yX7_at, Cond.methodLink RX0 39 yX3_valueAt, Cond.instanceMethod yX3_valueAt, Cond.selects RX3 yX3_valueAt yX3_valueAt, Cond.code yX3_valueAt cX3_valueAt 5 (some .int), Cond.methodLink RX3 57 Lib.Math.min.name, Cond.static Lib.Math.min.name, Cond.code Lib.Math.min.name Lib.Math.min.code 2 (some .int)]
def wsX10_why_r4 : List Cond := [Cond.methodLink RX3 60 Lib.Math.max.name, Cond.static Lib.Math.max.name, Cond.code Lib.Math.max.name Lib.Math.max.code 2 (some .int), Cond.methodLink RX3 49 yX3_setting, Cond.instanceMethod yX3_setting, Cond.selects RX3 yX3_setting yX3_setting, Cond.code yX3_setting cX3_setting 2 (some .int), Cond.fieldLink RX3 23 "ScanRing$Setup" "settings" "LScanRing$Table;", Cond.methodLink RX3 52 yJ9_floorDiv_7cf53, Cond.static yJ9_floorDiv_7cf53, Cond.initialized RJ9, Cond.code yJ9_floorDiv_7cf53 cJ9_floorDiv_7cf53 3 (some .int), Cond.methodLink RX3 63 yX3_isFirstHalf, Cond.static yX3_isFirstHalf, Cond.code yX3_isFirstHalf cX3_isFirstHalf 2 (some .boolean), Cond.methodLink RX0 45 yX0_chargeBehind, Cond.static yX0_chargeBehind, Cond.code yX0_chargeBehind cX0_chargeBehind 3 (some .float), Cond.methodLink RX0 49 yX3_readingOf, Cond.instanceMethod yX3_readingOf, Cond.selects RX3 yX3_readingOf yX3_readingOf, Cond.code yX3_readingOf cX3_readingOf 2 (some .int), Cond.static yX10_readingWith, Cond.code yX10_readingWith cX10_readingWith 4 (some .int)]
def wsX10_why_r5 : List Cond := [Cond.constantFloat RX10 278 (1148846080), Cond.constantFloat RX10 279 (1056964608), Cond.methodLink RX10 280 Lib.Math.min.name, Cond.methodLink RX10 245 yX0_error, Cond.instanceMethod yX0_error, Cond.selects RX0 yX0_error yX0_error, Cond.code yX0_error cX0_error 1 (some .int), Cond.methodLink RX10 249 yX10_readingWith]
def wsX10_why : List Cond := .code yX10_why cX10_why 2 (some .int) :: ((wsX10_why_r1 ++ (wsX10_why_r2 ++ (wsX10_why_r3 ++ (wsX10_why_r4 ++ wsX10_why_r5)))) ++ wsX100 ++ wsX60 ++ wsX00 ++ wsX30 ++ wsX70)
def wsX10_settleFor_r1 : List Cond := [Cond.constant RX10 68 (-10000001), Cond.fieldLink RX10 10 "ScanRing" "now" "LScanRing$State;", Cond.fieldLink RX10 73 "ScanRing$State" "setup" "LScanRing$Setup;", Cond.fieldLink RX10 33 "ScanRing" "converter" "LScanRing$Converter;", Cond.fieldLink RX10 248 "ScanRing$Converter" "charge" "F", Cond.fieldLink RX10 256 "ScanRing$Converter" "time" "I", Cond.fieldLink RX10 127 "ScanRing$Setup" "list" "LScanRing$Table;", Cond.methodLink RX10 262 Lib.Math.abs.name, Cond.static Lib.Math.abs.name, Cond.initialized "java/lang/Math", Cond.code Lib.Math.abs.name Lib.Math.abs.code 1 (some .int), Cond.constant RX10 223 (-10000009), Cond.methodLink RX10 120 yX10_isEntry, Cond.instanceMethod yX10_isEntry, Cond.selects RX10 yX10_isEntry yX10_isEntry, Cond.initialized RX10, Cond.code yX10_isEntry cX10_isEntry 2 (some .boolean), Cond.fieldLink RX10 109 "ScanRing$Setup" "entries" "I", Cond.methodLink RX10 90 yX10_isWithin, Cond.static yX10_isWithin, Cond.code yX10_isWithin cX10_isWithin 3 (some .boolean), Cond.methodLink RX10 235 yX10_tryEntries, Cond.instanceMethod yX10_tryEntries, Cond.selects RX10 yX10_tryEntries yX10_tryEntries]
def wsX10_settleFor_r2 : List Cond := [Cond.code yX10_tryEntries cX10_tryEntries 5 (some .int), Cond.fieldLink RX10 145 "ScanRing$State" "charge" "F", Cond.fieldLink RX10 242 "ScanRing$Converter" "carry" "I", Cond.methodLink RX10 130 yX6_time, Cond.instanceMethod yX6_time, Cond.selects RX6 yX6_time yX6_time, Cond.initialized RX6, Cond.code yX6_time cX6_time 1 (some .int), Cond.fieldLink RX6 34 "ScanRing$State" "accounts" "LScanRing$Table;", Cond.methodLink RX6 69 yX7_at, Cond.instanceMethod yX7_at, Cond.selects RX7 yX7_at yX7_at, Cond.initialized RX7, Cond.code yX7_at cX7_at 4 (some .int), Cond.fieldLink RX7 13 "ScanRing$Table" "width" "I", Cond.fieldLink RX7 19 "ScanRing$Table" "cells" "[I", Cond.methodLink RX10 149 yX0_start, Cond.instanceMethod yX0_start, Cond.selects RX0 yX0_start yX0_start, Cond.initialized RX0, Cond.code yX0_start cX0_start 3 none, Cond.fieldLink RX0 9 "ScanRing$Converter" "charge" "F", Cond.fieldLink RX0 15 "ScanRing$Converter" "time" "I", Cond.methodLink RX10 267 yX0_carryOutEntry]
def wsX10_settleFor_r3 : List Cond := [Cond.instanceMethod yX0_carryOutEntry, Cond.selects RX0 yX0_carryOutEntry yX0_carryOutEntry, Cond.code yX0_carryOutEntry cX0_carryOutEntry 3 none, Cond.fieldLink RX0 19 "ScanRing$Setup" "list" "LScanRing$Table;", Cond.methodLink RX0 25 yX7_at, Cond.methodLink RX0 31 yX0_carryOut, Cond.instanceMethod yX0_carryOut, Cond.selects RX0 yX0_carryOut yX0_carryOut, Cond.code yX0_carryOut cX0_carryOut 7 none, Cond.fieldLink RX0 42 "ScanRing$Converter" "target" "I", Cond.fieldLink RX0 53 "ScanRing$Converter" "reading" "I", Cond.fieldLink RX0 56 "ScanRing$Converter" "carry" "I", Cond.methodLink RX0 35 yX3_resistanceAt, Cond.instanceMethod yX3_resistanceAt, Cond.selects RX3 yX3_resistanceAt yX3_resistanceAt, Cond.initialized RX3, Cond.code yX3_resistanceAt cX3_resistanceAt 2 (some .int), Cond.fieldLink RX3 14 "ScanRing$Setup" "channels" "LScanRing$Table;", Cond.methodLink RX3 38 yX7_at, Cond.methodLink RX0 39 yX3_valueAt, Cond.instanceMethod yX3_valueAt, Cond.selects RX3 yX3_valueAt yX3_valueAt, Cond.code yX3_valueAt cX3_valueAt 5 (some .int), Cond.methodLink RX3 57 Lib.Math.min.name]
def wsX10_settleFor_r4 : List Cond := [Cond.static Lib.Math.min.name, Cond.code Lib.Math.min.name Lib.Math.min.code 2 (some .int), Cond.methodLink RX3 60 Lib.Math.max.name, Cond.static Lib.Math.max.name, Cond.code Lib.Math.max.name Lib.Math.max.code 2 (some .int), Cond.methodLink RX3 49 yX3_setting, Cond.instanceMethod yX3_setting, Cond.selects RX3 yX3_setting yX3_setting, Cond.code yX3_setting cX3_setting 2 (some .int), Cond.fieldLink RX3 23 "ScanRing$Setup" "settings" "LScanRing$Table;", Cond.methodLink RX3 52 yJ9_floorDiv_7cf53, Cond.static yJ9_floorDiv_7cf53, Cond.initialized RJ9, Cond.code yJ9_floorDiv_7cf53 cJ9_floorDiv_7cf53 3 (some .int), Cond.methodLink RX3 63 yX3_isFirstHalf, Cond.static yX3_isFirstHalf, Cond.code yX3_isFirstHalf cX3_isFirstHalf 2 (some .boolean), Cond.methodLink RX0 45 yX0_chargeBehind, Cond.static yX0_chargeBehind, Cond.code yX0_chargeBehind cX0_chargeBehind 3 (some .float), Cond.methodLink RX0 49 yX3_readingOf, Cond.instanceMethod yX3_readingOf, Cond.selects RX3 yX3_readingOf yX3_readingOf, Cond.code yX3_readingOf cX3_readingOf 2 (some .int)]
def wsX10_settleFor_r5 : List Cond := [Cond.static yX10_readingWith, Cond.code yX10_readingWith cX10_readingWith 4 (some .int), Cond.constantFloat RX10 278 (1148846080), Cond.constantFloat RX10 279 (1056964608), Cond.methodLink RX10 280 Lib.Math.min.name, Cond.methodLink RX10 80 yX7_at, Cond.methodLink RX10 258 yX0_carryOut, Cond.methodLink RX10 245 yX0_error, Cond.instanceMethod yX0_error, Cond.selects RX0 yX0_error yX0_error, Cond.code yX0_error cX0_error 1 (some .int)]
def wsX10_settleFor : List Cond := .code yX10_settleFor cX10_settleFor 7 (some .int) :: ((wsX10_settleFor_r1 ++ (wsX10_settleFor_r2 ++ (wsX10_settleFor_r3 ++ (wsX10_settleFor_r4 ++ wsX10_settleFor_r5)))) ++ wsX100 ++ wsX60 ++ wsX00 ++ wsX30 ++ wsX70)
def wsX10_bestRule_r1 : List Cond := [Cond.fieldLink RX10 10 "ScanRing" "now" "LScanRing$State;", Cond.fieldLink RX10 73 "ScanRing$State" "setup" "LScanRing$Setup;", Cond.fieldLink RX10 109 "ScanRing$Setup" "entries" "I", Cond.fieldLink RX10 47 "ScanRing" "draft" "LScanRing$Setup;", Cond.fieldLink RX10 40 "ScanRing" "sorter" "LScanRing$Sorter;", Cond.methodLink RX10 235 yX10_tryEntries, Cond.instanceMethod yX10_tryEntries, Cond.selects RX10 yX10_tryEntries yX10_tryEntries, Cond.initialized RX10, Cond.code yX10_tryEntries cX10_tryEntries 5 (some .int), Cond.fieldLink RX10 33 "ScanRing" "converter" "LScanRing$Converter;", Cond.fieldLink RX10 145 "ScanRing$State" "charge" "F", Cond.fieldLink RX10 242 "ScanRing$Converter" "carry" "I", Cond.methodLink RX10 262 Lib.Math.abs.name, Cond.static Lib.Math.abs.name, Cond.initialized "java/lang/Math", Cond.code Lib.Math.abs.name Lib.Math.abs.code 1 (some .int), Cond.methodLink RX10 130 yX6_time, Cond.instanceMethod yX6_time, Cond.selects RX6 yX6_time yX6_time, Cond.initialized RX6, Cond.code yX6_time cX6_time 1 (some .int), Cond.fieldLink RX6 34 "ScanRing$State" "accounts" "LScanRing$Table;", Cond.methodLink RX6 69 yX7_at]
def wsX10_bestRule_r2 : List Cond := [Cond.instanceMethod yX7_at, Cond.selects RX7 yX7_at yX7_at, Cond.initialized RX7, Cond.code yX7_at cX7_at 4 (some .int), Cond.fieldLink RX7 13 "ScanRing$Table" "width" "I", Cond.fieldLink RX7 19 "ScanRing$Table" "cells" "[I", Cond.methodLink RX10 149 yX0_start, Cond.instanceMethod yX0_start, Cond.selects RX0 yX0_start yX0_start, Cond.initialized RX0, Cond.code yX0_start cX0_start 3 none, Cond.fieldLink RX0 9 "ScanRing$Converter" "charge" "F", Cond.fieldLink RX0 15 "ScanRing$Converter" "time" "I", Cond.methodLink RX10 267 yX0_carryOutEntry, Cond.instanceMethod yX0_carryOutEntry, Cond.selects RX0 yX0_carryOutEntry yX0_carryOutEntry, Cond.code yX0_carryOutEntry cX0_carryOutEntry 3 none, Cond.fieldLink RX0 19 "ScanRing$Setup" "list" "LScanRing$Table;", Cond.methodLink RX0 25 yX7_at, Cond.methodLink RX0 31 yX0_carryOut, Cond.instanceMethod yX0_carryOut, Cond.selects RX0 yX0_carryOut yX0_carryOut, Cond.code yX0_carryOut cX0_carryOut 7 none, Cond.fieldLink RX0 42 "ScanRing$Converter" "target" "I"]
def wsX10_bestRule_r3 : List Cond := [Cond.fieldLink RX0 53 "ScanRing$Converter" "reading" "I", Cond.fieldLink RX0 56 "ScanRing$Converter" "carry" "I", Cond.methodLink RX0 35 yX3_resistanceAt, Cond.instanceMethod yX3_resistanceAt, Cond.selects RX3 yX3_resistanceAt yX3_resistanceAt, Cond.initialized RX3, Cond.code yX3_resistanceAt cX3_resistanceAt 2 (some .int), Cond.fieldLink RX3 14 "ScanRing$Setup" "channels" "LScanRing$Table;", Cond.methodLink RX3 38 yX7_at, Cond.methodLink RX0 39 yX3_valueAt, Cond.instanceMethod yX3_valueAt, Cond.selects RX3 yX3_valueAt yX3_valueAt, Cond.code yX3_valueAt cX3_valueAt 5 (some .int), Cond.methodLink RX3 57 Lib.Math.min.name, Cond.static Lib.Math.min.name, Cond.code Lib.Math.min.name Lib.Math.min.code 2 (some .int), Cond.methodLink RX3 60 Lib.Math.max.name, Cond.static Lib.Math.max.name, Cond.code Lib.Math.max.name Lib.Math.max.code 2 (some .int), Cond.methodLink RX3 49 yX3_setting, Cond.instanceMethod yX3_setting, Cond.selects RX3 yX3_setting yX3_setting, Cond.code yX3_setting cX3_setting 2 (some .int), Cond.fieldLink RX3 23 "ScanRing$Setup" "settings" "LScanRing$Table;"]
def wsX10_bestRule_r4 : List Cond := [Cond.methodLink RX3 52 yJ9_floorDiv_7cf53, Cond.static yJ9_floorDiv_7cf53, Cond.initialized RJ9, Cond.code yJ9_floorDiv_7cf53 cJ9_floorDiv_7cf53 3 (some .int), Cond.methodLink RX3 63 yX3_isFirstHalf, Cond.static yX3_isFirstHalf, Cond.code yX3_isFirstHalf cX3_isFirstHalf 2 (some .boolean), Cond.methodLink RX0 45 yX0_chargeBehind, Cond.static yX0_chargeBehind, Cond.code yX0_chargeBehind cX0_chargeBehind 3 (some .float), Cond.methodLink RX0 49 yX3_readingOf, Cond.instanceMethod yX3_readingOf, Cond.selects RX3 yX3_readingOf yX3_readingOf, Cond.code yX3_readingOf cX3_readingOf 2 (some .int), Cond.static yX10_readingWith, Cond.code yX10_readingWith cX10_readingWith 4 (some .int), Cond.constantFloat RX10 278 (1148846080), Cond.constantFloat RX10 279 (1056964608), Cond.methodLink RX10 280 Lib.Math.min.name, Cond.methodLink RX10 174 yX3_copyFrom, Cond.instanceMethod yX3_copyFrom, Cond.selects RX3 yX3_copyFrom yX3_copyFrom, Cond.code yX3_copyFrom cX3_copyFrom 2 none, Cond.fieldLink RX3 20 "ScanRing$Setup" "list" "LScanRing$Table;"]
def wsX10_bestRule_r5 : List Cond := [Cond.fieldLink RX3 34 "ScanRing$Setup" "entries" "I", Cond.methodLink RX3 30 yX7_copyFrom, Cond.instanceMethod yX7_copyFrom, Cond.selects RX7 yX7_copyFrom yX7_copyFrom, Cond.code yX7_copyFrom cX7_copyFrom 2 none, Cond.methodLink RX7 30 Lib.Math.min.name, Cond.methodLink RX7 33 arraycopyName, Cond.native arraycopyName, Cond.static arraycopyName, Cond.initialized "java/lang/System", Cond.methodLink RX10 134 yX5_arrange, Cond.instanceMethod yX5_arrange, Cond.selects RX5 yX5_arrange yX5_arrange, Cond.initialized RX5, Cond.code yX5_arrange cX5_arrange 7 (some .int), Cond.fieldLink RX5 26 "ScanRing$Setup" "entries" "I", Cond.fieldLink RX5 23 "ScanRing$Sorter" "copy" "LScanRing$Table;", Cond.fieldLink RX5 39 "ScanRing$Setup" "list" "LScanRing$Table;", Cond.fieldLink RX5 20 "ScanRing$Sorter" "origins" "LScanRing$Table;", Cond.methodLink RX5 32 yX5_keyOf, Cond.static yX5_keyOf, Cond.code yX5_keyOf cX5_keyOf 5 (some .int), Cond.methodLink RX5 46 yX7_at, Cond.methodLink RX5 57 yX3_resistanceAt]
def wsX10_bestRule_r6 : List Cond := [Cond.methodLink RX5 61 yX3_valueAt, Cond.methodLink RX5 36 yX5_sortIn, Cond.instanceMethod yX5_sortIn, Cond.selects RX5 yX5_sortIn yX5_sortIn, Cond.code yX5_sortIn cX5_sortIn 4 none, Cond.fieldLink RX5 14 "ScanRing$Sorter" "keys" "LScanRing$Table;", Cond.methodLink RX5 54 yX7_copyRow, Cond.instanceMethod yX7_copyRow, Cond.selects RX7 yX7_copyRow yX7_copyRow, Cond.code yX7_copyRow cX7_copyRow 4 none, Cond.methodLink RX7 23 yX7_at, Cond.methodLink RX7 26 yX7_put, Cond.instanceMethod yX7_put, Cond.selects RX7 yX7_put yX7_put, Cond.code yX7_put cX7_put 5 none, Cond.methodLink RX5 50 yX7_put, Cond.methodLink RX5 42 yX7_copyFrom]
def wsX10_bestRule : List Cond := .code yX10_bestRule cX10_bestRule 5 (some .int) :: ((wsX10_bestRule_r1 ++ (wsX10_bestRule_r2 ++ (wsX10_bestRule_r3 ++ (wsX10_bestRule_r4 ++ (wsX10_bestRule_r5 ++ wsX10_bestRule_r6))))) ++ wsX100 ++ wsX60 ++ wsX30 ++ wsX00 ++ wsX70 ++ wsX50)
def wsX10_groundsNeeded_r1 : List Cond := [Cond.fieldLink RX10 33 "ScanRing" "converter" "LScanRing$Converter;", Cond.fieldLink RX10 10 "ScanRing" "now" "LScanRing$State;", Cond.fieldLink RX10 145 "ScanRing$State" "charge" "F", Cond.fieldLink RX10 73 "ScanRing$State" "setup" "LScanRing$Setup;", Cond.fieldLink RX10 109 "ScanRing$Setup" "entries" "I", Cond.fieldLink RX10 248 "ScanRing$Converter" "charge" "F", Cond.fieldLink RX10 256 "ScanRing$Converter" "time" "I", Cond.fieldLink RX10 242 "ScanRing$Converter" "carry" "I", Cond.methodLink RX10 130 yX6_time, Cond.instanceMethod yX6_time, Cond.selects RX6 yX6_time yX6_time, Cond.initialized RX6, Cond.code yX6_time cX6_time 1 (some .int), Cond.fieldLink RX6 34 "ScanRing$State" "accounts" "LScanRing$Table;", Cond.methodLink RX6 69 yX7_at, Cond.instanceMethod yX7_at, Cond.selects RX7 yX7_at yX7_at, Cond.initialized RX7, Cond.code yX7_at cX7_at 4 (some .int), Cond.fieldLink RX7 13 "ScanRing$Table" "width" "I", Cond.fieldLink RX7 19 "ScanRing$Table" "cells" "[I", Cond.methodLink RX10 149 yX0_start, Cond.instanceMethod yX0_start, Cond.selects RX0 yX0_start yX0_start]
def wsX10_groundsNeeded_r2 : List Cond := [Cond.initialized RX0, Cond.code yX0_start cX0_start 3 none, Cond.fieldLink RX0 9 "ScanRing$Converter" "charge" "F", Cond.fieldLink RX0 15 "ScanRing$Converter" "time" "I", Cond.methodLink RX10 267 yX0_carryOutEntry, Cond.instanceMethod yX0_carryOutEntry, Cond.selects RX0 yX0_carryOutEntry yX0_carryOutEntry, Cond.code yX0_carryOutEntry cX0_carryOutEntry 3 none, Cond.fieldLink RX0 19 "ScanRing$Setup" "list" "LScanRing$Table;", Cond.methodLink RX0 25 yX7_at, Cond.methodLink RX0 31 yX0_carryOut, Cond.instanceMethod yX0_carryOut, Cond.selects RX0 yX0_carryOut yX0_carryOut, Cond.code yX0_carryOut cX0_carryOut 7 none, Cond.fieldLink RX0 42 "ScanRing$Converter" "target" "I", Cond.fieldLink RX0 53 "ScanRing$Converter" "reading" "I", Cond.fieldLink RX0 56 "ScanRing$Converter" "carry" "I", Cond.methodLink RX0 35 yX3_resistanceAt, Cond.instanceMethod yX3_resistanceAt, Cond.selects RX3 yX3_resistanceAt yX3_resistanceAt, Cond.initialized RX3, Cond.code yX3_resistanceAt cX3_resistanceAt 2 (some .int), Cond.fieldLink RX3 14 "ScanRing$Setup" "channels" "LScanRing$Table;", Cond.methodLink RX3 38 yX7_at]
def wsX10_groundsNeeded_r3 : List Cond := [Cond.methodLink RX0 39 yX3_valueAt, Cond.instanceMethod yX3_valueAt, Cond.selects RX3 yX3_valueAt yX3_valueAt, Cond.code yX3_valueAt cX3_valueAt 5 (some .int), Cond.methodLink RX3 57 Lib.Math.min.name, Cond.static Lib.Math.min.name, Cond.initialized "java/lang/Math", Cond.code Lib.Math.min.name Lib.Math.min.code 2 (some .int), Cond.methodLink RX3 60 Lib.Math.max.name, Cond.static Lib.Math.max.name, Cond.code Lib.Math.max.name Lib.Math.max.code 2 (some .int), Cond.methodLink RX3 49 yX3_setting, Cond.instanceMethod yX3_setting, Cond.selects RX3 yX3_setting yX3_setting, Cond.code yX3_setting cX3_setting 2 (some .int), Cond.fieldLink RX3 23 "ScanRing$Setup" "settings" "LScanRing$Table;", Cond.methodLink RX3 52 yJ9_floorDiv_7cf53, Cond.static yJ9_floorDiv_7cf53, Cond.initialized RJ9, Cond.code yJ9_floorDiv_7cf53 cJ9_floorDiv_7cf53 3 (some .int), Cond.methodLink RX3 63 yX3_isFirstHalf, Cond.static yX3_isFirstHalf, Cond.code yX3_isFirstHalf cX3_isFirstHalf 2 (some .boolean), Cond.methodLink RX0 45 yX0_chargeBehind]
def wsX10_groundsNeeded_r4 : List Cond := [Cond.static yX0_chargeBehind, Cond.code yX0_chargeBehind cX0_chargeBehind 3 (some .float), Cond.methodLink RX0 49 yX3_readingOf, Cond.instanceMethod yX3_readingOf, Cond.selects RX3 yX3_readingOf yX3_readingOf, Cond.code yX3_readingOf cX3_readingOf 2 (some .int), Cond.static yX10_readingWith, Cond.initialized RX10, Cond.code yX10_readingWith cX10_readingWith 4 (some .int), Cond.constantFloat RX10 278 (1148846080), Cond.constantFloat RX10 279 (1056964608), Cond.methodLink RX10 280 Lib.Math.min.name, Cond.methodLink RX10 258 yX0_carryOut]
def wsX10_groundsNeeded : List Cond := .code yX10_groundsNeeded cX10_groundsNeeded 5 (some .int) :: ((wsX10_groundsNeeded_r1 ++ (wsX10_groundsNeeded_r2 ++ (wsX10_groundsNeeded_r3 ++ wsX10_groundsNeeded_r4))) ++ wsX100 ++ wsX60 ++ wsX30 ++ wsX00 ++ wsX70)
def wsX11_init : List Cond := .code yX11_init cX11_init 2 none :: ([.methodLink RX11 1 objectInit, .instanceMethod objectInit, .code objectInit ⟨#[0xb1]⟩ 1 none, .arrayClass .int, .fieldLink RX11 7 "ScanRingModel" "s" "[I", .fieldLink RX11 13 "ScanRingModel" "aside" "[I", .fieldLink RX11 16 "ScanRingModel" "saved" "[I", .arrayClass .float, .fieldLink RX11 19 "ScanRingModel" "savedCharge" "[F", .fieldLink RX11 23 "ScanRingModel" "text" "[I", .fieldLink RX11 26 "ScanRingModel" "had" "[I", .fieldLink RX11 29 "ScanRingModel" "thrown" "I"] ++ wsX110)
def wsX11_in : List Cond := .code yX11_in cX11_in 3 (some .boolean) :: ([])
def wsX11_size : List Cond := .code yX11_size cX11_size 1 (some .int) :: ([])
def wsX11_down : List Cond := .code yX11_down cX11_down 2 (some .int) :: ([])
def wsX11_act : List Cond := .code yX11_act cX11_act 2 none :: ([.fieldLink RX11 33 "ScanRingModel" "savedMany" "I", .fieldLink RX11 16 "ScanRingModel" "saved" "[I", .fieldLink RX11 19 "ScanRingModel" "savedCharge" "[F", .fieldLink RX11 7 "ScanRingModel" "s" "[I", .fieldLink RX11 36 "ScanRingModel" "charge" "F"] ++ wsX110)
def wsX11_hold : List Cond := .code yX11_hold cX11_hold 2 none :: ([.fieldLink RX11 13 "ScanRingModel" "aside" "[I", .fieldLink RX11 7 "ScanRingModel" "s" "[I"] ++ wsX110)
def wsX11_release : List Cond := .code yX11_release cX11_release 2 none :: ([.fieldLink RX11 7 "ScanRingModel" "s" "[I", .fieldLink RX11 13 "ScanRingModel" "aside" "[I"] ++ wsX110)
def wsX11_exchange : List Cond := .code yX11_exchange cX11_exchange 3 none :: ([.fieldLink RX11 7 "ScanRingModel" "s" "[I", .fieldLink RX11 13 "ScanRingModel" "aside" "[I"] ++ wsX110)
def wsX11_isChannel : List Cond := .code yX11_isChannel cX11_isChannel 1 (some .boolean) :: ([.methodLink RX11 40 yX11_in, .static yX11_in, .initialized RX11, .code yX11_in cX11_in 3 (some .boolean)])
def wsX11_of : List Cond := .code yX11_of cX11_of 3 (some .int) :: ([.fieldLink RX11 7 "ScanRingModel" "s" "[I"] ++ wsX110)
def wsX11_isEntry : List Cond := .code yX11_isEntry cX11_isEntry 2 (some .boolean) :: ([.fieldLink RX11 7 "ScanRingModel" "s" "[I", .methodLink RX11 40 yX11_in, .static yX11_in, .initialized RX11, .code yX11_in cX11_in 3 (some .boolean)] ++ wsX110)
def wsX11_placeOf : List Cond := .code yX11_placeOf cX11_placeOf 2 (some .int) :: ([.fieldLink RX11 7 "ScanRingModel" "s" "[I"] ++ wsX110)
def wsX11_settleOf : List Cond := .code yX11_settleOf cX11_settleOf 2 (some .int) :: ([.fieldLink RX11 7 "ScanRingModel" "s" "[I"] ++ wsX110)
def wsX11_valueAt : List Cond := .code yX11_valueAt cX11_valueAt 4 (some .int) :: ([.methodLink RX11 44 yX11_of, .instanceMethod yX11_of, .selects RX11 yX11_of yX11_of, .initialized RX11, .code yX11_of cX11_of 3 (some .int), .fieldLink RX11 7 "ScanRingModel" "s" "[I", .methodLink RX11 48 yX11_down, .static yX11_down, .code yX11_down cX11_down 2 (some .int)] ++ wsX110)
def wsX11_valueOf : List Cond := .code yX11_valueOf cX11_valueOf 3 (some .int) :: ([.fieldLink RX11 7 "ScanRingModel" "s" "[I", .methodLink RX11 51 yX11_valueAt, .instanceMethod yX11_valueAt, .selects RX11 yX11_valueAt yX11_valueAt, .initialized RX11, .code yX11_valueAt cX11_valueAt 4 (some .int), .methodLink RX11 44 yX11_of, .instanceMethod yX11_of, .selects RX11 yX11_of yX11_of, .code yX11_of cX11_of 3 (some .int), .methodLink RX11 48 yX11_down, .static yX11_down, .code yX11_down cX11_down 2 (some .int)] ++ wsX110)
def wsX11_slot : List Cond := .code yX11_slot cX11_slot 5 (some .float) :: ([.methodLink RX11 54 yX11_valueOf, .instanceMethod yX11_valueOf, .selects RX11 yX11_valueOf yX11_valueOf, .initialized RX11, .code yX11_valueOf cX11_valueOf 3 (some .int), .fieldLink RX11 7 "ScanRingModel" "s" "[I", .methodLink RX11 51 yX11_valueAt, .instanceMethod yX11_valueAt, .selects RX11 yX11_valueAt yX11_valueAt, .code yX11_valueAt cX11_valueAt 4 (some .int), .methodLink RX11 44 yX11_of, .instanceMethod yX11_of, .selects RX11 yX11_of yX11_of, .code yX11_of cX11_of 3 (some .int), .methodLink RX11 48 yX11_down, .static yX11_down, .code yX11_down cX11_down 2 (some .int)] ++ wsX110)
def wsX11_readingBy : List Cond := .code yX11_readingBy cX11_readingBy 5 (some .int) :: ([.constantFloat RX11 57 (1148846080), .constantFloat RX11 58 (1056964608)])
def wsX11_reading : List Cond := .code yX11_reading cX11_reading 2 (some .int) :: ([.fieldLink RX11 7 "ScanRingModel" "s" "[I", .methodLink RX11 59 yX11_readingBy, .static yX11_readingBy, .initialized RX11, .code yX11_readingBy cX11_readingBy 5 (some .int), .constantFloat RX11 57 (1148846080), .constantFloat RX11 58 (1056964608)] ++ wsX110)
def wsX11_begin : List Cond := .code yX11_begin cX11_begin 1 none :: ([.fieldLink RX11 36 "ScanRingModel" "charge" "F", .fieldLink RX11 63 "ScanRingModel" "simCharge" "F", .fieldLink RX11 7 "ScanRingModel" "s" "[I", .fieldLink RX11 66 "ScanRingModel" "simTime" "I"] ++ wsX110)
def wsX11_carryOut_r1 : List Cond := [Cond.fieldLink RX11 63 "ScanRingModel" "simCharge" "F", Cond.fieldLink RX11 66 "ScanRingModel" "simTime" "I", Cond.fieldLink RX11 77 "ScanRingModel" "simReading" "I", Cond.fieldLink RX11 80 "ScanRingModel" "simCarry" "I", Cond.fieldLink RX11 83 "ScanRingModel" "simError" "I", Cond.methodLink RX11 69 yX11_slot, Cond.instanceMethod yX11_slot, Cond.selects RX11 yX11_slot yX11_slot, Cond.initialized RX11, Cond.code yX11_slot cX11_slot 5 (some .float), Cond.methodLink RX11 54 yX11_valueOf, Cond.instanceMethod yX11_valueOf, Cond.selects RX11 yX11_valueOf yX11_valueOf, Cond.code yX11_valueOf cX11_valueOf 3 (some .int), Cond.fieldLink RX11 7 "ScanRingModel" "s" "[I", Cond.methodLink RX11 51 yX11_valueAt, Cond.instanceMethod yX11_valueAt, Cond.selects RX11 yX11_valueAt yX11_valueAt, Cond.code yX11_valueAt cX11_valueAt 4 (some .int), Cond.methodLink RX11 44 yX11_of, Cond.instanceMethod yX11_of, Cond.selects RX11 yX11_of yX11_of, Cond.code yX11_of cX11_of 3 (some .int), Cond.methodLink RX11 48 yX11_down]
def wsX11_carryOut_r2 : List Cond := [Cond.static yX11_down, Cond.code yX11_down cX11_down 2 (some .int), Cond.methodLink RX11 73 yX11_reading, Cond.instanceMethod yX11_reading, Cond.selects RX11 yX11_reading yX11_reading, Cond.code yX11_reading cX11_reading 2 (some .int), Cond.methodLink RX11 59 yX11_readingBy, Cond.static yX11_readingBy, Cond.code yX11_readingBy cX11_readingBy 5 (some .int), Cond.constantFloat RX11 57 (1148846080), Cond.constantFloat RX11 58 (1056964608)]
def wsX11_carryOut : List Cond := .code yX11_carryOut cX11_carryOut 5 none :: ((wsX11_carryOut_r1 ++ wsX11_carryOut_r2) ++ wsX110)
def wsX11_carryOutTo_r1 : List Cond := [Cond.methodLink RX11 86 yX11_begin, Cond.instanceMethod yX11_begin, Cond.selects RX11 yX11_begin yX11_begin, Cond.initialized RX11, Cond.code yX11_begin cX11_begin 1 none, Cond.fieldLink RX11 36 "ScanRingModel" "charge" "F", Cond.fieldLink RX11 63 "ScanRingModel" "simCharge" "F", Cond.fieldLink RX11 7 "ScanRingModel" "s" "[I", Cond.fieldLink RX11 66 "ScanRingModel" "simTime" "I", Cond.methodLink RX11 89 yX11_placeOf, Cond.instanceMethod yX11_placeOf, Cond.selects RX11 yX11_placeOf yX11_placeOf, Cond.code yX11_placeOf cX11_placeOf 2 (some .int), Cond.methodLink RX11 93 yX11_settleOf, Cond.instanceMethod yX11_settleOf, Cond.selects RX11 yX11_settleOf yX11_settleOf, Cond.code yX11_settleOf cX11_settleOf 2 (some .int), Cond.methodLink RX11 96 yX11_carryOut, Cond.instanceMethod yX11_carryOut, Cond.selects RX11 yX11_carryOut yX11_carryOut, Cond.code yX11_carryOut cX11_carryOut 5 none, Cond.fieldLink RX11 77 "ScanRingModel" "simReading" "I", Cond.fieldLink RX11 80 "ScanRingModel" "simCarry" "I", Cond.fieldLink RX11 83 "ScanRingModel" "simError" "I"]
def wsX11_carryOutTo_r2 : List Cond := [Cond.methodLink RX11 69 yX11_slot, Cond.instanceMethod yX11_slot, Cond.selects RX11 yX11_slot yX11_slot, Cond.code yX11_slot cX11_slot 5 (some .float), Cond.methodLink RX11 54 yX11_valueOf, Cond.instanceMethod yX11_valueOf, Cond.selects RX11 yX11_valueOf yX11_valueOf, Cond.code yX11_valueOf cX11_valueOf 3 (some .int), Cond.methodLink RX11 51 yX11_valueAt, Cond.instanceMethod yX11_valueAt, Cond.selects RX11 yX11_valueAt yX11_valueAt, Cond.code yX11_valueAt cX11_valueAt 4 (some .int), Cond.methodLink RX11 44 yX11_of, Cond.instanceMethod yX11_of, Cond.selects RX11 yX11_of yX11_of, Cond.code yX11_of cX11_of 3 (some .int), Cond.methodLink RX11 48 yX11_down, Cond.static yX11_down, Cond.code yX11_down cX11_down 2 (some .int), Cond.methodLink RX11 73 yX11_reading, Cond.instanceMethod yX11_reading, Cond.selects RX11 yX11_reading yX11_reading, Cond.code yX11_reading cX11_reading 2 (some .int), Cond.methodLink RX11 59 yX11_readingBy]
def wsX11_carryOutTo_r3 : List Cond := [Cond.static yX11_readingBy, Cond.code yX11_readingBy cX11_readingBy 5 (some .int), Cond.constantFloat RX11 57 (1148846080), Cond.constantFloat RX11 58 (1056964608)]
def wsX11_carryOutTo : List Cond := .code yX11_carryOutTo cX11_carryOutTo 3 none :: ((wsX11_carryOutTo_r1 ++ (wsX11_carryOutTo_r2 ++ wsX11_carryOutTo_r3)) ++ wsX110)
def wsX11_carries_r1 : List Cond := [Cond.fieldLink RX11 7 "ScanRingModel" "s" "[I", Cond.fieldLink RX11 80 "ScanRingModel" "simCarry" "I", Cond.methodLink RX11 86 yX11_begin, Cond.instanceMethod yX11_begin, Cond.selects RX11 yX11_begin yX11_begin, Cond.initialized RX11, Cond.code yX11_begin cX11_begin 1 none, Cond.fieldLink RX11 36 "ScanRingModel" "charge" "F", Cond.fieldLink RX11 63 "ScanRingModel" "simCharge" "F", Cond.fieldLink RX11 66 "ScanRingModel" "simTime" "I", Cond.methodLink RX11 89 yX11_placeOf, Cond.instanceMethod yX11_placeOf, Cond.selects RX11 yX11_placeOf yX11_placeOf, Cond.code yX11_placeOf cX11_placeOf 2 (some .int), Cond.methodLink RX11 93 yX11_settleOf, Cond.instanceMethod yX11_settleOf, Cond.selects RX11 yX11_settleOf yX11_settleOf, Cond.code yX11_settleOf cX11_settleOf 2 (some .int), Cond.methodLink RX11 96 yX11_carryOut, Cond.instanceMethod yX11_carryOut, Cond.selects RX11 yX11_carryOut yX11_carryOut, Cond.code yX11_carryOut cX11_carryOut 5 none, Cond.fieldLink RX11 77 "ScanRingModel" "simReading" "I", Cond.fieldLink RX11 83 "ScanRingModel" "simError" "I"]
def wsX11_carries_r2 : List Cond := [Cond.methodLink RX11 69 yX11_slot, Cond.instanceMethod yX11_slot, Cond.selects RX11 yX11_slot yX11_slot, Cond.code yX11_slot cX11_slot 5 (some .float), Cond.methodLink RX11 54 yX11_valueOf, Cond.instanceMethod yX11_valueOf, Cond.selects RX11 yX11_valueOf yX11_valueOf, Cond.code yX11_valueOf cX11_valueOf 3 (some .int), Cond.methodLink RX11 51 yX11_valueAt, Cond.instanceMethod yX11_valueAt, Cond.selects RX11 yX11_valueAt yX11_valueAt, Cond.code yX11_valueAt cX11_valueAt 4 (some .int), Cond.methodLink RX11 44 yX11_of, Cond.instanceMethod yX11_of, Cond.selects RX11 yX11_of yX11_of, Cond.code yX11_of cX11_of 3 (some .int), Cond.methodLink RX11 48 yX11_down, Cond.static yX11_down, Cond.code yX11_down cX11_down 2 (some .int), Cond.methodLink RX11 73 yX11_reading, Cond.instanceMethod yX11_reading, Cond.selects RX11 yX11_reading yX11_reading, Cond.code yX11_reading cX11_reading 2 (some .int), Cond.methodLink RX11 59 yX11_readingBy]
def wsX11_carries_r3 : List Cond := [Cond.static yX11_readingBy, Cond.code yX11_readingBy cX11_readingBy 5 (some .int), Cond.constantFloat RX11 57 (1148846080), Cond.constantFloat RX11 58 (1056964608), Cond.methodLink RX11 100 yX11_size, Cond.static yX11_size, Cond.code yX11_size cX11_size 1 (some .int)]
def wsX11_carries : List Cond := .code yX11_carries cX11_carries 3 (some .int) :: ((wsX11_carries_r1 ++ (wsX11_carries_r2 ++ wsX11_carries_r3)) ++ wsX110)
def wsX11_isSource : List Cond := .code yX11_isSource cX11_isSource 4 (some .boolean) :: ([.methodLink RX11 40 yX11_in, .static yX11_in, .initialized RX11, .code yX11_in cX11_in 3 (some .boolean)])
def wsX11_putSource : List Cond := .code yX11_putSource cX11_putSource 6 none :: ([.fieldLink RX11 7 "ScanRingModel" "s" "[I"] ++ wsX110)
def wsX11_setSource_r1 : List Cond := [Cond.fieldLink RX11 29 "ScanRingModel" "thrown" "I", Cond.constant RX11 111 (-10000001), Cond.methodLink RX11 103 yX11_isChannel, Cond.static yX11_isChannel, Cond.initialized RX11, Cond.code yX11_isChannel cX11_isChannel 1 (some .boolean), Cond.methodLink RX11 40 yX11_in, Cond.static yX11_in, Cond.code yX11_in cX11_in 3 (some .boolean), Cond.methodLink RX11 107 yX11_isSource, Cond.static yX11_isSource, Cond.code yX11_isSource cX11_isSource 4 (some .boolean), Cond.methodLink RX11 112 yX11_act, Cond.instanceMethod yX11_act, Cond.selects RX11 yX11_act yX11_act, Cond.code yX11_act cX11_act 2 none, Cond.fieldLink RX11 33 "ScanRingModel" "savedMany" "I", Cond.fieldLink RX11 16 "ScanRingModel" "saved" "[I", Cond.fieldLink RX11 19 "ScanRingModel" "savedCharge" "[F", Cond.fieldLink RX11 7 "ScanRingModel" "s" "[I", Cond.fieldLink RX11 36 "ScanRingModel" "charge" "F", Cond.methodLink RX11 44 yX11_of, Cond.instanceMethod yX11_of, Cond.selects RX11 yX11_of yX11_of]
def wsX11_setSource_r2 : List Cond := [Cond.code yX11_of cX11_of 3 (some .int), Cond.methodLink RX11 115 yX11_putSource, Cond.instanceMethod yX11_putSource, Cond.selects RX11 yX11_putSource yX11_putSource, Cond.code yX11_putSource cX11_putSource 6 none]
def wsX11_setSource : List Cond := .code yX11_setSource cX11_setSource 7 (some .int) :: ((wsX11_setSource_r1 ++ wsX11_setSource_r2) ++ wsX110)
def wsX11_put : List Cond := .code yX11_put cX11_put 4 (some .int) :: ([.fieldLink RX11 7 "ScanRingModel" "s" "[I", .methodLink RX11 112 yX11_act, .instanceMethod yX11_act, .selects RX11 yX11_act yX11_act, .initialized RX11, .code yX11_act cX11_act 2 none, .fieldLink RX11 33 "ScanRingModel" "savedMany" "I", .fieldLink RX11 16 "ScanRingModel" "saved" "[I", .fieldLink RX11 19 "ScanRingModel" "savedCharge" "[F", .fieldLink RX11 36 "ScanRingModel" "charge" "F"] ++ wsX110)
def wsX11_setResistance : List Cond := .code yX11_setResistance cX11_setResistance 3 (some .int) :: ([.fieldLink RX11 29 "ScanRingModel" "thrown" "I", .constant RX11 111 (-10000001), .methodLink RX11 103 yX11_isChannel, .static yX11_isChannel, .initialized RX11, .code yX11_isChannel cX11_isChannel 1 (some .boolean), .methodLink RX11 40 yX11_in, .static yX11_in, .code yX11_in cX11_in 3 (some .boolean), .methodLink RX11 119 yX11_put, .instanceMethod yX11_put, .selects RX11 yX11_put yX11_put, .code yX11_put cX11_put 4 (some .int), .fieldLink RX11 7 "ScanRingModel" "s" "[I", .methodLink RX11 112 yX11_act, .instanceMethod yX11_act, .selects RX11 yX11_act yX11_act, .code yX11_act cX11_act 2 none, .fieldLink RX11 33 "ScanRingModel" "savedMany" "I", .fieldLink RX11 16 "ScanRingModel" "saved" "[I", .fieldLink RX11 19 "ScanRingModel" "savedCharge" "[F", .fieldLink RX11 36 "ScanRingModel" "charge" "F"] ++ wsX110)
def wsX11_set : List Cond := .code yX11_set cX11_set 4 (some .int) :: ([.fieldLink RX11 29 "ScanRingModel" "thrown" "I", .constant RX11 111 (-10000001), .methodLink RX11 40 yX11_in, .static yX11_in, .initialized RX11, .code yX11_in cX11_in 3 (some .boolean), .methodLink RX11 119 yX11_put, .instanceMethod yX11_put, .selects RX11 yX11_put yX11_put, .code yX11_put cX11_put 4 (some .int), .fieldLink RX11 7 "ScanRingModel" "s" "[I", .methodLink RX11 112 yX11_act, .instanceMethod yX11_act, .selects RX11 yX11_act yX11_act, .code yX11_act cX11_act 2 none, .fieldLink RX11 33 "ScanRingModel" "savedMany" "I", .fieldLink RX11 16 "ScanRingModel" "saved" "[I", .fieldLink RX11 19 "ScanRingModel" "savedCharge" "[F", .fieldLink RX11 36 "ScanRingModel" "charge" "F"] ++ wsX110)
def wsX11_insert : List Cond := .code yX11_insert cX11_insert 5 none :: ([.fieldLink RX11 7 "ScanRingModel" "s" "[I"] ++ wsX110)
def wsX11_addEntry : List Cond := .code yX11_addEntry cX11_addEntry 4 (some .int) :: ([.fieldLink RX11 29 "ScanRingModel" "thrown" "I", .fieldLink RX11 7 "ScanRingModel" "s" "[I", .constant RX11 111 (-10000001), .constant RX11 122 (-10000003), .methodLink RX11 40 yX11_in, .static yX11_in, .initialized RX11, .code yX11_in cX11_in 3 (some .boolean), .methodLink RX11 112 yX11_act, .instanceMethod yX11_act, .selects RX11 yX11_act yX11_act, .code yX11_act cX11_act 2 none, .fieldLink RX11 33 "ScanRingModel" "savedMany" "I", .fieldLink RX11 16 "ScanRingModel" "saved" "[I", .fieldLink RX11 19 "ScanRingModel" "savedCharge" "[F", .fieldLink RX11 36 "ScanRingModel" "charge" "F", .methodLink RX11 123 yX11_insert, .instanceMethod yX11_insert, .selects RX11 yX11_insert yX11_insert, .code yX11_insert cX11_insert 5 none] ++ wsX110)
def wsX11_removeEntry : List Cond := .code yX11_removeEntry cX11_removeEntry 3 (some .int) :: ([.fieldLink RX11 29 "ScanRingModel" "thrown" "I", .constant RX11 111 (-10000001), .fieldLink RX11 7 "ScanRingModel" "s" "[I", .methodLink RX11 127 yX11_isEntry, .instanceMethod yX11_isEntry, .selects RX11 yX11_isEntry yX11_isEntry, .initialized RX11, .code yX11_isEntry cX11_isEntry 2 (some .boolean), .methodLink RX11 40 yX11_in, .static yX11_in, .code yX11_in cX11_in 3 (some .boolean), .methodLink RX11 112 yX11_act, .instanceMethod yX11_act, .selects RX11 yX11_act yX11_act, .code yX11_act cX11_act 2 none, .fieldLink RX11 33 "ScanRingModel" "savedMany" "I", .fieldLink RX11 16 "ScanRingModel" "saved" "[I", .fieldLink RX11 19 "ScanRingModel" "savedCharge" "[F", .fieldLink RX11 36 "ScanRingModel" "charge" "F"] ++ wsX110)
def wsX11_setSettle : List Cond := .code yX11_setSettle cX11_setSettle 3 (some .int) :: ([.fieldLink RX11 29 "ScanRingModel" "thrown" "I", .constant RX11 111 (-10000001), .methodLink RX11 127 yX11_isEntry, .instanceMethod yX11_isEntry, .selects RX11 yX11_isEntry yX11_isEntry, .initialized RX11, .code yX11_isEntry cX11_isEntry 2 (some .boolean), .fieldLink RX11 7 "ScanRingModel" "s" "[I", .methodLink RX11 40 yX11_in, .static yX11_in, .code yX11_in cX11_in 3 (some .boolean), .methodLink RX11 119 yX11_put, .instanceMethod yX11_put, .selects RX11 yX11_put yX11_put, .code yX11_put cX11_put 4 (some .int), .methodLink RX11 112 yX11_act, .instanceMethod yX11_act, .selects RX11 yX11_act yX11_act, .code yX11_act cX11_act 2 none, .fieldLink RX11 33 "ScanRingModel" "savedMany" "I", .fieldLink RX11 16 "ScanRingModel" "saved" "[I", .fieldLink RX11 19 "ScanRingModel" "savedCharge" "[F", .fieldLink RX11 36 "ScanRingModel" "charge" "F"] ++ wsX110)
def wsX11_keyOf : List Cond := .code yX11_keyOf cX11_keyOf 4 (some .int) :: ([.fieldLink RX11 7 "ScanRingModel" "s" "[I", .methodLink RX11 89 yX11_placeOf, .instanceMethod yX11_placeOf, .selects RX11 yX11_placeOf yX11_placeOf, .initialized RX11, .code yX11_placeOf cX11_placeOf 2 (some .int), .methodLink RX11 44 yX11_of, .instanceMethod yX11_of, .selects RX11 yX11_of yX11_of, .code yX11_of cX11_of 3 (some .int), .methodLink RX11 54 yX11_valueOf, .instanceMethod yX11_valueOf, .selects RX11 yX11_valueOf yX11_valueOf, .code yX11_valueOf cX11_valueOf 3 (some .int), .methodLink RX11 51 yX11_valueAt, .instanceMethod yX11_valueAt, .selects RX11 yX11_valueAt yX11_valueAt, .code yX11_valueAt cX11_valueAt 4 (some .int), .methodLink RX11 48 yX11_down, .static yX11_down, .code yX11_down cX11_down 2 (some .int)] ++ wsX110)
def wsX11_swap : List Cond := .code yX11_swap cX11_swap 5 none :: ([.fieldLink RX11 7 "ScanRingModel" "s" "[I", .fieldLink RX11 26 "ScanRingModel" "had" "[I"] ++ wsX110)
def wsX11_orderBy_r1 : List Cond := [Cond.fieldLink RX11 7 "ScanRingModel" "s" "[I", Cond.fieldLink RX11 26 "ScanRingModel" "had" "[I", Cond.methodLink RX11 130 yX11_swap, Cond.instanceMethod yX11_swap, Cond.selects RX11 yX11_swap yX11_swap, Cond.initialized RX11, Cond.code yX11_swap cX11_swap 5 none, Cond.methodLink RX11 133 yX11_keyOf, Cond.instanceMethod yX11_keyOf, Cond.selects RX11 yX11_keyOf yX11_keyOf, Cond.code yX11_keyOf cX11_keyOf 4 (some .int), Cond.methodLink RX11 89 yX11_placeOf, Cond.instanceMethod yX11_placeOf, Cond.selects RX11 yX11_placeOf yX11_placeOf, Cond.code yX11_placeOf cX11_placeOf 2 (some .int), Cond.methodLink RX11 44 yX11_of, Cond.instanceMethod yX11_of, Cond.selects RX11 yX11_of yX11_of, Cond.code yX11_of cX11_of 3 (some .int), Cond.methodLink RX11 54 yX11_valueOf, Cond.instanceMethod yX11_valueOf, Cond.selects RX11 yX11_valueOf yX11_valueOf, Cond.code yX11_valueOf cX11_valueOf 3 (some .int), Cond.methodLink RX11 51 yX11_valueAt]
def wsX11_orderBy_r2 : List Cond := [Cond.instanceMethod yX11_valueAt, Cond.selects RX11 yX11_valueAt yX11_valueAt, Cond.code yX11_valueAt cX11_valueAt 4 (some .int), Cond.methodLink RX11 48 yX11_down, Cond.static yX11_down, Cond.code yX11_down cX11_down 2 (some .int)]
def wsX11_orderBy : List Cond := .code yX11_orderBy cX11_orderBy 5 (some .int) :: ((wsX11_orderBy_r1 ++ wsX11_orderBy_r2) ++ wsX110)
def wsX11_order_r1 : List Cond := [Cond.fieldLink RX11 29 "ScanRingModel" "thrown" "I", Cond.constant RX11 111 (-10000001), Cond.methodLink RX11 40 yX11_in, Cond.static yX11_in, Cond.initialized RX11, Cond.code yX11_in cX11_in 3 (some .boolean), Cond.methodLink RX11 112 yX11_act, Cond.instanceMethod yX11_act, Cond.selects RX11 yX11_act yX11_act, Cond.code yX11_act cX11_act 2 none, Cond.fieldLink RX11 33 "ScanRingModel" "savedMany" "I", Cond.fieldLink RX11 16 "ScanRingModel" "saved" "[I", Cond.fieldLink RX11 19 "ScanRingModel" "savedCharge" "[F", Cond.fieldLink RX11 7 "ScanRingModel" "s" "[I", Cond.fieldLink RX11 36 "ScanRingModel" "charge" "F", Cond.methodLink RX11 136 yX11_orderBy, Cond.instanceMethod yX11_orderBy, Cond.selects RX11 yX11_orderBy yX11_orderBy, Cond.code yX11_orderBy cX11_orderBy 5 (some .int), Cond.fieldLink RX11 26 "ScanRingModel" "had" "[I", Cond.methodLink RX11 130 yX11_swap, Cond.instanceMethod yX11_swap, Cond.selects RX11 yX11_swap yX11_swap, Cond.code yX11_swap cX11_swap 5 none]
def wsX11_order_r2 : List Cond := [Cond.methodLink RX11 133 yX11_keyOf, Cond.instanceMethod yX11_keyOf, Cond.selects RX11 yX11_keyOf yX11_keyOf, Cond.code yX11_keyOf cX11_keyOf 4 (some .int), Cond.methodLink RX11 89 yX11_placeOf, Cond.instanceMethod yX11_placeOf, Cond.selects RX11 yX11_placeOf yX11_placeOf, Cond.code yX11_placeOf cX11_placeOf 2 (some .int), Cond.methodLink RX11 44 yX11_of, Cond.instanceMethod yX11_of, Cond.selects RX11 yX11_of yX11_of, Cond.code yX11_of cX11_of 3 (some .int), Cond.methodLink RX11 54 yX11_valueOf, Cond.instanceMethod yX11_valueOf, Cond.selects RX11 yX11_valueOf yX11_valueOf, Cond.code yX11_valueOf cX11_valueOf 3 (some .int), Cond.methodLink RX11 51 yX11_valueAt, Cond.instanceMethod yX11_valueAt, Cond.selects RX11 yX11_valueAt yX11_valueAt, Cond.code yX11_valueAt cX11_valueAt 4 (some .int), Cond.methodLink RX11 48 yX11_down, Cond.static yX11_down, Cond.code yX11_down cX11_down 2 (some .int)]
def wsX11_order : List Cond := .code yX11_order cX11_order 2 (some .int) :: ((wsX11_order_r1 ++ wsX11_order_r2) ++ wsX110)
def wsX11_slots : List Cond := .code yX11_slots cX11_slots 3 (some .int) :: ([.fieldLink RX11 7 "ScanRingModel" "s" "[I", .methodLink RX11 93 yX11_settleOf, .instanceMethod yX11_settleOf, .selects RX11 yX11_settleOf yX11_settleOf, .initialized RX11, .code yX11_settleOf cX11_settleOf 2 (some .int)] ++ wsX110)
def wsX11_note : List Cond := .code yX11_note cX11_note 4 none :: ([.fieldLink RX11 7 "ScanRingModel" "s" "[I", .fieldLink RX11 66 "ScanRingModel" "simTime" "I", .fieldLink RX11 77 "ScanRingModel" "simReading" "I", .fieldLink RX11 80 "ScanRingModel" "simCarry" "I", .fieldLink RX11 83 "ScanRingModel" "simError" "I", .methodLink RX11 100 yX11_size, .static yX11_size, .initialized RX11, .code yX11_size cX11_size 1 (some .int)] ++ wsX110)
def wsX11_scan_r1 : List Cond := [Cond.fieldLink RX11 29 "ScanRingModel" "thrown" "I", Cond.constant RX11 111 (-10000001), Cond.fieldLink RX11 7 "ScanRingModel" "s" "[I", Cond.constant RX11 139 (-10000002), Cond.constant RX11 122 (-10000003), Cond.fieldLink RX11 63 "ScanRingModel" "simCharge" "F", Cond.fieldLink RX11 36 "ScanRingModel" "charge" "F", Cond.fieldLink RX11 66 "ScanRingModel" "simTime" "I", Cond.methodLink RX11 40 yX11_in, Cond.static yX11_in, Cond.initialized RX11, Cond.code yX11_in cX11_in 3 (some .boolean), Cond.methodLink RX11 140 yX11_slots, Cond.instanceMethod yX11_slots, Cond.selects RX11 yX11_slots yX11_slots, Cond.code yX11_slots cX11_slots 3 (some .int), Cond.methodLink RX11 93 yX11_settleOf, Cond.instanceMethod yX11_settleOf, Cond.selects RX11 yX11_settleOf yX11_settleOf, Cond.code yX11_settleOf cX11_settleOf 2 (some .int), Cond.methodLink RX11 112 yX11_act, Cond.instanceMethod yX11_act, Cond.selects RX11 yX11_act yX11_act, Cond.code yX11_act cX11_act 2 none]
def wsX11_scan_r2 : List Cond := [Cond.fieldLink RX11 33 "ScanRingModel" "savedMany" "I", Cond.fieldLink RX11 16 "ScanRingModel" "saved" "[I", Cond.fieldLink RX11 19 "ScanRingModel" "savedCharge" "[F", Cond.methodLink RX11 86 yX11_begin, Cond.instanceMethod yX11_begin, Cond.selects RX11 yX11_begin yX11_begin, Cond.code yX11_begin cX11_begin 1 none, Cond.methodLink RX11 89 yX11_placeOf, Cond.instanceMethod yX11_placeOf, Cond.selects RX11 yX11_placeOf yX11_placeOf, Cond.code yX11_placeOf cX11_placeOf 2 (some .int), Cond.methodLink RX11 96 yX11_carryOut, Cond.instanceMethod yX11_carryOut, Cond.selects RX11 yX11_carryOut yX11_carryOut, Cond.code yX11_carryOut cX11_carryOut 5 none, Cond.fieldLink RX11 77 "ScanRingModel" "simReading" "I", Cond.fieldLink RX11 80 "ScanRingModel" "simCarry" "I", Cond.fieldLink RX11 83 "ScanRingModel" "simError" "I", Cond.methodLink RX11 69 yX11_slot, Cond.instanceMethod yX11_slot, Cond.selects RX11 yX11_slot yX11_slot, Cond.code yX11_slot cX11_slot 5 (some .float), Cond.methodLink RX11 54 yX11_valueOf, Cond.instanceMethod yX11_valueOf]
def wsX11_scan_r3 : List Cond := [Cond.selects RX11 yX11_valueOf yX11_valueOf, Cond.code yX11_valueOf cX11_valueOf 3 (some .int), Cond.methodLink RX11 51 yX11_valueAt, Cond.instanceMethod yX11_valueAt, Cond.selects RX11 yX11_valueAt yX11_valueAt, Cond.code yX11_valueAt cX11_valueAt 4 (some .int), Cond.methodLink RX11 44 yX11_of, Cond.instanceMethod yX11_of, Cond.selects RX11 yX11_of yX11_of, Cond.code yX11_of cX11_of 3 (some .int), Cond.methodLink RX11 48 yX11_down, Cond.static yX11_down, Cond.code yX11_down cX11_down 2 (some .int), Cond.methodLink RX11 73 yX11_reading, Cond.instanceMethod yX11_reading, Cond.selects RX11 yX11_reading yX11_reading, Cond.code yX11_reading cX11_reading 2 (some .int), Cond.methodLink RX11 59 yX11_readingBy, Cond.static yX11_readingBy, Cond.code yX11_readingBy cX11_readingBy 5 (some .int), Cond.constantFloat RX11 57 (1148846080), Cond.constantFloat RX11 58 (1056964608), Cond.methodLink RX11 144 yX11_note, Cond.instanceMethod yX11_note]
def wsX11_scan_r4 : List Cond := [Cond.selects RX11 yX11_note yX11_note, Cond.code yX11_note cX11_note 4 none, Cond.methodLink RX11 100 yX11_size, Cond.static yX11_size, Cond.code yX11_size cX11_size 1 (some .int)]
def wsX11_scan : List Cond := .code yX11_scan cX11_scan 5 (some .int) :: ((wsX11_scan_r1 ++ (wsX11_scan_r2 ++ (wsX11_scan_r3 ++ wsX11_scan_r4))) ++ wsX110)
def wsX11_pass : List Cond := .code yX11_pass cX11_pass 2 (some .int) :: ([.fieldLink RX11 29 "ScanRingModel" "thrown" "I", .constant RX11 111 (-10000001), .fieldLink RX11 7 "ScanRingModel" "s" "[I", .constant RX11 122 (-10000003), .methodLink RX11 40 yX11_in, .static yX11_in, .initialized RX11, .code yX11_in cX11_in 3 (some .boolean), .methodLink RX11 112 yX11_act, .instanceMethod yX11_act, .selects RX11 yX11_act yX11_act, .code yX11_act cX11_act 2 none, .fieldLink RX11 33 "ScanRingModel" "savedMany" "I", .fieldLink RX11 16 "ScanRingModel" "saved" "[I", .fieldLink RX11 19 "ScanRingModel" "savedCharge" "[F", .fieldLink RX11 36 "ScanRingModel" "charge" "F"] ++ wsX110)
def wsX11_take : List Cond := .code yX11_take cX11_take 4 (some .int) :: ([.fieldLink RX11 29 "ScanRingModel" "thrown" "I", .constant RX11 111 (-10000001), .fieldLink RX11 7 "ScanRingModel" "s" "[I", .methodLink RX11 40 yX11_in, .static yX11_in, .initialized RX11, .code yX11_in cX11_in 3 (some .boolean), .methodLink RX11 112 yX11_act, .instanceMethod yX11_act, .selects RX11 yX11_act yX11_act, .code yX11_act cX11_act 2 none, .fieldLink RX11 33 "ScanRingModel" "savedMany" "I", .fieldLink RX11 16 "ScanRingModel" "saved" "[I", .fieldLink RX11 19 "ScanRingModel" "savedCharge" "[F", .fieldLink RX11 36 "ScanRingModel" "charge" "F"] ++ wsX110)
def wsX11_restore : List Cond := .code yX11_restore cX11_restore 4 (some .int) :: ([.fieldLink RX11 29 "ScanRingModel" "thrown" "I", .constant RX11 111 (-10000001), .fieldLink RX11 7 "ScanRingModel" "s" "[I", .constant RX11 139 (-10000002), .methodLink RX11 40 yX11_in, .static yX11_in, .initialized RX11, .code yX11_in cX11_in 3 (some .boolean), .methodLink RX11 112 yX11_act, .instanceMethod yX11_act, .selects RX11 yX11_act yX11_act, .code yX11_act cX11_act 2 none, .fieldLink RX11 33 "ScanRingModel" "savedMany" "I", .fieldLink RX11 16 "ScanRingModel" "saved" "[I", .fieldLink RX11 19 "ScanRingModel" "savedCharge" "[F", .fieldLink RX11 36 "ScanRingModel" "charge" "F"] ++ wsX110)
def wsX11_undo : List Cond := .code yX11_undo cX11_undo 2 (some .int) :: ([.fieldLink RX11 29 "ScanRingModel" "thrown" "I", .fieldLink RX11 33 "ScanRingModel" "savedMany" "I", .constant RX11 139 (-10000002), .fieldLink RX11 7 "ScanRingModel" "s" "[I", .fieldLink RX11 16 "ScanRingModel" "saved" "[I", .fieldLink RX11 19 "ScanRingModel" "savedCharge" "[F", .fieldLink RX11 36 "ScanRingModel" "charge" "F"] ++ wsX110)
def wsX11_append : List Cond := .code yX11_append cX11_append 2 (some .int) :: ([.fieldLink RX11 29 "ScanRingModel" "thrown" "I", .constant RX11 111 (-10000001), .fieldLink RX11 147 "ScanRingModel" "length" "I", .constant RX11 122 (-10000003), .fieldLink RX11 23 "ScanRingModel" "text" "[I", .methodLink RX11 40 yX11_in, .static yX11_in, .initialized RX11, .code yX11_in cX11_in 3 (some .boolean)] ++ wsX110)
def wsX11_clearText : List Cond := .code yX11_clearText cX11_clearText 2 (some .int) :: ([.fieldLink RX11 29 "ScanRingModel" "thrown" "I", .fieldLink RX11 147 "ScanRingModel" "length" "I"] ++ wsX110)
def wsX11_here : List Cond := .code yX11_here cX11_here 1 (some .int) :: ([.fieldLink RX11 150 "ScanRingModel" "next" "I", .fieldLink RX11 147 "ScanRingModel" "length" "I", .fieldLink RX11 23 "ScanRingModel" "text" "[I"] ++ wsX110)
def wsX11_reads : List Cond := .code yX11_reads cX11_reads 7 (some .boolean) :: ([.fieldLink RX11 150 "ScanRingModel" "next" "I", .fieldLink RX11 147 "ScanRingModel" "length" "I", .fieldLink RX11 23 "ScanRingModel" "text" "[I", .constant RX11 156 (100000), .fieldLink RX11 157 "ScanRingModel" "number" "I", .methodLink RX11 153 yX11_here, .instanceMethod yX11_here, .selects RX11 yX11_here yX11_here, .initialized RX11, .code yX11_here cX11_here 1 (some .int), .methodLink RX11 40 yX11_in, .static yX11_in, .code yX11_in cX11_in 3 (some .boolean)] ++ wsX110)
def wsX11_takes : List Cond := .code yX11_takes cX11_takes 3 (some .boolean) :: ([.fieldLink RX11 150 "ScanRingModel" "next" "I", .methodLink RX11 153 yX11_here, .instanceMethod yX11_here, .selects RX11 yX11_here yX11_here, .initialized RX11, .code yX11_here cX11_here 1 (some .int), .fieldLink RX11 147 "ScanRingModel" "length" "I", .fieldLink RX11 23 "ScanRingModel" "text" "[I"] ++ wsX110)
def wsX11_readsEntry_r1 : List Cond := [Cond.fieldLink RX11 7 "ScanRingModel" "s" "[I", Cond.fieldLink RX11 150 "ScanRingModel" "next" "I", Cond.fieldLink RX11 157 "ScanRingModel" "number" "I", Cond.methodLink RX11 153 yX11_here, Cond.instanceMethod yX11_here, Cond.selects RX11 yX11_here yX11_here, Cond.initialized RX11, Cond.code yX11_here cX11_here 1 (some .int), Cond.fieldLink RX11 147 "ScanRingModel" "length" "I", Cond.fieldLink RX11 23 "ScanRingModel" "text" "[I", Cond.methodLink RX11 160 yX11_reads, Cond.instanceMethod yX11_reads, Cond.selects RX11 yX11_reads yX11_reads, Cond.code yX11_reads cX11_reads 7 (some .boolean), Cond.constant RX11 156 (100000), Cond.methodLink RX11 40 yX11_in, Cond.static yX11_in, Cond.code yX11_in cX11_in 3 (some .boolean), Cond.methodLink RX11 164 yX11_takes, Cond.instanceMethod yX11_takes, Cond.selects RX11 yX11_takes yX11_takes, Cond.code yX11_takes cX11_takes 3 (some .boolean), Cond.methodLink RX11 123 yX11_insert, Cond.instanceMethod yX11_insert]
def wsX11_readsEntry_r2 : List Cond := [Cond.selects RX11 yX11_insert yX11_insert, Cond.code yX11_insert cX11_insert 5 none]
def wsX11_readsEntry : List Cond := .code yX11_readsEntry cX11_readsEntry 3 (some .boolean) :: ((wsX11_readsEntry_r1 ++ wsX11_readsEntry_r2) ++ wsX110)
def wsX11_readsResistance : List Cond := .code yX11_readsResistance cX11_readsResistance 2 (some .boolean) :: ([.fieldLink RX11 7 "ScanRingModel" "s" "[I", .fieldLink RX11 157 "ScanRingModel" "number" "I", .methodLink RX11 160 yX11_reads, .instanceMethod yX11_reads, .selects RX11 yX11_reads yX11_reads, .initialized RX11, .code yX11_reads cX11_reads 7 (some .boolean), .fieldLink RX11 150 "ScanRingModel" "next" "I", .fieldLink RX11 147 "ScanRingModel" "length" "I", .fieldLink RX11 23 "ScanRingModel" "text" "[I", .constant RX11 156 (100000), .methodLink RX11 153 yX11_here, .instanceMethod yX11_here, .selects RX11 yX11_here yX11_here, .code yX11_here cX11_here 1 (some .int), .methodLink RX11 40 yX11_in, .static yX11_in, .code yX11_in cX11_in 3 (some .boolean), .methodLink RX11 164 yX11_takes, .instanceMethod yX11_takes, .selects RX11 yX11_takes yX11_takes, .code yX11_takes cX11_takes 3 (some .boolean)] ++ wsX110)
def wsX11_readsRising_r1 : List Cond := [Cond.fieldLink RX11 157 "ScanRingModel" "number" "I", Cond.methodLink RX11 160 yX11_reads, Cond.instanceMethod yX11_reads, Cond.selects RX11 yX11_reads yX11_reads, Cond.initialized RX11, Cond.code yX11_reads cX11_reads 7 (some .boolean), Cond.fieldLink RX11 150 "ScanRingModel" "next" "I", Cond.fieldLink RX11 147 "ScanRingModel" "length" "I", Cond.fieldLink RX11 23 "ScanRingModel" "text" "[I", Cond.constant RX11 156 (100000), Cond.methodLink RX11 153 yX11_here, Cond.instanceMethod yX11_here, Cond.selects RX11 yX11_here yX11_here, Cond.code yX11_here cX11_here 1 (some .int), Cond.methodLink RX11 40 yX11_in, Cond.static yX11_in, Cond.code yX11_in cX11_in 3 (some .boolean), Cond.methodLink RX11 115 yX11_putSource, Cond.instanceMethod yX11_putSource, Cond.selects RX11 yX11_putSource yX11_putSource, Cond.code yX11_putSource cX11_putSource 6 none, Cond.fieldLink RX11 7 "ScanRingModel" "s" "[I", Cond.methodLink RX11 164 yX11_takes, Cond.instanceMethod yX11_takes]
def wsX11_readsRising_r2 : List Cond := [Cond.selects RX11 yX11_takes yX11_takes, Cond.code yX11_takes cX11_takes 3 (some .boolean)]
def wsX11_readsRising : List Cond := .code yX11_readsRising cX11_readsRising 4 (some .boolean) :: ((wsX11_readsRising_r1 ++ wsX11_readsRising_r2) ++ wsX110)
def wsX11_readsJumping_r1 : List Cond := [Cond.fieldLink RX11 157 "ScanRingModel" "number" "I", Cond.methodLink RX11 160 yX11_reads, Cond.instanceMethod yX11_reads, Cond.selects RX11 yX11_reads yX11_reads, Cond.initialized RX11, Cond.code yX11_reads cX11_reads 7 (some .boolean), Cond.fieldLink RX11 150 "ScanRingModel" "next" "I", Cond.fieldLink RX11 147 "ScanRingModel" "length" "I", Cond.fieldLink RX11 23 "ScanRingModel" "text" "[I", Cond.constant RX11 156 (100000), Cond.methodLink RX11 153 yX11_here, Cond.instanceMethod yX11_here, Cond.selects RX11 yX11_here yX11_here, Cond.code yX11_here cX11_here 1 (some .int), Cond.methodLink RX11 40 yX11_in, Cond.static yX11_in, Cond.code yX11_in cX11_in 3 (some .boolean), Cond.methodLink RX11 164 yX11_takes, Cond.instanceMethod yX11_takes, Cond.selects RX11 yX11_takes yX11_takes, Cond.code yX11_takes cX11_takes 3 (some .boolean), Cond.methodLink RX11 115 yX11_putSource, Cond.instanceMethod yX11_putSource, Cond.selects RX11 yX11_putSource yX11_putSource]
def wsX11_readsJumping_r2 : List Cond := [Cond.code yX11_putSource cX11_putSource 6 none, Cond.fieldLink RX11 7 "ScanRingModel" "s" "[I"]
def wsX11_readsJumping : List Cond := .code yX11_readsJumping cX11_readsJumping 4 (some .boolean) :: ((wsX11_readsJumping_r1 ++ wsX11_readsJumping_r2) ++ wsX110)
def wsX11_readsSource_r1 : List Cond := [Cond.fieldLink RX11 157 "ScanRingModel" "number" "I", Cond.methodLink RX11 160 yX11_reads, Cond.instanceMethod yX11_reads, Cond.selects RX11 yX11_reads yX11_reads, Cond.initialized RX11, Cond.code yX11_reads cX11_reads 7 (some .boolean), Cond.fieldLink RX11 150 "ScanRingModel" "next" "I", Cond.fieldLink RX11 147 "ScanRingModel" "length" "I", Cond.fieldLink RX11 23 "ScanRingModel" "text" "[I", Cond.constant RX11 156 (100000), Cond.methodLink RX11 153 yX11_here, Cond.instanceMethod yX11_here, Cond.selects RX11 yX11_here yX11_here, Cond.code yX11_here cX11_here 1 (some .int), Cond.methodLink RX11 40 yX11_in, Cond.static yX11_in, Cond.code yX11_in cX11_in 3 (some .boolean), Cond.methodLink RX11 164 yX11_takes, Cond.instanceMethod yX11_takes, Cond.selects RX11 yX11_takes yX11_takes, Cond.code yX11_takes cX11_takes 3 (some .boolean), Cond.methodLink RX11 167 yX11_readsRising, Cond.instanceMethod yX11_readsRising, Cond.selects RX11 yX11_readsRising yX11_readsRising]
def wsX11_readsSource_r2 : List Cond := [Cond.code yX11_readsRising cX11_readsRising 4 (some .boolean), Cond.methodLink RX11 115 yX11_putSource, Cond.instanceMethod yX11_putSource, Cond.selects RX11 yX11_putSource yX11_putSource, Cond.code yX11_putSource cX11_putSource 6 none, Cond.fieldLink RX11 7 "ScanRingModel" "s" "[I", Cond.methodLink RX11 170 yX11_readsJumping, Cond.instanceMethod yX11_readsJumping, Cond.selects RX11 yX11_readsJumping yX11_readsJumping, Cond.code yX11_readsJumping cX11_readsJumping 4 (some .boolean)]
def wsX11_readsSource : List Cond := .code yX11_readsSource cX11_readsSource 3 (some .boolean) :: ((wsX11_readsSource_r1 ++ wsX11_readsSource_r2) ++ wsX110)
def wsX11_readsItem_r1 : List Cond := [Cond.fieldLink RX11 157 "ScanRingModel" "number" "I", Cond.methodLink RX11 164 yX11_takes, Cond.instanceMethod yX11_takes, Cond.selects RX11 yX11_takes yX11_takes, Cond.initialized RX11, Cond.code yX11_takes cX11_takes 3 (some .boolean), Cond.fieldLink RX11 150 "ScanRingModel" "next" "I", Cond.methodLink RX11 153 yX11_here, Cond.instanceMethod yX11_here, Cond.selects RX11 yX11_here yX11_here, Cond.code yX11_here cX11_here 1 (some .int), Cond.fieldLink RX11 147 "ScanRingModel" "length" "I", Cond.fieldLink RX11 23 "ScanRingModel" "text" "[I", Cond.methodLink RX11 173 yX11_readsEntry, Cond.instanceMethod yX11_readsEntry, Cond.selects RX11 yX11_readsEntry yX11_readsEntry, Cond.code yX11_readsEntry cX11_readsEntry 3 (some .boolean), Cond.fieldLink RX11 7 "ScanRingModel" "s" "[I", Cond.methodLink RX11 160 yX11_reads, Cond.instanceMethod yX11_reads, Cond.selects RX11 yX11_reads yX11_reads, Cond.code yX11_reads cX11_reads 7 (some .boolean), Cond.constant RX11 156 (100000), Cond.methodLink RX11 40 yX11_in]
def wsX11_readsItem_r2 : List Cond := [Cond.static yX11_in, Cond.code yX11_in cX11_in 3 (some .boolean), Cond.methodLink RX11 123 yX11_insert, Cond.instanceMethod yX11_insert, Cond.selects RX11 yX11_insert yX11_insert, Cond.code yX11_insert cX11_insert 5 none, Cond.methodLink RX11 176 yX11_readsSource, Cond.instanceMethod yX11_readsSource, Cond.selects RX11 yX11_readsSource yX11_readsSource, Cond.code yX11_readsSource cX11_readsSource 3 (some .boolean), Cond.methodLink RX11 167 yX11_readsRising, Cond.instanceMethod yX11_readsRising, Cond.selects RX11 yX11_readsRising yX11_readsRising, Cond.code yX11_readsRising cX11_readsRising 4 (some .boolean), Cond.methodLink RX11 115 yX11_putSource, Cond.instanceMethod yX11_putSource, Cond.selects RX11 yX11_putSource yX11_putSource, Cond.code yX11_putSource cX11_putSource 6 none, Cond.methodLink RX11 170 yX11_readsJumping, Cond.instanceMethod yX11_readsJumping, Cond.selects RX11 yX11_readsJumping yX11_readsJumping, Cond.code yX11_readsJumping cX11_readsJumping 4 (some .boolean), Cond.methodLink RX11 179 yX11_readsResistance, Cond.instanceMethod yX11_readsResistance]
def wsX11_readsItem_r3 : List Cond := [Cond.selects RX11 yX11_readsResistance yX11_readsResistance, Cond.code yX11_readsResistance cX11_readsResistance 2 (some .boolean)]
def wsX11_readsItem : List Cond := .code yX11_readsItem cX11_readsItem 2 (some .boolean) :: ((wsX11_readsItem_r1 ++ (wsX11_readsItem_r2 ++ wsX11_readsItem_r3)) ++ wsX110)
def wsX11_load_r1 : List Cond := [Cond.fieldLink RX11 29 "ScanRingModel" "thrown" "I", Cond.fieldLink RX11 150 "ScanRingModel" "next" "I", Cond.constant RX11 192 (-20000000), Cond.fieldLink RX11 147 "ScanRingModel" "length" "I", Cond.methodLink RX11 182 yX11_hold, Cond.instanceMethod yX11_hold, Cond.selects RX11 yX11_hold yX11_hold, Cond.initialized RX11, Cond.code yX11_hold cX11_hold 2 none, Cond.fieldLink RX11 13 "ScanRingModel" "aside" "[I", Cond.fieldLink RX11 7 "ScanRingModel" "s" "[I", Cond.methodLink RX11 153 yX11_here, Cond.instanceMethod yX11_here, Cond.selects RX11 yX11_here yX11_here, Cond.code yX11_here cX11_here 1 (some .int), Cond.fieldLink RX11 23 "ScanRingModel" "text" "[I", Cond.methodLink RX11 185 yX11_readsItem, Cond.instanceMethod yX11_readsItem, Cond.selects RX11 yX11_readsItem yX11_readsItem, Cond.code yX11_readsItem cX11_readsItem 2 (some .boolean), Cond.fieldLink RX11 157 "ScanRingModel" "number" "I", Cond.methodLink RX11 164 yX11_takes, Cond.instanceMethod yX11_takes, Cond.selects RX11 yX11_takes yX11_takes]
def wsX11_load_r2 : List Cond := [Cond.code yX11_takes cX11_takes 3 (some .boolean), Cond.methodLink RX11 173 yX11_readsEntry, Cond.instanceMethod yX11_readsEntry, Cond.selects RX11 yX11_readsEntry yX11_readsEntry, Cond.code yX11_readsEntry cX11_readsEntry 3 (some .boolean), Cond.methodLink RX11 160 yX11_reads, Cond.instanceMethod yX11_reads, Cond.selects RX11 yX11_reads yX11_reads, Cond.code yX11_reads cX11_reads 7 (some .boolean), Cond.constant RX11 156 (100000), Cond.methodLink RX11 40 yX11_in, Cond.static yX11_in, Cond.code yX11_in cX11_in 3 (some .boolean), Cond.methodLink RX11 123 yX11_insert, Cond.instanceMethod yX11_insert, Cond.selects RX11 yX11_insert yX11_insert, Cond.code yX11_insert cX11_insert 5 none, Cond.methodLink RX11 176 yX11_readsSource, Cond.instanceMethod yX11_readsSource, Cond.selects RX11 yX11_readsSource yX11_readsSource, Cond.code yX11_readsSource cX11_readsSource 3 (some .boolean), Cond.methodLink RX11 167 yX11_readsRising, Cond.instanceMethod yX11_readsRising, Cond.selects RX11 yX11_readsRising yX11_readsRising]
def wsX11_load_r3 : List Cond := [Cond.code yX11_readsRising cX11_readsRising 4 (some .boolean), Cond.methodLink RX11 115 yX11_putSource, Cond.instanceMethod yX11_putSource, Cond.selects RX11 yX11_putSource yX11_putSource, Cond.code yX11_putSource cX11_putSource 6 none, Cond.methodLink RX11 170 yX11_readsJumping, Cond.instanceMethod yX11_readsJumping, Cond.selects RX11 yX11_readsJumping yX11_readsJumping, Cond.code yX11_readsJumping cX11_readsJumping 4 (some .boolean), Cond.methodLink RX11 179 yX11_readsResistance, Cond.instanceMethod yX11_readsResistance, Cond.selects RX11 yX11_readsResistance yX11_readsResistance, Cond.code yX11_readsResistance cX11_readsResistance 2 (some .boolean), Cond.methodLink RX11 189 yX11_exchange, Cond.instanceMethod yX11_exchange, Cond.selects RX11 yX11_exchange yX11_exchange, Cond.code yX11_exchange cX11_exchange 3 none, Cond.methodLink RX11 112 yX11_act, Cond.instanceMethod yX11_act, Cond.selects RX11 yX11_act yX11_act, Cond.code yX11_act cX11_act 2 none, Cond.fieldLink RX11 33 "ScanRingModel" "savedMany" "I", Cond.fieldLink RX11 16 "ScanRingModel" "saved" "[I", Cond.fieldLink RX11 19 "ScanRingModel" "savedCharge" "[F"]
def wsX11_load_r4 : List Cond := [Cond.fieldLink RX11 36 "ScanRingModel" "charge" "F"]
def wsX11_load : List Cond := .code yX11_load cX11_load 3 (some .int) :: ((wsX11_load_r1 ++ (wsX11_load_r2 ++ (wsX11_load_r3 ++ wsX11_load_r4))) ++ wsX110)
def wsX11_kinds : List Cond := .code yX11_kinds cX11_kinds 4 (some .int) :: ([.methodLink RX11 44 yX11_of, .instanceMethod yX11_of, .selects RX11 yX11_of yX11_of, .initialized RX11, .code yX11_of cX11_of 3 (some .int), .fieldLink RX11 7 "ScanRingModel" "s" "[I"] ++ wsX110)
def wsX11_count : List Cond := .code yX11_count cX11_count 2 (some .int) :: ([.fieldLink RX11 29 "ScanRingModel" "thrown" "I", .fieldLink RX11 7 "ScanRingModel" "s" "[I", .fieldLink RX11 33 "ScanRingModel" "savedMany" "I", .fieldLink RX11 147 "ScanRingModel" "length" "I", .constant RX11 111 (-10000001), .methodLink RX11 140 yX11_slots, .instanceMethod yX11_slots, .selects RX11 yX11_slots yX11_slots, .initialized RX11, .code yX11_slots cX11_slots 3 (some .int), .methodLink RX11 93 yX11_settleOf, .instanceMethod yX11_settleOf, .selects RX11 yX11_settleOf yX11_settleOf, .code yX11_settleOf cX11_settleOf 2 (some .int), .methodLink RX11 193 yX11_kinds, .instanceMethod yX11_kinds, .selects RX11 yX11_kinds yX11_kinds, .code yX11_kinds cX11_kinds 4 (some .int), .methodLink RX11 44 yX11_of, .instanceMethod yX11_of, .selects RX11 yX11_of yX11_of, .code yX11_of cX11_of 3 (some .int)] ++ wsX110)
def wsX11_corrected : List Cond := .code yX11_corrected cX11_corrected 5 (some .int) :: ([.fieldLink RX11 7 "ScanRingModel" "s" "[I", .constant RX11 196 (-10000009), .methodLink RX11 48 yX11_down, .static yX11_down, .initialized RX11, .code yX11_down cX11_down 2 (some .int)] ++ wsX110)
def wsX11_entriesOf : List Cond := .code yX11_entriesOf cX11_entriesOf 4 (some .int) :: ([.fieldLink RX11 7 "ScanRingModel" "s" "[I", .methodLink RX11 89 yX11_placeOf, .instanceMethod yX11_placeOf, .selects RX11 yX11_placeOf yX11_placeOf, .initialized RX11, .code yX11_placeOf cX11_placeOf 2 (some .int)] ++ wsX110)
def wsX11_channel_r1 : List Cond := [Cond.fieldLink RX11 29 "ScanRingModel" "thrown" "I", Cond.constant RX11 111 (-10000001), Cond.fieldLink RX11 7 "ScanRingModel" "s" "[I", Cond.constant RX11 196 (-10000009), Cond.methodLink RX11 103 yX11_isChannel, Cond.static yX11_isChannel, Cond.initialized RX11, Cond.code yX11_isChannel cX11_isChannel 1 (some .boolean), Cond.methodLink RX11 40 yX11_in, Cond.static yX11_in, Cond.code yX11_in cX11_in 3 (some .boolean), Cond.methodLink RX11 197 yX11_corrected, Cond.instanceMethod yX11_corrected, Cond.selects RX11 yX11_corrected yX11_corrected, Cond.code yX11_corrected cX11_corrected 5 (some .int), Cond.methodLink RX11 48 yX11_down, Cond.static yX11_down, Cond.code yX11_down cX11_down 2 (some .int), Cond.methodLink RX11 200 yX11_entriesOf, Cond.instanceMethod yX11_entriesOf, Cond.selects RX11 yX11_entriesOf yX11_entriesOf, Cond.code yX11_entriesOf cX11_entriesOf 4 (some .int), Cond.methodLink RX11 89 yX11_placeOf, Cond.instanceMethod yX11_placeOf]
def wsX11_channel_r2 : List Cond := [Cond.selects RX11 yX11_placeOf yX11_placeOf, Cond.code yX11_placeOf cX11_placeOf 2 (some .int), Cond.methodLink RX11 44 yX11_of, Cond.instanceMethod yX11_of, Cond.selects RX11 yX11_of yX11_of, Cond.code yX11_of cX11_of 3 (some .int)]
def wsX11_channel : List Cond := .code yX11_channel cX11_channel 3 (some .int) :: ((wsX11_channel_r1 ++ wsX11_channel_r2) ++ wsX110)
def wsX11_entry : List Cond := .code yX11_entry cX11_entry 3 (some .int) :: ([.fieldLink RX11 29 "ScanRingModel" "thrown" "I", .constant RX11 111 (-10000001), .fieldLink RX11 7 "ScanRingModel" "s" "[I", .constant RX11 196 (-10000009), .methodLink RX11 40 yX11_in, .static yX11_in, .initialized RX11, .code yX11_in cX11_in 3 (some .boolean)] ++ wsX110)
def wsX11_value : List Cond := .code yX11_value cX11_value 3 (some .int) :: ([.fieldLink RX11 29 "ScanRingModel" "thrown" "I", .constant RX11 111 (-10000001), .methodLink RX11 103 yX11_isChannel, .static yX11_isChannel, .initialized RX11, .code yX11_isChannel cX11_isChannel 1 (some .boolean), .methodLink RX11 40 yX11_in, .static yX11_in, .code yX11_in cX11_in 3 (some .boolean), .methodLink RX11 51 yX11_valueAt, .instanceMethod yX11_valueAt, .selects RX11 yX11_valueAt yX11_valueAt, .code yX11_valueAt cX11_valueAt 4 (some .int), .methodLink RX11 44 yX11_of, .instanceMethod yX11_of, .selects RX11 yX11_of yX11_of, .code yX11_of cX11_of 3 (some .int), .fieldLink RX11 7 "ScanRingModel" "s" "[I", .methodLink RX11 48 yX11_down, .static yX11_down, .code yX11_down cX11_down 2 (some .int)] ++ wsX110)
def wsX11_sample : List Cond := .code yX11_sample cX11_sample 3 (some .int) :: ([.fieldLink RX11 29 "ScanRingModel" "thrown" "I", .constant RX11 111 (-10000001), .fieldLink RX11 7 "ScanRingModel" "s" "[I", .constant RX11 196 (-10000009), .methodLink RX11 40 yX11_in, .static yX11_in, .initialized RX11, .code yX11_in cX11_in 3 (some .boolean)] ++ wsX110)
def wsX11_account : List Cond := .code yX11_account cX11_account 2 (some .int) :: ([.fieldLink RX11 29 "ScanRingModel" "thrown" "I", .constant RX11 111 (-10000001), .fieldLink RX11 7 "ScanRingModel" "s" "[I", .methodLink RX11 40 yX11_in, .static yX11_in, .initialized RX11, .code yX11_in cX11_in 3 (some .boolean)] ++ wsX110)
def wsX11_held : List Cond := .code yX11_held cX11_held 2 (some .int) :: ([.fieldLink RX11 29 "ScanRingModel" "thrown" "I", .constant RX11 111 (-10000001), .fieldLink RX11 36 "ScanRingModel" "charge" "F", .constantFloat RX11 203 (1132462080), .methodLink RX11 40 yX11_in, .static yX11_in, .initialized RX11, .code yX11_in cX11_in 3 (some .boolean), .methodLink RX11 73 yX11_reading, .instanceMethod yX11_reading, .selects RX11 yX11_reading yX11_reading, .code yX11_reading cX11_reading 2 (some .int), .fieldLink RX11 7 "ScanRingModel" "s" "[I", .methodLink RX11 59 yX11_readingBy, .static yX11_readingBy, .code yX11_readingBy cX11_readingBy 5 (some .int), .constantFloat RX11 57 (1148846080), .constantFloat RX11 58 (1056964608)] ++ wsX110)
def wsX11_would_r1 : List Cond := [Cond.fieldLink RX11 29 "ScanRingModel" "thrown" "I", Cond.constant RX11 111 (-10000001), Cond.fieldLink RX11 77 "ScanRingModel" "simReading" "I", Cond.fieldLink RX11 80 "ScanRingModel" "simCarry" "I", Cond.fieldLink RX11 83 "ScanRingModel" "simError" "I", Cond.methodLink RX11 127 yX11_isEntry, Cond.instanceMethod yX11_isEntry, Cond.selects RX11 yX11_isEntry yX11_isEntry, Cond.initialized RX11, Cond.code yX11_isEntry cX11_isEntry 2 (some .boolean), Cond.fieldLink RX11 7 "ScanRingModel" "s" "[I", Cond.methodLink RX11 40 yX11_in, Cond.static yX11_in, Cond.code yX11_in cX11_in 3 (some .boolean), Cond.methodLink RX11 204 yX11_carryOutTo, Cond.instanceMethod yX11_carryOutTo, Cond.selects RX11 yX11_carryOutTo yX11_carryOutTo, Cond.code yX11_carryOutTo cX11_carryOutTo 3 none, Cond.methodLink RX11 86 yX11_begin, Cond.instanceMethod yX11_begin, Cond.selects RX11 yX11_begin yX11_begin, Cond.code yX11_begin cX11_begin 1 none, Cond.fieldLink RX11 36 "ScanRingModel" "charge" "F", Cond.fieldLink RX11 63 "ScanRingModel" "simCharge" "F"]
def wsX11_would_r2 : List Cond := [Cond.fieldLink RX11 66 "ScanRingModel" "simTime" "I", Cond.methodLink RX11 89 yX11_placeOf, Cond.instanceMethod yX11_placeOf, Cond.selects RX11 yX11_placeOf yX11_placeOf, Cond.code yX11_placeOf cX11_placeOf 2 (some .int), Cond.methodLink RX11 93 yX11_settleOf, Cond.instanceMethod yX11_settleOf, Cond.selects RX11 yX11_settleOf yX11_settleOf, Cond.code yX11_settleOf cX11_settleOf 2 (some .int), Cond.methodLink RX11 96 yX11_carryOut, Cond.instanceMethod yX11_carryOut, Cond.selects RX11 yX11_carryOut yX11_carryOut, Cond.code yX11_carryOut cX11_carryOut 5 none, Cond.methodLink RX11 69 yX11_slot, Cond.instanceMethod yX11_slot, Cond.selects RX11 yX11_slot yX11_slot, Cond.code yX11_slot cX11_slot 5 (some .float), Cond.methodLink RX11 54 yX11_valueOf, Cond.instanceMethod yX11_valueOf, Cond.selects RX11 yX11_valueOf yX11_valueOf, Cond.code yX11_valueOf cX11_valueOf 3 (some .int), Cond.methodLink RX11 51 yX11_valueAt, Cond.instanceMethod yX11_valueAt, Cond.selects RX11 yX11_valueAt yX11_valueAt]
def wsX11_would_r3 : List Cond := [Cond.code yX11_valueAt cX11_valueAt 4 (some .int), Cond.methodLink RX11 44 yX11_of, Cond.instanceMethod yX11_of, Cond.selects RX11 yX11_of yX11_of, Cond.code yX11_of cX11_of 3 (some .int), Cond.methodLink RX11 48 yX11_down, Cond.static yX11_down, Cond.code yX11_down cX11_down 2 (some .int), Cond.methodLink RX11 73 yX11_reading, Cond.instanceMethod yX11_reading, Cond.selects RX11 yX11_reading yX11_reading, Cond.code yX11_reading cX11_reading 2 (some .int), Cond.methodLink RX11 59 yX11_readingBy, Cond.static yX11_readingBy, Cond.code yX11_readingBy cX11_readingBy 5 (some .int), Cond.constantFloat RX11 57 (1148846080), Cond.constantFloat RX11 58 (1056964608)]
def wsX11_would : List Cond := .code yX11_would cX11_would 3 (some .int) :: ((wsX11_would_r1 ++ (wsX11_would_r2 ++ wsX11_would_r3)) ++ wsX110)
def wsX11_why_r1 : List Cond := [Cond.fieldLink RX11 29 "ScanRingModel" "thrown" "I", Cond.constant RX11 111 (-10000001), Cond.fieldLink RX11 83 "ScanRingModel" "simError" "I", Cond.fieldLink RX11 80 "ScanRingModel" "simCarry" "I", Cond.fieldLink RX11 63 "ScanRingModel" "simCharge" "F", Cond.fieldLink RX11 66 "ScanRingModel" "simTime" "I", Cond.methodLink RX11 127 yX11_isEntry, Cond.instanceMethod yX11_isEntry, Cond.selects RX11 yX11_isEntry yX11_isEntry, Cond.initialized RX11, Cond.code yX11_isEntry cX11_isEntry 2 (some .boolean), Cond.fieldLink RX11 7 "ScanRingModel" "s" "[I", Cond.methodLink RX11 40 yX11_in, Cond.static yX11_in, Cond.code yX11_in cX11_in 3 (some .boolean), Cond.methodLink RX11 204 yX11_carryOutTo, Cond.instanceMethod yX11_carryOutTo, Cond.selects RX11 yX11_carryOutTo yX11_carryOutTo, Cond.code yX11_carryOutTo cX11_carryOutTo 3 none, Cond.methodLink RX11 86 yX11_begin, Cond.instanceMethod yX11_begin, Cond.selects RX11 yX11_begin yX11_begin, Cond.code yX11_begin cX11_begin 1 none, Cond.fieldLink RX11 36 "ScanRingModel" "charge" "F"]
def wsX11_why_r2 : List Cond := [Cond.methodLink RX11 89 yX11_placeOf, Cond.instanceMethod yX11_placeOf, Cond.selects RX11 yX11_placeOf yX11_placeOf, Cond.code yX11_placeOf cX11_placeOf 2 (some .int), Cond.methodLink RX11 93 yX11_settleOf, Cond.instanceMethod yX11_settleOf, Cond.selects RX11 yX11_settleOf yX11_settleOf, Cond.code yX11_settleOf cX11_settleOf 2 (some .int), Cond.methodLink RX11 96 yX11_carryOut, Cond.instanceMethod yX11_carryOut, Cond.selects RX11 yX11_carryOut yX11_carryOut, Cond.code yX11_carryOut cX11_carryOut 5 none, Cond.fieldLink RX11 77 "ScanRingModel" "simReading" "I", Cond.methodLink RX11 69 yX11_slot, Cond.instanceMethod yX11_slot, Cond.selects RX11 yX11_slot yX11_slot, Cond.code yX11_slot cX11_slot 5 (some .float), Cond.methodLink RX11 54 yX11_valueOf, Cond.instanceMethod yX11_valueOf, Cond.selects RX11 yX11_valueOf yX11_valueOf, Cond.code yX11_valueOf cX11_valueOf 3 (some .int), Cond.methodLink RX11 51 yX11_valueAt, Cond.instanceMethod yX11_valueAt, Cond.selects RX11 yX11_valueAt yX11_valueAt]
def wsX11_why_r3 : List Cond := [Cond.code yX11_valueAt cX11_valueAt 4 (some .int), Cond.methodLink RX11 44 yX11_of, Cond.instanceMethod yX11_of, Cond.selects RX11 yX11_of yX11_of, Cond.code yX11_of cX11_of 3 (some .int), Cond.methodLink RX11 48 yX11_down, Cond.static yX11_down, Cond.code yX11_down cX11_down 2 (some .int), Cond.methodLink RX11 73 yX11_reading, Cond.instanceMethod yX11_reading, Cond.selects RX11 yX11_reading yX11_reading, Cond.code yX11_reading cX11_reading 2 (some .int), Cond.methodLink RX11 59 yX11_readingBy, Cond.static yX11_readingBy, Cond.code yX11_readingBy cX11_readingBy 5 (some .int), Cond.constantFloat RX11 57 (1148846080), Cond.constantFloat RX11 58 (1056964608)]
def wsX11_why : List Cond := .code yX11_why cX11_why 2 (some .int) :: ((wsX11_why_r1 ++ (wsX11_why_r2 ++ wsX11_why_r3)) ++ wsX110)
def wsX11_settleFor_r1 : List Cond := [Cond.fieldLink RX11 29 "ScanRingModel" "thrown" "I", Cond.constant RX11 111 (-10000001), Cond.constant RX11 196 (-10000009), Cond.fieldLink RX11 7 "ScanRingModel" "s" "[I", Cond.fieldLink RX11 83 "ScanRingModel" "simError" "I", Cond.methodLink RX11 127 yX11_isEntry, Cond.instanceMethod yX11_isEntry, Cond.selects RX11 yX11_isEntry yX11_isEntry, Cond.initialized RX11, Cond.code yX11_isEntry cX11_isEntry 2 (some .boolean), Cond.methodLink RX11 40 yX11_in, Cond.static yX11_in, Cond.code yX11_in cX11_in 3 (some .boolean), Cond.methodLink RX11 93 yX11_settleOf, Cond.instanceMethod yX11_settleOf, Cond.selects RX11 yX11_settleOf yX11_settleOf, Cond.code yX11_settleOf cX11_settleOf 2 (some .int), Cond.methodLink RX11 204 yX11_carryOutTo, Cond.instanceMethod yX11_carryOutTo, Cond.selects RX11 yX11_carryOutTo yX11_carryOutTo, Cond.code yX11_carryOutTo cX11_carryOutTo 3 none, Cond.methodLink RX11 86 yX11_begin, Cond.instanceMethod yX11_begin, Cond.selects RX11 yX11_begin yX11_begin]
def wsX11_settleFor_r2 : List Cond := [Cond.code yX11_begin cX11_begin 1 none, Cond.fieldLink RX11 36 "ScanRingModel" "charge" "F", Cond.fieldLink RX11 63 "ScanRingModel" "simCharge" "F", Cond.fieldLink RX11 66 "ScanRingModel" "simTime" "I", Cond.methodLink RX11 89 yX11_placeOf, Cond.instanceMethod yX11_placeOf, Cond.selects RX11 yX11_placeOf yX11_placeOf, Cond.code yX11_placeOf cX11_placeOf 2 (some .int), Cond.methodLink RX11 96 yX11_carryOut, Cond.instanceMethod yX11_carryOut, Cond.selects RX11 yX11_carryOut yX11_carryOut, Cond.code yX11_carryOut cX11_carryOut 5 none, Cond.fieldLink RX11 77 "ScanRingModel" "simReading" "I", Cond.fieldLink RX11 80 "ScanRingModel" "simCarry" "I", Cond.methodLink RX11 69 yX11_slot, Cond.instanceMethod yX11_slot, Cond.selects RX11 yX11_slot yX11_slot, Cond.code yX11_slot cX11_slot 5 (some .float), Cond.methodLink RX11 54 yX11_valueOf, Cond.instanceMethod yX11_valueOf, Cond.selects RX11 yX11_valueOf yX11_valueOf, Cond.code yX11_valueOf cX11_valueOf 3 (some .int), Cond.methodLink RX11 51 yX11_valueAt, Cond.instanceMethod yX11_valueAt]
def wsX11_settleFor_r3 : List Cond := [Cond.selects RX11 yX11_valueAt yX11_valueAt, Cond.code yX11_valueAt cX11_valueAt 4 (some .int), Cond.methodLink RX11 44 yX11_of, Cond.instanceMethod yX11_of, Cond.selects RX11 yX11_of yX11_of, Cond.code yX11_of cX11_of 3 (some .int), Cond.methodLink RX11 48 yX11_down, Cond.static yX11_down, Cond.code yX11_down cX11_down 2 (some .int), Cond.methodLink RX11 73 yX11_reading, Cond.instanceMethod yX11_reading, Cond.selects RX11 yX11_reading yX11_reading, Cond.code yX11_reading cX11_reading 2 (some .int), Cond.methodLink RX11 59 yX11_readingBy, Cond.static yX11_readingBy, Cond.code yX11_readingBy cX11_readingBy 5 (some .int), Cond.constantFloat RX11 57 (1148846080), Cond.constantFloat RX11 58 (1056964608), Cond.methodLink RX11 100 yX11_size, Cond.static yX11_size, Cond.code yX11_size cX11_size 1 (some .int)]
def wsX11_settleFor : List Cond := .code yX11_settleFor cX11_settleFor 6 (some .int) :: ((wsX11_settleFor_r1 ++ (wsX11_settleFor_r2 ++ wsX11_settleFor_r3)) ++ wsX110)
def wsX11_bestRule_r1 : List Cond := [Cond.fieldLink RX11 29 "ScanRingModel" "thrown" "I", Cond.methodLink RX11 208 yX11_carries, Cond.instanceMethod yX11_carries, Cond.selects RX11 yX11_carries yX11_carries, Cond.initialized RX11, Cond.code yX11_carries cX11_carries 3 (some .int), Cond.fieldLink RX11 7 "ScanRingModel" "s" "[I", Cond.fieldLink RX11 80 "ScanRingModel" "simCarry" "I", Cond.methodLink RX11 86 yX11_begin, Cond.instanceMethod yX11_begin, Cond.selects RX11 yX11_begin yX11_begin, Cond.code yX11_begin cX11_begin 1 none, Cond.fieldLink RX11 36 "ScanRingModel" "charge" "F", Cond.fieldLink RX11 63 "ScanRingModel" "simCharge" "F", Cond.fieldLink RX11 66 "ScanRingModel" "simTime" "I", Cond.methodLink RX11 89 yX11_placeOf, Cond.instanceMethod yX11_placeOf, Cond.selects RX11 yX11_placeOf yX11_placeOf, Cond.code yX11_placeOf cX11_placeOf 2 (some .int), Cond.methodLink RX11 93 yX11_settleOf, Cond.instanceMethod yX11_settleOf, Cond.selects RX11 yX11_settleOf yX11_settleOf, Cond.code yX11_settleOf cX11_settleOf 2 (some .int), Cond.methodLink RX11 96 yX11_carryOut]
def wsX11_bestRule_r2 : List Cond := [Cond.instanceMethod yX11_carryOut, Cond.selects RX11 yX11_carryOut yX11_carryOut, Cond.code yX11_carryOut cX11_carryOut 5 none, Cond.fieldLink RX11 77 "ScanRingModel" "simReading" "I", Cond.fieldLink RX11 83 "ScanRingModel" "simError" "I", Cond.methodLink RX11 69 yX11_slot, Cond.instanceMethod yX11_slot, Cond.selects RX11 yX11_slot yX11_slot, Cond.code yX11_slot cX11_slot 5 (some .float), Cond.methodLink RX11 54 yX11_valueOf, Cond.instanceMethod yX11_valueOf, Cond.selects RX11 yX11_valueOf yX11_valueOf, Cond.code yX11_valueOf cX11_valueOf 3 (some .int), Cond.methodLink RX11 51 yX11_valueAt, Cond.instanceMethod yX11_valueAt, Cond.selects RX11 yX11_valueAt yX11_valueAt, Cond.code yX11_valueAt cX11_valueAt 4 (some .int), Cond.methodLink RX11 44 yX11_of, Cond.instanceMethod yX11_of, Cond.selects RX11 yX11_of yX11_of, Cond.code yX11_of cX11_of 3 (some .int), Cond.methodLink RX11 48 yX11_down, Cond.static yX11_down, Cond.code yX11_down cX11_down 2 (some .int)]
def wsX11_bestRule_r3 : List Cond := [Cond.methodLink RX11 73 yX11_reading, Cond.instanceMethod yX11_reading, Cond.selects RX11 yX11_reading yX11_reading, Cond.code yX11_reading cX11_reading 2 (some .int), Cond.methodLink RX11 59 yX11_readingBy, Cond.static yX11_readingBy, Cond.code yX11_readingBy cX11_readingBy 5 (some .int), Cond.constantFloat RX11 57 (1148846080), Cond.constantFloat RX11 58 (1056964608), Cond.methodLink RX11 100 yX11_size, Cond.static yX11_size, Cond.code yX11_size cX11_size 1 (some .int), Cond.methodLink RX11 182 yX11_hold, Cond.instanceMethod yX11_hold, Cond.selects RX11 yX11_hold yX11_hold, Cond.code yX11_hold cX11_hold 2 none, Cond.fieldLink RX11 13 "ScanRingModel" "aside" "[I", Cond.methodLink RX11 136 yX11_orderBy, Cond.instanceMethod yX11_orderBy, Cond.selects RX11 yX11_orderBy yX11_orderBy, Cond.code yX11_orderBy cX11_orderBy 5 (some .int), Cond.fieldLink RX11 26 "ScanRingModel" "had" "[I", Cond.methodLink RX11 130 yX11_swap, Cond.instanceMethod yX11_swap]
def wsX11_bestRule_r4 : List Cond := [Cond.selects RX11 yX11_swap yX11_swap, Cond.code yX11_swap cX11_swap 5 none, Cond.methodLink RX11 133 yX11_keyOf, Cond.instanceMethod yX11_keyOf, Cond.selects RX11 yX11_keyOf yX11_keyOf, Cond.code yX11_keyOf cX11_keyOf 4 (some .int), Cond.methodLink RX11 211 yX11_release, Cond.instanceMethod yX11_release, Cond.selects RX11 yX11_release yX11_release, Cond.code yX11_release cX11_release 2 none]
def wsX11_bestRule : List Cond := .code yX11_bestRule cX11_bestRule 6 (some .int) :: ((wsX11_bestRule_r1 ++ (wsX11_bestRule_r2 ++ (wsX11_bestRule_r3 ++ wsX11_bestRule_r4))) ++ wsX110)
def wsX11_groundsNeeded_r1 : List Cond := [Cond.fieldLink RX11 29 "ScanRingModel" "thrown" "I", Cond.fieldLink RX11 7 "ScanRingModel" "s" "[I", Cond.fieldLink RX11 63 "ScanRingModel" "simCharge" "F", Cond.fieldLink RX11 66 "ScanRingModel" "simTime" "I", Cond.fieldLink RX11 80 "ScanRingModel" "simCarry" "I", Cond.methodLink RX11 86 yX11_begin, Cond.instanceMethod yX11_begin, Cond.selects RX11 yX11_begin yX11_begin, Cond.initialized RX11, Cond.code yX11_begin cX11_begin 1 none, Cond.fieldLink RX11 36 "ScanRingModel" "charge" "F", Cond.methodLink RX11 89 yX11_placeOf, Cond.instanceMethod yX11_placeOf, Cond.selects RX11 yX11_placeOf yX11_placeOf, Cond.code yX11_placeOf cX11_placeOf 2 (some .int), Cond.methodLink RX11 93 yX11_settleOf, Cond.instanceMethod yX11_settleOf, Cond.selects RX11 yX11_settleOf yX11_settleOf, Cond.code yX11_settleOf cX11_settleOf 2 (some .int), Cond.methodLink RX11 96 yX11_carryOut, Cond.instanceMethod yX11_carryOut, Cond.selects RX11 yX11_carryOut yX11_carryOut, Cond.code yX11_carryOut cX11_carryOut 5 none, Cond.fieldLink RX11 77 "ScanRingModel" "simReading" "I"]
def wsX11_groundsNeeded_r2 : List Cond := [Cond.fieldLink RX11 83 "ScanRingModel" "simError" "I", Cond.methodLink RX11 69 yX11_slot, Cond.instanceMethod yX11_slot, Cond.selects RX11 yX11_slot yX11_slot, Cond.code yX11_slot cX11_slot 5 (some .float), Cond.methodLink RX11 54 yX11_valueOf, Cond.instanceMethod yX11_valueOf, Cond.selects RX11 yX11_valueOf yX11_valueOf, Cond.code yX11_valueOf cX11_valueOf 3 (some .int), Cond.methodLink RX11 51 yX11_valueAt, Cond.instanceMethod yX11_valueAt, Cond.selects RX11 yX11_valueAt yX11_valueAt, Cond.code yX11_valueAt cX11_valueAt 4 (some .int), Cond.methodLink RX11 44 yX11_of, Cond.instanceMethod yX11_of, Cond.selects RX11 yX11_of yX11_of, Cond.code yX11_of cX11_of 3 (some .int), Cond.methodLink RX11 48 yX11_down, Cond.static yX11_down, Cond.code yX11_down cX11_down 2 (some .int), Cond.methodLink RX11 73 yX11_reading, Cond.instanceMethod yX11_reading, Cond.selects RX11 yX11_reading yX11_reading, Cond.code yX11_reading cX11_reading 2 (some .int)]
def wsX11_groundsNeeded_r3 : List Cond := [Cond.methodLink RX11 59 yX11_readingBy, Cond.static yX11_readingBy, Cond.code yX11_readingBy cX11_readingBy 5 (some .int), Cond.constantFloat RX11 57 (1148846080), Cond.constantFloat RX11 58 (1056964608)]
def wsX11_groundsNeeded : List Cond := .code yX11_groundsNeeded cX11_groundsNeeded 5 (some .int) :: ((wsX11_groundsNeeded_r1 ++ (wsX11_groundsNeeded_r2 ++ wsX11_groundsNeeded_r3)) ++ wsX110)
def wsJ9_abs_0f7a4 : List Cond := .code yJ9_abs_0f7a4 cJ9_abs_0f7a4 1 (some .int) :: ([])
def wsJ9_max_7cf53 : List Cond := .code yJ9_max_7cf53 cJ9_max_7cf53 2 (some .int) :: ([])
def wsJ9_min_7cf53 : List Cond := .code yJ9_min_7cf53 cJ9_min_7cf53 2 (some .int) :: ([])
def wsL_law_r1 : List Cond := [Cond.classLink RL 7 RX10, Cond.instantiable RX10 7, Cond.initialized RX10, Cond.classLink RL 10 RX11, Cond.instantiable RX11 17, Cond.initialized RX11, Cond.methodLink RL 9 yX10_init, Cond.instanceMethod yX10_init, Cond.code yX10_init cX10_init 1 none, Cond.methodLink RX10 1 objectInit, Cond.instanceMethod objectInit, Cond.code objectInit ⟨#[0xb1]⟩ 1 none, Cond.classLink RX10 7 RX6, Cond.instantiable RX6 7, Cond.initialized RX6, Cond.fieldLink RX10 10 "ScanRing" "now" "LScanRing$State;", Cond.classLink RX10 16 RX1, Cond.instantiable RX1 3, Cond.initialized RX1, Cond.fieldLink RX10 19 "ScanRing" "history" "LScanRing$History;", Cond.classLink RX10 23 RX8, Cond.instantiable RX8 2, Cond.initialized RX8, Cond.fieldLink RX10 26 "ScanRing" "text" "LScanRing$Text;"]
def wsL_law_r2 : List Cond := [Cond.classLink RX10 30 RX0, Cond.instantiable RX0 5, Cond.initialized RX0, Cond.fieldLink RX10 33 "ScanRing" "converter" "LScanRing$Converter;", Cond.classLink RX10 37 RX5, Cond.instantiable RX5 3, Cond.initialized RX5, Cond.fieldLink RX10 40 "ScanRing" "sorter" "LScanRing$Sorter;", Cond.classLink RX10 44 RX3, Cond.instantiable RX3 4, Cond.initialized RX3, Cond.fieldLink RX10 47 "ScanRing" "draft" "LScanRing$Setup;", Cond.classLink RX10 51 RX9, Cond.instantiable RX9 4, Cond.initialized RX9, Cond.fieldLink RX10 56 "ScanRing" "reader" "LScanRing$TextReader;", Cond.methodLink RX10 9 yX6_init, Cond.instanceMethod yX6_init, Cond.code yX6_init cX6_init 2 none, Cond.methodLink RX6 3 objectInit, Cond.classLink RX6 9 RX3, Cond.fieldLink RX6 12 "ScanRing$State" "setup" "LScanRing$Setup;", Cond.classLink RX6 18 RX2, Cond.instantiable RX2 3]
def wsL_law_r3 : List Cond := [Cond.initialized RX2, Cond.fieldLink RX6 21 "ScanRing$State" "log" "LScanRing$Log;", Cond.classLink RX6 25 RX7, Cond.instantiable RX7 2, Cond.initialized RX7, Cond.fieldLink RX6 30 "ScanRing$State" "latest" "LScanRing$Table;", Cond.fieldLink RX6 34 "ScanRing$State" "accounts" "LScanRing$Table;", Cond.classLink RX6 37 RX4, Cond.instantiable RX4 2, Cond.initialized RX4, Cond.fieldLink RX6 40 "ScanRing$State" "first" "LScanRing$Snapshot;", Cond.fieldLink RX6 44 "ScanRing$State" "second" "LScanRing$Snapshot;", Cond.constant RX6 47 (-10000009), Cond.methodLink RX6 11 yX3_init, Cond.instanceMethod yX3_init, Cond.code yX3_init cX3_init 1 none, Cond.methodLink RX3 3 objectInit, Cond.classLink RX3 9 RX7, Cond.fieldLink RX3 14 "ScanRing$Setup" "channels" "LScanRing$Table;", Cond.fieldLink RX3 20 "ScanRing$Setup" "list" "LScanRing$Table;", Cond.fieldLink RX3 23 "ScanRing$Setup" "settings" "LScanRing$Table;", Cond.methodLink RX3 11 yX7_init, Cond.instanceMethod yX7_init, Cond.code yX7_init cX7_init 3 none]
def wsL_law_r4 : List Cond := [Cond.methodLink RX7 1 objectInit, Cond.methodLink RX7 7 Lib.Math.max.name, Cond.static Lib.Math.max.name, Cond.initialized "java/lang/Math", Cond.code Lib.Math.max.name Lib.Math.max.code 2 (some .int), Cond.fieldLink RX7 13 "ScanRing$Table" "width" "I", Cond.arrayClass .int, Cond.fieldLink RX7 19 "ScanRing$Table" "cells" "[I", Cond.methodLink RX3 26 yX7_put, Cond.instanceMethod yX7_put, Cond.selects RX7 yX7_put yX7_put, Cond.code yX7_put cX7_put 5 none, Cond.instanceMethod yX2_init, Cond.code yX2_init cX2_init 1 none, Cond.methodLink RX2 3 objectInit, Cond.classLink RX2 9 RX7, Cond.fieldLink RX2 14 "ScanRing$Log" "rows" "LScanRing$Table;", Cond.methodLink RX2 11 yX7_init, Cond.methodLink RX6 27 yX7_init, Cond.instanceMethod yX4_init, Cond.code yX4_init cX4_init 1 none, Cond.methodLink RX4 1 objectInit, Cond.classLink RX4 7 RX3, Cond.fieldLink RX4 10 "ScanRing$Snapshot" "setup" "LScanRing$Setup;"]
def wsL_law_r5 : List Cond := [Cond.methodLink RX4 9 yX3_init, Cond.methodLink RX6 48 yX7_put, Cond.methodLink RX10 18 yX1_init, Cond.instanceMethod yX1_init, Cond.code yX1_init cX1_init 2 none, Cond.methodLink RX1 3 objectInit, Cond.classLink RX1 9 RX6, Cond.fieldLink RX1 11 "ScanRing$History" "states" "[LScanRing$State;", Cond.methodLink RX1 17 yX6_init, Cond.instanceMethod yX8_init, Cond.code yX8_init cX8_init 1 none, Cond.methodLink RX8 3 objectInit, Cond.arrayClass .char, Cond.fieldLink RX8 9 "ScanRing$Text" "characters" "[C", Cond.instanceMethod yX0_init, Cond.code yX0_init cX0_init 1 none, Cond.methodLink RX0 3 objectInit, Cond.instanceMethod yX5_init, Cond.code yX5_init cX5_init 1 none, Cond.methodLink RX5 3 objectInit, Cond.classLink RX5 9 RX7, Cond.fieldLink RX5 14 "ScanRing$Sorter" "keys" "LScanRing$Table;", Cond.fieldLink RX5 20 "ScanRing$Sorter" "origins" "LScanRing$Table;", Cond.fieldLink RX5 23 "ScanRing$Sorter" "copy" "LScanRing$Table;"]
def wsL_law_r6 : List Cond := [Cond.methodLink RX5 11 yX7_init, Cond.methodLink RX10 46 yX3_init, Cond.methodLink RX10 53 yX9_init, Cond.instanceMethod yX9_init, Cond.code yX9_init cX9_init 3 none, Cond.methodLink RX9 3 objectInit, Cond.fieldLink RX9 9 "ScanRing$TextReader" "text" "LScanRing$Text;", Cond.fieldLink RX9 15 "ScanRing$TextReader" "setup" "LScanRing$Setup;", Cond.methodLink RL 12 yX11_init, Cond.instanceMethod yX11_init, Cond.code yX11_init cX11_init 2 none, Cond.methodLink RX11 1 objectInit, Cond.fieldLink RX11 7 "ScanRingModel" "s" "[I", Cond.fieldLink RX11 13 "ScanRingModel" "aside" "[I", Cond.fieldLink RX11 16 "ScanRingModel" "saved" "[I", Cond.arrayClass .float, Cond.fieldLink RX11 19 "ScanRingModel" "savedCharge" "[F", Cond.fieldLink RX11 23 "ScanRingModel" "text" "[I", Cond.fieldLink RX11 26 "ScanRingModel" "had" "[I", Cond.fieldLink RX11 29 "ScanRingModel" "thrown" "I", Cond.methodLink RL 13 yX10_setSource, Cond.instanceMethod yX10_setSource, Cond.selects RX10 yX10_setSource yX10_setSource, Cond.code yX10_setSource cX10_setSource 7 (some .int)]
def wsL_law_r7 : List Cond := [Cond.constant RX10 68 (-10000001), Cond.fieldLink RX10 73 "ScanRing$State" "setup" "LScanRing$Setup;", Cond.fieldLink RX10 76 "ScanRing$Setup" "channels" "LScanRing$Table;", Cond.methodLink RX10 60 yX10_isChannel, Cond.static yX10_isChannel, Cond.code yX10_isChannel cX10_isChannel 1 (some .boolean), Cond.methodLink RX10 90 yX10_isWithin, Cond.static yX10_isWithin, Cond.code yX10_isWithin cX10_isWithin 3 (some .boolean), Cond.methodLink RX10 64 yX10_isSource, Cond.static yX10_isSource, Cond.code yX10_isSource cX10_isSource 4 (some .boolean), Cond.methodLink RX10 69 yX1_keep, Cond.instanceMethod yX1_keep, Cond.selects RX1 yX1_keep yX1_keep, Cond.code yX1_keep cX1_keep 3 none, Cond.fieldLink RX1 18 "ScanRing$History" "next" "I", Cond.fieldLink RX1 30 "ScanRing$History" "kept" "I", Cond.methodLink RX1 33 Lib.Math.min.name, Cond.static Lib.Math.min.name, Cond.code Lib.Math.min.name Lib.Math.min.code 2 (some .int), Cond.methodLink RX1 22 yX1_placeAt, Cond.instanceMethod yX1_placeAt, Cond.selects RX1 yX1_placeAt yX1_placeAt]
def wsL_law_r8 : List Cond := [Cond.code yX1_placeAt cX1_placeAt 2 (some (.object "ScanRing$State")), Cond.methodLink RX1 26 yX6_copyFrom, Cond.instanceMethod yX6_copyFrom, Cond.selects RX6 yX6_copyFrom yX6_copyFrom, Cond.code yX6_copyFrom cX6_copyFrom 2 none, Cond.fieldLink RX6 65 "ScanRing$State" "charge" "F", Cond.methodLink RX6 52 yX3_copyFrom, Cond.instanceMethod yX3_copyFrom, Cond.selects RX3 yX3_copyFrom yX3_copyFrom, Cond.code yX3_copyFrom cX3_copyFrom 2 none, Cond.fieldLink RX3 34 "ScanRing$Setup" "entries" "I", Cond.methodLink RX3 30 yX7_copyFrom, Cond.instanceMethod yX7_copyFrom, Cond.selects RX7 yX7_copyFrom yX7_copyFrom, Cond.code yX7_copyFrom cX7_copyFrom 2 none, Cond.methodLink RX7 30 Lib.Math.min.name, Cond.methodLink RX7 33 arraycopyName, Cond.native arraycopyName, Cond.static arraycopyName, Cond.initialized "java/lang/System", Cond.methodLink RX6 56 yX2_copyFrom, Cond.instanceMethod yX2_copyFrom, Cond.selects RX2 yX2_copyFrom yX2_copyFrom, Cond.code yX2_copyFrom cX2_copyFrom 2 none]
def wsL_law_r9 : List Cond := [Cond.fieldLink RX2 24 "ScanRing$Log" "next" "I", Cond.fieldLink RX2 28 "ScanRing$Log" "kept" "I", Cond.methodLink RX2 20 yX7_copyFrom, Cond.methodLink RX6 59 yX7_copyFrom, Cond.methodLink RX6 62 yX4_copyFrom, Cond.instanceMethod yX4_copyFrom, Cond.selects RX4 yX4_copyFrom yX4_copyFrom, Cond.code yX4_copyFrom cX4_copyFrom 2 none, Cond.fieldLink RX4 20 "ScanRing$Snapshot" "taken" "Z", Cond.methodLink RX4 16 yX3_copyFrom, Cond.methodLink RX10 80 yX7_at, Cond.instanceMethod yX7_at, Cond.selects RX7 yX7_at yX7_at, Cond.code yX7_at cX7_at 4 (some .int), Cond.methodLink RX10 86 yX3_putSource, Cond.instanceMethod yX3_putSource, Cond.selects RX3 yX3_putSource yX3_putSource, Cond.code yX3_putSource cX3_putSource 6 none, Cond.methodLink RL 17 yX11_setSource, Cond.instanceMethod yX11_setSource, Cond.selects RX11 yX11_setSource yX11_setSource, Cond.code yX11_setSource cX11_setSource 7 (some .int), Cond.constant RX11 111 (-10000001), Cond.methodLink RX11 103 yX11_isChannel]
def wsL_law_r10 : List Cond := [Cond.static yX11_isChannel, Cond.code yX11_isChannel cX11_isChannel 1 (some .boolean), Cond.methodLink RX11 40 yX11_in, Cond.static yX11_in, Cond.code yX11_in cX11_in 3 (some .boolean), Cond.methodLink RX11 107 yX11_isSource, Cond.static yX11_isSource, Cond.code yX11_isSource cX11_isSource 4 (some .boolean), Cond.methodLink RX11 112 yX11_act, Cond.instanceMethod yX11_act, Cond.selects RX11 yX11_act yX11_act, Cond.code yX11_act cX11_act 2 none, Cond.fieldLink RX11 33 "ScanRingModel" "savedMany" "I", Cond.fieldLink RX11 36 "ScanRingModel" "charge" "F", Cond.methodLink RX11 44 yX11_of, Cond.instanceMethod yX11_of, Cond.selects RX11 yX11_of yX11_of, Cond.code yX11_of cX11_of 3 (some .int), Cond.methodLink RX11 115 yX11_putSource, Cond.instanceMethod yX11_putSource, Cond.selects RX11 yX11_putSource yX11_putSource, Cond.code yX11_putSource cX11_putSource 6 none, Cond.methodLink RL 18 yX10_setResistance, Cond.instanceMethod yX10_setResistance]
def wsL_law_r11 : List Cond := [Cond.selects RX10 yX10_setResistance yX10_setResistance, Cond.code yX10_setResistance cX10_setResistance 4 (some .int), Cond.methodLink RX10 94 yX7_put, Cond.methodLink RL 22 yX11_setResistance, Cond.instanceMethod yX11_setResistance, Cond.selects RX11 yX11_setResistance yX11_setResistance, Cond.code yX11_setResistance cX11_setResistance 3 (some .int), Cond.methodLink RX11 119 yX11_put, Cond.instanceMethod yX11_put, Cond.selects RX11 yX11_put yX11_put, Cond.code yX11_put cX11_put 4 (some .int), Cond.methodLink RL 23 yX10_set, Cond.instanceMethod yX10_set, Cond.selects RX10 yX10_set yX10_set, Cond.code yX10_set cX10_set 4 (some .int), Cond.fieldLink RX10 106 "ScanRing$Setup" "settings" "LScanRing$Table;", Cond.methodLink RX10 98 yX10_isSetting, Cond.static yX10_isSetting, Cond.code yX10_isSetting cX10_isSetting 2 (some .boolean), Cond.methodLink RX10 102 yX3_setting, Cond.instanceMethod yX3_setting, Cond.selects RX3 yX3_setting yX3_setting, Cond.code yX3_setting cX3_setting 2 (some .int), Cond.methodLink RX3 38 yX7_at]
def wsL_law_r12 : List Cond := [Cond.methodLink RL 26 yX11_set, Cond.instanceMethod yX11_set, Cond.selects RX11 yX11_set yX11_set, Cond.code yX11_set cX11_set 4 (some .int), Cond.methodLink RL 27 yX10_addEntry, Cond.instanceMethod yX10_addEntry, Cond.selects RX10 yX10_addEntry yX10_addEntry, Cond.code yX10_addEntry cX10_addEntry 5 (some .int), Cond.fieldLink RX10 109 "ScanRing$Setup" "entries" "I", Cond.constant RX10 116 (-10000003), Cond.methodLink RX10 113 yX10_isSettle, Cond.static yX10_isSettle, Cond.code yX10_isSettle cX10_isSettle 1 (some .boolean), Cond.methodLink RX10 117 yX3_insert, Cond.instanceMethod yX3_insert, Cond.selects RX3 yX3_insert yX3_insert, Cond.code yX3_insert cX3_insert 5 none, Cond.methodLink RX3 42 yX7_copyRow, Cond.instanceMethod yX7_copyRow, Cond.selects RX7 yX7_copyRow yX7_copyRow, Cond.code yX7_copyRow cX7_copyRow 4 none, Cond.methodLink RX7 23 yX7_at, Cond.methodLink RX7 26 yX7_put, Cond.methodLink RL 31 yX11_addEntry]
def wsL_law_r13 : List Cond := [Cond.instanceMethod yX11_addEntry, Cond.selects RX11 yX11_addEntry yX11_addEntry, Cond.code yX11_addEntry cX11_addEntry 4 (some .int), Cond.constant RX11 122 (-10000003), Cond.methodLink RX11 123 yX11_insert, Cond.instanceMethod yX11_insert, Cond.selects RX11 yX11_insert yX11_insert, Cond.code yX11_insert cX11_insert 5 none, Cond.methodLink RL 32 yX10_removeEntry, Cond.instanceMethod yX10_removeEntry, Cond.selects RX10 yX10_removeEntry yX10_removeEntry, Cond.code yX10_removeEntry cX10_removeEntry 2 (some .int), Cond.methodLink RX10 120 yX10_isEntry, Cond.instanceMethod yX10_isEntry, Cond.selects RX10 yX10_isEntry yX10_isEntry, Cond.code yX10_isEntry cX10_isEntry 2 (some .boolean), Cond.methodLink RX10 123 yX3_removeAt, Cond.instanceMethod yX3_removeAt, Cond.selects RX3 yX3_removeAt yX3_removeAt, Cond.code yX3_removeAt cX3_removeAt 3 none, Cond.methodLink RL 36 yX11_removeEntry, Cond.instanceMethod yX11_removeEntry, Cond.selects RX11 yX11_removeEntry yX11_removeEntry, Cond.code yX11_removeEntry cX11_removeEntry 3 (some .int)]
def wsL_law_r14 : List Cond := [Cond.methodLink RX11 127 yX11_isEntry, Cond.instanceMethod yX11_isEntry, Cond.selects RX11 yX11_isEntry yX11_isEntry, Cond.code yX11_isEntry cX11_isEntry 2 (some .boolean), Cond.methodLink RL 37 yX10_setSettle, Cond.instanceMethod yX10_setSettle, Cond.selects RX10 yX10_setSettle yX10_setSettle, Cond.code yX10_setSettle cX10_setSettle 4 (some .int), Cond.fieldLink RX10 127 "ScanRing$Setup" "list" "LScanRing$Table;", Cond.methodLink RL 40 yX11_setSettle, Cond.instanceMethod yX11_setSettle, Cond.selects RX11 yX11_setSettle yX11_setSettle, Cond.code yX11_setSettle cX11_setSettle 3 (some .int), Cond.methodLink RL 41 yX10_order, Cond.instanceMethod yX10_order, Cond.selects RX10 yX10_order yX10_order, Cond.code yX10_order cX10_order 2 (some .int), Cond.methodLink RX10 130 yX6_time, Cond.instanceMethod yX6_time, Cond.selects RX6 yX6_time yX6_time, Cond.code yX6_time cX6_time 1 (some .int), Cond.methodLink RX6 69 yX7_at, Cond.methodLink RX10 134 yX5_arrange, Cond.instanceMethod yX5_arrange]
def wsL_law_r15 : List Cond := [Cond.selects RX5 yX5_arrange yX5_arrange, Cond.code yX5_arrange cX5_arrange 7 (some .int), Cond.fieldLink RX5 26 "ScanRing$Setup" "entries" "I", Cond.fieldLink RX5 39 "ScanRing$Setup" "list" "LScanRing$Table;", Cond.methodLink RX5 32 yX5_keyOf, Cond.static yX5_keyOf, Cond.code yX5_keyOf cX5_keyOf 5 (some .int), Cond.methodLink RX5 46 yX7_at, Cond.methodLink RX5 57 yX3_resistanceAt, Cond.instanceMethod yX3_resistanceAt, Cond.selects RX3 yX3_resistanceAt yX3_resistanceAt, Cond.code yX3_resistanceAt cX3_resistanceAt 2 (some .int), Cond.methodLink RX5 61 yX3_valueAt, Cond.instanceMethod yX3_valueAt, Cond.selects RX3 yX3_valueAt yX3_valueAt, Cond.code yX3_valueAt cX3_valueAt 5 (some .int), Cond.methodLink RX3 57 Lib.Math.min.name, Cond.methodLink RX3 60 Lib.Math.max.name, Cond.methodLink RX3 49 yX3_setting, Cond.methodLink RX3 52 yJ9_floorDiv_7cf53, Cond.static yJ9_floorDiv_7cf53, Cond.initialized RJ9, Cond.code yJ9_floorDiv_7cf53 cJ9_floorDiv_7cf53 3 (some .int), Cond.methodLink RX3 63 yX3_isFirstHalf]
def wsL_law_r16 : List Cond := [Cond.static yX3_isFirstHalf, Cond.code yX3_isFirstHalf cX3_isFirstHalf 2 (some .boolean), Cond.methodLink RX5 36 yX5_sortIn, Cond.instanceMethod yX5_sortIn, Cond.selects RX5 yX5_sortIn yX5_sortIn, Cond.code yX5_sortIn cX5_sortIn 4 none, Cond.methodLink RX5 54 yX7_copyRow, Cond.methodLink RX5 50 yX7_put, Cond.methodLink RX5 42 yX7_copyFrom, Cond.methodLink RL 44 yX11_order, Cond.instanceMethod yX11_order, Cond.selects RX11 yX11_order yX11_order, Cond.code yX11_order cX11_order 2 (some .int), Cond.methodLink RX11 136 yX11_orderBy, Cond.instanceMethod yX11_orderBy, Cond.selects RX11 yX11_orderBy yX11_orderBy, Cond.code yX11_orderBy cX11_orderBy 5 (some .int), Cond.methodLink RX11 130 yX11_swap, Cond.instanceMethod yX11_swap, Cond.selects RX11 yX11_swap yX11_swap, Cond.code yX11_swap cX11_swap 5 none, Cond.methodLink RX11 133 yX11_keyOf, Cond.instanceMethod yX11_keyOf, Cond.selects RX11 yX11_keyOf yX11_keyOf]
def wsL_law_r17 : List Cond := [Cond.code yX11_keyOf cX11_keyOf 4 (some .int), Cond.methodLink RX11 89 yX11_placeOf, Cond.instanceMethod yX11_placeOf, Cond.selects RX11 yX11_placeOf yX11_placeOf, Cond.code yX11_placeOf cX11_placeOf 2 (some .int), Cond.methodLink RX11 54 yX11_valueOf, Cond.instanceMethod yX11_valueOf, Cond.selects RX11 yX11_valueOf yX11_valueOf, Cond.code yX11_valueOf cX11_valueOf 3 (some .int), Cond.methodLink RX11 51 yX11_valueAt, Cond.instanceMethod yX11_valueAt, Cond.selects RX11 yX11_valueAt yX11_valueAt, Cond.code yX11_valueAt cX11_valueAt 4 (some .int), Cond.methodLink RX11 48 yX11_down, Cond.static yX11_down, Cond.code yX11_down cX11_down 2 (some .int), Cond.methodLink RL 45 yX10_scan, Cond.instanceMethod yX10_scan, Cond.selects RX10 yX10_scan yX10_scan, Cond.code yX10_scan cX10_scan 4 (some .int), Cond.constant RX10 138 (-10000002), Cond.fieldLink RX10 142 "ScanRing$State" "accounts" "LScanRing$Table;", Cond.fieldLink RX10 145 "ScanRing$State" "charge" "F", Cond.methodLink RX10 139 yX3_slotsOfScan]
def wsL_law_r18 : List Cond := [Cond.instanceMethod yX3_slotsOfScan, Cond.selects RX3 yX3_slotsOfScan yX3_slotsOfScan, Cond.code yX3_slotsOfScan cX3_slotsOfScan 3 (some .int), Cond.methodLink RX3 45 yX3_slotsOfEntry, Cond.instanceMethod yX3_slotsOfEntry, Cond.selects RX3 yX3_slotsOfEntry yX3_slotsOfEntry, Cond.code yX3_slotsOfEntry cX3_slotsOfEntry 2 (some .int), Cond.methodLink RX10 149 yX0_start, Cond.instanceMethod yX0_start, Cond.selects RX0 yX0_start yX0_start, Cond.code yX0_start cX0_start 3 none, Cond.fieldLink RX0 9 "ScanRing$Converter" "charge" "F", Cond.fieldLink RX0 15 "ScanRing$Converter" "time" "I", Cond.methodLink RX10 153 yX10_scanOnce, Cond.instanceMethod yX10_scanOnce, Cond.selects RX10 yX10_scanOnce yX10_scanOnce, Cond.code yX10_scanOnce cX10_scanOnce 2 none, Cond.methodLink RX10 267 yX0_carryOutEntry, Cond.instanceMethod yX0_carryOutEntry, Cond.selects RX0 yX0_carryOutEntry yX0_carryOutEntry, Cond.code yX0_carryOutEntry cX0_carryOutEntry 3 none, Cond.fieldLink RX0 19 "ScanRing$Setup" "list" "LScanRing$Table;", Cond.methodLink RX0 25 yX7_at, Cond.methodLink RX0 31 yX0_carryOut]
def wsL_law_r19 : List Cond := [Cond.instanceMethod yX0_carryOut, Cond.selects RX0 yX0_carryOut yX0_carryOut, Cond.code yX0_carryOut cX0_carryOut 7 none, Cond.fieldLink RX0 42 "ScanRing$Converter" "target" "I", Cond.fieldLink RX0 53 "ScanRing$Converter" "reading" "I", Cond.fieldLink RX0 56 "ScanRing$Converter" "carry" "I", Cond.methodLink RX0 35 yX3_resistanceAt, Cond.methodLink RX0 39 yX3_valueAt, Cond.methodLink RX0 45 yX0_chargeBehind, Cond.static yX0_chargeBehind, Cond.code yX0_chargeBehind cX0_chargeBehind 3 (some .float), Cond.methodLink RX0 49 yX3_readingOf, Cond.instanceMethod yX3_readingOf, Cond.selects RX3 yX3_readingOf yX3_readingOf, Cond.code yX3_readingOf cX3_readingOf 2 (some .int), Cond.static yX10_readingWith, Cond.code yX10_readingWith cX10_readingWith 4 (some .int), Cond.constantFloat RX10 278 (1148846080), Cond.constantFloat RX10 279 (1056964608), Cond.methodLink RX10 280 Lib.Math.min.name, Cond.methodLink RX10 271 yX3_slotsOfEntry, Cond.methodLink RX10 274 yX6_book, Cond.instanceMethod yX6_book, Cond.selects RX6 yX6_book yX6_book]
def wsL_law_r20 : List Cond := [Cond.code yX6_book cX6_book 4 none, Cond.fieldLink RX6 81 "ScanRing$Converter" "reading" "I", Cond.fieldLink RX6 94 "ScanRing$Converter" "carry" "I", Cond.methodLink RX6 97 Lib.Math.abs.name, Cond.static Lib.Math.abs.name, Cond.code Lib.Math.abs.name Lib.Math.abs.code 1 (some .int), Cond.fieldLink RX6 102 "ScanRing$Converter" "charge" "F", Cond.methodLink RX6 77 yX2_add, Cond.instanceMethod yX2_add, Cond.selects RX2 yX2_add yX2_add, Cond.code yX2_add cX2_add 3 none, Cond.fieldLink RX2 35 "ScanRing$Converter" "time" "I", Cond.fieldLink RX2 40 "ScanRing$Converter" "reading" "I", Cond.fieldLink RX2 43 "ScanRing$Converter" "carry" "I", Cond.methodLink RX2 50 Lib.Math.min.name, Cond.methodLink RX2 31 yX7_put, Cond.methodLink RX2 46 yX0_error, Cond.instanceMethod yX0_error, Cond.selects RX0 yX0_error yX0_error, Cond.code yX0_error cX0_error 1 (some .int), Cond.methodLink RX6 87 yX6_slotAccountOf, Cond.static yX6_slotAccountOf, Cond.code yX6_slotAccountOf cX6_slotAccountOf 1 (some .int), Cond.methodLink RX6 91 yX6_addTo]
def wsL_law_r21 : List Cond := [Cond.instanceMethod yX6_addTo, Cond.selects RX6 yX6_addTo yX6_addTo, Cond.code yX6_addTo cX6_addTo 3 none, Cond.methodLink RL 48 yX11_scan, Cond.instanceMethod yX11_scan, Cond.selects RX11 yX11_scan yX11_scan, Cond.code yX11_scan cX11_scan 5 (some .int), Cond.constant RX11 139 (-10000002), Cond.fieldLink RX11 63 "ScanRingModel" "simCharge" "F", Cond.fieldLink RX11 66 "ScanRingModel" "simTime" "I", Cond.methodLink RX11 140 yX11_slots, Cond.instanceMethod yX11_slots, Cond.selects RX11 yX11_slots yX11_slots, Cond.code yX11_slots cX11_slots 3 (some .int), Cond.methodLink RX11 93 yX11_settleOf, Cond.instanceMethod yX11_settleOf, Cond.selects RX11 yX11_settleOf yX11_settleOf, Cond.code yX11_settleOf cX11_settleOf 2 (some .int), Cond.methodLink RX11 86 yX11_begin, Cond.instanceMethod yX11_begin, Cond.selects RX11 yX11_begin yX11_begin, Cond.code yX11_begin cX11_begin 1 none, Cond.methodLink RX11 96 yX11_carryOut, Cond.instanceMethod yX11_carryOut]
def wsL_law_r22 : List Cond := [Cond.selects RX11 yX11_carryOut yX11_carryOut, Cond.code yX11_carryOut cX11_carryOut 5 none, Cond.fieldLink RX11 77 "ScanRingModel" "simReading" "I", Cond.fieldLink RX11 80 "ScanRingModel" "simCarry" "I", Cond.fieldLink RX11 83 "ScanRingModel" "simError" "I", Cond.methodLink RX11 69 yX11_slot, Cond.instanceMethod yX11_slot, Cond.selects RX11 yX11_slot yX11_slot, Cond.code yX11_slot cX11_slot 5 (some .float), Cond.methodLink RX11 73 yX11_reading, Cond.instanceMethod yX11_reading, Cond.selects RX11 yX11_reading yX11_reading, Cond.code yX11_reading cX11_reading 2 (some .int), Cond.methodLink RX11 59 yX11_readingBy, Cond.static yX11_readingBy, Cond.code yX11_readingBy cX11_readingBy 5 (some .int), Cond.constantFloat RX11 57 (1148846080), Cond.constantFloat RX11 58 (1056964608), Cond.methodLink RX11 144 yX11_note, Cond.instanceMethod yX11_note, Cond.selects RX11 yX11_note yX11_note, Cond.code yX11_note cX11_note 4 none, Cond.methodLink RX11 100 yX11_size, Cond.static yX11_size]
def wsL_law_r23 : List Cond := [Cond.code yX11_size cX11_size 1 (some .int), Cond.methodLink RL 49 yX10_pass, Cond.instanceMethod yX10_pass, Cond.selects RX10 yX10_pass yX10_pass, Cond.code yX10_pass cX10_pass 2 (some .int), Cond.methodLink RX10 156 yX6_addTo, Cond.methodLink RL 52 yX11_pass, Cond.instanceMethod yX11_pass, Cond.selects RX11 yX11_pass yX11_pass, Cond.code yX11_pass cX11_pass 2 (some .int), Cond.methodLink RL 53 yX10_take, Cond.instanceMethod yX10_take, Cond.selects RX10 yX10_take yX10_take, Cond.code yX10_take cX10_take 3 (some .int), Cond.fieldLink RX10 167 "ScanRing$Snapshot" "taken" "Z", Cond.fieldLink RX10 173 "ScanRing$Snapshot" "setup" "LScanRing$Setup;", Cond.methodLink RX10 160 yX10_isSnapshotPlace, Cond.static yX10_isSnapshotPlace, Cond.code yX10_isSnapshotPlace cX10_isSnapshotPlace 1 (some .boolean), Cond.methodLink RX10 163 yX6_snapshotAt, Cond.instanceMethod yX6_snapshotAt, Cond.selects RX6 yX6_snapshotAt yX6_snapshotAt, Cond.code yX6_snapshotAt cX6_snapshotAt 2 (some (.object "ScanRing$Snapshot")), Cond.methodLink RX10 174 yX3_copyFrom]
def wsL_law_r24 : List Cond := [Cond.methodLink RL 56 yX11_take, Cond.instanceMethod yX11_take, Cond.selects RX11 yX11_take yX11_take, Cond.code yX11_take cX11_take 4 (some .int), Cond.methodLink RL 57 yX10_restore, Cond.instanceMethod yX10_restore, Cond.selects RX10 yX10_restore yX10_restore, Cond.code yX10_restore cX10_restore 3 (some .int), Cond.methodLink RL 60 yX11_restore, Cond.instanceMethod yX11_restore, Cond.selects RX11 yX11_restore yX11_restore, Cond.code yX11_restore cX11_restore 4 (some .int), Cond.methodLink RL 61 yX10_undo, Cond.instanceMethod yX10_undo, Cond.selects RX10 yX10_undo yX10_undo, Cond.code yX10_undo cX10_undo 1 (some .int), Cond.fieldLink RX10 178 "ScanRing$History" "kept" "I", Cond.methodLink RX10 181 yX1_bringBack, Cond.instanceMethod yX1_bringBack, Cond.selects RX1 yX1_bringBack yX1_bringBack, Cond.code yX1_bringBack cX1_bringBack 4 none, Cond.methodLink RX1 39 yJ9_floorMod_7cf53, Cond.static yJ9_floorMod_7cf53, Cond.code yJ9_floorMod_7cf53 cJ9_floorMod_7cf53 3 (some .int)]
def wsL_law_r25 : List Cond := [Cond.methodLink RL 65 yX11_undo, Cond.instanceMethod yX11_undo, Cond.selects RX11 yX11_undo yX11_undo, Cond.code yX11_undo cX11_undo 2 (some .int), Cond.methodLink RL 66 yX10_append, Cond.instanceMethod yX10_append, Cond.selects RX10 yX10_append yX10_append, Cond.code yX10_append cX10_append 2 (some .int), Cond.fieldLink RX10 184 "ScanRing$Text" "length" "I", Cond.methodLink RX10 187 yX8_add, Cond.instanceMethod yX8_add, Cond.selects RX8 yX8_add yX8_add, Cond.code yX8_add cX8_add 2 none, Cond.fieldLink RX8 15 "ScanRing$Text" "length" "I", Cond.methodLink RL 69 yX11_append, Cond.instanceMethod yX11_append, Cond.selects RX11 yX11_append yX11_append, Cond.code yX11_append cX11_append 2 (some .int), Cond.fieldLink RX11 147 "ScanRingModel" "length" "I", Cond.methodLink RL 70 yX10_clearText, Cond.instanceMethod yX10_clearText, Cond.selects RX10 yX10_clearText yX10_clearText, Cond.code yX10_clearText cX10_clearText 2 (some .int), Cond.methodLink RL 73 yX11_clearText]
def wsL_law_r26 : List Cond := [Cond.instanceMethod yX11_clearText, Cond.selects RX11 yX11_clearText yX11_clearText, Cond.code yX11_clearText cX11_clearText 2 (some .int), Cond.methodLink RL 74 yX10_load, Cond.instanceMethod yX10_load, Cond.selects RX10 yX10_load yX10_load, Cond.code yX10_load cX10_load 2 (some .int), Cond.constant RX10 197 (-20000000), Cond.fieldLink RX10 198 "ScanRing$TextReader" "failedAt" "I", Cond.methodLink RX10 190 yX9_readItems, Cond.instanceMethod yX9_readItems, Cond.selects RX9 yX9_readItems yX9_readItems, Cond.code yX9_readItems cX9_readItems 2 (some .int), Cond.fieldLink RX9 19 "ScanRing$TextReader" "position" "I", Cond.fieldLink RX9 23 "ScanRing$TextReader" "failedAt" "I", Cond.methodLink RX9 26 yX9_hasFailed, Cond.instanceMethod yX9_hasFailed, Cond.selects RX9 yX9_hasFailed yX9_hasFailed, Cond.code yX9_hasFailed cX9_hasFailed 1 (some .boolean), Cond.methodLink RX9 30 yX9_next, Cond.instanceMethod yX9_next, Cond.selects RX9 yX9_next yX9_next, Cond.code yX9_next cX9_next 1 (some .char), Cond.methodLink RX9 80 yX8_characterAt]
def wsL_law_r27 : List Cond := [Cond.instanceMethod yX8_characterAt, Cond.selects RX8 yX8_characterAt yX8_characterAt, Cond.code yX8_characterAt cX8_characterAt 3 (some .char), Cond.methodLink RX9 34 yX9_readItem, Cond.instanceMethod yX9_readItem, Cond.selects RX9 yX9_readItem yX9_readItem, Cond.code yX9_readItem cX9_readItem 3 none, Cond.methodLink RX9 37 yX9_readEntry, Cond.instanceMethod yX9_readEntry, Cond.selects RX9 yX9_readEntry yX9_readEntry, Cond.code yX9_readEntry cX9_readEntry 3 none, Cond.fieldLink RX9 74 "ScanRing$Setup" "entries" "I", Cond.methodLink RX9 51 yX9_failAt, Cond.instanceMethod yX9_failAt, Cond.selects RX9 yX9_failAt yX9_failAt, Cond.code yX9_failAt cX9_failAt 2 none, Cond.methodLink RX9 54 yX9_expect, Cond.instanceMethod yX9_expect, Cond.selects RX9 yX9_expect yX9_expect, Cond.code yX9_expect cX9_expect 2 none, Cond.methodLink RX9 41 yX9_readNumber, Cond.instanceMethod yX9_readNumber, Cond.selects RX9 yX9_readNumber yX9_readNumber, Cond.code yX9_readNumber cX9_readNumber 7 (some .int)]
def wsL_law_r28 : List Cond := [Cond.methodLink RX9 90 Lib.Math.min.name, Cond.methodLink RX9 86 yX9_isDigit, Cond.static yX9_isDigit, Cond.code yX9_isDigit cX9_isDigit 1 (some .boolean), Cond.methodLink RX9 77 yX3_insert, Cond.methodLink RX9 45 yX9_readSource, Cond.instanceMethod yX9_readSource, Cond.selects RX9 yX9_readSource yX9_readSource, Cond.code yX9_readSource cX9_readSource 8 none, Cond.methodLink RX9 58 yX3_putSource, Cond.methodLink RX9 48 yX9_readResistance, Cond.instanceMethod yX9_readResistance, Cond.selects RX9 yX9_readResistance yX9_readResistance, Cond.code yX9_readResistance cX9_readResistance 3 none, Cond.fieldLink RX9 64 "ScanRing$Setup" "channels" "LScanRing$Table;", Cond.methodLink RX9 68 yX7_put, Cond.methodLink RX10 193 yX9_hasFailed, Cond.methodLink RL 77 yX11_load, Cond.instanceMethod yX11_load, Cond.selects RX11 yX11_load yX11_load, Cond.code yX11_load cX11_load 3 (some .int), Cond.fieldLink RX11 150 "ScanRingModel" "next" "I", Cond.constant RX11 192 (-20000000), Cond.methodLink RX11 182 yX11_hold]
def wsL_law_r29 : List Cond := [Cond.instanceMethod yX11_hold, Cond.selects RX11 yX11_hold yX11_hold, Cond.code yX11_hold cX11_hold 2 none, Cond.methodLink RX11 153 yX11_here, Cond.instanceMethod yX11_here, Cond.selects RX11 yX11_here yX11_here, Cond.code yX11_here cX11_here 1 (some .int), Cond.methodLink RX11 185 yX11_readsItem, Cond.instanceMethod yX11_readsItem, Cond.selects RX11 yX11_readsItem yX11_readsItem, Cond.code yX11_readsItem cX11_readsItem 2 (some .boolean), Cond.fieldLink RX11 157 "ScanRingModel" "number" "I", Cond.methodLink RX11 164 yX11_takes, Cond.instanceMethod yX11_takes, Cond.selects RX11 yX11_takes yX11_takes, Cond.code yX11_takes cX11_takes 3 (some .boolean), Cond.methodLink RX11 173 yX11_readsEntry, Cond.instanceMethod yX11_readsEntry, Cond.selects RX11 yX11_readsEntry yX11_readsEntry, Cond.code yX11_readsEntry cX11_readsEntry 3 (some .boolean), Cond.methodLink RX11 160 yX11_reads, Cond.instanceMethod yX11_reads, Cond.selects RX11 yX11_reads yX11_reads, Cond.code yX11_reads cX11_reads 7 (some .boolean)]
def wsL_law_r30 : List Cond := [Cond.constant RX11 156 (100000), Cond.methodLink RX11 176 yX11_readsSource, Cond.instanceMethod yX11_readsSource, Cond.selects RX11 yX11_readsSource yX11_readsSource, Cond.code yX11_readsSource cX11_readsSource 3 (some .boolean), Cond.methodLink RX11 167 yX11_readsRising, Cond.instanceMethod yX11_readsRising, Cond.selects RX11 yX11_readsRising yX11_readsRising, Cond.code yX11_readsRising cX11_readsRising 4 (some .boolean), Cond.methodLink RX11 170 yX11_readsJumping, Cond.instanceMethod yX11_readsJumping, Cond.selects RX11 yX11_readsJumping yX11_readsJumping, Cond.code yX11_readsJumping cX11_readsJumping 4 (some .boolean), Cond.methodLink RX11 179 yX11_readsResistance, Cond.instanceMethod yX11_readsResistance, Cond.selects RX11 yX11_readsResistance yX11_readsResistance, Cond.code yX11_readsResistance cX11_readsResistance 2 (some .boolean), Cond.methodLink RX11 189 yX11_exchange, Cond.instanceMethod yX11_exchange, Cond.selects RX11 yX11_exchange yX11_exchange, Cond.code yX11_exchange cX11_exchange 3 none, Cond.methodLink RL 78 yX10_count, Cond.instanceMethod yX10_count, Cond.selects RX10 yX10_count yX10_count]
def wsL_law_r31 : List Cond := [Cond.code yX10_count cX10_count 2 (some .int), Cond.fieldLink RX10 201 "ScanRing$State" "log" "LScanRing$Log;", Cond.fieldLink RX10 205 "ScanRing$Log" "kept" "I", Cond.methodLink RX10 208 yX6_snapshotsTaken, Cond.instanceMethod yX6_snapshotsTaken, Cond.selects RX6 yX6_snapshotsTaken yX6_snapshotsTaken, Cond.code yX6_snapshotsTaken cX6_snapshotsTaken 1 (some .int), Cond.fieldLink RX6 73 "ScanRing$Snapshot" "taken" "Z", Cond.methodLink RX10 211 yX3_sourcesOf, Cond.instanceMethod yX3_sourcesOf, Cond.selects RX3 yX3_sourcesOf yX3_sourcesOf, Cond.code yX3_sourcesOf cX3_sourcesOf 4 (some .int), Cond.methodLink RL 81 yX11_count, Cond.instanceMethod yX11_count, Cond.selects RX11 yX11_count yX11_count, Cond.code yX11_count cX11_count 2 (some .int), Cond.methodLink RX11 193 yX11_kinds, Cond.instanceMethod yX11_kinds, Cond.selects RX11 yX11_kinds yX11_kinds, Cond.code yX11_kinds cX11_kinds 4 (some .int), Cond.methodLink RL 82 yX10_channel, Cond.instanceMethod yX10_channel, Cond.selects RX10 yX10_channel yX10_channel, Cond.code yX10_channel cX10_channel 3 (some .int)]
def wsL_law_r32 : List Cond := [Cond.fieldLink RX10 214 "ScanRing$State" "latest" "LScanRing$Table;", Cond.methodLink RX10 217 yX6_correctedReading, Cond.instanceMethod yX6_correctedReading, Cond.selects RX6 yX6_correctedReading yX6_correctedReading, Cond.code yX6_correctedReading cX6_correctedReading 5 (some .int), Cond.methodLink RX6 103 yX3_setting, Cond.methodLink RX6 106 yJ9_floorDiv_7cf53, Cond.methodLink RX10 220 yX3_entriesOf, Cond.instanceMethod yX3_entriesOf, Cond.selects RX3 yX3_entriesOf yX3_entriesOf, Cond.code yX3_entriesOf cX3_entriesOf 4 (some .int), Cond.methodLink RL 85 yX11_channel, Cond.instanceMethod yX11_channel, Cond.selects RX11 yX11_channel yX11_channel, Cond.code yX11_channel cX11_channel 3 (some .int), Cond.constant RX11 196 (-10000009), Cond.methodLink RX11 197 yX11_corrected, Cond.instanceMethod yX11_corrected, Cond.selects RX11 yX11_corrected yX11_corrected, Cond.code yX11_corrected cX11_corrected 5 (some .int), Cond.methodLink RX11 200 yX11_entriesOf, Cond.instanceMethod yX11_entriesOf, Cond.selects RX11 yX11_entriesOf yX11_entriesOf, Cond.code yX11_entriesOf cX11_entriesOf 4 (some .int)]
def wsL_law_r33 : List Cond := [Cond.methodLink RL 86 yX10_entry, Cond.instanceMethod yX10_entry, Cond.selects RX10 yX10_entry yX10_entry, Cond.code yX10_entry cX10_entry 3 (some .int), Cond.constant RX10 223 (-10000009), Cond.methodLink RL 89 yX11_entry, Cond.instanceMethod yX11_entry, Cond.selects RX11 yX11_entry yX11_entry, Cond.code yX11_entry cX11_entry 3 (some .int), Cond.methodLink RL 90 yX10_value, Cond.instanceMethod yX10_value, Cond.selects RX10 yX10_value yX10_value, Cond.code yX10_value cX10_value 3 (some .int), Cond.methodLink RX10 224 yX3_valueAt, Cond.methodLink RL 93 yX11_value, Cond.instanceMethod yX11_value, Cond.selects RX11 yX11_value yX11_value, Cond.code yX11_value cX11_value 3 (some .int), Cond.methodLink RL 94 yX10_sample, Cond.instanceMethod yX10_sample, Cond.selects RX10 yX10_sample yX10_sample, Cond.code yX10_sample cX10_sample 3 (some .int), Cond.methodLink RX10 227 yX2_part, Cond.instanceMethod yX2_part]
def wsL_law_r34 : List Cond := [Cond.selects RX2 yX2_part yX2_part, Cond.code yX2_part cX2_part 3 (some .int), Cond.methodLink RX2 56 yJ9_floorMod_7cf53, Cond.methodLink RX2 59 yX7_at, Cond.methodLink RL 97 yX11_sample, Cond.instanceMethod yX11_sample, Cond.selects RX11 yX11_sample yX11_sample, Cond.code yX11_sample cX11_sample 3 (some .int), Cond.methodLink RL 98 yX10_account, Cond.instanceMethod yX10_account, Cond.selects RX10 yX10_account yX10_account, Cond.code yX10_account cX10_account 2 (some .int), Cond.methodLink RL 101 yX11_account, Cond.instanceMethod yX11_account, Cond.selects RX11 yX11_account yX11_account, Cond.code yX11_account cX11_account 2 (some .int), Cond.methodLink RL 102 yX10_held, Cond.instanceMethod yX10_held, Cond.selects RX10 yX10_held yX10_held, Cond.code yX10_held cX10_held 2 (some .int), Cond.constantFloat RX10 234 (1132462080), Cond.methodLink RX10 230 yX3_readingOf, Cond.methodLink RL 105 yX11_held, Cond.instanceMethod yX11_held]
def wsL_law_r35 : List Cond := [Cond.selects RX11 yX11_held yX11_held, Cond.code yX11_held cX11_held 2 (some .int), Cond.constantFloat RX11 203 (1132462080), Cond.methodLink RL 106 yX10_would, Cond.instanceMethod yX10_would, Cond.selects RX10 yX10_would yX10_would, Cond.code yX10_would cX10_would 3 (some .int), Cond.fieldLink RX10 239 "ScanRing$Converter" "reading" "I", Cond.fieldLink RX10 242 "ScanRing$Converter" "carry" "I", Cond.methodLink RX10 235 yX10_tryEntries, Cond.instanceMethod yX10_tryEntries, Cond.selects RX10 yX10_tryEntries yX10_tryEntries, Cond.code yX10_tryEntries cX10_tryEntries 5 (some .int), Cond.methodLink RX10 262 Lib.Math.abs.name, Cond.methodLink RX10 245 yX0_error, Cond.methodLink RL 109 yX11_would, Cond.instanceMethod yX11_would, Cond.selects RX11 yX11_would yX11_would, Cond.code yX11_would cX11_would 3 (some .int), Cond.methodLink RX11 204 yX11_carryOutTo, Cond.instanceMethod yX11_carryOutTo, Cond.selects RX11 yX11_carryOutTo yX11_carryOutTo, Cond.code yX11_carryOutTo cX11_carryOutTo 3 none, Cond.methodLink RL 110 yX10_why]
def wsL_law_r36 : List Cond := [Cond.instanceMethod yX10_why, Cond.selects RX10 yX10_why yX10_why, Cond.code yX10_why cX10_why 2 (some .int), Cond.fieldLink RX10 248 "ScanRing$Converter" "charge" "F", Cond.fieldLink RX10 253 "ScanRing$Converter" "target" "I", Cond.methodLink RX10 249 yX10_readingWith, Cond.methodLink RL 113 yX11_why, Cond.instanceMethod yX11_why, Cond.selects RX11 yX11_why yX11_why, Cond.code yX11_why cX11_why 2 (some .int), Cond.methodLink RL 114 yX10_settleFor, Cond.instanceMethod yX10_settleFor, Cond.selects RX10 yX10_settleFor yX10_settleFor, Cond.code yX10_settleFor cX10_settleFor 7 (some .int), Cond.fieldLink RX10 256 "ScanRing$Converter" "time" "I", Cond.methodLink RX10 258 yX0_carryOut, Cond.methodLink RL 117 yX11_settleFor, Cond.instanceMethod yX11_settleFor, Cond.selects RX11 yX11_settleFor yX11_settleFor, Cond.code yX11_settleFor cX11_settleFor 6 (some .int), Cond.methodLink RL 118 yX10_bestRule, Cond.instanceMethod yX10_bestRule, Cond.selects RX10 yX10_bestRule yX10_bestRule, Cond.code yX10_bestRule cX10_bestRule 5 (some .int)]
def wsL_law_r37 : List Cond := [Cond.methodLink RL 121 yX11_bestRule, Cond.instanceMethod yX11_bestRule, Cond.selects RX11 yX11_bestRule yX11_bestRule, Cond.code yX11_bestRule cX11_bestRule 6 (some .int), Cond.methodLink RX11 208 yX11_carries, Cond.instanceMethod yX11_carries, Cond.selects RX11 yX11_carries yX11_carries, Cond.code yX11_carries cX11_carries 3 (some .int), Cond.methodLink RX11 211 yX11_release, Cond.instanceMethod yX11_release, Cond.selects RX11 yX11_release yX11_release, Cond.code yX11_release cX11_release 2 none, Cond.methodLink RL 122 yX10_groundsNeeded, Cond.instanceMethod yX10_groundsNeeded, Cond.selects RX10 yX10_groundsNeeded yX10_groundsNeeded, Cond.code yX10_groundsNeeded cX10_groundsNeeded 5 (some .int), Cond.methodLink RL 125 yX11_groundsNeeded, Cond.instanceMethod yX11_groundsNeeded, Cond.selects RX11 yX11_groundsNeeded yX11_groundsNeeded, Cond.code yX11_groundsNeeded cX11_groundsNeeded 5 (some .int)]
def wsL_law : List Cond := (wsL_law_r1 ++ (wsL_law_r2 ++ (wsL_law_r3 ++ (wsL_law_r4 ++ (wsL_law_r5 ++ (wsL_law_r6 ++ (wsL_law_r7 ++ (wsL_law_r8 ++ (wsL_law_r9 ++ (wsL_law_r10 ++ (wsL_law_r11 ++ (wsL_law_r12 ++ (wsL_law_r13 ++ (wsL_law_r14 ++ (wsL_law_r15 ++ (wsL_law_r16 ++ (wsL_law_r17 ++ (wsL_law_r18 ++ (wsL_law_r19 ++ (wsL_law_r20 ++ (wsL_law_r21 ++ (wsL_law_r22 ++ (wsL_law_r23 ++ (wsL_law_r24 ++ (wsL_law_r25 ++ (wsL_law_r26 ++ (wsL_law_r27 ++ (wsL_law_r28 ++ (wsL_law_r29 ++ (wsL_law_r30 ++ (wsL_law_r31 ++ (wsL_law_r32 ++ (wsL_law_r33 ++ (wsL_law_r34 ++ (wsL_law_r35 ++ (wsL_law_r36 ++ wsL_law_r37)))))))))))))))))))))))))))))))))))) ++ wsX100 ++ wsX110 ++ wsX60 ++ wsX10 ++ wsX80 ++ wsX00 ++ wsX50 ++ wsX30 ++ wsX90 ++ wsX20 ++ wsX70 ++ wsX40 ++ ([] : List Cond)
abbrev vwCl : List vw_C := [(RX0, TX0, 5), (RX1, TX1, 3), (RX2, TX2, 3), (RX3, TX3, 4), (RX4, TX4, 2), (RX5, TX5, 3), (RX6, TX6, 7), (RX7, TX7, 2), (RX8, TX8, 2), (RX9, TX9, 4), (RX10, TX10, 7), (RX11, TX11, 17)]
end
section
/-! THE WALKER'S OWN MACHINE: an abstract memory (shape and data) that the heap from the law's first new cell on is; a judgement mM over it, one row an instruction. -/
/-- launch, class numbers, classes of the arrays, the heap at the law's entry -/
abbrev GP : Type := Launch × va_G × (Nat → ClassId) × Heap
/-- method, code, locals, return type, words, room -/
abbrev MD : Type := MethodName × ByteArray × Nat × Option FieldType × List Cond × Room
/-- shape: how many cells, their kinds, lengths of arrays, references, widths of tables -/
abbrev Sh : Type := Nat × (Nat → Nat) × (Nat → Nat) × (Nat → Nat → Option Nat) × (Nat → Int32)
/-- data: whole numbers, floats -/
abbrev Dt : Type := (Nat → Nat → Int32) × (Nat → Nat → UInt32)
abbrev g_D (G : GP) : va_G := G.2.1
abbrev g_cy (G : GP) : Nat → ClassId := G.2.2.1
abbrev g_H (G : GP) : Heap := G.2.2.2
abbrev g_bs (G : GP) : Nat := G.2.2.2.size
abbrev g_ty (G : GP) : List (ClassId × FieldType) := [(G.2.2.1 0, .char), (G.2.2.1 1, .float), (G.2.2.1 2, .int), (G.2.2.1 3, .object "ScanRing$State")]
abbrev y_cc (Y : MD) : ByteArray := Y.2.1
abbrev y_nl (Y : MD) : Nat := Y.2.2.1
abbrev y_rt (Y : MD) : Option FieldType := Y.2.2.2.1
abbrev y_ws (Y : MD) : List Cond := Y.2.2.2.2.1
abbrev y_rm (Y : MD) : Room := Y.2.2.2.2.2
/-- floats that stand for one datum -/
def fR (r x : UInt32) : Prop := FP.Core.decode FP.Core.b32 r.toNat = FP.Core.decode FP.Core.b32 x.toNat
theorem fR_rfl (x : UInt32) : fR x x := rfl
/-- a value of the abstract memory, and the machine's own -/
def vR (G : GP) (a r : Value) : Prop := match a with
  | .int x => r = .int x
  | .float x => ∃ y, r = .float y ∧ fR y x
  | .ref k => r = .ref (g_bs G + k)
  | .null => r = .null
  | _ => False
def vRs (G : GP) : List Value → List Value → Prop
  | [], r => r = []
  | a :: l, r => ∃ x t, r = x :: t ∧ vR G a x ∧ vRs G l t
def vRo (G : GP) (a r : Option Value) : Prop := match a with
  | none => r = none
  | some v => ∃ w, r = some w ∧ vR G v w
/-- the codes of a class's fields: 0 a whole number, 1 a float, 2 a reference, 3 a table's width -/
def fco (k : Nat) : List Nat := match k with
  | 0 => [1, 0, 0, 0, 0]
  | 1 => [2, 0, 0]
  | 2 => [2, 0, 0]
  | 3 => [2, 2, 2, 0]
  | 4 => [2, 0]
  | 5 => [2, 2, 2]
  | 6 => [2, 2, 2, 2, 2, 2, 1]
  | 7 => [3, 2]
  | 8 => [2, 0]
  | 9 => [2, 2, 0, 0]
  | 10 => [2, 2, 2, 2, 2, 2, 2]
  | _ => [0, 2, 2, 2, 2, 0, 1, 2, 0, 1, 0, 0, 0, 0, 2, 0, 0]
def rv (b : Nat) (o : Option Nat) : Value := va_rf (o.map (b + ·))
def fvl (b : Nat) (σ : Sh) (d : Dt) (k j c : Nat) : Value := if c = 0 then .int (d.1 k j) else if c = 1 then .float (d.2 k j) else if c = 2 then rv b (σ.2.2.2.1 k j) else .int (σ.2.2.2.2 k)
/-- the cell at the abstract address k -/
def cel (G : GP) (σ : Sh) (d : Dt) (k : Nat) : va_E :=
  if σ.2.1 k < 12 then .inr (σ.2.1 k, (fco (σ.2.1 k)).mapIdx (fun j c => fvl (g_bs G) σ d k j c))
  else if σ.2.1 k = 12 then .inl (g_cy G 0, σ.2.2.1 k, .inl (d.1 k))
  else if σ.2.1 k = 13 then .inl (g_cy G 1, σ.2.2.1 k, .inr (.inr (.inl (d.2 k))))
  else if σ.2.1 k = 14 then .inl (g_cy G 2, σ.2.2.1 k, .inl (d.1 k))
  else .inl (g_cy G 3, σ.2.2.1 k, .inr (.inr (.inr (.inr (fun j => (σ.2.2.2.1 k j).map (g_bs G + ·))))))
/-- the heap is what it was below, and from there on the abstract memory -/
def HR (G : GP) (σ : Sh) (d : Dt) (H : Heap) : Prop :=
  H.size = g_bs G + σ.1 ∧ (∀ q, q < g_bs G → H[q]? = (g_H G)[q]?) ∧ ∃ f : Nat → Nat → UInt32, (∀ k j, fR (f k j) (d.2 k j)) ∧ ∀ k, k < σ.1 → va_at (g_D G) vwCl (g_bs G + k, cel G σ (d.1, f) k) H
/-- links between nest mates -/
def nws : List (String × Nat × MethodName × String) := [("ScanRing", 25, yX8_init, "ScanRing"), ("ScanRing", 32, yX0_init, "ScanRing"), ("ScanRing", 39, yX5_init, "ScanRing"), ("ScanRing$Setup", 67, yX10_readingWith, "ScanRing"), ("ScanRing$State", 20, yX2_init, "ScanRing"), ("ScanRing$State", 39, yX4_init, "ScanRing"), ("ScanRing$TextReader", 95, yX10_isWithin, "ScanRing")]
/-- what the tables say, the same through the whole run -/
def mK (G : GP) (s : State) : Prop := va_K (g_D G) vwCl (g_ty G) s ∧ va_AO "ScanRing$State" s ∧ ∀ x ∈ nws, va_Nw (.methodLinkNest x.1 x.2.1 x.2.2.1 x.2.2.2) s
theorem mK.moved {G : GP} {s U : State} (hW : s.WarmedH U.vm) (h : mK G s) : mK G U := ⟨va_K.moved hW.alike h.1, va_AO.moved hW.alike h.2.1, fun x hx => va_Nw.warmM hW (h.2.2 x hx)⟩
theorem mK.same {G : GP} {s U : State} (hv : s.vm = U.vm) (h : mK G s) : mK G U := ⟨va_K.moved (by rw [hv]; exact Vm.Alike.refl U.vm) h.1, va_AO.moved (by rw [hv]; exact Vm.Alike.refl U.vm) h.2.1, fun x hx => va_Nw.same rfl hv (h.2.2 x hx)⟩
/-- the locals -/
def mL (G : GP) (lo : List (Option Value)) (ls : Array Slot) (n : Nat) : Prop := ∃ lv : List (Nat × Value), lv_has ls n lv ∧ lo.length = n ∧ ∀ i v, lo[i]? = some (some v) → ∃ r, (i, r) ∈ lv ∧ vR G v r
def mCx (G : GP) (Y : MD) (p : Program) (s : State) (m : MethodId) (args : Array Value) (meth : Method) (c : Code) : Prop :=
  p.tables.exec = Jvm.exec ∧ c.code = y_cc Y ∧ meth.sig.returnType = y_rt Y ∧ c.maxLocals = y_nl Y ∧ s.vm.findClass Y.1.cls = some m.cls ∧ (∀ w ∈ y_ws Y, w.before args s = true) ∧ meth.locks = false ∧ mK G s ∧ meth.name = Y.1.name
/-- what a method's end says -/
def mQ (G : GP) (Q : Option Value → Sh → Dt → Prop) : Array Value → State → Outcome → State → Prop := fun _ _ oc t => ∃ v v' σ' d', oc = .returned v' ∧ vRo G v v' ∧ Q v σ' d' ∧ HR G σ' d' t.heap
/-- THE JUDGEMENT: method Y at pc, with these locals, this stack, this memory and so much made, ends with Q -/
def mM (G : GP) (Y : MD) (pc : Nat) (lo : List (Option Value)) (st : List Value) (σ : Sh) (d : Dt) (u : Nat × Nat) (Q : Option Value → Sh → Dt → Prop) : Prop :=
  ∀ (p : Program) (e : Env) (s : State) (m : MethodId) (args : Array Value) (below : List Frame) (meth : Method) (c : Code), mCx G Y p s m args meth c →
  ∀ (d0 : Drawn), s.drawn.sameBut d0 lw_cs → ∀ (H : Heap) (locs : List Loc) (ls : Array Slot) (str : List Value), HR G σ d H → (∀ q ∈ locs, g_bs G ≤ q.base) → mL G lo ls (y_nl Y) → vRs G st str →
    W p G.1 e (y_rm Y) (s.setDrawn d0) m args below meth c H locs u.1 u.2 (MQD lw_cs below (mQ G Q) args s (y_rm Y).cells (y_rm Y).slots (fun q => g_bs G ≤ q)) (F0 m pc ls str)
/-- A CONTRACT: called with A over this memory, Y ends with Q -/
def mC (G : GP) (Y : MD) (A : List Value) (σ : Sh) (d : Dt) (Q : Option Value → Sh → Dt → Prop) : Prop :=
  ∀ Ar : List Value, vRs G A Ar → MetD lw_cs G.1 Y.1 (y_ws Y) (y_rm Y) (va_Pc Ar (fun U => HR G σ d U.heap ∧ mK G U)) (mQ G Q) (y_rm Y).cells (y_rm Y).slots (fun q => g_bs G ≤ q)
section MACH
variable {G : GP} {Y Z : MD} {pc pc' : Nat} {lo lo' : List (Option Value)} {st : List Value} {σ : Sh} {d : Dt} {u : Nat × Nat} {Q : Option Value → Sh → Dt → Prop}
theorem vR_int {x : Int32} {r : Value} (h : vR G (.int x) r) : r = .int x := h
theorem vR_ref {k : Nat} {r : Value} (h : vR G (.ref k) r) : r = .ref (g_bs G + k) := h
theorem vR_null {r : Value} (h : vR G .null r) : r = .null := h
theorem vR_float {x : UInt32} {r : Value} (h : vR G (.float x) r) : ∃ y, r = .float y ∧ fR y x := h
theorem vR_cat {v r : Value} (h : vR G v r) : r.category = 1 := by
  cases v with
  | int x => cases vR_int h; rfl
  | float x => obtain ⟨y, rfl, -⟩ := vR_float h; rfl
  | ref k => cases vR_ref h; rfl
  | null => cases vR_null h; rfl
  | _ => exact h.elim
theorem vRs_cat : ∀ {l r : List Value}, vRs G l r → (r.map fun v => v.category).sum = l.length
  | [], _, h => by cases h; rfl
  | a :: l, _, h => by
    obtain ⟨x, t, rfl, h1, h2⟩ := h
    have h3 := vRs_cat h2
    simp only [List.map_cons, List.sum_cons, List.length_cons, vR_cat h1, h3]
    omega
theorem vRs_len : ∀ {l r : List Value}, vRs G l r → r.length = l.length
  | [], _, h => by cases h; rfl
  | a :: l, _, h => by
    obtain ⟨x, t, rfl, h1, h2⟩ := h
    simp [vRs_len h2]
theorem vRs_append : ∀ {a b r t : List Value}, vRs G a r → vRs G b t → vRs G (a ++ b) (r ++ t)
  | [], _, _, _, h1, h2 => by cases h1; exact h2
  | a :: l, _, _, _, h1, h2 => by
    obtain ⟨x, t, rfl, h3, h4⟩ := h1
    exact ⟨x, _, rfl, h3, vRs_append h4 h2⟩
theorem vRs_split : ∀ {a b r : List Value}, vRs G (a ++ b) r → ∃ r1 r2, r = r1 ++ r2 ∧ vRs G a r1 ∧ vRs G b r2
  | [], _, r, h => ⟨[], r, rfl, rfl, h⟩
  | a :: l, _, _, h => by
    obtain ⟨x, t, rfl, h1, h2⟩ := h
    obtain ⟨r1, r2, rfl, h3, h4⟩ := vRs_split h2
    exact ⟨x :: r1, r2, rfl, ⟨x, r1, rfl, h1, h3⟩, h4⟩
theorem vRs_rev : ∀ {a r : List Value}, vRs G a r → vRs G a.reverse r.reverse
  | [], _, h => by cases h; rfl
  | a :: l, _, h => by
    obtain ⟨x, t, rfl, h1, h2⟩ := h
    rw [List.reverse_cons, List.reverse_cons]
    exact vRs_append (vRs_rev h2) ⟨x, [], rfl, h1, rfl⟩
theorem mL_at {ls : Array Slot} {n i : Nat} {v : Value} (h : mL G lo ls n) (hi : lo[i]? = some (some v)) : ∃ r, ls[i]? = some (.val r) ∧ vR G v r := by
  obtain ⟨lv, h1, h2, h3⟩ := h
  obtain ⟨r, h4, h5⟩ := h3 i v hi
  exact ⟨r, h1.2.2 _ h4, h5⟩
theorem mL_size {ls : Array Slot} {n : Nat} (h : mL G lo ls n) : ls.size = n := h.choose_spec.1.1
theorem mL_len {ls : Array Slot} {n : Nat} (h : mL G lo ls n) : lo.length = n := h.choose_spec.2.1
theorem mL_store {ls' : Array Slot} {n i : Nat} {v r : Value} {lv : List (Nat × Value)} (h1 : lv_has ls' n ((i, r) :: lv.filter (fun q => !(q.1 == i) && !(q.1 + 1 == i && q.2.category == 2)))) (h2 : lo.length = n) (h3 : ∀ i v, lo[i]? = some (some v) → ∃ r, (i, r) ∈ lv ∧ vR G v r) (hv : vR G v r) : mL G (lo.set i (some v)) ls' n := by
  refine ⟨_, h1, by rw [List.length_set]; exact h2, fun j w hj => ?_⟩
  by_cases hji : j = i
  · subst hji
    have hlt : j < lo.length := by
      have := (List.getElem?_eq_some_iff.mp hj).1
      rwa [List.length_set] at this
    rw [List.getElem?_set_self hlt] at hj
    cases hj
    exact ⟨r, List.mem_cons_self, hv⟩
  · rw [List.getElem?_set_ne (Ne.symm hji)] at hj
    obtain ⟨r', h4, h5⟩ := h3 j w hj
    refine ⟨r', List.mem_cons_of_mem _ (List.mem_filter.mpr ⟨h4, ?_⟩), h5⟩
    have hc := vR_cat h5
    simp [hji, hc]
/-! fR and the arithmetic -/
theorem fR_nan {b : UInt32} (h : isNaN32 b = true) : FP.Core.decode FP.Core.b32 b.toNat = .nan := by
  have h1 := isNaN32_iff.mp h
  have h2 : b.toNat &&& 0x7fffffff = b.toNat % 2147483648 := by
    rw [show (0x7fffffff : Nat) = 2 ^ 31 - 1 from rfl, Nat.and_two_pow_sub_one_eq_mod]
  rw [h2] at h1
  have h3 : b.toNat < 4294967296 := b.toNat_lt
  have hE : b.toNat / 8388608 % 256 = 255 := by omega
  have hT : b.toNat % 8388608 ≠ 0 := by omega
  unfold FP.Core.decode
  have e1 : FP.Core.fieldE FP.Core.b32 b.toNat = b.toNat / 8388608 % 256 := rfl
  have e2 : FP.Core.fieldT FP.Core.b32 b.toNat = b.toNat % 8388608 := rfl
  have e3 : FP.Core.b32.exps - 1 = 255 := rfl
  rw [e1, e2, e3, if_pos hE, if_neg hT]
theorem fR_of_alike {r x : UInt32} (h : alike32 r x = true) : fR r x := by
  unfold alike32 at h
  rcases Bool.or_eq_true_iff.mp h with h | h
  · rw [of_decide_eq_true h]; exact fR_rfl x
  · have h := Bool.and_eq_true_iff.mp h
    unfold fR
    rw [fR_nan h.1, fR_nan h.2]
theorem fR_trans {a b c : UInt32} (h1 : fR a b) (h2 : fR b c) : fR a c := Eq.trans h1 h2
theorem fR_add {a b x y : UInt32} (h1 : fR a x) (h2 : fR b y) : fR (FP.fadd a b) (FP.fadd x y) := by
  have : FP.fadd a b = FP.fadd x y := by
    show UInt32.ofNat (FP.Core.add FP.Core.b32 a.toNat b.toNat) = UInt32.ofNat (FP.Core.add FP.Core.b32 x.toNat y.toNat)
    unfold FP.Core.add
    rw [show FP.Core.decode FP.Core.b32 a.toNat = _ from h1, show FP.Core.decode FP.Core.b32 b.toNat = _ from h2]
  rw [this]; exact fR_rfl _
theorem fR_sub {a b x y : UInt32} (h1 : fR a x) (h2 : fR b y) : fR (FP.fsub a b) (FP.fsub x y) := by
  have : FP.fsub a b = FP.fsub x y := by
    show UInt32.ofNat (FP.Core.sub FP.Core.b32 a.toNat b.toNat) = UInt32.ofNat (FP.Core.sub FP.Core.b32 x.toNat y.toNat)
    unfold FP.Core.sub
    rw [show FP.Core.decode FP.Core.b32 a.toNat = _ from h1, show FP.Core.decode FP.Core.b32 b.toNat = _ from h2]
  rw [this]; exact fR_rfl _
theorem fR_mul {a b x y : UInt32} (h1 : fR a x) (h2 : fR b y) : fR (FP.fmul a b) (FP.fmul x y) := by
  have : FP.fmul a b = FP.fmul x y := by
    show UInt32.ofNat (FP.Core.mul FP.Core.b32 a.toNat b.toNat) = UInt32.ofNat (FP.Core.mul FP.Core.b32 x.toNat y.toNat)
    unfold FP.Core.mul
    rw [show FP.Core.decode FP.Core.b32 a.toNat = _ from h1, show FP.Core.decode FP.Core.b32 b.toNat = _ from h2]
  rw [this]; exact fR_rfl _
theorem fR_div {a b x y : UInt32} (h1 : fR a x) (h2 : fR b y) : fR (FP.fdiv a b) (FP.fdiv x y) := by
  have : FP.fdiv a b = FP.fdiv x y := by
    show UInt32.ofNat (FP.Core.div FP.Core.b32 a.toNat b.toNat) = UInt32.ofNat (FP.Core.div FP.Core.b32 x.toNat y.toNat)
    unfold FP.Core.div
    rw [show FP.Core.decode FP.Core.b32 a.toNat = _ from h1, show FP.Core.decode FP.Core.b32 b.toNat = _ from h2]
  rw [this]; exact fR_rfl _
theorem fR_cmp {a b x y : UInt32} (h1 : fR a x) (h2 : fR b y) : FP.fcmp a b = FP.fcmp x y := by
  show FP.Core.cmp FP.Core.b32 a.toNat b.toNat = FP.Core.cmp FP.Core.b32 x.toNat y.toNat
  unfold FP.Core.cmp
  rw [show FP.Core.decode FP.Core.b32 a.toNat = _ from h1, show FP.Core.decode FP.Core.b32 b.toNat = _ from h2]
theorem fR_f2i {a x : UInt32} (h1 : fR a x) : FP.f2i a = FP.f2i x := by
  show Int32.ofInt (FP.Core.toInt _ _ (FP.Core.decode FP.Core.b32 a.toNat)) = Int32.ofInt (FP.Core.toInt _ _ (FP.Core.decode FP.Core.b32 x.toNat))
  rw [show FP.Core.decode FP.Core.b32 a.toNat = _ from h1]
end MACH
end
section
/-! ROWS: one an instruction, over mM. hd: the decode row; hp: the next pc; k: what is behind it. -/
section ROWS
variable {G : GP} {Y Z : MD} {pc pc' tgt : Nat} {lo lo' : List (Option Value)} {st : List Value} {σ : Sh} {d : Dt} {u : Nat × Nat} {Q : Option Value → Sh → Dt → Prop}
theorem m_iconst {n : Int} {v : Int32} (hd : decode (y_cc Y) pc = .ok (.iconst n, 1)) (hv : Int32.ofInt n = v) (hp : pc + 1 = pc') (k : mM G Y pc' lo (.int v :: st) σ d u Q) : mM G Y pc lo (st) σ d u Q := by
  subst hp
  intro p e s m args below meth c C d0 hd0 H locs ls str hH hL hlo hst
  exact lv_iconst C.1 C.2.1 hd hv (k p e s m args below meth c C d0 hd0 H locs ls _ hH hL hlo ⟨_, _, rfl, rfl, hst⟩)
theorem m_bipush {n : Int} {v : Int32} (hd : decode (y_cc Y) pc = .ok (.bipush n, 2)) (hv : (Int8.ofInt n).toInt32 = v) (hp : pc + 2 = pc') (k : mM G Y pc' lo (.int v :: st) σ d u Q) : mM G Y pc lo (st) σ d u Q := by
  subst hp
  intro p e s m args below meth c C d0 hd0 H locs ls str hH hL hlo hst
  exact lv_bipush C.1 C.2.1 hd hv (k p e s m args below meth c C d0 hd0 H locs ls _ hH hL hlo ⟨_, _, rfl, rfl, hst⟩)
theorem m_sipush {n : Int} {v : Int32} (hd : decode (y_cc Y) pc = .ok (.sipush n, 3)) (hv : (Int16.ofInt n).toInt32 = v) (hp : pc + 3 = pc') (k : mM G Y pc' lo (.int v :: st) σ d u Q) : mM G Y pc lo (st) σ d u Q := by
  subst hp
  intro p e s m args below meth c C d0 hd0 H locs ls str hH hL hlo hst
  exact lv_sipush C.1 C.2.1 hd hv (k p e s m args below meth c C d0 hd0 H locs ls _ hH hL hlo ⟨_, _, rfl, rfl, hst⟩)
theorem m_ldc {i : Nat} {v : Int32} (hd : decode (y_cc Y) pc = .ok (.ldc i, 2)) (hc : Cond.constant Y.1.cls i v ∈ y_ws Y) (hp : pc + 2 = pc') (k : mM G Y pc' lo (.int v :: st) σ d u Q) : mM G Y pc lo (st) σ d u Q := by
  subst hp
  intro p e s m args below meth c C d0 hd0 H locs ls str hH hL hlo hst
  exact lv_ldc C.1 C.2.1 C.2.2.2.2.1 (dr_words C.2.2.2.2.2.1 d0 _ hc) hd (k p e s m args below meth c C d0 hd0 H locs ls _ hH hL hlo ⟨_, _, rfl, rfl, hst⟩)
theorem m_ldcw {i : Nat} {v : Int32} (hd : decode (y_cc Y) pc = .ok (.ldc_w i, 3)) (hc : Cond.constant Y.1.cls i v ∈ y_ws Y) (hp : pc + 3 = pc') (k : mM G Y pc' lo (.int v :: st) σ d u Q) : mM G Y pc lo (st) σ d u Q := by
  subst hp
  intro p e s m args below meth c C d0 hd0 H locs ls str hH hL hlo hst
  exact lv_ldcw C.1 C.2.1 C.2.2.2.2.1 (dr_words C.2.2.2.2.2.1 d0 _ hc) hd (k p e s m args below meth c C d0 hd0 H locs ls _ hH hL hlo ⟨_, _, rfl, rfl, hst⟩)
theorem m_ldcf {i : Nat} {v : UInt32} (hd : decode (y_cc Y) pc = .ok (.ldc i, 2)) (hc : Cond.constantFloat Y.1.cls i v ∈ y_ws Y) (hp : pc + 2 = pc') (k : mM G Y pc' lo (.float v :: st) σ d u Q) : mM G Y pc lo (st) σ d u Q := by
  subst hp
  intro p e s m args below meth c C d0 hd0 H locs ls str hH hL hlo hst
  exact lv_ldcf C.1 C.2.1 C.2.2.2.2.1 (dr_words C.2.2.2.2.2.1 d0 _ hc) hd (k p e s m args below meth c C d0 hd0 H locs ls _ hH hL hlo ⟨_, _, rfl, ⟨_, rfl, fR_rfl _⟩, hst⟩)
theorem m_fconst0 (hd : decode (y_cc Y) pc = .ok (.fconst 0, 1)) (hp : pc + 1 = pc') (k : mM G Y pc' lo (.float FP.fconst0 :: st) σ d u Q) : mM G Y pc lo (st) σ d u Q := by
  subst hp
  intro p e s m args below meth c C d0 hd0 H locs ls str hH hL hlo hst
  exact lv_fconst0 C.1 C.2.1 hd (k p e s m args below meth c C d0 hd0 H locs ls _ hH hL hlo ⟨_, _, rfl, ⟨_, rfl, fR_rfl _⟩, hst⟩)
theorem m_null (hd : decode (y_cc Y) pc = .ok (.aconst_null, 1)) (hp : pc + 1 = pc') (k : mM G Y pc' lo (.null :: st) σ d u Q) : mM G Y pc lo (st) σ d u Q := by
  subst hp
  intro p e s m args below meth c C d0 hd0 H locs ls str hH hL hlo hst
  exact lv_null C.1 C.2.1 hd (k p e s m args below meth c C d0 hd0 H locs ls _ hH hL hlo ⟨_, _, rfl, rfl, hst⟩)
theorem m_iload {i : Nat} {x : Int32} (hd : decode (y_cc Y) pc = .ok (.iload i, 2)) (hl : lo[i]? = some (some (.int x))) (hp : pc + 2 = pc') (k : mM G Y pc' lo (.int x :: st) σ d u Q) : mM G Y pc lo (st) σ d u Q := by
  subst hp
  intro p e s m args below meth c C d0 hd0 H locs ls str hH hL hlo hst
  obtain ⟨r, hr, hv⟩ := mL_at hlo hl
  obtain rfl := vR_int hv
  exact lv_iload C.1 C.2.1 hd hr (k p e s m args below meth c C d0 hd0 H locs ls _ hH hL hlo ⟨_, _, rfl, rfl, hst⟩)
theorem m_iload_n {i : Fin 4} {x : Int32} (hd : decode (y_cc Y) pc = .ok (.iload_n i, 1)) (hl : lo[i.val]? = some (some (.int x))) (hp : pc + 1 = pc') (k : mM G Y pc' lo (.int x :: st) σ d u Q) : mM G Y pc lo (st) σ d u Q := by
  subst hp
  intro p e s m args below meth c C d0 hd0 H locs ls str hH hL hlo hst
  obtain ⟨r, hr, hv⟩ := mL_at hlo hl
  obtain rfl := vR_int hv
  exact lv_iload_n C.1 C.2.1 hd rfl hr (k p e s m args below meth c C d0 hd0 H locs ls _ hH hL hlo ⟨_, _, rfl, rfl, hst⟩)
theorem m_fload {i : Nat} {x : UInt32} (hd : decode (y_cc Y) pc = .ok (.fload i, 2)) (hl : lo[i]? = some (some (.float x))) (hp : pc + 2 = pc') (k : mM G Y pc' lo (.float x :: st) σ d u Q) : mM G Y pc lo (st) σ d u Q := by
  subst hp
  intro p e s m args below meth c C d0 hd0 H locs ls str hH hL hlo hst
  obtain ⟨r, hr, hv⟩ := mL_at hlo hl
  obtain ⟨y, rfl, hy⟩ := vR_float hv
  exact lv_fload C.1 C.2.1 hd hr (k p e s m args below meth c C d0 hd0 H locs ls _ hH hL hlo ⟨_, _, rfl, ⟨_, rfl, hy⟩, hst⟩)
theorem m_fload_n {i : Fin 4} {x : UInt32} (hd : decode (y_cc Y) pc = .ok (.fload_n i, 1)) (hl : lo[i.val]? = some (some (.float x))) (hp : pc + 1 = pc') (k : mM G Y pc' lo (.float x :: st) σ d u Q) : mM G Y pc lo (st) σ d u Q := by
  subst hp
  intro p e s m args below meth c C d0 hd0 H locs ls str hH hL hlo hst
  obtain ⟨r, hr, hv⟩ := mL_at hlo hl
  obtain ⟨y, rfl, hy⟩ := vR_float hv
  exact lv_fload_n C.1 C.2.1 hd rfl hr (k p e s m args below meth c C d0 hd0 H locs ls _ hH hL hlo ⟨_, _, rfl, ⟨_, rfl, hy⟩, hst⟩)
theorem m_aload {i : Nat} {x : Nat} (hd : decode (y_cc Y) pc = .ok (.aload i, 2)) (hl : lo[i]? = some (some (.ref x))) (hp : pc + 2 = pc') (k : mM G Y pc' lo (.ref x :: st) σ d u Q) : mM G Y pc lo (st) σ d u Q := by
  subst hp
  intro p e s m args below meth c C d0 hd0 H locs ls str hH hL hlo hst
  obtain ⟨r, hr, hv⟩ := mL_at hlo hl
  obtain rfl := vR_ref hv
  exact lv_aload C.1 C.2.1 hd hr (k p e s m args below meth c C d0 hd0 H locs ls _ hH hL hlo ⟨_, _, rfl, rfl, hst⟩)
theorem m_aload_n {i : Fin 4} {x : Nat} (hd : decode (y_cc Y) pc = .ok (.aload_n i, 1)) (hl : lo[i.val]? = some (some (.ref x))) (hp : pc + 1 = pc') (k : mM G Y pc' lo (.ref x :: st) σ d u Q) : mM G Y pc lo (st) σ d u Q := by
  subst hp
  intro p e s m args below meth c C d0 hd0 H locs ls str hH hL hlo hst
  obtain ⟨r, hr, hv⟩ := mL_at hlo hl
  obtain rfl := vR_ref hv
  exact lv_aload_n C.1 C.2.1 hd rfl hr (k p e s m args below meth c C d0 hd0 H locs ls _ hH hL hlo ⟨_, _, rfl, rfl, hst⟩)
theorem m_istore {i : Nat} {x : Int32} (hd : decode (y_cc Y) pc = .ok (.istore i, 2)) (hi : i < y_nl Y) (hlo' : lo.set i (some (.int x)) = lo') (hp : pc + 2 = pc') (k : mM G Y pc' lo' st σ d u Q) : mM G Y pc lo (.int x :: st) σ d u Q := by
  subst hp
  subst hlo'
  intro p e s m args below meth c C d0 hd0 H locs ls str hH hL hlo hst
  obtain ⟨r, t, rfl, hv, hst⟩ := hst
  obtain rfl := vR_int hv
  obtain ⟨lv, h1, h2, h3⟩ := hlo
  exact lv_istore C.1 C.2.1 hd h1 hi rfl (fun ls' h4 => (k p e s m args below meth c C d0 hd0 H locs ls' _ hH hL (mL_store h4 h2 h3 rfl) hst))
theorem m_istore_n {i : Fin 4} {x : Int32} (hd : decode (y_cc Y) pc = .ok (.istore_n i, 1)) (hi : i.val < y_nl Y) (hlo' : lo.set i.val (some (.int x)) = lo') (hp : pc + 1 = pc') (k : mM G Y pc' lo' st σ d u Q) : mM G Y pc lo (.int x :: st) σ d u Q := by
  subst hp
  subst hlo'
  intro p e s m args below meth c C d0 hd0 H locs ls str hH hL hlo hst
  obtain ⟨r, t, rfl, hv, hst⟩ := hst
  obtain rfl := vR_int hv
  obtain ⟨lv, h1, h2, h3⟩ := hlo
  exact lv_istore_n C.1 C.2.1 hd rfl h1 hi rfl (fun ls' h4 => (k p e s m args below meth c C d0 hd0 H locs ls' _ hH hL (mL_store h4 h2 h3 rfl) hst))
theorem m_fstore {i : Nat} {x : UInt32} (hd : decode (y_cc Y) pc = .ok (.fstore i, 2)) (hi : i < y_nl Y) (hlo' : lo.set i (some (.float x)) = lo') (hp : pc + 2 = pc') (k : mM G Y pc' lo' st σ d u Q) : mM G Y pc lo (.float x :: st) σ d u Q := by
  subst hp
  subst hlo'
  intro p e s m args below meth c C d0 hd0 H locs ls str hH hL hlo hst
  obtain ⟨r, t, rfl, hv, hst⟩ := hst
  obtain ⟨y, rfl, hy⟩ := vR_float hv
  obtain ⟨lv, h1, h2, h3⟩ := hlo
  exact lv_fstore C.1 C.2.1 hd h1 hi rfl (fun ls' h4 => (k p e s m args below meth c C d0 hd0 H locs ls' _ hH hL (mL_store h4 h2 h3 ⟨_, rfl, hy⟩) hst))
theorem m_fstore_n {i : Fin 4} {x : UInt32} (hd : decode (y_cc Y) pc = .ok (.fstore_n i, 1)) (hi : i.val < y_nl Y) (hlo' : lo.set i.val (some (.float x)) = lo') (hp : pc + 1 = pc') (k : mM G Y pc' lo' st σ d u Q) : mM G Y pc lo (.float x :: st) σ d u Q := by
  subst hp
  subst hlo'
  intro p e s m args below meth c C d0 hd0 H locs ls str hH hL hlo hst
  obtain ⟨r, t, rfl, hv, hst⟩ := hst
  obtain ⟨y, rfl, hy⟩ := vR_float hv
  obtain ⟨lv, h1, h2, h3⟩ := hlo
  exact lv_fstore_n C.1 C.2.1 hd rfl h1 hi rfl (fun ls' h4 => (k p e s m args below meth c C d0 hd0 H locs ls' _ hH hL (mL_store h4 h2 h3 ⟨_, rfl, hy⟩) hst))
theorem m_astore {i : Nat} {x : Nat} (hd : decode (y_cc Y) pc = .ok (.astore i, 2)) (hi : i < y_nl Y) (hlo' : lo.set i (some (.ref x)) = lo') (hp : pc + 2 = pc') (k : mM G Y pc' lo' st σ d u Q) : mM G Y pc lo (.ref x :: st) σ d u Q := by
  subst hp
  subst hlo'
  intro p e s m args below meth c C d0 hd0 H locs ls str hH hL hlo hst
  obtain ⟨r, t, rfl, hv, hst⟩ := hst
  obtain rfl := vR_ref hv
  obtain ⟨lv, h1, h2, h3⟩ := hlo
  exact lv_astore C.1 C.2.1 hd h1 hi rfl (fun ls' h4 => (k p e s m args below meth c C d0 hd0 H locs ls' _ hH hL (mL_store h4 h2 h3 rfl) hst))
theorem m_astore_n {i : Fin 4} {x : Nat} (hd : decode (y_cc Y) pc = .ok (.astore_n i, 1)) (hi : i.val < y_nl Y) (hlo' : lo.set i.val (some (.ref x)) = lo') (hp : pc + 1 = pc') (k : mM G Y pc' lo' st σ d u Q) : mM G Y pc lo (.ref x :: st) σ d u Q := by
  subst hp
  subst hlo'
  intro p e s m args below meth c C d0 hd0 H locs ls str hH hL hlo hst
  obtain ⟨r, t, rfl, hv, hst⟩ := hst
  obtain rfl := vR_ref hv
  obtain ⟨lv, h1, h2, h3⟩ := hlo
  exact lv_astore_n C.1 C.2.1 hd rfl h1 hi rfl (fun ls' h4 => (k p e s m args below meth c C d0 hd0 H locs ls' _ hH hL (mL_store h4 h2 h3 rfl) hst))
theorem m_iinc {i : Nat} {n : Int} {x v : Int32} (hd : decode (y_cc Y) pc = .ok (.iinc i n, 3)) (hl : lo[i]? = some (some (.int x))) (hi : i < y_nl Y) (hv : x + Int32.ofInt n = v) (hlo' : lo.set i (some (.int v)) = lo') (hp : pc + 3 = pc') (k : mM G Y pc' lo' st σ d u Q) : mM G Y pc lo st σ d u Q := by
  subst hp
  subst hlo'
  subst hv
  intro p e s m args below meth c C d0 hd0 H locs ls str hH hL hlo hst
  obtain ⟨lv, h1, h2, h3⟩ := hlo
  obtain ⟨r, h4, h5⟩ := h3 i _ hl
  obtain rfl := vR_int h5
  obtain ⟨j, hj⟩ := List.getElem?_of_mem h4
  exact lv_iinc C.1 C.2.1 hd h1 hj rfl hi rfl (fun ls' h6 => (k p e s m args below meth c C d0 hd0 H locs ls' _ hH hL (mL_store h6 h2 h3 rfl) hst))
theorem m_iadd {x y : Int32} (hd : decode (y_cc Y) pc = .ok (.iadd, 1)) (hp : pc + 1 = pc') (k : mM G Y pc' lo (.int (x + y) :: st) σ d u Q) : mM G Y pc lo (.int y :: .int x :: st) σ d u Q := by
  subst hp
  intro p e s m args below meth c C d0 hd0 H locs ls str hH hL hlo hst
  obtain ⟨_, _, rfl, hy, _, _, rfl, hx, hst⟩ := hst
  obtain rfl := vR_int hx
  obtain rfl := vR_int hy
  exact lv_iadd C.1 C.2.1 hd (k p e s m args below meth c C d0 hd0 H locs ls _ hH hL hlo ⟨_, _, rfl, rfl, hst⟩)
theorem m_isub {x y : Int32} (hd : decode (y_cc Y) pc = .ok (.isub, 1)) (hp : pc + 1 = pc') (k : mM G Y pc' lo (.int (x - y) :: st) σ d u Q) : mM G Y pc lo (.int y :: .int x :: st) σ d u Q := by
  subst hp
  intro p e s m args below meth c C d0 hd0 H locs ls str hH hL hlo hst
  obtain ⟨_, _, rfl, hy, _, _, rfl, hx, hst⟩ := hst
  obtain rfl := vR_int hx
  obtain rfl := vR_int hy
  exact lv_isub C.1 C.2.1 hd (k p e s m args below meth c C d0 hd0 H locs ls _ hH hL hlo ⟨_, _, rfl, rfl, hst⟩)
theorem m_imul {x y : Int32} (hd : decode (y_cc Y) pc = .ok (.imul, 1)) (hp : pc + 1 = pc') (k : mM G Y pc' lo (.int (x * y) :: st) σ d u Q) : mM G Y pc lo (.int y :: .int x :: st) σ d u Q := by
  subst hp
  intro p e s m args below meth c C d0 hd0 H locs ls str hH hL hlo hst
  obtain ⟨_, _, rfl, hy, _, _, rfl, hx, hst⟩ := hst
  obtain rfl := vR_int hx
  obtain rfl := vR_int hy
  exact lv_imul C.1 C.2.1 hd (k p e s m args below meth c C d0 hd0 H locs ls _ hH hL hlo ⟨_, _, rfl, rfl, hst⟩)
theorem m_iand {x y : Int32} (hd : decode (y_cc Y) pc = .ok (.iand, 1)) (hp : pc + 1 = pc') (k : mM G Y pc' lo (.int (x &&& y) :: st) σ d u Q) : mM G Y pc lo (.int y :: .int x :: st) σ d u Q := by
  subst hp
  intro p e s m args below meth c C d0 hd0 H locs ls str hH hL hlo hst
  obtain ⟨_, _, rfl, hy, _, _, rfl, hx, hst⟩ := hst
  obtain rfl := vR_int hx
  obtain rfl := vR_int hy
  exact lv_iand C.1 C.2.1 hd (k p e s m args below meth c C d0 hd0 H locs ls _ hH hL hlo ⟨_, _, rfl, rfl, hst⟩)
theorem m_ixor {x y : Int32} (hd : decode (y_cc Y) pc = .ok (.ixor, 1)) (hp : pc + 1 = pc') (k : mM G Y pc' lo (.int (x ^^^ y) :: st) σ d u Q) : mM G Y pc lo (.int y :: .int x :: st) σ d u Q := by
  subst hp
  intro p e s m args below meth c C d0 hd0 H locs ls str hH hL hlo hst
  obtain ⟨_, _, rfl, hy, _, _, rfl, hx, hst⟩ := hst
  obtain rfl := vR_int hx
  obtain rfl := vR_int hy
  exact lv_ixor C.1 C.2.1 hd (k p e s m args below meth c C d0 hd0 H locs ls _ hH hL hlo ⟨_, _, rfl, rfl, hst⟩)
theorem m_idiv {x y : Int32} (hd : decode (y_cc Y) pc = .ok (.idiv, 1)) (hne : ¬ y = 0) (hp : pc + 1 = pc') (k : mM G Y pc' lo (.int (x / y) :: st) σ d u Q) : mM G Y pc lo (.int y :: .int x :: st) σ d u Q := by
  subst hp
  intro p e s m args below meth c C d0 hd0 H locs ls str hH hL hlo hst
  obtain ⟨_, _, rfl, hy, _, _, rfl, hx, hst⟩ := hst
  obtain rfl := vR_int hx
  obtain rfl := vR_int hy
  exact lv_idiv C.1 C.2.1 hd hne (k p e s m args below meth c C d0 hd0 H locs ls _ hH hL hlo ⟨_, _, rfl, rfl, hst⟩)
theorem m_irem {x y : Int32} (hd : decode (y_cc Y) pc = .ok (.irem, 1)) (hne : ¬ y = 0) (hp : pc + 1 = pc') (k : mM G Y pc' lo (.int (x - x / y * y) :: st) σ d u Q) : mM G Y pc lo (.int y :: .int x :: st) σ d u Q := by
  subst hp
  intro p e s m args below meth c C d0 hd0 H locs ls str hH hL hlo hst
  obtain ⟨_, _, rfl, hy, _, _, rfl, hx, hst⟩ := hst
  obtain rfl := vR_int hx
  obtain rfl := vR_int hy
  exact lv_irem C.1 C.2.1 hd hne (k p e s m args below meth c C d0 hd0 H locs ls _ hH hL hlo ⟨_, _, rfl, rfl, hst⟩)
theorem m_ineg {x : Int32} (hd : decode (y_cc Y) pc = .ok (.ineg, 1)) (hp : pc + 1 = pc') (k : mM G Y pc' lo (.int (-x) :: st) σ d u Q) : mM G Y pc lo (.int x :: st) σ d u Q := by
  subst hp
  intro p e s m args below meth c C d0 hd0 H locs ls str hH hL hlo hst
  obtain ⟨_, _, rfl, hx, hst⟩ := hst
  obtain rfl := vR_int hx
  exact lv_ineg C.1 C.2.1 hd (k p e s m args below meth c C d0 hd0 H locs ls _ hH hL hlo ⟨_, _, rfl, rfl, hst⟩)
theorem m_i2c {x : Int32} (hd : decode (y_cc Y) pc = .ok (.i2c, 1)) (hp : pc + 1 = pc') (k : mM G Y pc' lo (.int (x.toUInt32 % 65536).toInt32 :: st) σ d u Q) : mM G Y pc lo (.int x :: st) σ d u Q := by
  subst hp
  intro p e s m args below meth c C d0 hd0 H locs ls str hH hL hlo hst
  obtain ⟨_, _, rfl, hx, hst⟩ := hst
  obtain rfl := vR_int hx
  exact lv_i2c C.1 C.2.1 hd rfl (k p e s m args below meth c C d0 hd0 H locs ls _ hH hL hlo ⟨_, _, rfl, rfl, hst⟩)
theorem m_i2f {x : Int32} (hd : decode (y_cc Y) pc = .ok (.i2f, 1)) (hp : pc + 1 = pc') (k : mM G Y pc' lo (.float (FP.i2f x) :: st) σ d u Q) : mM G Y pc lo (.int x :: st) σ d u Q := by
  subst hp
  intro p e s m args below meth c C d0 hd0 H locs ls str hH hL hlo hst
  obtain ⟨_, _, rfl, hx, hst⟩ := hst
  obtain rfl := vR_int hx
  exact lv_i2f C.1 C.2.1 hd (k p e s m args below meth c C d0 hd0 H locs ls _ hH hL hlo ⟨_, _, rfl, ⟨_, rfl, fR_rfl _⟩, hst⟩)
theorem m_f2i {x : UInt32} (hd : decode (y_cc Y) pc = .ok (.f2i, 1)) (hp : pc + 1 = pc') (k : mM G Y pc' lo (.int (FP.f2i x) :: st) σ d u Q) : mM G Y pc lo (.float x :: st) σ d u Q := by
  subst hp
  intro p e s m args below meth c C d0 hd0 H locs ls str hH hL hlo hst
  obtain ⟨_, _, rfl, hx, hst⟩ := hst
  obtain ⟨y, rfl, hy⟩ := vR_float hx
  exact lv_f2i C.1 C.2.1 hd (k p e s m args below meth c C d0 hd0 H locs ls _ hH hL hlo ⟨_, _, rfl, (congrArg Value.int (fR_f2i hy)), hst⟩)
theorem m_fcmp {x y : UInt32} {op : CmpOp} (hd : decode (y_cc Y) pc = .ok (.fcmp op, 1)) (hp : pc + 1 = pc') (k : mM G Y pc' lo (.int (Op.cmpValue (FP.fcmp x y) op) :: st) σ d u Q) : mM G Y pc lo (.float y :: .float x :: st) σ d u Q := by
  subst hp
  intro p e s m args below meth c C d0 hd0 H locs ls str hH hL hlo hst
  obtain ⟨_, _, rfl, hy, _, _, rfl, hx, hst⟩ := hst
  obtain ⟨x', rfl, hx'⟩ := vR_float hx
  obtain ⟨y', rfl, hy'⟩ := vR_float hy
  exact lv_fcmp C.1 C.2.1 hd (k p e s m args below meth c C d0 hd0 H locs ls _ hH hL hlo ⟨_, _, rfl, (congrArg (fun z => Value.int (Op.cmpValue z op)) (fR_cmp hx' hy')), hst⟩)
theorem m_fadd {x y : UInt32} (hd : decode (y_cc Y) pc = .ok (.fadd, 1)) (hp : pc + 1 = pc') (k : mM G Y pc' lo (.float (FP.fadd x y) :: st) σ d u Q) : mM G Y pc lo (.float y :: .float x :: st) σ d u Q := by
  subst hp
  intro p e s m args below meth c C d0 hd0 H locs ls str hH hL hlo hst
  obtain ⟨_, _, rfl, hy, _, _, rfl, hx, hst⟩ := hst
  obtain ⟨x', rfl, hx'⟩ := vR_float hx
  obtain ⟨y', rfl, hy'⟩ := vR_float hy
  refine lv_fadd_any hd0 lw_bits C.1 C.2.1 hd (fun r d1 hal hd1 => ?_)
  exact k p e s m args below meth c C d1 hd1 H locs ls _ hH hL hlo ⟨_, _, rfl, ⟨_, rfl, fR_trans (fR_of_alike hal) (fR_add hx' hy')⟩, hst⟩
theorem m_fsub {x y : UInt32} (hd : decode (y_cc Y) pc = .ok (.fsub, 1)) (hp : pc + 1 = pc') (k : mM G Y pc' lo (.float (FP.fsub x y) :: st) σ d u Q) : mM G Y pc lo (.float y :: .float x :: st) σ d u Q := by
  subst hp
  intro p e s m args below meth c C d0 hd0 H locs ls str hH hL hlo hst
  obtain ⟨_, _, rfl, hy, _, _, rfl, hx, hst⟩ := hst
  obtain ⟨x', rfl, hx'⟩ := vR_float hx
  obtain ⟨y', rfl, hy'⟩ := vR_float hy
  refine lv_fsub_any hd0 lw_bits C.1 C.2.1 hd (fun r d1 hal hd1 => ?_)
  exact k p e s m args below meth c C d1 hd1 H locs ls _ hH hL hlo ⟨_, _, rfl, ⟨_, rfl, fR_trans (fR_of_alike hal) (fR_sub hx' hy')⟩, hst⟩
theorem m_fmul {x y : UInt32} (hd : decode (y_cc Y) pc = .ok (.fmul, 1)) (hp : pc + 1 = pc') (k : mM G Y pc' lo (.float (FP.fmul x y) :: st) σ d u Q) : mM G Y pc lo (.float y :: .float x :: st) σ d u Q := by
  subst hp
  intro p e s m args below meth c C d0 hd0 H locs ls str hH hL hlo hst
  obtain ⟨_, _, rfl, hy, _, _, rfl, hx, hst⟩ := hst
  obtain ⟨x', rfl, hx'⟩ := vR_float hx
  obtain ⟨y', rfl, hy'⟩ := vR_float hy
  refine lv_fmul_any hd0 lw_bits C.1 C.2.1 hd (fun r d1 hal hd1 => ?_)
  exact k p e s m args below meth c C d1 hd1 H locs ls _ hH hL hlo ⟨_, _, rfl, ⟨_, rfl, fR_trans (fR_of_alike hal) (fR_mul hx' hy')⟩, hst⟩
theorem m_fdiv {x y : UInt32} (hd : decode (y_cc Y) pc = .ok (.fdiv, 1)) (hp : pc + 1 = pc') (k : mM G Y pc' lo (.float (FP.fdiv x y) :: st) σ d u Q) : mM G Y pc lo (.float y :: .float x :: st) σ d u Q := by
  subst hp
  intro p e s m args below meth c C d0 hd0 H locs ls str hH hL hlo hst
  obtain ⟨_, _, rfl, hy, _, _, rfl, hx, hst⟩ := hst
  obtain ⟨x', rfl, hx'⟩ := vR_float hx
  obtain ⟨y', rfl, hy'⟩ := vR_float hy
  refine lv_fdiv_any hd0 lw_bits C.1 C.2.1 hd (fun r d1 hal hd1 => ?_)
  exact k p e s m args below meth c C d1 hd1 H locs ls _ hH hL hlo ⟨_, _, rfl, ⟨_, rfl, fR_trans (fR_of_alike hal) (fR_div hx' hy')⟩, hst⟩
theorem m_dup {v : Value} (hd : decode (y_cc Y) pc = .ok (.dup, 1)) (hp : pc + 1 = pc') (k : mM G Y pc' lo (v :: v :: st) σ d u Q) : mM G Y pc lo (v :: st) σ d u Q := by
  subst hp
  intro p e s m args below meth c C d0 hd0 H locs ls str hH hL hlo hst
  obtain ⟨r, t, rfl, hv, hst⟩ := hst
  exact lv_dup C.1 C.2.1 hd (vR_cat hv) (k p e s m args below meth c C d0 hd0 H locs ls _ hH hL hlo ⟨_, _, rfl, hv, _, _, rfl, hv, hst⟩)
theorem m_pop {v : Value} (hd : decode (y_cc Y) pc = .ok (.pop, 1)) (hp : pc + 1 = pc') (k : mM G Y pc' lo (st) σ d u Q) : mM G Y pc lo (v :: st) σ d u Q := by
  subst hp
  intro p e s m args below meth c C d0 hd0 H locs ls str hH hL hlo hst
  obtain ⟨r, t, rfl, hv, hst⟩ := hst
  exact lv_pop C.1 C.2.1 hd (vR_cat hv) (k p e s m args below meth c C d0 hd0 H locs ls _ hH hL hlo hst)
theorem m_dup2 {v w : Value} (hd : decode (y_cc Y) pc = .ok (.dup2, 1)) (hp : pc + 1 = pc') (k : mM G Y pc' lo (v :: w :: v :: w :: st) σ d u Q) : mM G Y pc lo (v :: w :: st) σ d u Q := by
  subst hp
  intro p e s m args below meth c C d0 hd0 H locs ls str hH hL hlo hst
  obtain ⟨r, _, rfl, hv, r2, t, rfl, hw, hst⟩ := hst
  exact lv_dup2_11 C.1 C.2.1 hd (vR_cat hv) (vR_cat hw) (k p e s m args below meth c C d0 hd0 H locs ls _ hH hL hlo ⟨_, _, rfl, hv, _, _, rfl, hw, _, _, rfl, hv, _, _, rfl, hw, hst⟩)
theorem m_if_eq {x : Int32} {off : Int} (hd : decode (y_cc Y) pc = .ok (.ifCond .eq off, 3)) (ht : (pc : Int) + off = (tgt : Int)) (hp : pc + 3 = pc') (kt : x = 0 → mM G Y tgt lo st σ d u Q) (kf : ¬ x = 0 → mM G Y pc' lo st σ d u Q) : mM G Y pc lo (.int x :: st) σ d u Q := by
  subst hp
  intro p e s m args below meth c C d0 hd0 H locs ls str hH hL hlo hst
  obtain ⟨_, _, rfl, hx, hst⟩ := hst
  obtain rfl := vR_int hx
  exact lv_if_eq C.1 C.2.1 hd ht (fun h => kt h p e s m args below meth c C d0 hd0 H locs ls _ hH hL hlo hst) (fun h => kf h p e s m args below meth c C d0 hd0 H locs ls _ hH hL hlo hst)
theorem m_if_ne {x : Int32} {off : Int} (hd : decode (y_cc Y) pc = .ok (.ifCond .ne off, 3)) (ht : (pc : Int) + off = (tgt : Int)) (hp : pc + 3 = pc') (kt : ¬ x = 0 → mM G Y tgt lo st σ d u Q) (kf : x = 0 → mM G Y pc' lo st σ d u Q) : mM G Y pc lo (.int x :: st) σ d u Q := by
  subst hp
  intro p e s m args below meth c C d0 hd0 H locs ls str hH hL hlo hst
  obtain ⟨_, _, rfl, hx, hst⟩ := hst
  obtain rfl := vR_int hx
  exact lv_if_ne C.1 C.2.1 hd ht (fun h => kt h p e s m args below meth c C d0 hd0 H locs ls _ hH hL hlo hst) (fun h => kf h p e s m args below meth c C d0 hd0 H locs ls _ hH hL hlo hst)
theorem m_if_lt {x : Int32} {off : Int} (hd : decode (y_cc Y) pc = .ok (.ifCond .lt off, 3)) (ht : (pc : Int) + off = (tgt : Int)) (hp : pc + 3 = pc') (kt : x < 0 → mM G Y tgt lo st σ d u Q) (kf : ¬ x < 0 → mM G Y pc' lo st σ d u Q) : mM G Y pc lo (.int x :: st) σ d u Q := by
  subst hp
  intro p e s m args below meth c C d0 hd0 H locs ls str hH hL hlo hst
  obtain ⟨_, _, rfl, hx, hst⟩ := hst
  obtain rfl := vR_int hx
  exact lv_if_lt C.1 C.2.1 hd ht (fun h => kt h p e s m args below meth c C d0 hd0 H locs ls _ hH hL hlo hst) (fun h => kf h p e s m args below meth c C d0 hd0 H locs ls _ hH hL hlo hst)
theorem m_if_ge {x : Int32} {off : Int} (hd : decode (y_cc Y) pc = .ok (.ifCond .ge off, 3)) (ht : (pc : Int) + off = (tgt : Int)) (hp : pc + 3 = pc') (kt : 0 ≤ x → mM G Y tgt lo st σ d u Q) (kf : ¬ 0 ≤ x → mM G Y pc' lo st σ d u Q) : mM G Y pc lo (.int x :: st) σ d u Q := by
  subst hp
  intro p e s m args below meth c C d0 hd0 H locs ls str hH hL hlo hst
  obtain ⟨_, _, rfl, hx, hst⟩ := hst
  obtain rfl := vR_int hx
  exact lv_if_ge C.1 C.2.1 hd ht (fun h => kt h p e s m args below meth c C d0 hd0 H locs ls _ hH hL hlo hst) (fun h => kf h p e s m args below meth c C d0 hd0 H locs ls _ hH hL hlo hst)
theorem m_if_gt {x : Int32} {off : Int} (hd : decode (y_cc Y) pc = .ok (.ifCond .gt off, 3)) (ht : (pc : Int) + off = (tgt : Int)) (hp : pc + 3 = pc') (kt : 0 < x → mM G Y tgt lo st σ d u Q) (kf : ¬ 0 < x → mM G Y pc' lo st σ d u Q) : mM G Y pc lo (.int x :: st) σ d u Q := by
  subst hp
  intro p e s m args below meth c C d0 hd0 H locs ls str hH hL hlo hst
  obtain ⟨_, _, rfl, hx, hst⟩ := hst
  obtain rfl := vR_int hx
  exact lv_if_gt C.1 C.2.1 hd ht (fun h => kt h p e s m args below meth c C d0 hd0 H locs ls _ hH hL hlo hst) (fun h => kf h p e s m args below meth c C d0 hd0 H locs ls _ hH hL hlo hst)
theorem m_if_le {x : Int32} {off : Int} (hd : decode (y_cc Y) pc = .ok (.ifCond .le off, 3)) (ht : (pc : Int) + off = (tgt : Int)) (hp : pc + 3 = pc') (kt : x ≤ 0 → mM G Y tgt lo st σ d u Q) (kf : ¬ x ≤ 0 → mM G Y pc' lo st σ d u Q) : mM G Y pc lo (.int x :: st) σ d u Q := by
  subst hp
  intro p e s m args below meth c C d0 hd0 H locs ls str hH hL hlo hst
  obtain ⟨_, _, rfl, hx, hst⟩ := hst
  obtain rfl := vR_int hx
  exact lv_if_le C.1 C.2.1 hd ht (fun h => kt h p e s m args below meth c C d0 hd0 H locs ls _ hH hL hlo hst) (fun h => kf h p e s m args below meth c C d0 hd0 H locs ls _ hH hL hlo hst)
theorem m_icmp_eq {x y : Int32} {off : Int} (hd : decode (y_cc Y) pc = .ok (.if_icmp .eq off, 3)) (ht : (pc : Int) + off = (tgt : Int)) (hp : pc + 3 = pc') (kt : x = y → mM G Y tgt lo st σ d u Q) (kf : ¬ x = y → mM G Y pc' lo st σ d u Q) : mM G Y pc lo (.int y :: .int x :: st) σ d u Q := by
  subst hp
  intro p e s m args below meth c C d0 hd0 H locs ls str hH hL hlo hst
  obtain ⟨_, _, rfl, hy, _, _, rfl, hx, hst⟩ := hst
  obtain rfl := vR_int hx
  obtain rfl := vR_int hy
  exact lv_icmp_eq C.1 C.2.1 hd ht (fun h => kt h p e s m args below meth c C d0 hd0 H locs ls _ hH hL hlo hst) (fun h => kf h p e s m args below meth c C d0 hd0 H locs ls _ hH hL hlo hst)
theorem m_icmp_ne {x y : Int32} {off : Int} (hd : decode (y_cc Y) pc = .ok (.if_icmp .ne off, 3)) (ht : (pc : Int) + off = (tgt : Int)) (hp : pc + 3 = pc') (kt : ¬ x = y → mM G Y tgt lo st σ d u Q) (kf : x = y → mM G Y pc' lo st σ d u Q) : mM G Y pc lo (.int y :: .int x :: st) σ d u Q := by
  subst hp
  intro p e s m args below meth c C d0 hd0 H locs ls str hH hL hlo hst
  obtain ⟨_, _, rfl, hy, _, _, rfl, hx, hst⟩ := hst
  obtain rfl := vR_int hx
  obtain rfl := vR_int hy
  exact lv_icmp_ne C.1 C.2.1 hd ht (fun h => kt h p e s m args below meth c C d0 hd0 H locs ls _ hH hL hlo hst) (fun h => kf h p e s m args below meth c C d0 hd0 H locs ls _ hH hL hlo hst)
theorem m_icmp_lt {x y : Int32} {off : Int} (hd : decode (y_cc Y) pc = .ok (.if_icmp .lt off, 3)) (ht : (pc : Int) + off = (tgt : Int)) (hp : pc + 3 = pc') (kt : x < y → mM G Y tgt lo st σ d u Q) (kf : ¬ x < y → mM G Y pc' lo st σ d u Q) : mM G Y pc lo (.int y :: .int x :: st) σ d u Q := by
  subst hp
  intro p e s m args below meth c C d0 hd0 H locs ls str hH hL hlo hst
  obtain ⟨_, _, rfl, hy, _, _, rfl, hx, hst⟩ := hst
  obtain rfl := vR_int hx
  obtain rfl := vR_int hy
  exact lv_icmp_lt C.1 C.2.1 hd ht (fun h => kt h p e s m args below meth c C d0 hd0 H locs ls _ hH hL hlo hst) (fun h => kf h p e s m args below meth c C d0 hd0 H locs ls _ hH hL hlo hst)
theorem m_icmp_ge {x y : Int32} {off : Int} (hd : decode (y_cc Y) pc = .ok (.if_icmp .ge off, 3)) (ht : (pc : Int) + off = (tgt : Int)) (hp : pc + 3 = pc') (kt : y ≤ x → mM G Y tgt lo st σ d u Q) (kf : ¬ y ≤ x → mM G Y pc' lo st σ d u Q) : mM G Y pc lo (.int y :: .int x :: st) σ d u Q := by
  subst hp
  intro p e s m args below meth c C d0 hd0 H locs ls str hH hL hlo hst
  obtain ⟨_, _, rfl, hy, _, _, rfl, hx, hst⟩ := hst
  obtain rfl := vR_int hx
  obtain rfl := vR_int hy
  exact lv_icmp_ge C.1 C.2.1 hd ht (fun h => kt h p e s m args below meth c C d0 hd0 H locs ls _ hH hL hlo hst) (fun h => kf h p e s m args below meth c C d0 hd0 H locs ls _ hH hL hlo hst)
theorem m_icmp_gt {x y : Int32} {off : Int} (hd : decode (y_cc Y) pc = .ok (.if_icmp .gt off, 3)) (ht : (pc : Int) + off = (tgt : Int)) (hp : pc + 3 = pc') (kt : y < x → mM G Y tgt lo st σ d u Q) (kf : ¬ y < x → mM G Y pc' lo st σ d u Q) : mM G Y pc lo (.int y :: .int x :: st) σ d u Q := by
  subst hp
  intro p e s m args below meth c C d0 hd0 H locs ls str hH hL hlo hst
  obtain ⟨_, _, rfl, hy, _, _, rfl, hx, hst⟩ := hst
  obtain rfl := vR_int hx
  obtain rfl := vR_int hy
  exact lv_icmp_gt C.1 C.2.1 hd ht (fun h => kt h p e s m args below meth c C d0 hd0 H locs ls _ hH hL hlo hst) (fun h => kf h p e s m args below meth c C d0 hd0 H locs ls _ hH hL hlo hst)
theorem m_icmp_le {x y : Int32} {off : Int} (hd : decode (y_cc Y) pc = .ok (.if_icmp .le off, 3)) (ht : (pc : Int) + off = (tgt : Int)) (hp : pc + 3 = pc') (kt : x ≤ y → mM G Y tgt lo st σ d u Q) (kf : ¬ x ≤ y → mM G Y pc' lo st σ d u Q) : mM G Y pc lo (.int y :: .int x :: st) σ d u Q := by
  subst hp
  intro p e s m args below meth c C d0 hd0 H locs ls str hH hL hlo hst
  obtain ⟨_, _, rfl, hy, _, _, rfl, hx, hst⟩ := hst
  obtain rfl := vR_int hx
  obtain rfl := vR_int hy
  exact lv_icmp_le C.1 C.2.1 hd ht (fun h => kt h p e s m args below meth c C d0 hd0 H locs ls _ hH hL hlo hst) (fun h => kf h p e s m args below meth c C d0 hd0 H locs ls _ hH hL hlo hst)
theorem m_goto {off : Int} (hd : decode (y_cc Y) pc = .ok (.goto off, 3)) (ht : (pc : Int) + off = (tgt : Int)) (k : mM G Y tgt lo st σ d u Q) : mM G Y pc lo st σ d u Q := by
  intro p e s m args below meth c C d0 hd0 H locs ls str hH hL hlo hst
  exact lv_goto C.1 C.2.1 hd ht (k p e s m args below meth c C d0 hd0 H locs ls _ hH hL hlo hst)
theorem m_ifnull {x : Nat} {off : Int} (hd : decode (y_cc Y) pc = .ok (.ifnull off, 3)) (hp : pc + 3 = pc') (k : mM G Y pc' lo st σ d u Q) : mM G Y pc lo (.ref x :: st) σ d u Q := by
  subst hp
  intro p e s m args below meth c C d0 hd0 H locs ls str hH hL hlo hst
  obtain ⟨_, _, rfl, hx, hst⟩ := hst
  obtain rfl := vR_ref hx
  exact lv_ifnull C.1 C.2.1 hd (k p e s m args below meth c C d0 hd0 H locs ls _ hH hL hlo hst)
theorem m_tableIn {dflt lo1 hi1 : Int} {offs : Array Int} {len : Nat} {x : Int32} {off : Int} (hd : decode (y_cc Y) pc = .ok (.tableswitch dflt lo1 hi1 offs, len)) (h1 : ¬ x.toInt < lo1) (h2 : ¬ hi1 < x.toInt) (ho : offs[(x.toInt - lo1).toNat]? = some off) (ht : (pc : Int) + off = (tgt : Int)) (k : mM G Y tgt lo st σ d u Q) : mM G Y pc lo (.int x :: st) σ d u Q := by
  intro p e s m args below meth c C d0 hd0 H locs ls str hH hL hlo hst
  obtain ⟨_, _, rfl, hx, hst⟩ := hst
  obtain rfl := vR_int hx
  exact lv_tableIn C.1 C.2.1 hd h1 h2 ho ht (k p e s m args below meth c C d0 hd0 H locs ls _ hH hL hlo hst)
theorem m_tableOut {dflt lo1 hi1 : Int} {offs : Array Int} {len : Nat} {x : Int32} (hd : decode (y_cc Y) pc = .ok (.tableswitch dflt lo1 hi1 offs, len)) (h : x.toInt < lo1 ∨ hi1 < x.toInt) (ht : (pc : Int) + dflt = (tgt : Int)) (k : mM G Y tgt lo st σ d u Q) : mM G Y pc lo (.int x :: st) σ d u Q := by
  intro p e s m args below meth c C d0 hd0 H locs ls str hH hL hlo hst
  obtain ⟨_, _, rfl, hx, hst⟩ := hst
  obtain rfl := vR_int hx
  exact lv_tableOut C.1 C.2.1 hd h ht (k p e s m args below meth c C d0 hd0 H locs ls _ hH hL hlo hst)
theorem m_lookup {dflt : Int} {ps : Array (Int × Int)} {len : Nat} {x : Int32} {off : Int} (hd : decode (y_cc Y) pc = .ok (.lookupswitch dflt ps, len)) (hz : (ps.toList.zip (ps.toList.drop 1)).all (fun (a, next) => a.1 < next.1) = true) (ho : Op.lookupswitch.offset ps.toList dflt x.toInt = off) (ht : (pc : Int) + off = (tgt : Int)) (k : mM G Y tgt lo st σ d u Q) : mM G Y pc lo (.int x :: st) σ d u Q := by
  intro p e s m args below meth c C d0 hd0 H locs ls str hH hL hlo hst
  obtain ⟨_, _, rfl, hx, hst⟩ := hst
  obtain rfl := vR_int hx
  exact lv_lookup C.1 C.2.1 hd hz ho ht (k p e s m args below meth c C d0 hd0 H locs ls _ hH hL hlo hst)
theorem m_iret {v : Int32} {ty : FieldType} (hd : decode (y_cc Y) pc = .ok (.ireturn, 1)) (hr : y_rt Y = some ty) (hn : narrow ty (.int v) = .int v) (hu : u.1 ≤ (y_rm Y).cells ∧ u.2 ≤ (y_rm Y).slots) (hQ : Q (some (.int v)) σ d) : mM G Y pc lo ([.int v]) σ d u Q := by
  intro p e s m args below meth c C d0 hd0 H locs ls str hH hL hlo hst
  obtain ⟨_, _, rfl, hx, rfl⟩ := hst
  obtain rfl := vR_int hx
  refine W.widen hu.1 hu.2 (W.endD hd0 ?_)
  exact W.zret C.1 C.2.1 (C.2.2.1.trans hr) hn (fun t ht hW => ⟨some (.int v), _, σ, d, rfl, ⟨_, rfl, rfl⟩, hQ, by rw [ht]; exact hH⟩) hL hd C.2.2.2.2.2.2.1
theorem m_fret {v : UInt32} (hd : decode (y_cc Y) pc = .ok (.freturn, 1)) (hr : y_rt Y = some .float) (hu : u.1 ≤ (y_rm Y).cells ∧ u.2 ≤ (y_rm Y).slots) (hQ : Q (some (.float v)) σ d) : mM G Y pc lo ([.float v]) σ d u Q := by
  intro p e s m args below meth c C d0 hd0 H locs ls str hH hL hlo hst
  obtain ⟨_, _, rfl, hx, rfl⟩ := hst
  obtain ⟨y, rfl, hy⟩ := vR_float hx
  refine W.widen hu.1 hu.2 (W.endD hd0 ?_)
  exact W.fret C.1 C.2.1 (C.2.2.1.trans hr) (fun t ht hW => ⟨some (.float v), _, σ, d, rfl, ⟨_, rfl, y, rfl, hy⟩, hQ, by rw [ht]; exact hH⟩) hL hd C.2.2.2.2.2.2.1
theorem m_aret {v : Nat} {rt : FieldType} (hd : decode (y_cc Y) pc = .ok (.areturn, 1)) (hr : y_rt Y = some rt) (hrt : (∃ n, rt = .object n) ∨ ∃ t, rt = .array t) (hu : u.1 ≤ (y_rm Y).cells ∧ u.2 ≤ (y_rm Y).slots) (hQ : Q (some (.ref v)) σ d) : mM G Y pc lo ([.ref v]) σ d u Q := by
  intro p e s m args below meth c C d0 hd0 H locs ls str hH hL hlo hst
  obtain ⟨_, _, rfl, hx, rfl⟩ := hst
  obtain rfl := vR_ref hx
  refine W.widen hu.1 hu.2 (W.endD hd0 ?_)
  exact W.aret C.1 C.2.1 (C.2.2.1.trans hr) hrt (Or.inr ⟨_, rfl⟩) (fun t ht hW => ⟨some (.ref v), _, σ, d, rfl, ⟨_, rfl, rfl⟩, hQ, by rw [ht]; exact hH⟩) hL hd C.2.2.2.2.2.2.1
theorem m_aretN {rt : FieldType} (hd : decode (y_cc Y) pc = .ok (.areturn, 1)) (hr : y_rt Y = some rt) (hrt : (∃ n, rt = .object n) ∨ ∃ t, rt = .array t) (hu : u.1 ≤ (y_rm Y).cells ∧ u.2 ≤ (y_rm Y).slots) (hQ : Q (some .null) σ d) : mM G Y pc lo ([.null]) σ d u Q := by
  intro p e s m args below meth c C d0 hd0 H locs ls str hH hL hlo hst
  obtain ⟨_, _, rfl, hx, rfl⟩ := hst
  obtain rfl := vR_null hx
  refine W.widen hu.1 hu.2 (W.endD hd0 ?_)
  exact W.aret C.1 C.2.1 (C.2.2.1.trans hr) hrt (Or.inl rfl) (fun t ht hW => ⟨some .null, _, σ, d, rfl, ⟨_, rfl, rfl⟩, hQ, by rw [ht]; exact hH⟩) hL hd C.2.2.2.2.2.2.1
theorem m_vret (hd : decode (y_cc Y) pc = .ok (.return_, 1)) (hr : y_rt Y = none) (hu : u.1 ≤ (y_rm Y).cells ∧ u.2 ≤ (y_rm Y).slots) (hQ : Q none σ d) : mM G Y pc lo ([]) σ d u Q := by
  intro p e s m args below meth c C d0 hd0 H locs ls str hH hL hlo hst
  cases hst
  refine W.widen hu.1 hu.2 (W.endD hd0 ?_)
  exact W.vret C.1 C.2.1 (C.2.2.1.trans hr) (fun t ht hW => ⟨none, none, σ, d, rfl, rfl, hQ, by rw [ht]; exact hH⟩) hL hd C.2.2.2.2.2.2.1
end ROWS
end
section
/-! THE HEAP'S ROWS over mM -/
def u2 {α : Type} (m : Nat → Nat → α) (k j : Nat) (x : α) : Nat → Nat → α := fun a b => if a = k then (if b = j then x else m a b) else m a b
theorem u2_ne {α : Type} {m : Nat → Nat → α} {k j a : Nat} {x : α} (h : a ≠ k) : u2 m k j x a = m a := by funext b; simp [u2, h]
theorem u2_same {α : Type} {m : Nat → Nat → α} {k j : Nat} {x : α} : u2 m k j x k j = x := by simp [u2]
theorem u2_oth {α : Type} {m : Nat → Nat → α} {k j b : Nat} {x : α} (h : b ≠ j) (a : Nat) : u2 m k j x a b = m a b := by simp [u2, h]
/-- the abstract value of a field -/
def avl (σ : Sh) (d : Dt) (k j c : Nat) : Value := if c = 0 then .int (d.1 k j) else if c = 1 then .float (d.2 k j) else if c = 2 then va_rf (σ.2.2.2.1 k j) else .int (σ.2.2.2.2 k)
/-- a field that an instruction of Y names: class ci, field j, descriptor, final -/
def FA (Y : MD) (i ci j : Nat) (ds : String) (fin : Bool) : Prop := ∃ (C : String) (T : u_T) (N : Nat), vwCl[ci]? = some (C, T, N) ∧ j < N ∧ (∀ w ∈ u_ws C T N, w ∈ y_ws Y) ∧ Cond.fieldLink Y.1.cls i (T j).1 (T j).2.1 (T j).2.2.1 ∈ y_ws Y ∧ N = (fco ci).length ∧ (T j).2.2.1 = ds ∧ (T j).2.2.2 = fin ∧ (fin = true → (T j).1 = Y.1.cls)
def CF (C : String) (T : u_T) (N : Nat) : Prop := ∃ ty0 : Nat → FieldType, (∀ k, k < N → parseFieldDescriptor (T k).2.2.1 = some (ty0 k)) ∧ (∀ a, a < N → ∀ b, b < N → a ≠ b → (T a).2.1 ≠ (T b).2.1)
theorem cf_all : ∀ (ci : Nat) (C : String) (T : u_T) (N : Nat), vwCl[ci]? = some (C, T, N) → ci < 12 ∧ CF C T N := by
  intro ci C T N h
  match ci, h with
  | 0, h => cases h; exact ⟨by decide, _, tyX0_ok, nmX0⟩
  | 1, h => cases h; exact ⟨by decide, _, tyX1_ok, nmX1⟩
  | 2, h => cases h; exact ⟨by decide, _, tyX2_ok, nmX2⟩
  | 3, h => cases h; exact ⟨by decide, _, tyX3_ok, nmX3⟩
  | 4, h => cases h; exact ⟨by decide, _, tyX4_ok, nmX4⟩
  | 5, h => cases h; exact ⟨by decide, _, tyX5_ok, nmX5⟩
  | 6, h => cases h; exact ⟨by decide, _, tyX6_ok, nmX6⟩
  | 7, h => cases h; exact ⟨by decide, _, tyX7_ok, nmX7⟩
  | 8, h => cases h; exact ⟨by decide, _, tyX8_ok, nmX8⟩
  | 9, h => cases h; exact ⟨by decide, _, tyX9_ok, nmX9⟩
  | 10, h => cases h; exact ⟨by decide, _, tyX10_ok, nmX10⟩
  | 11, h => cases h; exact ⟨by decide, _, tyX11_ok, nmX11⟩
  | n + 12, h => simp [vwCl] at h
section MVPUT
variable {p : Program} {l : Launch} {e : Env} {R : Room} {s : State} {m : MethodId} {args : Array Value} {below : List Frame} {meth : Method} {c : Code} {H : Heap} {locs : List Loc} {cells slots : Nat} {Q : State → Prop}
variable {cc : ByteArray} {pc : Nat} {ls : Array Slot} {rest : List Value} {D : va_G} {cl : List vw_C} {tys : List (ClassId × FieldType)} {a : Nat}
theorem mv_put (hexec : p.tables.exec = Jvm.exec) (hb : c.code = cc) {own C : String} {T : u_T} {N ci index : Nat} {Ts : List Cond} (hts : ∀ w ∈ Ts, w.before args s = true) (hin : ∀ w ∈ u_ws C T N, w ∈ Ts) (ty0 : Nat → FieldType) (hty : ∀ k, k < N → parseFieldDescriptor (T k).2.2.1 = some (ty0 k)) (hnm : ∀ a, a < N → ∀ b, b < N → a ≠ b → (T a).2.1 ≠ (T b).2.1) (hown : s.vm.findClass own = some m.cls) (hK : va_K D cl tys s) {fs : List Value} (hat : va_at D cl (a, .inr (ci, fs)) H) (hc : cl[ci]? = some (C, T, N)) (k : Nat) (hk : k < N) (hlink : (Cond.fieldLink own index (T k).1 (T k).2.1 (T k).2.2.1).before args s = true) (hfin : (T k).2.2.2 = false) {ty : FieldType} {v : Value} (hd : parseFieldDescriptor (T k).2.2.1 = some ty) (hn : narrow ty v = v) (hfit : fits ty v = true) (hl : k < fs.length)
    (hdg : decode cc pc = .ok (.putfield index, 3)) (kk : ∀ (H1 : Heap) (z : Nat), va_at D cl (a, .inr (ci, fs.set k v)) H1 → H1.size = H.size → (∀ q, q ≠ a → H1[q]? = H[q]?) → W p l e R s m args below meth c H1 (locs ++ [⟨a, z⟩]) cells slots Q (F0 m (pc + 3) ls rest)) : W p l e R s m args below meth c H locs cells slots Q (F0 m pc ls (v :: .ref a :: rest)) := by
  have hap := va_apart (own := own) hts hin ty0 hty hnm hK hc
  obtain ⟨r, h1, cell, q1, q2, q3, q4⟩ := hat
  have hr : r = (C, T, N) := Option.some.inj (h1.symm.trans hc)
  subst hr
  obtain ⟨hS, hfc, kC, hkC, hkind⟩ := hK.1 ci _ hc
  obtain ⟨cf, kf, fi, f, hi, hsl⟩ := hS k hk
  have hlay := hts _ (hin _ (u_in_lay hk))
  unfold u_lay at hlay
  rw [if_neg (by rw [hfin]; decide)] at hlay
  have hst := (u_facts hfc hkC (u_lays hts hin hk) hi).1
  have h6 := u_store hfc hkC hkind hlay hi hd hn hfit
  refine W.putK hexec hb (f := f) ⟨hown, hlink, ⟨_, _, _, hi⟩, hst⟩ (by rw [q2]; exact h6) q1 q3 (by rw [hsl]; exact k2_hasslot (q4 k hk)) rfl rfl hdg fun H' e1 e2 e3 => ?_
  rw [hsl] at e1 ⊢
  exact kk H' _ ⟨_, hc, t_OB.to (V := updV (vp_V fs) k v) ⟨_, e1, q2, q3, t_set q4 hap hk v⟩ (fun j _ => vp_updV_set hl v j)⟩ e2 e3
theorem mv_putF (hexec : p.tables.exec = Jvm.exec) (hb : c.code = cc) {own C : String} {T : u_T} {N ci index : Nat} {Ts : List Cond} (hts : ∀ w ∈ Ts, w.before args s = true) (hin : ∀ w ∈ u_ws C T N, w ∈ Ts) (ty0 : Nat → FieldType) (hty : ∀ k, k < N → parseFieldDescriptor (T k).2.2.1 = some (ty0 k)) (hnm : ∀ a, a < N → ∀ b, b < N → a ≠ b → (T a).2.1 ≠ (T b).2.1) (hown : s.vm.findClass own = some m.cls) (hK : va_K D cl tys s) {fs : List Value} (hat : va_at D cl (a, .inr (ci, fs)) H) (hc : cl[ci]? = some (C, T, N)) (k : Nat) (hk : k < N) (hlink : (Cond.fieldLink own index (T k).1 (T k).2.1 (T k).2.2.1).before args s = true) (hfin : (T k).2.2.2 = true) (hin2 : meth.name = "<init>") (hdecl : (T k).1 = own) {ty : FieldType} {v : Value} (hd : parseFieldDescriptor (T k).2.2.1 = some ty) (hn : narrow ty v = v) (hfit : fits ty v = true) (hl : k < fs.length)
    (hdg : decode cc pc = .ok (.putfield index, 3)) (kk : ∀ (H1 : Heap) (z : Nat), va_at D cl (a, .inr (ci, fs.set k v)) H1 → H1.size = H.size → (∀ q, q ≠ a → H1[q]? = H[q]?) → W p l e R s m args below meth c H1 (locs ++ [⟨a, z⟩]) cells slots Q (F0 m (pc + 3) ls rest)) : W p l e R s m args below meth c H locs cells slots Q (F0 m pc ls (v :: .ref a :: rest)) := by
  have hap := va_apart (own := own) hts hin ty0 hty hnm hK hc
  obtain ⟨r, h1, cell, q1, q2, q3, q4⟩ := hat
  have hr : r = (C, T, N) := Option.some.inj (h1.symm.trans hc)
  subst hr
  obtain ⟨hS, hfc, kC, hkC, hkind⟩ := hK.1 ci _ hc
  obtain ⟨cf, kf, fi, f, hi, hsl⟩ := hS k hk
  have hlay := hts _ (hin _ (u_in_lay hk))
  unfold u_lay at hlay
  rw [if_pos hfin] at hlay
  have hst := (u_facts hfc hkC (u_lays hts hin hk) hi).1
  have hcf : m.cls = cf := by
    obtain ⟨_, _, c', _, _, _, -, -, hf', -, -, -, hown2, -⟩ := Cond.laysFinal_spec hlay
    have e1 : c' = cf := by have := hi.symm.trans hf'; simp at this; exact this.1.symm
    rw [hdecl] at hown2
    rw [← e1]; exact Option.some.inj (hown.symm.trans hown2)
  have h6 := u_fits hfc hkC hkind (Or.inr hlay) hi hd hn hfit
  refine W.putFinK hexec hb hown hlink hi hst hcf hin2 (by rw [q2]; exact h6) q1 q3 (by rw [hsl]; exact k2_hasslot (q4 k hk)) rfl rfl hdg fun H' e1 e2 e3 => ?_
  rw [hsl] at e1 ⊢
  exact kk H' _ ⟨_, hc, t_OB.to (V := updV (vp_V fs) k v) ⟨_, e1, q2, q3, t_set q4 hap hk v⟩ (fun j _ => vp_updV_set hl v j)⟩ e2 e3
theorem mv_new {c0 : Code} (hexec : p.tables.exec = Jvm.exec) (hb : c0.code = cc) {own C : String} {T : u_T} {N ci index : Nat} {Ts : List Cond} (hts : ∀ w ∈ Ts, w.before args s = true) (hin : ∀ w ∈ u_ws C T N, w ∈ Ts) (ty : Nat → FieldType) (hty : ∀ k, k < N → parseFieldDescriptor (T k).2.2.1 = some (ty k)) (hown : s.vm.findClass own = some m.cls) (hcl : (Cond.classLink own index C).before args s = true) (hinst : (Cond.instantiable C N).before args s = true) (hini : (Cond.initialized C).before args s = true)
    (hK : va_K D cl tys s) (hc : cl[ci]? = some (C, T, N)) {fs : List Value} (hfs : ∀ j, j < N → defaultValue (ty j) = vp_V fs j) (hcells : cells + 1 ≤ R.cells) (hslots : slots + N ≤ R.slots) (hdg : decode cc pc = .ok (.new index, 3))
    (kk : ∀ (H1 : Heap), va_at D cl (H.size, .inr (ci, fs)) H1 → H1.size = H.size + 1 → (∀ q, q < H.size → H1[q]? = H[q]?) →
      W p l e R s m args below meth c0 H1 locs (cells + 1) (slots + N) Q (F0 m (pc + 3) ls (.ref H.size :: rest))) : W p l e R s m args below meth c0 H locs cells slots Q (F0 m pc ls rest) := by
  have hKn := hK.1 ci _ hc
  refine W.newcK hexec hb hown hcl hinst hini rfl hdg hcells hslots hKn.2.1 rfl fun H1 kC hkC e1 z1 o1 => ?_
  exact kk H1 ⟨_, hc, (u_born ty hts hin hKn hkC e1 hty).to hfs⟩ z1 o1
end MVPUT
section HEAP
variable {G : GP} {Y Z : MD} {pc pc' tgt : Nat} {lo lo' : List (Option Value)} {st : List Value} {σ σ' : Sh} {d d' : Dt} {u : Nat × Nat} {Q : Option Value → Sh → Dt → Prop} {H H1 : Heap} {k : Nat} {f : Nat → Nat → UInt32}
theorem cel_obj {ci : Nat} (hc : σ.2.1 k = ci) (h : ci < 12) : cel G σ d k = .inr (ci, (fco ci).mapIdx (fun j c => fvl (g_bs G) σ d k j c)) := by
  subst hc; unfold cel; rw [if_pos h]
theorem cel_c (hc : σ.2.1 k = 12) : cel G σ d k = .inl (g_cy G 0, σ.2.2.1 k, .inl (d.1 k)) := by unfold cel; rw [hc]; rfl
theorem cel_f (hc : σ.2.1 k = 13) : cel G σ d k = .inl (g_cy G 1, σ.2.2.1 k, .inr (.inr (.inl (d.2 k)))) := by unfold cel; rw [hc]; rfl
theorem cel_i (hc : σ.2.1 k = 14) : cel G σ d k = .inl (g_cy G 2, σ.2.2.1 k, .inl (d.1 k)) := by unfold cel; rw [hc]; rfl
theorem cel_q (hc : σ.2.1 k = 15) : cel G σ d k = .inl (g_cy G 3, σ.2.2.1 k, .inr (.inr (.inr (.inr (fun j => (σ.2.2.2.1 k j).map (g_bs G + ·)))))) := by unfold cel; rw [hc]; rfl
theorem avl_R {j c : Nat} (hf : ∀ k j, fR (f k j) (d.2 k j)) : vR G (avl σ d k j c) (fvl (g_bs G) σ (d.1, f) k j c) := by
  unfold avl fvl
  split
  · rfl
  · split
    · exact ⟨_, rfl, hf k j⟩
    · split
      · unfold rv
        cases σ.2.2.2.1 k j <;> rfl
      · rfl
/-- one cell rewritten: the heap is the new memory -/
theorem HR_upd (hz : H.size = g_bs G + σ.1) (hlow : ∀ q, q < g_bs G → H[q]? = (g_H G)[q]?) (hold : ∀ k, k < σ.1 → va_at (g_D G) vwCl (g_bs G + k, cel G σ (d.1, f) k) H) (hs : H1.size = H.size) (ho : ∀ q, q ≠ g_bs G + k → H1[q]? = H[q]?) (f' : Nat → Nat → UInt32) (hf' : ∀ k j, fR (f' k j) (d'.2 k j)) (hσ : σ'.1 = σ.1) (hne : ∀ k', k' ≠ k → cel G σ' (d'.1, f') k' = cel G σ (d.1, f) k') (hnew : va_at (g_D G) vwCl (g_bs G + k, cel G σ' (d'.1, f') k) H1) : HR G σ' d' H1 := by
  refine ⟨by rw [hs, hz, hσ], fun q hq => by rw [ho q (by omega)]; exact hlow q hq, f', hf', fun k' hk' => ?_⟩
  by_cases hkk : k' = k
  · subst hkk; exact hnew
  · rw [hne k' hkk]
    exact (hold k' (by rw [← hσ]; exact hk')).kept (ho _ (by show g_bs G + k' ≠ _; omega))
/-- a cell more -/
theorem HR_new (hz : H.size = g_bs G + σ.1) (hlow : ∀ q, q < g_bs G → H[q]? = (g_H G)[q]?) (hold : ∀ k, k < σ.1 → va_at (g_D G) vwCl (g_bs G + k, cel G σ (d.1, f) k) H) (hs : H1.size = H.size + 1) (ho : ∀ q, q < H.size → H1[q]? = H[q]?) (f' : Nat → Nat → UInt32) (hf' : ∀ k j, fR (f' k j) (d'.2 k j)) (hσ : σ'.1 = σ.1 + 1) (hne : ∀ k', k' < σ.1 → cel G σ' (d'.1, f') k' = cel G σ (d.1, f) k') (hnew : va_at (g_D G) vwCl (g_bs G + σ.1, cel G σ' (d'.1, f') σ.1) H1) : HR G σ' d' H1 := by
  refine ⟨by rw [hs, hz, hσ]; omega, fun q hq => by rw [ho q (by omega)]; exact hlow q hq, f', hf', fun k' hk' => ?_⟩
  by_cases hkk : k' = σ.1
  · subst hkk; exact hnew
  · have hlt : k' < σ.1 := by omega
    rw [hne k' hlt]
    exact (hold k' hlt).kept (ho _ (by show g_bs G + k' < _; omega))
theorem m_getf {i ci j c : Nat} {ds : String} {fin : Bool} {v : Value} (fa : FA Y i ci j ds fin) (hd : decode (y_cc Y) pc = .ok (.getfield i, 3)) (hk : k < σ.1) (hc : σ.2.1 k = ci) (hj : (fco ci)[j]? = some c) (hv : avl σ d k j c = v) (hp : pc + 3 = pc') (kk : mM G Y pc' lo (v :: st) σ d u Q) : mM G Y pc lo (.ref k :: st) σ d u Q := by
  subst hp
  intro p e s m args below meth cd C d0 hd0 H locs ls str hH hL hlo hst
  obtain ⟨_, _, rfl, hx, hst⟩ := hst
  obtain rfl := vR_ref hx
  obtain ⟨Cn, T, N, f1, f2, f3, f4, f5, -⟩ := fa
  obtain ⟨hci, -⟩ := cf_all ci Cn T N f1
  obtain ⟨hz, hlow, f, hf, hold⟩ := id hH
  have h1 := hold k hk
  rw [cel_obj hc hci] at h1
  have hts := dr_words (C.2.2.2.2.2.1) d0
  have hP : va_P (g_D G) vwCl [(g_bs G + k, .inr (ci, (fco ci).mapIdx (fun j c => fvl (g_bs G) σ (d.1, f) k j c)))] H := fun q x hq => by
    have : q < 1 := (List.getElem?_eq_some_iff.mp hq).1
    obtain rfl : q = 0 := by omega
    cases hq; exact h1
  refine va_get (D := g_D G) (cl := vwCl) (tys := g_ty G) (Ts := y_ws Y) (ci := ci) (T := T) (N := N) (C := Cn) (v := fvl (g_bs G) σ (d.1, f) k j c) C.1 C.2.1 hts f3 C.2.2.2.2.1 C.2.2.2.2.2.2.2.1.1 hP 0 rfl f1 j f2 (hts _ f4) (fun _ h9 => h9) ?_ hd ?_
  · rw [List.getElem?_mapIdx, hj]; rfl
  · exact kk p e s m args below meth cd C d0 hd0 H locs ls _ hH hL hlo ⟨_, _, rfl, by rw [← hv]; exact avl_R hf, hst⟩
theorem m_getI {i ci j : Nat} {ds : String} {fin : Bool} (fa : FA Y i ci j ds fin) (hd : decode (y_cc Y) pc = .ok (.getfield i, 3)) (hk : k < σ.1) (hc : σ.2.1 k = ci) (hj : (fco ci)[j]? = some 0) (hp : pc + 3 = pc') (kk : mM G Y pc' lo (.int (d.1 k j) :: st) σ d u Q) : mM G Y pc lo (.ref k :: st) σ d u Q := m_getf fa hd hk hc hj rfl hp kk
theorem m_getF {i ci j : Nat} {ds : String} {fin : Bool} (fa : FA Y i ci j ds fin) (hd : decode (y_cc Y) pc = .ok (.getfield i, 3)) (hk : k < σ.1) (hc : σ.2.1 k = ci) (hj : (fco ci)[j]? = some 1) (hp : pc + 3 = pc') (kk : mM G Y pc' lo (.float (d.2 k j) :: st) σ d u Q) : mM G Y pc lo (.ref k :: st) σ d u Q := m_getf fa hd hk hc hj rfl hp kk
theorem m_getR {i ci j q : Nat} {ds : String} {fin : Bool} (fa : FA Y i ci j ds fin) (hd : decode (y_cc Y) pc = .ok (.getfield i, 3)) (hk : k < σ.1) (hc : σ.2.1 k = ci) (hj : (fco ci)[j]? = some 2) (hq : σ.2.2.2.1 k j = some q) (hp : pc + 3 = pc') (kk : mM G Y pc' lo (.ref q :: st) σ d u Q) : mM G Y pc lo (.ref k :: st) σ d u Q := m_getf fa hd hk hc hj (by show va_rf (σ.2.2.2.1 k j) = _; rw [hq]; rfl) hp kk
theorem m_getW {i ci j : Nat} {ds : String} {fin : Bool} (fa : FA Y i ci j ds fin) (hd : decode (y_cc Y) pc = .ok (.getfield i, 3)) (hk : k < σ.1) (hc : σ.2.1 k = ci) (hj : (fco ci)[j]? = some 3) (hp : pc + 3 = pc') (kk : mM G Y pc' lo (.int (σ.2.2.2.2 k) :: st) σ d u Q) : mM G Y pc lo (.ref k :: st) σ d u Q := m_getf fa hd hk hc hj rfl hp kk
theorem mapIdx_set {α β : Type} (l : List α) (g h : Nat → α → β) (j : Nat) (v : β) (hj : ∀ c, l[j]? = some c → h j c = v) (ho : ∀ i c, l[i]? = some c → i ≠ j → h i c = g i c) : l.mapIdx h = (l.mapIdx g).set j v := by
  apply List.ext_getElem?
  intro i
  rw [List.getElem?_mapIdx, List.getElem?_set]
  by_cases hi : j = i
  · subst hi
    rw [if_pos rfl, List.length_mapIdx]
    cases hc : l[j]? with
    | none =>
      have : ¬ j < l.length := by
        intro hlt
        rw [List.getElem?_eq_getElem hlt] at hc; cases hc
      rw [if_neg this]; rfl
    | some c =>
      rw [if_pos (List.getElem?_eq_some_iff.mp hc).1]
      exact congrArg some (hj c hc)
  · rw [if_neg hi, List.getElem?_mapIdx]
    cases hc : l[i]? with
    | none => rfl
    | some c => exact congrArg some (ho i c hc (Ne.symm hi))
theorem cel_int_ne {j k' : Nat} {x : Int32} (h : k' ≠ k) : cel G σ (u2 d.1 k j x, f) k' = cel G σ (d.1, f) k' := by
  unfold cel fvl
  simp only [u2_ne h]
theorem cel_flt_ne {j k' : Nat} {x : UInt32} {m : Nat → Nat → Int32} (h : k' ≠ k) : cel G σ (m, u2 f k j x) k' = cel G σ (m, f) k' := by
  unfold cel fvl
  simp only [u2_ne h]
/-- a field of whole numbers is written -/
theorem m_putI {i ci j : Nat} {x : Int32} {ds : String} {ty : FieldType} (fa : FA Y i ci j ds false) (hd : decode (y_cc Y) pc = .ok (.putfield i, 3)) (hds : parseFieldDescriptor ds = some ty) (hn : narrow ty (.int x) = .int x) (hfit : fits ty (.int x) = true) (hk : k < σ.1) (hc : σ.2.1 k = ci) (hj : (fco ci)[j]? = some 0) (hp : pc + 3 = pc') (kk : mM G Y pc' lo st σ (u2 d.1 k j x, d.2) u Q) : mM G Y pc lo (.int x :: .ref k :: st) σ d u Q := by
  subst hp
  intro p e s m args below meth cd C d0 hd0 H locs ls str hH hL hlo hst
  obtain ⟨_, _, rfl, hx, _, _, rfl, hy, hst⟩ := hst
  obtain rfl := vR_int hx
  obtain rfl := vR_ref hy
  obtain ⟨Cn, T, N, f1, f2, f3, f4, f5, f6, f7, -⟩ := fa
  obtain ⟨hci, ty0, t1, t2⟩ := cf_all ci Cn T N f1
  obtain ⟨hz, hlow, f, hf, hold⟩ := id hH
  have h1 := hold k hk
  rw [cel_obj hc hci] at h1
  have hts := dr_words (C.2.2.2.2.2.1) d0
  refine mv_put (D := g_D G) (cl := vwCl) (tys := g_ty G) (Ts := y_ws Y) (ci := ci) (T := T) (N := N) (C := Cn) (ty := ty) C.1 C.2.1 hts f3 ty0 t1 t2 C.2.2.2.2.1 C.2.2.2.2.2.2.2.1.1 h1 f1 j f2 (hts _ f4) f7 (by rw [f6]; exact hds) hn hfit (by rw [List.length_mapIdx, ← f5]; exact f2) hd (fun H1 z h2 h3 h4 => ?_)
  refine kk p e s m args below meth cd C d0 hd0 H1 _ ls _ ?_ ?_ hlo hst
  · refine HR_upd (σ' := σ) (d' := (u2 d.1 k j x, d.2)) hz hlow hold h3 h4 f hf rfl (fun k' hk' => cel_int_ne hk') ?_
    rw [cel_obj hc hci]
    rw [mapIdx_set (fco ci) (fun j c => fvl (g_bs G) σ (d.1, f) k j c) (fun j' c => fvl (g_bs G) σ (u2 d.1 k j x, f) k j' c) j (.int x) ?_ ?_]
    · exact h2
    · intro c hcc
      rw [hj] at hcc; cases hcc
      show Value.int (u2 d.1 k j x k j) = _
      rw [u2_same]
    · intro i' c _ hne
      unfold fvl
      simp only [u2_oth hne]
  · intro q hq
    rcases List.mem_append.mp hq with h | h
    · exact hL q h
    · obtain rfl := List.mem_singleton.mp h
      exact Nat.le_add_right _ _
/-- a field of floats is written -/
theorem m_putFl {i ci j : Nat} {x : UInt32} (fa : FA Y i ci j "F" false) (hd : decode (y_cc Y) pc = .ok (.putfield i, 3)) (hk : k < σ.1) (hc : σ.2.1 k = ci) (hj : (fco ci)[j]? = some 1) (hp : pc + 3 = pc') (kk : mM G Y pc' lo st σ (d.1, u2 d.2 k j x) u Q) : mM G Y pc lo (.float x :: .ref k :: st) σ d u Q := by
  subst hp
  intro p e s m args below meth cd C d0 hd0 H locs ls str hH hL hlo hst
  obtain ⟨_, _, rfl, hx, _, _, rfl, hy, hst⟩ := hst
  obtain ⟨x', rfl, hx'⟩ := vR_float hx
  obtain rfl := vR_ref hy
  obtain ⟨Cn, T, N, f1, f2, f3, f4, f5, f6, f7, -⟩ := fa
  obtain ⟨hci, ty0, t1, t2⟩ := cf_all ci Cn T N f1
  obtain ⟨hz, hlow, f, hf, hold⟩ := id hH
  have h1 := hold k hk
  rw [cel_obj hc hci] at h1
  have hts := dr_words (C.2.2.2.2.2.1) d0
  refine mv_put (D := g_D G) (cl := vwCl) (tys := g_ty G) (Ts := y_ws Y) (ci := ci) (T := T) (N := N) (C := Cn) (ty := .float) C.1 C.2.1 hts f3 ty0 t1 t2 C.2.2.2.2.1 C.2.2.2.2.2.2.2.1.1 h1 f1 j f2 (hts _ f4) f7 (by rw [f6]; decide +kernel) rfl rfl (by rw [List.length_mapIdx, ← f5]; exact f2) hd (fun H1 z h2 h3 h4 => ?_)
  refine kk p e s m args below meth cd C d0 hd0 H1 _ ls _ ?_ ?_ hlo hst
  · refine HR_upd (σ' := σ) (d' := (d.1, u2 d.2 k j x)) hz hlow hold h3 h4 (u2 f k j x') (fun a b => ?_) rfl (fun k' hk' => cel_flt_ne hk') ?_
    · show fR (u2 f k j x' a b) (u2 d.2 k j x a b)
      unfold u2
      split
      · split
        · exact hx'
        · exact hf a b
      · exact hf a b
    rw [cel_obj hc hci]
    rw [mapIdx_set (fco ci) (fun j c => fvl (g_bs G) σ (d.1, f) k j c) (fun j' c => fvl (g_bs G) σ (d.1, u2 f k j x') k j' c) j (.float x') ?_ ?_]
    · exact h2
    · intro c hcc
      rw [hj] at hcc; cases hcc
      show Value.float (u2 f k j x' k j) = _
      rw [u2_same]
    · intro i' c _ hne
      unfold fvl
      simp only [u2_oth hne]
  · intro q hq
    rcases List.mem_append.mp hq with h | h
    · exact hL q h
    · obtain rfl := List.mem_singleton.mp h
      exact Nat.le_add_right _ _
end HEAP
end
section
/-! ARRAYS, NEW CELLS, CALLS over mM -/
section MVARR
variable {p : Program} {l : Launch} {e : Env} {R : Room} {s : State} {m : MethodId} {args : Array Value} {below : List Frame} {meth : Method} {c : Code} {H : Heap} {locs : List Loc} {cells slots : Nat} {Q : State → Prop}
variable {cc : ByteArray} {pc : Nat} {ls : Array Slot} {rest : List Value} {D : va_G} {cl : List vw_C} {tys : List (ClassId × FieldType)} {a : Nat}
theorem mv_iast (hexec : p.tables.exec = Jvm.exec) (hb : c.code = cc) (hK : va_K D cl tys s) {cA : ClassId} {n : Nat} {f : Nat → Int32} (hat : va_at D cl (a, .inl (cA, n, .inl f)) H) (t0 : Nat) (ht : tys[t0]? = some (cA, .int)) {i : Int32} {x : Int32} (hin : vp_in i n) (hdg : decode cc pc = .ok (.iastore, 1))
    (kk : ∀ (H1 : Heap) (z : Nat), va_at D cl (a, .inl (cA, n, .inl (upd f i.toNatClampNeg x))) H1 → H1.size = H.size → (∀ q, q ≠ a → H1[q]? = H[q]?) → W p l e R s m args below meth c H1 (locs ++ [⟨a, z⟩]) cells slots Q (F0 m (pc + 1) ls rest)) : W p l e R s m args below meth c H locs cells slots Q (F0 m pc ls (.int x :: .int i :: .ref a :: rest)) := by
  refine W.iast hexec hb hat ((hK.2 t0 _ ht).1 n (fun j => .int (f j))) (fun q => by cases q) (by show ¬ (i < 0 ∨ (arrV _ _ _).slots.size ≤ _); rw [arrV_size]; exact hin) rfl rfl hdg fun H1 e z oq => ?_
  refine kk H1 _ ?_ z oq
  show H1[a]? = some (vp_cell _ _)
  rw [e]
  rw [vp_cell_i, vp_cell_i, arrV_store]
  congr 2
  funext q
  by_cases hq : q = i.toNatClampNeg
  · subst hq
    simp [updV, upd]
  · simp [updV, upd, hq]
theorem mv_cast (hexec : p.tables.exec = Jvm.exec) (hb : c.code = cc) (hK : va_K D cl tys s) {cA : ClassId} {n : Nat} {f : Nat → Int32} (hat : va_at D cl (a, .inl (cA, n, .inl f)) H) (t0 : Nat) (ht : tys[t0]? = some (cA, .char)) {i : Int32} {x : Int32} (hin : vp_in i n) (hdg : decode cc pc = .ok (.castore, 1))
    (kk : ∀ (H1 : Heap) (z : Nat), va_at D cl (a, .inl (cA, n, .inl (upd f i.toNatClampNeg (vp_nar .char x)))) H1 → H1.size = H.size → (∀ q, q ≠ a → H1[q]? = H[q]?) → W p l e R s m args below meth c H1 (locs ++ [⟨a, z⟩]) cells slots Q (F0 m (pc + 1) ls rest)) : W p l e R s m args below meth c H locs cells slots Q (F0 m pc ls (.int x :: .int i :: .ref a :: rest)) := by
  refine W.cast hexec hb hat ((hK.2 t0 _ ht).1 n (fun j => .int (f j))) (fun q => by cases q) (by show ¬ (i < 0 ∨ (arrV _ _ _).slots.size ≤ _); rw [arrV_size]; exact hin) rfl rfl hdg fun H1 e z oq => ?_
  refine kk H1 _ ?_ z oq
  show H1[a]? = some (vp_cell _ _)
  rw [e]
  rw [vp_cell_i, vp_cell_i, arrV_store]
  congr 2
  funext q
  by_cases hq : q = i.toNatClampNeg
  · subst hq
    simp [updV, upd, vp_nar, narrow]
  · simp [updV, upd, hq]
theorem mv_fast (hexec : p.tables.exec = Jvm.exec) (hb : c.code = cc) (hK : va_K D cl tys s) {cA : ClassId} {n : Nat} {f : Nat → UInt32} (hat : va_at D cl (a, .inl (cA, n, .inr (.inr (.inl f)))) H) (t0 : Nat) (ht : tys[t0]? = some (cA, .float)) {i : Int32} {x : UInt32} (hin : vp_in i n) (hdg : decode cc pc = .ok (.fastore, 1))
    (kk : ∀ (H1 : Heap) (z : Nat), va_at D cl (a, .inl (cA, n, .inr (.inr (.inl (fun q => if q = i.toNatClampNeg then x else f q))))) H1 → H1.size = H.size → (∀ q, q ≠ a → H1[q]? = H[q]?) → W p l e R s m args below meth c H1 (locs ++ [⟨a, z⟩]) cells slots Q (F0 m (pc + 1) ls rest)) : W p l e R s m args below meth c H locs cells slots Q (F0 m pc ls (.float x :: .int i :: .ref a :: rest)) := by
  refine W.fast hexec hb hat ((hK.2 t0 _ ht).1 n (fun j => .float (f j))) (fun q => by cases q) (by show ¬ (i < 0 ∨ (arrV _ _ _).slots.size ≤ _); rw [arrV_size]; exact hin) rfl rfl hdg fun H1 e z oq => ?_
  refine kk H1 _ ?_ z oq
  show H1[a]? = some (vp_cell _ _)
  rw [e]
  rw [vp_cell_f, vp_cell_f, arrV_store]
  congr 2
  funext q
  by_cases hq : q = i.toNatClampNeg
  · subst hq
    simp [updV]
  · simp [updV, hq]
theorem mv_astq (hexec : p.tables.exec = Jvm.exec) (hb : c.code = cc) (hK : va_K D cl tys s) {cA : ClassId} {r : vw_C} {n v ci : Nat} {vs : List Value} {f : Nat → Option Nat} (hat : va_at D cl (a, .inl (cA, n, .inr (.inr (.inr (.inr f))))) H) (t0 : Nat) (ht : tys[t0]? = some (cA, .object r.1)) (hv : va_at D cl (v, .inr (ci, vs)) H) (hc : cl[ci]? = some r) {i : Int32} (hin : vp_in i n) (hdg : decode cc pc = .ok (.aastore, 1))
    (kk : ∀ (H1 : Heap) (z : Nat), va_at D cl (a, .inl (cA, n, .inr (.inr (.inr (.inr (va_up f i.toNatClampNeg (some v))))))) H1 → H1.size = H.size → (∀ q, q ≠ a → H1[q]? = H[q]?) → W p l e R s m args below meth c H1 (locs ++ [⟨a, z⟩]) cells slots Q (F0 m (pc + 1) ls rest)) : W p l e R s m args below meth c H locs cells slots Q (F0 m pc ls (.ref v :: .int i :: .ref a :: rest)) := by
  have hlt : i.toNatClampNeg < n := Nat.not_le.mp fun q => hin (Or.inr q)
  have h0 : ¬ i < 0 := fun q => hin (Or.inl q)
  obtain ⟨r', hr', cellV, g1, g2, g3, -⟩ := hv
  have hcls := (hK.1 ci r hc).2
  obtain ⟨kA, comp, k1, k2, k3, -⟩ := (hK.2 t0 _ ht).2
  have hcomp : comp = D.1 ci := Option.some.inj (k3.symm.trans hcls.1)
  subst hcomp
  obtain ⟨kC, hkC, -⟩ := hcls.2
  refine W.aast hexec hb hat (fun q h => by cases h) (fun h => by cases h) k1 k2 rfl hkC ⟨h0, by show _ < (arrV _ _ _).slots.size; rw [arrV_size]; exact hlt⟩ g1 (fun q h => by rw [g3] at h; cases h) (by rw [g2]; exact hkC) (by rw [g2]; exact va_assign hcls) rfl rfl hdg fun H1 e z oq => ?_
  refine kk H1 _ ?_ z oq
  show H1[a]? = some (vp_cell _ _)
  rw [e]
  rw [vp_cell_q, vp_cell_q, arrV_store]
  congr 2
  funext q
  by_cases hq : q = i.toNatClampNeg
  · subst hq
    simp [updV, va_up, va_rf]
  · simp [updV, va_up, hq]
theorem mv_copyi (hexec : p.tables.exec = Jvm.exec) (hb : c.code = cc) (hml : c.maxLocals = ls.size) {own : String} {index : Nat} (hown : s.vm.findClass own = some m.cls) (hlink : (Cond.methodLink own index arraycopyName).before args s = true) (hnat : (Cond.native arraycopyName).before args s = true) (hstat : (Cond.static arraycopyName).before args s = true) (hini : (Cond.initialized "java/lang/System").before args s = true)
    (hK : va_K D cl tys s) (t0 : Nat) {a0 : Nat} {c0 : ClassId} {n0 n1 : Nat} {f g : Nat → Int32} (ha0 : va_at D cl (a0, .inl (c0, n0, .inl f)) H) (ha1 : va_at D cl (a, .inl (c0, n1, .inl g)) H) (ht0 : tys[t0]? = some (c0, .int))
    {sp dp n : Int32} (h1 : ¬ sp < 0) (h2 : ¬ dp < 0) (h3 : ¬ n < 0) (h4 : sp.toNatClampNeg + n.toNatClampNeg ≤ n0) (h5 : dp.toNatClampNeg + n.toNatClampNeg ≤ n1)
    (hframes : 1 ≤ R.frames) (hlocals : (rest.map fun v => v.category).sum + (nativeFrameWords "java/lang/System" "arraycopy" 5 + 11) ≤ R.locals) (hdg : decode cc pc = .ok (.invokestatic index, 3))
    (kk : ∀ (H1 : Heap) (L : List Loc), va_at D cl (a, .inl (c0, n1, .inl (va_cpy f g sp.toNatClampNeg dp.toNatClampNeg n.toNatClampNeg))) H1 → H1.size = H.size → (∀ q, q ≠ a → H1[q]? = H[q]?) → (∀ q ∈ L, q.base = a) → W p l e R s m args below meth c H1 (locs ++ L) cells slots Q (F0 m (pc + 3) ls rest)) : W p l e R s m args below meth c H locs cells slots Q (F0 m pc ls (.int n :: .int dp :: .ref a :: .int sp :: .ref a0 :: rest)) := by
  have nn : ∀ z : Int32, ¬ z < 0 → z.toInt = (z.toNatClampNeg : Int) := by
    intro z hz
    have hz0 : (0 : Int) ≤ z.toInt := by
      have := Int32.not_lt.mp hz
      simpa using Int32.le_iff_toInt_le.mp this
    show z.toInt = ((z.toInt.toNat : Nat) : Int)
    omega
  intro T hT X
  have hc0 : H[a0]? = some (vp_cell c0 (n0, .inl f)) := ha0
  have hc1 : H[a]? = some (vp_cell c0 (n1, .inl g)) := ha1
  obtain ⟨-, k0, hk0, cm0, hkk0⟩ := (hK.2 t0 _ ht0).1 n0 (fun j => .int (f j))
  obtain ⟨-, k1, hk1, cm1, hkk1⟩ := (hK.2 t0 _ ht0).1 n1 (fun j => .int (g j))
  obtain ⟨vm', X', step⟩ := X.arraycopy hexec hown hlink hnat hstat hini (src := a0) (dst := a) (cs := vp_cell c0 (n0, .inl f)) (cd := vp_cell c0 (n1, .inl g)) (srcPos := sp) (destPos := dp) (n := n) (by rw [hT]; exact hc0) (by rw [hT]; exact hc1)
    (fun _ h => by cases h) (fun _ h => by cases h) (fun h => by cases h) (fun h => by cases h) hk0 hk1 hkk0 hkk1 (by simp [refKind]) h1 h2 h3
    (by rw [nn sp h1, nn n h3]; show ¬ _ > ((arrV c0 n0 (fun j => .int (f j))).slots.size : Int); rw [arrV_size]; omega)
    (by rw [nn dp h2, nn n h3]; show ¬ _ > ((arrV c0 n1 (fun j => .int (g j))).slots.size : Int); rw [arrV_size]; omega)
    (fun vm₁ _ i hi => by
      have e : (vp_cell c0 (n0, .inl f)).slots.getD (sp.toNatClampNeg + i) .null = .int (f (sp.toNatClampNeg + i)) := by
        show (arrV c0 n0 (fun j => .int (f j))).slots.getD _ _ = _
        rw [Array.getD_eq_getD_getElem?, arrV_read _ _ (by omega)]
        rfl
      refine ⟨?_, ?_⟩
      · rw [e]
        rfl
      · rw [e]
        exact trivial)
    (g := F0 m pc ls (.int n :: .int dp :: .ref a :: .int sp :: .ref a0 :: rest)) rfl (by rw [hml]) (rest := rest) rfl (by rw [hb]; exact hdg) hframes (by show 2 * 0 + _ + _ ≤ _; omega)
  have e1 : copied (vp_cell c0 (n0, .inl f)) (vp_cell c0 (n1, .inl g)) sp dp n = vp_cell c0 (n1, .inl (va_cpy f g sp.toNatClampNeg dp.toNatClampNeg n.toNatClampNeg)) := va_copied (fun z => .int z) c0 c0 f g h4
  rw [e1] at X' step
  have hl : a < H.size := (Array.getElem?_eq_some_iff.mp hc1).1
  have hheap : ((T.setVm vm').setCell a (vp_cell c0 (n1, .inl (va_cpy f g sp.toNatClampNeg dp.toNatClampNeg n.toNatClampNeg)))).heap = H.setIfInBounds a (vp_cell c0 (n1, .inl (va_cpy f g sp.toNatClampNeg dp.toNatClampNeg n.toNatClampNeg))) := by rw [← hT]; rfl
  have oq : ∀ q : Nat, q ≠ a → (H.setIfInBounds a (vp_cell c0 (n1, .inl (va_cpy f g sp.toNatClampNeg dp.toNatClampNeg n.toNatClampNeg))))[q]? = H[q]? := fun q hq => by simp [Array.getElem?_setIfInBounds, Ne.symm hq]
  obtain ⟨t, a1, b1⟩ := kk _ _ (show (H.setIfInBounds a _)[a]? = some _ by simp [Array.getElem?_setIfInBounds, hl]) (by simp) oq (fun q h => by
      obtain ⟨z, -, hz⟩ := List.mem_map.mp h
      rw [← hz]) _ hheap X'
  exact ⟨t, step t a1, b1⟩
end MVARR
section ARR
variable {G : GP} {Y Z : MD} {pc pc' tgt : Nat} {lo lo' : List (Option Value)} {st : List Value} {σ σ' : Sh} {d d' : Dt} {u : Nat × Nat} {Q : Option Value → Sh → Dt → Prop} {H H1 : Heap} {k : Nat} {f : Nat → Nat → UInt32}
theorem P1 {D : va_G} {cl : List vw_C} {x : Nat × va_E} (h : va_at D cl x H) : va_P D cl [x] H := fun q y hq => by
  have : q < 1 := (List.getElem?_eq_some_iff.mp hq).1
  obtain rfl : q = 0 := by omega
  cases hq; exact h
theorem m_iald {i : Int32} (hd : decode (y_cc Y) pc = .ok (.iaload, 1)) (hk : k < σ.1) (hc : σ.2.1 k = 14) (hin : vp_in i (σ.2.2.1 k)) (hp : pc + 1 = pc') (kk : mM G Y pc' lo (.int (d.1 k i.toNatClampNeg) :: st) σ d u Q) : mM G Y pc lo (.int i :: .ref k :: st) σ d u Q := by
  subst hp
  intro p e s m args below meth cd C d0 hd0 H locs ls str hH hL hlo hst
  obtain ⟨_, _, rfl, hx, _, _, rfl, hy, hst⟩ := hst
  obtain rfl := vR_int hx
  obtain rfl := vR_ref hy
  obtain ⟨hz, hlow, f, hf, hold⟩ := id hH
  have h1 := hold k hk
  rw [cel_i hc] at h1
  exact va_iald (s := s.setDrawn d0) (D := g_D G) (cl := vwCl) (tys := g_ty G) C.1 C.2.1 C.2.2.2.2.2.2.2.1.1 (P1 h1) 0 2 rfl rfl hin hd (kk p e s m args below meth cd C d0 hd0 H locs ls _ hH hL hlo ⟨_, _, rfl, rfl, hst⟩)
theorem m_cald {i : Int32} (hd : decode (y_cc Y) pc = .ok (.caload, 1)) (hk : k < σ.1) (hc : σ.2.1 k = 12) (hin : vp_in i (σ.2.2.1 k)) (hp : pc + 1 = pc') (kk : mM G Y pc' lo (.int (d.1 k i.toNatClampNeg) :: st) σ d u Q) : mM G Y pc lo (.int i :: .ref k :: st) σ d u Q := by
  subst hp
  intro p e s m args below meth cd C d0 hd0 H locs ls str hH hL hlo hst
  obtain ⟨_, _, rfl, hx, _, _, rfl, hy, hst⟩ := hst
  obtain rfl := vR_int hx
  obtain rfl := vR_ref hy
  obtain ⟨hz, hlow, f, hf, hold⟩ := id hH
  have h1 := hold k hk
  rw [cel_c hc] at h1
  exact va_cald (s := s.setDrawn d0) (D := g_D G) (cl := vwCl) (tys := g_ty G) C.1 C.2.1 C.2.2.2.2.2.2.2.1.1 (P1 h1) 0 0 rfl rfl hin hd (kk p e s m args below meth cd C d0 hd0 H locs ls _ hH hL hlo ⟨_, _, rfl, rfl, hst⟩)
theorem m_fald {i : Int32} (hd : decode (y_cc Y) pc = .ok (.faload, 1)) (hk : k < σ.1) (hc : σ.2.1 k = 13) (hin : vp_in i (σ.2.2.1 k)) (hp : pc + 1 = pc') (kk : mM G Y pc' lo (.float (d.2 k i.toNatClampNeg) :: st) σ d u Q) : mM G Y pc lo (.int i :: .ref k :: st) σ d u Q := by
  subst hp
  intro p e s m args below meth cd C d0 hd0 H locs ls str hH hL hlo hst
  obtain ⟨_, _, rfl, hx, _, _, rfl, hy, hst⟩ := hst
  obtain rfl := vR_int hx
  obtain rfl := vR_ref hy
  obtain ⟨hz, hlow, f, hf, hold⟩ := id hH
  have h1 := hold k hk
  rw [cel_f hc] at h1
  exact va_fald (s := s.setDrawn d0) (D := g_D G) (cl := vwCl) (tys := g_ty G) C.1 C.2.1 C.2.2.2.2.2.2.2.1.1 (P1 h1) 0 1 rfl rfl hin hd (kk p e s m args below meth cd C d0 hd0 H locs ls _ hH hL hlo ⟨_, _, rfl, ⟨_, rfl, hf _ _⟩, hst⟩)
theorem m_aald {i : Int32} {q : Nat} (hd : decode (y_cc Y) pc = .ok (.aaload, 1)) (hk : k < σ.1) (hc : σ.2.1 k = 15) (hin : vp_in i (σ.2.2.1 k)) (hq : σ.2.2.2.1 k i.toNatClampNeg = some q) (hp : pc + 1 = pc') (kk : mM G Y pc' lo (.ref q :: st) σ d u Q) : mM G Y pc lo (.int i :: .ref k :: st) σ d u Q := by
  subst hp
  intro p e s m args below meth cd C d0 hd0 H locs ls str hH hL hlo hst
  obtain ⟨_, _, rfl, hx, _, _, rfl, hy, hst⟩ := hst
  obtain rfl := vR_int hx
  obtain rfl := vR_ref hy
  obtain ⟨hz, hlow, f, hf, hold⟩ := id hH
  have h1 := hold k hk
  rw [cel_q hc] at h1
  refine va_aldq (s := s.setDrawn d0) (D := g_D G) (cl := vwCl) (tys := g_ty G) C.1 C.2.1 C.2.2.2.2.2.2.2.1.1 (P1 h1) 0 3 rfl rfl hin hd ?_
  rw [hq]
  exact kk p e s m args below meth cd C d0 hd0 H locs ls _ hH hL hlo ⟨_, _, rfl, rfl, hst⟩
theorem m_alen {v : Int32} (hd : decode (y_cc Y) pc = .ok (.arraylength, 1)) (hk : k < σ.1) (hc : 12 ≤ σ.2.1 k) (hc2 : σ.2.1 k ≤ 15) (hv : Int32.ofNat (σ.2.2.1 k) = v) (hp : pc + 1 = pc') (kk : mM G Y pc' lo (.int v :: st) σ d u Q) : mM G Y pc lo (.ref k :: st) σ d u Q := by
  subst hp
  intro p e s m args below meth cd C d0 hd0 H locs ls str hH hL hlo hst
  obtain ⟨_, _, rfl, hy, hst⟩ := hst
  obtain rfl := vR_ref hy
  obtain ⟨hz, hlow, f, hf, hold⟩ := id hH
  have h1 := hold k hk
  rcases (show σ.2.1 k = 12 ∨ σ.2.1 k = 13 ∨ σ.2.1 k = 14 ∨ σ.2.1 k = 15 by omega) with h | h | h | h
  · rw [cel_c h] at h1
    exact va_alen (s := s.setDrawn d0) (D := g_D G) (cl := vwCl) (tys := g_ty G) C.1 C.2.1 C.2.2.2.2.2.2.2.1.1 (P1 h1) 0 0 rfl rfl hv hd (kk p e s m args below meth cd C d0 hd0 H locs ls _ hH hL hlo ⟨_, _, rfl, rfl, hst⟩)
  · rw [cel_f h] at h1
    exact va_alen (s := s.setDrawn d0) (D := g_D G) (cl := vwCl) (tys := g_ty G) C.1 C.2.1 C.2.2.2.2.2.2.2.1.1 (P1 h1) 0 1 rfl rfl hv hd (kk p e s m args below meth cd C d0 hd0 H locs ls _ hH hL hlo ⟨_, _, rfl, rfl, hst⟩)
  · rw [cel_i h] at h1
    exact va_alen (s := s.setDrawn d0) (D := g_D G) (cl := vwCl) (tys := g_ty G) C.1 C.2.1 C.2.2.2.2.2.2.2.1.1 (P1 h1) 0 2 rfl rfl hv hd (kk p e s m args below meth cd C d0 hd0 H locs ls _ hH hL hlo ⟨_, _, rfl, rfl, hst⟩)
  · rw [cel_q h] at h1
    exact va_alen (s := s.setDrawn d0) (D := g_D G) (cl := vwCl) (tys := g_ty G) C.1 C.2.1 C.2.2.2.2.2.2.2.1.1 (P1 h1) 0 3 rfl rfl hv hd (kk p e s m args below meth cd C d0 hd0 H locs ls _ hH hL hlo ⟨_, _, rfl, rfl, hst⟩)
theorem locs_1 {G : GP} {locs : List Loc} {k z : Nat} (hL : ∀ q ∈ locs, g_bs G ≤ q.base) : ∀ q ∈ locs ++ [⟨g_bs G + k, z⟩], g_bs G ≤ q.base := by
  intro q hq
  rcases List.mem_append.mp hq with h | h
  · exact hL q h
  · obtain rfl := List.mem_singleton.mp h
    exact Nat.le_add_right _ _
theorem m_iast {i x : Int32} (hd : decode (y_cc Y) pc = .ok (.iastore, 1)) (hk : k < σ.1) (hc : σ.2.1 k = 14) (hin : vp_in i (σ.2.2.1 k)) (hp : pc + 1 = pc') (kk : mM G Y pc' lo st σ (u2 d.1 k i.toNatClampNeg x, d.2) u Q) : mM G Y pc lo (.int x :: .int i :: .ref k :: st) σ d u Q := by
  subst hp
  intro p e s m args below meth cd C d0 hd0 H locs ls str hH hL hlo hst
  obtain ⟨_, _, rfl, hw, _, _, rfl, hx, _, _, rfl, hy, hst⟩ := hst
  obtain rfl := vR_int hw
  obtain rfl := vR_int hx
  obtain rfl := vR_ref hy
  obtain ⟨hz, hlow, f, hf, hold⟩ := id hH
  have h1 := hold k hk
  rw [cel_i hc] at h1
  refine mv_iast (s := s.setDrawn d0) (D := g_D G) (cl := vwCl) (tys := g_ty G) C.1 C.2.1 C.2.2.2.2.2.2.2.1.1 h1 2 rfl hin hd (fun H1 z h2 h3 h4 => ?_)
  refine kk p e s m args below meth cd C d0 hd0 H1 _ ls _ ?_ (locs_1 hL) hlo hst
  refine HR_upd (σ' := σ) (d' := (u2 d.1 k i.toNatClampNeg x, d.2)) hz hlow hold h3 h4 f hf rfl (fun k' hk' => cel_int_ne hk') ?_
  rw [cel_i hc]
  have e : u2 d.1 k i.toNatClampNeg x k = upd (d.1 k) i.toNatClampNeg x := by
    funext q
    simp [u2, upd]
  show va_at _ _ (_, .inl (_, _, .inl (u2 d.1 k i.toNatClampNeg x k))) _
  rw [e]
  exact h2
theorem m_cast {i x : Int32} (hd : decode (y_cc Y) pc = .ok (.castore, 1)) (hk : k < σ.1) (hc : σ.2.1 k = 12) (hin : vp_in i (σ.2.2.1 k)) (hp : pc + 1 = pc') (kk : mM G Y pc' lo st σ (u2 d.1 k i.toNatClampNeg (vp_nar .char x), d.2) u Q) : mM G Y pc lo (.int x :: .int i :: .ref k :: st) σ d u Q := by
  subst hp
  intro p e s m args below meth cd C d0 hd0 H locs ls str hH hL hlo hst
  obtain ⟨_, _, rfl, hw, _, _, rfl, hx, _, _, rfl, hy, hst⟩ := hst
  obtain rfl := vR_int hw
  obtain rfl := vR_int hx
  obtain rfl := vR_ref hy
  obtain ⟨hz, hlow, f, hf, hold⟩ := id hH
  have h1 := hold k hk
  rw [cel_c hc] at h1
  refine mv_cast (s := s.setDrawn d0) (D := g_D G) (cl := vwCl) (tys := g_ty G) C.1 C.2.1 C.2.2.2.2.2.2.2.1.1 h1 0 rfl hin hd (fun H1 z h2 h3 h4 => ?_)
  refine kk p e s m args below meth cd C d0 hd0 H1 _ ls _ ?_ (locs_1 hL) hlo hst
  refine HR_upd (σ' := σ) (d' := (u2 d.1 k i.toNatClampNeg (vp_nar .char x), d.2)) hz hlow hold h3 h4 f hf rfl (fun k' hk' => cel_int_ne hk') ?_
  rw [cel_c hc]
  have e : u2 d.1 k i.toNatClampNeg (vp_nar .char x) k = upd (d.1 k) i.toNatClampNeg (vp_nar .char x) := by
    funext q
    simp [u2, upd]
  show va_at _ _ (_, .inl (_, _, .inl (u2 d.1 k i.toNatClampNeg (vp_nar .char x) k))) _
  rw [e]
  exact h2
theorem m_fast {i : Int32} {x : UInt32} (hd : decode (y_cc Y) pc = .ok (.fastore, 1)) (hk : k < σ.1) (hc : σ.2.1 k = 13) (hin : vp_in i (σ.2.2.1 k)) (hp : pc + 1 = pc') (kk : mM G Y pc' lo st σ (d.1, u2 d.2 k i.toNatClampNeg x) u Q) : mM G Y pc lo (.float x :: .int i :: .ref k :: st) σ d u Q := by
  subst hp
  intro p e s m args below meth cd C d0 hd0 H locs ls str hH hL hlo hst
  obtain ⟨_, _, rfl, hw, _, _, rfl, hx, _, _, rfl, hy, hst⟩ := hst
  obtain ⟨x', rfl, hx'⟩ := vR_float hw
  obtain rfl := vR_int hx
  obtain rfl := vR_ref hy
  obtain ⟨hz, hlow, f, hf, hold⟩ := id hH
  have h1 := hold k hk
  rw [cel_f hc] at h1
  refine mv_fast (s := s.setDrawn d0) (D := g_D G) (cl := vwCl) (tys := g_ty G) C.1 C.2.1 C.2.2.2.2.2.2.2.1.1 h1 1 rfl hin hd (fun H1 z h2 h3 h4 => ?_)
  refine kk p e s m args below meth cd C d0 hd0 H1 _ ls _ ?_ (locs_1 hL) hlo hst
  refine HR_upd (σ' := σ) (d' := (d.1, u2 d.2 k i.toNatClampNeg x)) hz hlow hold h3 h4 (u2 f k i.toNatClampNeg x') (fun a b => ?_) rfl (fun k' hk' => cel_flt_ne hk') ?_
  · show fR (u2 f k i.toNatClampNeg x' a b) (u2 d.2 k i.toNatClampNeg x a b)
    unfold u2
    split
    · split
      · exact hx'
      · exact hf a b
    · exact hf a b
  rw [cel_f hc]
  have e : u2 f k i.toNatClampNeg x' k = (fun q => if q = i.toNatClampNeg then x' else f k q) := by
    funext q
    simp [u2]
  show va_at _ _ (_, .inl (_, _, .inr (.inr (.inl (u2 f k i.toNatClampNeg x' k))))) _
  rw [e]
  exact h2
end ARR
end
section
/-! REFERENCES WRITTEN IN CONSTRUCTORS, NEW CELLS, CALLS, CONTRACTS -/
/-- shapes with one thing changed -/
def sh_rf (σ : Sh) (k j : Nat) (q : Option Nat) : Sh := (σ.1, σ.2.1, σ.2.2.1, u2 σ.2.2.2.1 k j q, σ.2.2.2.2)
def sh_w (σ : Sh) (k : Nat) (x : Int32) : Sh := (σ.1, σ.2.1, σ.2.2.1, σ.2.2.2.1, fun a => if a = k then x else σ.2.2.2.2 a)
def sh_new (σ : Sh) (ci len : Nat) : Sh := (σ.1 + 1, fun a => if a = σ.1 then ci else σ.2.1 a, fun a => if a = σ.1 then len else σ.2.2.1 a, fun a j => if a = σ.1 then none else σ.2.2.2.1 a j, fun a => if a = σ.1 then 0 else σ.2.2.2.2 a)
def d_new (σ : Sh) (d : Dt) : Dt := (fun a j => if a = σ.1 then 0 else d.1 a j, fun a j => if a = σ.1 then 0 else d.2 a j)
/-- a class that an instruction of Y makes -/
def FN (Y : MD) (i ci : Nat) : Prop := ∃ (C : String) (T : u_T) (N : Nat), vwCl[ci]? = some (C, T, N) ∧ (∀ w ∈ u_ws C T N, w ∈ y_ws Y) ∧ Cond.classLink Y.1.cls i C ∈ y_ws Y ∧ Cond.instantiable C N ∈ y_ws Y ∧ Cond.initialized C ∈ y_ws Y ∧ N = (fco ci).length
/-- the default of a field by its code -/
def dvc (c : Nat) : Value := if c = 1 then .float 0 else if c = 2 then .null else .int 0
theorem ty_all : ∀ (ci : Nat) (C : String) (T : u_T) (N : Nat), vwCl[ci]? = some (C, T, N) → ∃ ty0 : Nat → FieldType, (∀ k, k < N → parseFieldDescriptor (T k).2.2.1 = some (ty0 k)) ∧ ∀ j, j < N → defaultValue (ty0 j) = dvc ((fco ci).getD j 0) := by
  intro ci C T N h
  match ci, h with
  | 0, h => cases h; exact ⟨_, tyX0_ok, by intro j hj; match j, hj with | 0, _ => rfl | 1, _ => rfl | 2, _ => rfl | 3, _ => rfl | 4, _ => rfl⟩
  | 1, h => cases h; exact ⟨_, tyX1_ok, by intro j hj; match j, hj with | 0, _ => rfl | 1, _ => rfl | 2, _ => rfl⟩
  | 2, h => cases h; exact ⟨_, tyX2_ok, by intro j hj; match j, hj with | 0, _ => rfl | 1, _ => rfl | 2, _ => rfl⟩
  | 3, h => cases h; exact ⟨_, tyX3_ok, by intro j hj; match j, hj with | 0, _ => rfl | 1, _ => rfl | 2, _ => rfl | 3, _ => rfl⟩
  | 4, h => cases h; exact ⟨_, tyX4_ok, by intro j hj; match j, hj with | 0, _ => rfl | 1, _ => rfl⟩
  | 5, h => cases h; exact ⟨_, tyX5_ok, by intro j hj; match j, hj with | 0, _ => rfl | 1, _ => rfl | 2, _ => rfl⟩
  | 6, h => cases h; exact ⟨_, tyX6_ok, by intro j hj; match j, hj with | 0, _ => rfl | 1, _ => rfl | 2, _ => rfl | 3, _ => rfl | 4, _ => rfl | 5, _ => rfl | 6, _ => rfl⟩
  | 7, h => cases h; exact ⟨_, tyX7_ok, by intro j hj; match j, hj with | 0, _ => rfl | 1, _ => rfl⟩
  | 8, h => cases h; exact ⟨_, tyX8_ok, by intro j hj; match j, hj with | 0, _ => rfl | 1, _ => rfl⟩
  | 9, h => cases h; exact ⟨_, tyX9_ok, by intro j hj; match j, hj with | 0, _ => rfl | 1, _ => rfl | 2, _ => rfl | 3, _ => rfl⟩
  | 10, h => cases h; exact ⟨_, tyX10_ok, by intro j hj; match j, hj with | 0, _ => rfl | 1, _ => rfl | 2, _ => rfl | 3, _ => rfl | 4, _ => rfl | 5, _ => rfl | 6, _ => rfl⟩
  | 11, h => cases h; exact ⟨_, tyX11_ok, by intro j hj; rcases (show j = 0 ∨ j = 1 ∨ j = 2 ∨ j = 3 ∨ j = 4 ∨ j = 5 ∨ j = 6 ∨ j = 7 ∨ j = 8 ∨ j = 9 ∨ j = 10 ∨ j = 11 ∨ j = 12 ∨ j = 13 ∨ j = 14 ∨ j = 15 ∨ j = 16 by omega) with rfl | rfl | rfl | rfl | rfl | rfl | rfl | rfl | rfl | rfl | rfl | rfl | rfl | rfl | rfl | rfl | rfl <;> rfl⟩
  | n + 12, h => simp [vwCl] at h
section MVQ
variable {p : Program} {l : Launch} {e : Env} {R : Room} {s : State} {m : MethodId} {args : Array Value} {below : List Frame} {meth : Method} {c : Code} {H : Heap} {locs : List Loc} {cells slots : Nat} {Q : State → Prop}
variable {cc : ByteArray} {pc : Nat} {ls : Array Slot} {rest : List Value} {D : va_G} {cl : List vw_C} {tys : List (ClassId × FieldType)} {a : Nat}
theorem mv_newq (hexec : p.tables.exec = Jvm.exec) (hb : c.code = cc) {own C : String} {index : Nat} (hown : s.vm.findClass own = some m.cls) (hclink : (Cond.classLink own index C).before args s = true) (hover : va_AO C s) (hK : va_K D cl tys s) (t0 : Nat) {c0 : ClassId} (ht : tys[t0]? = some (c0, .object C)) {n : Int32} {N' : Nat} (hn : ¬ n < 0) (hN : n.toNatClampNeg = N') (hbytes : N' * 4 ≤ 536870912) (hcells : cells + 1 ≤ R.cells) (hslots : slots + N' ≤ R.slots) (hdg : decode cc pc = .ok (.anewarray index, 3))
    (kk : ∀ (H1 : Heap), H1[H.size]? = some (arrV c0 N' (fun _ => .null)) → H1.size = H.size + 1 → (∀ q : Nat, q < H.size → H1[q]? = H[q]?) → W p l e R s m args below meth c H1 locs (cells + 1) (slots + N') Q (F0 m (pc + 3) ls (.ref H.size :: rest))) : W p l e R s m args below meth c H locs cells slots Q (F0 m pc ls (.int n :: rest)) := by
  subst hN
  refine W.anew hexec hb hown hclink (va_AO.use hover) rfl hdg rfl hn hbytes hcells hslots fun cA kA comp f1 f2 f3 f4 => ?_
  have hcy : cA = c0 := by
    obtain ⟨kA', comp', -, -, -, h10⟩ := (hK.2 t0 _ ht).2
    exact Option.some.inj (f1.symm.trans h10)
  subst hcy
  generalize hH1 : H.push ({ cls := cA, slots := Array.replicate n.toNatClampNeg .null, vm := .none } : Cell) = H1
  have z1 : H1.size = H.size + 1 := by rw [← hH1, Array.size_push]
  have e1 : H1[H.size]? = some (arrV cA n.toNatClampNeg (fun _ => .null)) := by rw [← hH1, Array.getElem?_push_size, ← arrV_new]
  have o1 : ∀ q : Nat, q < H.size → H1[q]? = H[q]? := fun q hq => by rw [← hH1, Array.getElem?_push, if_neg (Nat.ne_of_lt hq)]
  exact kk H1 e1 z1 o1
theorem mv_obj (hexec : p.tables.exec = Jvm.exec) (hb : c.code = cc) {own : String} (hown : s.vm.findClass own = some m.cls) {idx : Nat}
    (hlink : (Cond.methodLink own idx Lib.objectInit).before args s = true) (hinst : (Cond.instanceMethod Lib.objectInit).before args s = true) (hcode : (Cond.code Lib.objectInit ⟨#[0xb1]⟩ 1 none).before args s = true)
    (hsize : ls.size = c.maxLocals) {a : Addr} (hd : decode cc pc = .ok (.invokespecial idx, 3)) (hframes : 1 ≤ R.frames) (hlocals : (rest.map fun v => v.category).sum + 12 ≤ R.locals)
    (kk : W p l e R s m args below meth c H locs cells slots Q (F0 m (pc + 3) ls rest)) : W p l e R s m args below meth c H locs cells slots Q (F0 m pc ls (.ref a :: rest)) := by
  refine W.objInit (g := F0 m pc ls (.ref a :: rest)) hexec hb hown hlink hinst hcode rfl hsize rfl hd hframes (by show 2 * 0 + _ + 12 ≤ _; omega) ?_
  exact W.eq rfl kk
end MVQ
section MAKE
variable {G : GP} {Y Z : MD} {pc pc' tgt : Nat} {lo lo' : List (Option Value)} {st : List Value} {σ σ' : Sh} {d d' : Dt} {u : Nat × Nat} {Q : Option Value → Sh → Dt → Prop} {H H1 : Heap} {k : Nat} {f : Nat → Nat → UInt32}
theorem cel_rf_ne {j k' : Nat} {q : Option Nat} {m : Dt} (h : k' ≠ k) : cel G (sh_rf σ k j q) m k' = cel G σ m k' := by
  unfold cel fvl sh_rf
  simp only [u2_ne h]
theorem cel_w_ne {k' : Nat} {x : Int32} {m : Dt} (h : k' ≠ k) : cel G (sh_w σ k x) m k' = cel G σ m k' := by
  unfold cel fvl sh_w
  simp only [if_neg h]
theorem cel_new_old {ci len k' : Nat} {m : Nat → Nat → Int32} (h : k' ≠ σ.1) : cel G (sh_new σ ci len) (fun a j => if a = σ.1 then 0 else m a j, fun a j => if a = σ.1 then 0 else f a j) k' = cel G σ (m, f) k' := by
  unfold cel fvl sh_new
  simp only [if_neg h]
/-- a final reference is written in a constructor -/
theorem m_putRf {i ci j q : Nat} {ds : String} {ty : FieldType} (fa : FA Y i ci j ds true) (hin2 : Y.1.name = "<init>") (hds : parseFieldDescriptor ds = some ty) (hrf : ty.isReference = true) (hd : decode (y_cc Y) pc = .ok (.putfield i, 3)) (hk : k < σ.1) (hc : σ.2.1 k = ci) (hj : (fco ci)[j]? = some 2) (hp : pc + 3 = pc') (kk : mM G Y pc' lo st (sh_rf σ k j (some q)) d u Q) : mM G Y pc lo (.ref q :: .ref k :: st) σ d u Q := by
  subst hp
  intro p e s m args below meth cd C d0 hd0 H locs ls str hH hL hlo hst
  obtain ⟨_, _, rfl, hx, _, _, rfl, hy, hst⟩ := hst
  obtain rfl := vR_ref hx
  obtain rfl := vR_ref hy
  obtain ⟨Cn, T, N, f1, f2, f3, f4, f5, f6, f7, f8⟩ := fa
  obtain ⟨hci, ty0, t1, t2⟩ := cf_all ci Cn T N f1
  obtain ⟨hz, hlow, f, hf, hold⟩ := id hH
  have h1 := hold k hk
  rw [cel_obj hc hci] at h1
  have hts := dr_words (C.2.2.2.2.2.1) d0
  refine mv_putF (D := g_D G) (cl := vwCl) (tys := g_ty G) (Ts := y_ws Y) (ci := ci) (T := T) (N := N) (C := Cn) (ty := ty) C.1 C.2.1 hts f3 ty0 t1 t2 C.2.2.2.2.1 C.2.2.2.2.2.2.2.1.1 h1 f1 j f2 (hts _ f4) f7 (C.2.2.2.2.2.2.2.2.trans hin2) (f8 rfl) (by rw [f6]; exact hds) (by cases ty <;> first | rfl | simp [FieldType.isReference] at hrf) (by cases ty <;> first | rfl | simp [FieldType.isReference] at hrf) (by rw [List.length_mapIdx, ← f5]; exact f2) hd (fun H1 z h2 h3 h4 => ?_)
  refine kk p e s m args below meth cd C d0 hd0 H1 _ ls _ ?_ (locs_1 hL) hlo hst
  refine HR_upd (σ' := sh_rf σ k j (some q)) (d' := d) hz hlow hold h3 h4 f hf rfl (fun k' hk' => cel_rf_ne hk') ?_
  rw [cel_obj (σ := sh_rf σ k j (some q)) hc hci]
  rw [mapIdx_set (fco ci) (fun j c => fvl (g_bs G) σ (d.1, f) k j c) (fun j' c => fvl (g_bs G) (sh_rf σ k j (some q)) (d.1, f) k j' c) j (.ref (g_bs G + q)) ?_ ?_]
  · exact h2
  · intro c hcc
    rw [hj] at hcc; cases hcc
    show rv (g_bs G) (u2 σ.2.2.2.1 k j (some q) k j) = _
    rw [u2_same]; rfl
  · intro i' c _ hne
    unfold fvl sh_rf
    simp only [u2_oth hne]
/-- a table's width is written in its constructor -/
theorem m_putW {i ci j : Nat} {x : Int32} (fa : FA Y i ci j "I" true) (hin2 : Y.1.name = "<init>") (hd : decode (y_cc Y) pc = .ok (.putfield i, 3)) (hk : k < σ.1) (hc : σ.2.1 k = ci) (hj : (fco ci)[j]? = some 3) (ho : ∀ i' c, (fco ci)[i']? = some c → i' ≠ j → c < 3) (hp : pc + 3 = pc') (kk : mM G Y pc' lo st (sh_w σ k x) d u Q) : mM G Y pc lo (.int x :: .ref k :: st) σ d u Q := by
  subst hp
  intro p e s m args below meth cd C d0 hd0 H locs ls str hH hL hlo hst
  obtain ⟨_, _, rfl, hx, _, _, rfl, hy, hst⟩ := hst
  obtain rfl := vR_int hx
  obtain rfl := vR_ref hy
  obtain ⟨Cn, T, N, f1, f2, f3, f4, f5, f6, f7, f8⟩ := fa
  obtain ⟨hci, ty0, t1, t2⟩ := cf_all ci Cn T N f1
  obtain ⟨hz, hlow, f, hf, hold⟩ := id hH
  have h1 := hold k hk
  rw [cel_obj hc hci] at h1
  have hts := dr_words (C.2.2.2.2.2.1) d0
  refine mv_putF (D := g_D G) (cl := vwCl) (tys := g_ty G) (Ts := y_ws Y) (ci := ci) (T := T) (N := N) (C := Cn) (ty := .int) C.1 C.2.1 hts f3 ty0 t1 t2 C.2.2.2.2.1 C.2.2.2.2.2.2.2.1.1 h1 f1 j f2 (hts _ f4) f7 (C.2.2.2.2.2.2.2.2.trans hin2) (f8 rfl) (by rw [f6]; decide +kernel) rfl rfl (by rw [List.length_mapIdx, ← f5]; exact f2) hd (fun H1 z h2 h3 h4 => ?_)
  refine kk p e s m args below meth cd C d0 hd0 H1 _ ls _ ?_ (locs_1 hL) hlo hst
  refine HR_upd (σ' := sh_w σ k x) (d' := d) hz hlow hold h3 h4 f hf rfl (fun k' hk' => cel_w_ne hk') ?_
  rw [cel_obj (σ := sh_w σ k x) hc hci]
  rw [mapIdx_set (fco ci) (fun j c => fvl (g_bs G) σ (d.1, f) k j c) (fun j' c => fvl (g_bs G) (sh_w σ k x) (d.1, f) k j' c) j (.int x) ?_ ?_]
  · exact h2
  · intro c hcc
    rw [hj] at hcc; cases hcc
    show Value.int (if k = k then x else σ.2.2.2.2 k) = _
    rw [if_pos rfl]
  · intro i' c hcc hne
    have := ho i' c hcc hne
    unfold fvl sh_w
    rcases (show c = 0 ∨ c = 1 ∨ c = 2 by omega) with h | h | h <;> subst h <;> rfl
theorem vp_V_mapIdx {l : List Nat} {g : Nat → Nat → Value} {j : Nat} (hj : j < l.length) (h : ∀ j c, g j c = dvc c) : vp_V (l.mapIdx g) j = dvc (l.getD j 0) := by
  unfold vp_V
  rw [List.getD_eq_getElem?_getD, List.getElem?_mapIdx, List.getD_eq_getElem?_getD, List.getElem?_eq_getElem hj]
  simp [h]
theorem m_new {i ci : Nat} (fn : FN Y i ci) (hd : decode (y_cc Y) pc = .ok (.new i, 3)) (hu : u.1 + 1 ≤ (y_rm Y).cells ∧ u.2 + (fco ci).length ≤ (y_rm Y).slots) (hp : pc + 3 = pc') (kk : mM G Y pc' lo (.ref σ.1 :: st) (sh_new σ ci 0) (d_new σ d) (u.1 + 1, u.2 + (fco ci).length) Q) : mM G Y pc lo st σ d u Q := by
  subst hp
  intro p e s m args below meth cd C d0 hd0 H locs ls str hH hL hlo hst
  obtain ⟨Cn, T, N, f1, f2, f3, f4, f5, rfl⟩ := fn
  obtain ⟨hci, -⟩ := cf_all ci Cn T _ f1
  obtain ⟨ty0, t1, t2⟩ := ty_all ci Cn T _ f1
  obtain ⟨hz, hlow, f, hf, hold⟩ := id hH
  have hts := dr_words (C.2.2.2.2.2.1) d0
  refine mv_new (D := g_D G) (cl := vwCl) (tys := g_ty G) (Ts := y_ws Y) (ci := ci) (T := T) (C := Cn) (fs := (fco ci).mapIdx (fun j c => fvl (g_bs G) (sh_new σ ci 0) (fun a j => if a = σ.1 then 0 else d.1 a j, fun a j => if a = σ.1 then 0 else f a j) σ.1 j c)) C.1 C.2.1 hts f2 ty0 t1 C.2.2.2.2.1 (hts _ f3) (hts _ f4) (hts _ f5) C.2.2.2.2.2.2.2.1.1 f1 (fun j hj => ?_) hu.1 hu.2 hd (fun H1 h2 h3 h4 => ?_)
  · rw [t2 j hj, vp_V_mapIdx hj]
    intro j c
    unfold fvl dvc sh_new rv
    simp only [if_pos]
    split
    · rename_i h; subst h; rfl
    · split
      · rfl
      · split <;> rfl
  · rw [hz] at h2
    rw [hz]
    refine kk p e s m args below meth cd C d0 hd0 H1 _ ls _ ?_ hL hlo ⟨_, _, rfl, rfl, hst⟩
    refine HR_new (σ' := sh_new σ ci 0) (d' := d_new σ d) hz hlow hold h3 h4 (fun a j => if a = σ.1 then 0 else f a j) (fun a j => ?_) rfl (fun k' hk' => cel_new_old (by omega)) ?_
    · show fR (if a = σ.1 then 0 else f a j) (if a = σ.1 then 0 else d.2 a j)
      split
      · exact fR_rfl _
      · exact hf a j
    · rw [cel_obj (σ := sh_new σ ci 0) (show (if σ.1 = σ.1 then ci else σ.2.1 σ.1) = ci from if_pos rfl) hci]
      exact h2
/-- newarray: at is the kind (12 char, 13 float, 14 int) -/
theorem m_newaI {n : Int32} {N : Nat} (hw : Cond.arrayClass .int ∈ y_ws Y) (hd : decode (y_cc Y) pc = .ok (.newarray .int, 2)) (hn : ¬ n < 0) (hN : n.toNatClampNeg = N) (hb : N ≤ 65536) (hu : u.1 + 1 ≤ (y_rm Y).cells ∧ u.2 + N ≤ (y_rm Y).slots) (hp : pc + 2 = pc') (kk : mM G Y pc' lo (.ref σ.1 :: st) (sh_new σ 14 N) (d_new σ d) (u.1 + 1, u.2 + N) Q) : mM G Y pc lo (.int n :: st) σ d u Q := by
  subst hp
  intro p e s m args below meth cd C d0 hd0 H locs ls str hH hL hlo hst
  obtain ⟨_, _, rfl, hx, hst⟩ := hst
  obtain rfl := vR_int hx
  obtain ⟨hz, hlow, f, hf, hold⟩ := id hH
  have hts := dr_words (C.2.2.2.2.2.1) d0
  refine va_newaK C.1 C.2.1 (atype := .int) (hts _ hw) rfl hd rfl hn hN (by show N * 4 ≤ _; omega) hu.1 hu.2 rfl (fun H1 cA h2 h3 h4 h5 h6 => ?_)
  have hcy : cA = g_cy G 2 := Option.some.inj (h6.symm.trans (C.2.2.2.2.2.2.2.1.1.2 2 _ rfl).2)
  subst hcy
  rw [hz] at h2
  rw [hz]
  refine kk p e s m args below meth cd C d0 hd0 H1 _ ls _ ?_ hL hlo ⟨_, _, rfl, rfl, hst⟩
  refine HR_new (σ' := sh_new σ 14 N) (d' := d_new σ d) hz hlow hold (by rw [h3]) h4 (fun a j => if a = σ.1 then 0 else f a j) (fun a j => ?_) rfl (fun k' hk' => cel_new_old (by omega)) ?_
  · show fR (if a = σ.1 then 0 else f a j) (if a = σ.1 then 0 else d.2 a j)
    split
    · exact fR_rfl _
    · exact hf a j
  · rw [cel_i (σ := sh_new σ 14 N) (show (if σ.1 = σ.1 then 14 else σ.2.1 σ.1) = 14 from if_pos rfl)]
    show H1[_]? = some (vp_cell _ _)
    rw [h2]
    show _ = some (arrV _ (if σ.1 = σ.1 then N else σ.2.2.1 σ.1) (fun j => .int (if σ.1 = σ.1 then 0 else d.1 σ.1 j)))
    rw [if_pos rfl]
    simp only [if_pos]
    rfl
theorem m_newaC {n : Int32} {N : Nat} (hw : Cond.arrayClass .char ∈ y_ws Y) (hd : decode (y_cc Y) pc = .ok (.newarray .char, 2)) (hn : ¬ n < 0) (hN : n.toNatClampNeg = N) (hb : N ≤ 65536) (hu : u.1 + 1 ≤ (y_rm Y).cells ∧ u.2 + N ≤ (y_rm Y).slots) (hp : pc + 2 = pc') (kk : mM G Y pc' lo (.ref σ.1 :: st) (sh_new σ 12 N) (d_new σ d) (u.1 + 1, u.2 + N) Q) : mM G Y pc lo (.int n :: st) σ d u Q := by
  subst hp
  intro p e s m args below meth cd C d0 hd0 H locs ls str hH hL hlo hst
  obtain ⟨_, _, rfl, hx, hst⟩ := hst
  obtain rfl := vR_int hx
  obtain ⟨hz, hlow, f, hf, hold⟩ := id hH
  have hts := dr_words (C.2.2.2.2.2.1) d0
  refine va_newaK C.1 C.2.1 (atype := .char) (hts _ hw) rfl hd rfl hn hN (by show N * 2 ≤ _; omega) hu.1 hu.2 rfl (fun H1 cA h2 h3 h4 h5 h6 => ?_)
  have hcy : cA = g_cy G 0 := Option.some.inj (h6.symm.trans (C.2.2.2.2.2.2.2.1.1.2 0 _ rfl).2)
  subst hcy
  rw [hz] at h2
  rw [hz]
  refine kk p e s m args below meth cd C d0 hd0 H1 _ ls _ ?_ hL hlo ⟨_, _, rfl, rfl, hst⟩
  refine HR_new (σ' := sh_new σ 12 N) (d' := d_new σ d) hz hlow hold (by rw [h3]) h4 (fun a j => if a = σ.1 then 0 else f a j) (fun a j => ?_) rfl (fun k' hk' => cel_new_old (by omega)) ?_
  · show fR (if a = σ.1 then 0 else f a j) (if a = σ.1 then 0 else d.2 a j)
    split
    · exact fR_rfl _
    · exact hf a j
  · rw [cel_c (σ := sh_new σ 12 N) (show (if σ.1 = σ.1 then 12 else σ.2.1 σ.1) = 12 from if_pos rfl)]
    show H1[_]? = some (vp_cell _ _)
    rw [h2]
    show _ = some (arrV _ (if σ.1 = σ.1 then N else σ.2.2.1 σ.1) (fun j => .int (if σ.1 = σ.1 then 0 else d.1 σ.1 j)))
    rw [if_pos rfl]
    simp only [if_pos]
    rfl
theorem m_newaF {n : Int32} {N : Nat} (hw : Cond.arrayClass .float ∈ y_ws Y) (hd : decode (y_cc Y) pc = .ok (.newarray .float, 2)) (hn : ¬ n < 0) (hN : n.toNatClampNeg = N) (hb : N ≤ 65536) (hu : u.1 + 1 ≤ (y_rm Y).cells ∧ u.2 + N ≤ (y_rm Y).slots) (hp : pc + 2 = pc') (kk : mM G Y pc' lo (.ref σ.1 :: st) (sh_new σ 13 N) (d_new σ d) (u.1 + 1, u.2 + N) Q) : mM G Y pc lo (.int n :: st) σ d u Q := by
  subst hp
  intro p e s m args below meth cd C d0 hd0 H locs ls str hH hL hlo hst
  obtain ⟨_, _, rfl, hx, hst⟩ := hst
  obtain rfl := vR_int hx
  obtain ⟨hz, hlow, f, hf, hold⟩ := id hH
  have hts := dr_words (C.2.2.2.2.2.1) d0
  refine va_newaK C.1 C.2.1 (atype := .float) (hts _ hw) rfl hd rfl hn hN (by show N * 4 ≤ _; omega) hu.1 hu.2 rfl (fun H1 cA h2 h3 h4 h5 h6 => ?_)
  have hcy : cA = g_cy G 1 := Option.some.inj (h6.symm.trans (C.2.2.2.2.2.2.2.1.1.2 1 _ rfl).2)
  subst hcy
  rw [hz] at h2
  rw [hz]
  refine kk p e s m args below meth cd C d0 hd0 H1 _ ls _ ?_ hL hlo ⟨_, _, rfl, rfl, hst⟩
  refine HR_new (σ' := sh_new σ 13 N) (d' := d_new σ d) hz hlow hold (by rw [h3]) h4 (fun a j => if a = σ.1 then 0 else f a j) (fun a j => ?_) rfl (fun k' hk' => cel_new_old (by omega)) ?_
  · show fR (if a = σ.1 then 0 else f a j) (if a = σ.1 then 0 else d.2 a j)
    split
    · exact fR_rfl _
    · exact hf a j
  · rw [cel_f (σ := sh_new σ 13 N) (show (if σ.1 = σ.1 then 13 else σ.2.1 σ.1) = 13 from if_pos rfl)]
    show H1[_]? = some (vp_cell _ _)
    rw [h2]
    show _ = some (arrV _ (if σ.1 = σ.1 then N else σ.2.2.1 σ.1) (fun j => .float (if σ.1 = σ.1 then 0 else f σ.1 j)))
    rw [if_pos rfl]
    simp only [if_pos]
    rfl
theorem m_newaQ {i : Nat} {n : Int32} {N : Nat} (hw : Cond.classLink Y.1.cls i "ScanRing$State" ∈ y_ws Y) (hd : decode (y_cc Y) pc = .ok (.anewarray i, 3)) (hn : ¬ n < 0) (hN : n.toNatClampNeg = N) (hb : N ≤ 65536) (hu : u.1 + 1 ≤ (y_rm Y).cells ∧ u.2 + N ≤ (y_rm Y).slots) (hp : pc + 3 = pc') (kk : mM G Y pc' lo (.ref σ.1 :: st) (sh_new σ 15 N) (d_new σ d) (u.1 + 1, u.2 + N) Q) : mM G Y pc lo (.int n :: st) σ d u Q := by
  subst hp
  subst hN
  intro p e s m args below meth cd C d0 hd0 H locs ls str hH hL hlo hst
  obtain ⟨_, _, rfl, hx, hst⟩ := hst
  obtain rfl := vR_int hx
  obtain ⟨hz, hlow, f, hf, hold⟩ := id hH
  have hts := dr_words (C.2.2.2.2.2.1) d0
  refine mv_newq (s := s.setDrawn d0) (D := g_D G) (cl := vwCl) (tys := g_ty G) (C := "ScanRing$State") C.1 C.2.1 C.2.2.2.2.1 (hts _ hw) (va_AO.moved (u := s) (Vm.Alike.refl _) C.2.2.2.2.2.2.2.1.2.1) (va_K.moved (u := s) (Vm.Alike.refl _) C.2.2.2.2.2.2.2.1.1) 3 rfl hn rfl (by omega) hu.1 hu.2 hd (fun H1 h2 h3 h4 => ?_)
  rw [hz] at h2
  rw [hz]
  refine kk p e s m args below meth cd C d0 hd0 H1 _ ls _ ?_ hL hlo ⟨_, _, rfl, rfl, hst⟩
  refine HR_new (σ' := sh_new σ 15 n.toNatClampNeg) (d' := d_new σ d) hz hlow hold h3 h4 (fun a j => if a = σ.1 then 0 else f a j) (fun a j => ?_) rfl (fun k' hk' => cel_new_old (by omega)) ?_
  · show fR (if a = σ.1 then 0 else f a j) (if a = σ.1 then 0 else d.2 a j)
    split
    · exact fR_rfl _
    · exact hf a j
  · rw [cel_q (σ := sh_new σ 15 n.toNatClampNeg) (show (if σ.1 = σ.1 then 15 else σ.2.1 σ.1) = 15 from if_pos rfl)]
    show H1[_]? = some (vp_cell _ _)
    rw [h2]
    show _ = some (arrV _ (if σ.1 = σ.1 then n.toNatClampNeg else σ.2.2.1 σ.1) (fun j => va_rf ((if σ.1 = σ.1 then none else σ.2.2.2.1 σ.1 j : Option Nat).map (g_bs G + ·))))
    rw [if_pos rfl]
    simp only [if_pos]
    rfl
theorem m_aast {i : Int32} {q ci : Nat} (hd : decode (y_cc Y) pc = .ok (.aastore, 1)) (hk : k < σ.1) (hc : σ.2.1 k = 15) (hin : vp_in i (σ.2.2.1 k)) (hq : q < σ.1) (hcq : σ.2.1 q = 6) (hp : pc + 1 = pc') (kk : mM G Y pc' lo st (sh_rf σ k i.toNatClampNeg (some q)) d u Q) : mM G Y pc lo (.ref q :: .int i :: .ref k :: st) σ d u Q := by
  subst hp
  intro p e s m args below meth cd C d0 hd0 H locs ls str hH hL hlo hst
  obtain ⟨_, _, rfl, hw, _, _, rfl, hx, _, _, rfl, hy, hst⟩ := hst
  obtain rfl := vR_ref hw
  obtain rfl := vR_int hx
  obtain rfl := vR_ref hy
  obtain ⟨hz, hlow, f, hf, hold⟩ := id hH
  have h1 := hold k hk
  rw [cel_q hc] at h1
  have h5 := hold q hq
  rw [cel_obj hcq (by decide)] at h5
  refine mv_astq (s := s.setDrawn d0) (D := g_D G) (cl := vwCl) (tys := g_ty G) (r := (RX6, TX6, 7)) (ci := 6) C.1 C.2.1 C.2.2.2.2.2.2.2.1.1 h1 3 rfl h5 rfl hin hd (fun H1 z h2 h3 h4 => ?_)
  refine kk p e s m args below meth cd C d0 hd0 H1 _ ls _ ?_ (locs_1 hL) hlo hst
  refine HR_upd (σ' := sh_rf σ k i.toNatClampNeg (some q)) (d' := d) hz hlow hold h3 h4 f hf rfl (fun k' hk' => cel_rf_ne hk') ?_
  rw [cel_q (σ := sh_rf σ k i.toNatClampNeg (some q)) hc]
  have e : (fun j => (u2 σ.2.2.2.1 k i.toNatClampNeg (some q) k j).map (g_bs G + ·)) = va_up (fun j => (σ.2.2.2.1 k j).map (g_bs G + ·)) i.toNatClampNeg (some (g_bs G + q)) := by
    funext j
    unfold u2 va_up
    rw [if_pos rfl]
    split <;> rfl
  show va_at _ _ (_, .inl (_, _, .inr (.inr (.inr (.inr (fun j => (u2 σ.2.2.2.1 k i.toNatClampNeg (some q) k j).map (g_bs G + ·))))))) _
  rw [e]
  exact h2
/-- Object's constructor -/
theorem m_obj {i : Nat} (hw : Cond.methodLink Y.1.cls i objectInit ∈ y_ws Y ∧ Cond.instanceMethod objectInit ∈ y_ws Y ∧ Cond.code objectInit ⟨#[0xb1]⟩ 1 none ∈ y_ws Y) (hR : 1 ≤ (y_rm Y).frames ∧ st.length + 12 ≤ (y_rm Y).locals) (hd : decode (y_cc Y) pc = .ok (.invokespecial i, 3)) (hp : pc + 3 = pc') (kk : mM G Y pc' lo st σ d u Q) : mM G Y pc lo (.ref k :: st) σ d u Q := by
  subst hp
  intro p e s m args below meth cd C d0 hd0 H locs ls str hH hL hlo hst
  obtain ⟨_, _, rfl, hx, hst⟩ := hst
  obtain rfl := vR_ref hx
  have hts := dr_words (C.2.2.2.2.2.1) d0
  refine mv_obj (s := s.setDrawn d0) C.1 C.2.1 C.2.2.2.2.1 (hts _ hw.1) (hts _ hw.2.1) (hts _ hw.2.2) (by rw [C.2.2.2.1]; exact mL_size hlo) hd hR.1 (by rw [vRs_cat hst]; exact hR.2) ?_
  exact kk p e s m args below meth cd C d0 hd0 H locs ls _ hH hL hlo hst
end MAKE
end
section
/-! CALLS AND CONTRACTS -/
/-- a call's fixed facts: the callee's code first among its words, its descriptor, its room within the caller's -/
def CZ (Y Z : MD) (n : Nat) : Prop := (∃ ws', y_ws Z = Cond.code Z.1 (y_cc Z) (y_nl Z) (y_rt Z) :: ws') ∧ (Z.1.cls ≠ "java/lang/invoke/MethodHandle" ∧ Z.1.cls ≠ "java/lang/invoke/VarHandle" ∧ (parseMethodDescriptor Z.1.desc).map (fun d => d.parameters.length) = some n) ∧ ((y_rm Z).frames + 1 ≤ (y_rm Y).frames ∧ 8 + (y_nl Z + 11) + (y_rm Z).locals ≤ (y_rm Y).locals)
/-- an invokevirtual, an invokestatic, an invokespecial; the last two of nest mates -/
def CV (Y : MD) (i : Nat) (Z : MD) (n : Nat) : Prop := GoodIn (y_ws Y) (wsV Y.1.cls i Z.1.cls Z.1 (y_ws Z)) ∧ CZ Y Z n
def CS (Y : MD) (i : Nat) (Z : MD) (n : Nat) : Prop := GoodIn (y_ws Y) (va_wsS Y.1.cls i Z.1 (y_ws Z)) ∧ CZ Y Z n
def CI (Y : MD) (i : Nat) (Z : MD) (n : Nat) : Prop := GoodIn (y_ws Y) (y_ws Z) ∧ Cond.initialized Z.1.cls ∈ y_ws Y ∧ Cond.methodLink Y.1.cls i Z.1 ∈ y_ws Y ∧ Cond.instanceMethod Z.1 ∈ y_ws Y ∧ Z.1.name = "<init>" ∧ y_rt Z = none ∧ CZ Y Z n
def CIN (Y : MD) (i : Nat) (Z : MD) (n : Nat) : Prop := GoodIn (y_ws Y) (y_ws Z) ∧ Cond.initialized Z.1.cls ∈ y_ws Y ∧ (Y.1.cls, i, Z.1, "ScanRing") ∈ nws ∧ Cond.instanceMethod Z.1 ∈ y_ws Y ∧ Z.1.name = "<init>" ∧ y_rt Z = none ∧ CZ Y Z n
def CSN (Y : MD) (i : Nat) (Z : MD) (n : Nat) : Prop := GoodIn (y_ws Y) (y_ws Z) ∧ Cond.initialized Z.1.cls ∈ y_ws Y ∧ (Y.1.cls, i, Z.1, "ScanRing") ∈ nws ∧ Cond.static Z.1 ∈ y_ws Y ∧ CZ Y Z n
section CALLS
variable {G : GP} {Y Z : MD} {pc pc' tgt : Nat} {lo lo' : List (Option Value)} {st : List Value} {σ σ' : Sh} {d d' : Dt} {u u' : Nat × Nat} {Q : Option Value → Sh → Dt → Prop} {H H1 : Heap} {k : Nat} {f : Nat → Nat → UInt32}
theorem fb_Pc {Ar : List Value} : FrameBlind (va_Pc Ar (fun U => HR G σ d U.heap ∧ mK G U)) := fun a U g mk h => ⟨h.1, h.2.1, mK.same (s := U) (by rfl) h.2.2⟩
/-- behind a call that came back -/
theorem m_back {p : Program} {e : Env} {s : State} {m : MethodId} {args : Array Value} {below : List Frame} {meth : Method} {c : Code} {d0 : Drawn} {locs : List Loc} {ls : Array Slot} {str restr : List Value} {rest : List Value} {mc ms : Nat} {a : Array Value} (C : mCx G Y p s m args meth c) (hd0 : s.drawn.sameBut d0 lw_cs) (hL : ∀ q ∈ locs, g_bs G ≤ q.base) (hlo : mL G lo ls (y_nl Y)) (hst : vRs G rest restr)
    (hr : va_RunD lw_cs p G.1 e (y_rm Y) (s.setDrawn d0) m args below meth c H locs u.1 u.2 mc ms (F0 m pc ls str) restr (mQ G (fun v σ' d' => mM G Y (pc + 3) lo (v.toList ++ rest) σ' d' (u.1 + mc, u.2 + ms) Q) a) (fun q => g_bs G ≤ q)) :
    W p G.1 e (y_rm Y) (s.setDrawn d0) m args below meth c H locs u.1 u.2 (MQD lw_cs below (mQ G Q) args s (y_rm Y).cells (y_rm Y).slots (fun q => g_bs G ≤ q)) (F0 m pc ls str) := by
  intro T hT X
  obtain ⟨v, st₀, t, T', L, d', hd', h0, X', hL', e1, e2, hq, stp⟩ := hr T hT X
  obtain ⟨va, v', σ', d'', hv, hvr, hq, hH'⟩ := hq
  cases hv
  have hvs : vRs G (va.toList ++ rest) (v.toList ++ restr) := by
    cases va with
    | none => cases hvr; exact hst
    | some w =>
      obtain ⟨w', rfl, hw⟩ := hvr
      exact ⟨_, _, rfl, hw, hst⟩
  obtain ⟨t2, a1, b1⟩ := hq p e s m args below meth c C d' (hd0.trans hd') T'.heap (locs ++ L) ls _ (by rw [e1]; exact hH') (fun q h => by
      rcases List.mem_append.mp h with h | h
      · exact hL q h
      · exact hL' q h) hlo hvs T' rfl X'
  exact ⟨t2, stp t2 a1, b1⟩
theorem m_callV {i n ci b : Nat} {A rest : List Value} (cv : CV Y i Z n) (hd : decode (y_cc Y) pc = .ok (.invokevirtual i, 3)) (hst0 : st = A.reverse ++ .ref b :: rest) (hn : A.length = n) (hr8 : rest.length ≤ 8) (hu : u.1 + (y_rm Z).cells ≤ (y_rm Y).cells ∧ u.2 + (y_rm Z).slots ≤ (y_rm Y).slots) (hb : b < σ.1) (hc : σ.2.1 b = ci) (hcl : (vwCl[ci]?).map (fun x => x.1) = some Z.1.cls) (hp : pc + 3 = pc') (hu' : (u.1 + (y_rm Z).cells, u.2 + (y_rm Z).slots) = u')
    (kk : mC G Z (.ref b :: A) σ d (fun v σ' d' => mM G Y pc' lo (v.toList ++ rest) σ' d' u' Q)) : mM G Y pc lo st σ d u Q := by
  subst hp; subst hst0; subst hu'
  intro p e s m args below meth cd C d0 hd0 H locs ls str hH hL hlo hst
  obtain ⟨r1, r2, rfl, h1, h2⟩ := vRs_split hst
  obtain ⟨_, restr, rfl, hx, h2⟩ := h2
  obtain rfl := vR_ref hx
  have h3 : vRs G A r1.reverse := by have := vRs_rev h1; rwa [List.reverse_reverse] at this
  obtain ⟨g1, ⟨ws', g2⟩, g3, g4⟩ := cv
  have hts := dr_words (C.2.2.2.2.2.1) d0
  have hP := id hH
  obtain ⟨hz, hlow, f, hf, hold⟩ := hP
  have hb1 := hold b hb
  have hlt : ci < 12 := by
    rcases Nat.lt_or_ge ci 12 with h | h
    · exact h
    · rw [show vwCl[ci]? = none from List.getElem?_eq_none (by show 12 ≤ ci; exact h)] at hcl; cases hcl
  rw [cel_obj hc hlt] at hb1
  obtain ⟨q0, hq0, hq1⟩ : ∃ q0, vwCl[ci]? = some q0 ∧ q0.1 = Z.1.cls := by
    cases hq : vwCl[ci]? with
    | none => rw [hq] at hcl; cases hcl
    | some q0 => rw [hq] at hcl; exact ⟨q0, rfl, Option.some.inj hcl⟩
  have hK0 := C.2.2.2.2.2.2.2.1
  have hrv := va_recv (s := s.setDrawn d0) (tys := g_ty G) (q0 := 0) (D := g_D G) (cl := vwCl) hK0.1 (P1 hb1) hq0 rfl
  rw [hq1] at hrv
  refine m_back C hd0 hL hlo h2 (va_runV_D (As := r1.reverse) (rest := restr) (C := Z.1.cls) (index := i) (n := n) ⟨C.1, C.2.1, C.2.2.2.1, C.2.2.2.2.1, hts⟩ (kk (.ref (g_bs G + b) :: r1.reverse) ⟨_, _, rfl, rfl, h3⟩) (cwV n hts g1 g2 rfl rfl ⟨rfl, g3⟩ g4) ⟨fb_Pc, hrv, fun U hU hW => ⟨rfl, by rw [hU]; exact hH, mK.moved hW hK0⟩⟩ rfl ((vRs_len h3).trans hn) (mL_size hlo) (by rw [List.reverse_reverse]) (by rw [vRs_cat h2]; show 2 * 0 + _ ≤ 8; omega) hd hu)
theorem m_callS {i n : Nat} {A rest : List Value} (cv : CS Y i Z n) (hd : decode (y_cc Y) pc = .ok (.invokestatic i, 3)) (hst0 : st = A.reverse ++ rest) (hn : A.length = n) (hr8 : rest.length ≤ 8) (hu : u.1 + (y_rm Z).cells ≤ (y_rm Y).cells ∧ u.2 + (y_rm Z).slots ≤ (y_rm Y).slots) (hp : pc + 3 = pc') (hu' : (u.1 + (y_rm Z).cells, u.2 + (y_rm Z).slots) = u')
    (kk : mC G Z A σ d (fun v σ' d' => mM G Y pc' lo (v.toList ++ rest) σ' d' u' Q)) : mM G Y pc lo st σ d u Q := by
  subst hp; subst hst0; subst hu'
  intro p e s m args below meth cd C d0 hd0 H locs ls str hH hL hlo hst
  obtain ⟨r1, restr, rfl, h1, h2⟩ := vRs_split hst
  have h3 : vRs G A r1.reverse := by have := vRs_rev h1; rwa [List.reverse_reverse] at this
  obtain ⟨g1, ⟨ws', g2⟩, g3, g4⟩ := cv
  have hts := dr_words (C.2.2.2.2.2.1) d0
  have hK0 := C.2.2.2.2.2.2.2.1
  refine m_back C hd0 hL hlo h2 (va_runS_D (As := r1.reverse) (rest := restr) (index := i) (n := n) ⟨C.1, C.2.1, C.2.2.2.1, C.2.2.2.2.1, hts⟩ (kk r1.reverse h3) (va_cwS n hts g1 g2 rfl rfl g3 g4) ⟨fb_Pc, fun U hU hW => ⟨rfl, by rw [hU]; exact hH, mK.moved hW hK0⟩⟩ rfl ((vRs_len h3).trans hn) (mL_size hlo) (by rw [List.reverse_reverse]) (by rw [vRs_cat h2]; show 2 * 0 + _ ≤ 8; omega) hd hu)
theorem m_callSN {i n : Nat} {A rest : List Value} (cv : CSN Y i Z n) (hd : decode (y_cc Y) pc = .ok (.invokestatic i, 3)) (hst0 : st = A.reverse ++ rest) (hn : A.length = n) (hr8 : rest.length ≤ 8) (hu : u.1 + (y_rm Z).cells ≤ (y_rm Y).cells ∧ u.2 + (y_rm Z).slots ≤ (y_rm Y).slots) (hp : pc + 3 = pc') (hu' : (u.1 + (y_rm Z).cells, u.2 + (y_rm Z).slots) = u')
    (kk : mC G Z A σ d (fun v σ' d' => mM G Y pc' lo (v.toList ++ rest) σ' d' u' Q)) : mM G Y pc lo st σ d u Q := by
  subst hp; subst hst0; subst hu'
  intro p e s m args below meth cd C d0 hd0 H locs ls str hH hL hlo hst
  obtain ⟨r1, restr, rfl, h1, h2⟩ := vRs_split hst
  have h3 : vRs G A r1.reverse := by have := vRs_rev h1; rwa [List.reverse_reverse] at this
  obtain ⟨g1, g5, g6, g7, ⟨ws', g2⟩, g3, g4⟩ := cv
  have hts := dr_words (C.2.2.2.2.2.1) d0
  have hK0 := C.2.2.2.2.2.2.2.1
  refine m_back C hd0 hL hlo h2 (va_runSN_D (As := r1.reverse) (rest := restr) (index := i) (n := n) (host := "ScanRing") ⟨C.1, C.2.1, C.2.2.2.1, C.2.2.2.2.1, hts⟩ (kk r1.reverse h3) ⟨va_cnB n hts g1 g2 rfl rfl (va_Nw.same rfl rfl (hK0.2.2 _ g6)) (hts _ g5) g3 g4, hts _ g7, trivial⟩ ⟨fb_Pc, fun U hU hW => ⟨rfl, by rw [hU]; exact hH, mK.moved hW hK0⟩⟩ rfl ((vRs_len h3).trans hn) (mL_size hlo) (by rw [List.reverse_reverse]) (by rw [vRs_cat h2]; show 2 * 0 + _ ≤ 8; omega) hd hu)
theorem m_callI {i n b : Nat} {A rest : List Value} (cv : CI Y i Z n) (hd : decode (y_cc Y) pc = .ok (.invokespecial i, 3)) (hst0 : st = A.reverse ++ .ref b :: rest) (hn : A.length = n) (hr8 : rest.length ≤ 8) (hu : u.1 + (y_rm Z).cells ≤ (y_rm Y).cells ∧ u.2 + (y_rm Z).slots ≤ (y_rm Y).slots) (hp : pc + 3 = pc') (hu' : (u.1 + (y_rm Z).cells, u.2 + (y_rm Z).slots) = u')
    (kk : mC G Z (.ref b :: A) σ d (fun v σ' d' => mM G Y pc' lo (v.toList ++ rest) σ' d' u' Q)) : mM G Y pc lo st σ d u Q := by
  subst hp; subst hst0; subst hu'
  intro p e s m args below meth cd C d0 hd0 H locs ls str hH hL hlo hst
  obtain ⟨r1, r2, rfl, h1, h2⟩ := vRs_split hst
  obtain ⟨_, restr, rfl, hx, h2⟩ := h2
  obtain rfl := vR_ref hx
  have h3 : vRs G A r1.reverse := by have := vRs_rev h1; rwa [List.reverse_reverse] at this
  obtain ⟨g1, g5, g6, g7, g8, g9, ⟨ws', g2⟩, g3, g4⟩ := cv
  rw [g9] at g2
  have hts := dr_words (C.2.2.2.2.2.1) d0
  have hK0 := C.2.2.2.2.2.2.2.1
  refine m_back C hd0 hL hlo h2 (va_runI_D (As := r1.reverse) (rest := restr) (index := i) (n := n) ⟨C.1, C.2.1, C.2.2.2.1, C.2.2.2.2.1, hts⟩ (kk (.ref (g_bs G + b) :: r1.reverse) ⟨_, _, rfl, rfl, h3⟩) (cwI n hts g1 g2 rfl rfl (hts _ g5) (hts _ g6) (hts _ g7) g8 g3 g4) ⟨fb_Pc, fun U hU hW => ⟨rfl, by rw [hU]; exact hH, mK.moved hW hK0⟩⟩ rfl ((vRs_len h3).trans hn) (mL_size hlo) (by rw [List.reverse_reverse]) (by rw [vRs_cat h2]; show 2 * 0 + _ ≤ 8; omega) hd hu)
theorem m_callIN {i n b : Nat} {A rest : List Value} (cv : CIN Y i Z n) (hd : decode (y_cc Y) pc = .ok (.invokespecial i, 3)) (hst0 : st = A.reverse ++ .ref b :: rest) (hn : A.length = n) (hr8 : rest.length ≤ 8) (hu : u.1 + (y_rm Z).cells ≤ (y_rm Y).cells ∧ u.2 + (y_rm Z).slots ≤ (y_rm Y).slots) (hp : pc + 3 = pc') (hu' : (u.1 + (y_rm Z).cells, u.2 + (y_rm Z).slots) = u')
    (kk : mC G Z (.ref b :: A) σ d (fun v σ' d' => mM G Y pc' lo (v.toList ++ rest) σ' d' u' Q)) : mM G Y pc lo st σ d u Q := by
  subst hp; subst hst0; subst hu'
  intro p e s m args below meth cd C d0 hd0 H locs ls str hH hL hlo hst
  obtain ⟨r1, r2, rfl, h1, h2⟩ := vRs_split hst
  obtain ⟨_, restr, rfl, hx, h2⟩ := h2
  obtain rfl := vR_ref hx
  have h3 : vRs G A r1.reverse := by have := vRs_rev h1; rwa [List.reverse_reverse] at this
  obtain ⟨g1, g5, g6, g7, g8, g9, ⟨ws', g2⟩, g3, g4⟩ := cv
  rw [g9] at g2
  have hts := dr_words (C.2.2.2.2.2.1) d0
  have hK0 := C.2.2.2.2.2.2.2.1
  refine m_back C hd0 hL hlo h2 (va_runIN_D (As := r1.reverse) (rest := restr) (index := i) (n := n) (host := "ScanRing") ⟨C.1, C.2.1, C.2.2.2.1, C.2.2.2.2.1, hts⟩ (kk (.ref (g_bs G + b) :: r1.reverse) ⟨_, _, rfl, rfl, h3⟩) ⟨va_cnB n hts g1 g2 rfl rfl (va_Nw.same rfl rfl (hK0.2.2 _ g6)) (hts _ g5) g3 g4, g8, hts _ g7⟩ ⟨fb_Pc, fun U hU hW => ⟨rfl, by rw [hU]; exact hH, mK.moved hW hK0⟩⟩ rfl ((vRs_len h3).trans hn) (mL_size hlo) (by rw [List.reverse_reverse]) (by rw [vRs_cat h2]; show 2 * 0 + _ ≤ 8; omega) hd hu)
/-- the words of Math's three -/
def WM (Y : MD) (i : Nat) (y : MethodName) (cc : ByteArray) (n : Nat) : Prop := Cond.methodLink Y.1.cls i y ∈ y_ws Y ∧ Cond.static y ∈ y_ws Y ∧ Cond.initialized "java/lang/Math" ∈ y_ws Y ∧ Cond.code y cc n (some .int) ∈ y_ws Y ∧ 1 ≤ (y_rm Y).frames ∧ 21 ≤ (y_rm Y).locals
theorem m_mmax {i : Nat} {x y : Int32} (wm : WM Y i Lib.Math.max.name Lib.Math.max.code 2) (hd : decode (y_cc Y) pc = .ok (.invokestatic i, 3)) (hr8 : st.length ≤ 8) (hu : u.1 ≤ (y_rm Y).cells ∧ u.2 ≤ (y_rm Y).slots) (hp : pc + 3 = pc') (kk : mM G Y pc' lo (.int (if x < y then y else x) :: st) σ d u Q) : mM G Y pc lo (.int y :: .int x :: st) σ d u Q := by
  subst hp
  intro p e s m args below meth cd C d0 hd0 H locs ls str hH hL hlo hst
  obtain ⟨_, _, rfl, hy, _, _, rfl, hx, hst⟩ := hst
  obtain rfl := vR_int hx
  obtain rfl := vR_int hy
  obtain ⟨w1, w2, w3, w4, w5, w6⟩ := wm
  have hts := dr_words (C.2.2.2.2.2.1) d0
  exact va_mmax (s := s.setDrawn d0) C.1 C.2.1 (C.2.2.2.1.trans (mL_size hlo).symm) C.2.2.2.2.1 (hts _ w1) (hts _ w2) (hts _ w3) (hts _ w4) w5 (by rw [vRs_cat hst]; omega) hu.1 hu.2 hd (kk p e s m args below meth cd C d0 hd0 H locs ls _ hH hL hlo ⟨_, _, rfl, rfl, hst⟩)
theorem m_mmin {i : Nat} {x y : Int32} (wm : WM Y i Lib.Math.min.name Lib.Math.min.code 2) (hd : decode (y_cc Y) pc = .ok (.invokestatic i, 3)) (hr8 : st.length ≤ 8) (hu : u.1 ≤ (y_rm Y).cells ∧ u.2 ≤ (y_rm Y).slots) (hp : pc + 3 = pc') (kk : mM G Y pc' lo (.int (if y < x then y else x) :: st) σ d u Q) : mM G Y pc lo (.int y :: .int x :: st) σ d u Q := by
  subst hp
  intro p e s m args below meth cd C d0 hd0 H locs ls str hH hL hlo hst
  obtain ⟨_, _, rfl, hy, _, _, rfl, hx, hst⟩ := hst
  obtain rfl := vR_int hx
  obtain rfl := vR_int hy
  obtain ⟨w1, w2, w3, w4, w5, w6⟩ := wm
  have hts := dr_words (C.2.2.2.2.2.1) d0
  exact va_mmin (s := s.setDrawn d0) C.1 C.2.1 (C.2.2.2.1.trans (mL_size hlo).symm) C.2.2.2.2.1 (hts _ w1) (hts _ w2) (hts _ w3) (hts _ w4) w5 (by rw [vRs_cat hst]; omega) hu.1 hu.2 hd (kk p e s m args below meth cd C d0 hd0 H locs ls _ hH hL hlo ⟨_, _, rfl, rfl, hst⟩)
theorem m_mabs {i : Nat} {x : Int32} (wm : WM Y i Lib.Math.abs.name Lib.Math.abs.code 1) (hd : decode (y_cc Y) pc = .ok (.invokestatic i, 3)) (hr8 : st.length ≤ 8) (hu : u.1 ≤ (y_rm Y).cells ∧ u.2 ≤ (y_rm Y).slots) (hp : pc + 3 = pc') (kk : mM G Y pc' lo (.int (if 0 ≤ x then x else 0 - x) :: st) σ d u Q) : mM G Y pc lo (.int x :: st) σ d u Q := by
  subst hp
  intro p e s m args below meth cd C d0 hd0 H locs ls str hH hL hlo hst
  obtain ⟨_, _, rfl, hx, hst⟩ := hst
  obtain rfl := vR_int hx
  obtain ⟨w1, w2, w3, w4, w5, w6⟩ := wm
  have hts := dr_words (C.2.2.2.2.2.1) d0
  exact va_mabs (s := s.setDrawn d0) C.1 C.2.1 (C.2.2.2.1.trans (mL_size hlo).symm) C.2.2.2.2.1 (hts _ w1) (hts _ w2) (hts _ w3) (hts _ w4) w5 (by rw [vRs_cat hst]; omega) hu.1 hu.2 hd (kk p e s m args below meth cd C d0 hd0 H locs ls _ hH hL hlo ⟨_, _, rfl, rfl, hst⟩)
/-- arraycopy from row k0 to row k, both of ints -/
def d_cpy (d : Dt) (k0 k sp dp n : Nat) : Dt := (fun a b => if a = k then va_cpy (d.1 k0) (d.1 k) sp dp n b else d.1 a b, d.2)
theorem m_copy {i k0 : Nat} {sp dp n : Int32} (hw : Cond.methodLink Y.1.cls i arraycopyName ∈ y_ws Y ∧ Cond.native arraycopyName ∈ y_ws Y ∧ Cond.static arraycopyName ∈ y_ws Y ∧ Cond.initialized "java/lang/System" ∈ y_ws Y) (hR : 1 ≤ (y_rm Y).frames ∧ st.length + (nativeFrameWords "java/lang/System" "arraycopy" 5 + 11) ≤ (y_rm Y).locals) (hd : decode (y_cc Y) pc = .ok (.invokestatic i, 3)) (hk : k < σ.1) (hc : σ.2.1 k = 14) (hk0 : k0 < σ.1) (hc0 : σ.2.1 k0 = 14) (h1 : ¬ sp < 0) (h2 : ¬ dp < 0) (h3 : ¬ n < 0) (h4 : sp.toNatClampNeg + n.toNatClampNeg ≤ σ.2.2.1 k0) (h5 : dp.toNatClampNeg + n.toNatClampNeg ≤ σ.2.2.1 k) (hp : pc + 3 = pc') (kk : mM G Y pc' lo st σ (d_cpy d k0 k sp.toNatClampNeg dp.toNatClampNeg n.toNatClampNeg) u Q) : mM G Y pc lo (.int n :: .int dp :: .ref k :: .int sp :: .ref k0 :: st) σ d u Q := by
  subst hp
  intro p e s m args below meth cd C d0 hd0 H locs ls str hH hL hlo hst
  obtain ⟨_, _, rfl, ha, _, _, rfl, hb, _, _, rfl, hc', _, _, rfl, hd', _, _, rfl, he', hst⟩ := hst
  obtain rfl := vR_int ha
  obtain rfl := vR_int hb
  obtain rfl := vR_ref hc'
  obtain rfl := vR_int hd'
  obtain rfl := vR_ref he'
  obtain ⟨hz, hlow, f, hf, hold⟩ := id hH
  have q1 := hold k hk
  rw [cel_i hc] at q1
  have q0 := hold k0 hk0
  rw [cel_i hc0] at q0
  have hts := dr_words (C.2.2.2.2.2.1) d0
  refine mv_copyi (s := s.setDrawn d0) (D := g_D G) (cl := vwCl) (tys := g_ty G) C.1 C.2.1 (C.2.2.2.1.trans (mL_size hlo).symm) C.2.2.2.2.1 (hts _ hw.1) (hts _ hw.2.1) (hts _ hw.2.2.1) (hts _ hw.2.2.2) C.2.2.2.2.2.2.2.1.1 2 q0 q1 rfl h1 h2 h3 h4 h5 hR.1 (by rw [vRs_cat hst]; exact hR.2) hd (fun H1 L e1 e2 e3 e4 => ?_)
  refine kk p e s m args below meth cd C d0 hd0 H1 _ ls _ ?_ (fun q h => ?_) hlo hst
  · refine HR_upd (σ' := σ) (d' := d_cpy d k0 k sp.toNatClampNeg dp.toNatClampNeg n.toNatClampNeg) hz hlow hold e2 e3 f hf rfl (fun k' hk' => ?_) ?_
    · unfold cel fvl d_cpy
      simp only [if_neg hk']
    · rw [cel_i hc]
      have e : (d_cpy d k0 k sp.toNatClampNeg dp.toNatClampNeg n.toNatClampNeg).1 k = va_cpy (d.1 k0) (d.1 k) sp.toNatClampNeg dp.toNatClampNeg n.toNatClampNeg := by
        funext b
        show (if k = k then _ else _) = _
        rw [if_pos rfl]
      show va_at _ _ (_, .inl (_, _, .inl ((d_cpy d k0 k sp.toNatClampNeg dp.toNatClampNeg n.toNatClampNeg).1 k))) _
      rw [e]
      exact e1
  · rcases List.mem_append.mp h with h | h
    · exact hL q h
    · rw [e4 q h]; exact Nat.le_add_right _ _
/-- the locals at a method's entry -/
def lo0 (A : List Value) (n : Nat) : List (Option Value) := A.map some ++ List.replicate (n - A.length) none
theorem lg_sl_vRs : ∀ {A Ar : List Value}, vRs G A Ar → lg_sl Ar = Ar.map Slot.val
  | [], _, h => by cases h; rfl
  | a :: l, _, h => by
    obtain ⟨x, t, rfl, h1, h2⟩ := h
    have := lg_sl_vRs h2
    have hc := vR_cat h1
    simp only [lg_sl, List.flatMap_cons, List.map_cons] at this ⊢
    rw [this]
    simp [hc]
theorem lv_args_vRs : ∀ {A Ar : List Value} (j : Nat), vRs G A Ar → ∀ i v, A[i]? = some v → ∃ r, (j + i, r) ∈ lv_args j Ar ∧ vR G v r
  | [], _, j, h, i, v, hi => by simp at hi
  | a :: l, _, j, h, i, v, hi => by
    obtain ⟨x, t, rfl, h1, h2⟩ := h
    have hc := vR_cat h1
    cases i with
    | zero =>
      cases hi
      exact ⟨x, by simp [lv_args], h1⟩
    | succ i =>
      rw [List.getElem?_cons_succ] at hi
      obtain ⟨r, hr, hv⟩ := lv_args_vRs (j + 1) h2 i v hi
      refine ⟨r, ?_, hv⟩
      simp only [lv_args, hc]
      refine List.mem_cons_of_mem _ ?_
      have : j + (i + 1) = j + 1 + i := by omega
      rw [this]
      simpa using hr
/-- A CONTRACT OUT OF A WALK -/
theorem mC_of {A : List Value} (hpl : plainName Y.1.cls = true) (hw : ∃ ws', y_ws Y = Cond.code Y.1 (y_cc Y) (y_nl Y) (y_rt Y) :: ws') (hA : A.length ≤ y_nl Y) (kk : mM G Y 0 (lo0 A (y_nl Y)) [] σ d (0, 0) Q) : mC G Y A σ d Q := by
  obtain ⟨ws', hw⟩ := hw
  intro Ar hAr
  refine MetD.ofW (cc := y_cc Y) (maxL := y_nl Y) (ret := y_rt Y) hpl hw ?_
  intro p e s m args below meth c s₁ B hml hv hd0
  obtain ⟨rfl, hH, hK⟩ := hv
  have hts := atoms_spec (ws := y_ws Y) B.pre
  have hown : s.vm.findClass Y.1.cls = some m.cls := findClass_of_methodNamed B.named
  have hlen : (lg_sl Ar).length ≤ y_nl Y := by rw [lg_sl_vRs hAr, List.length_map, vRs_len hAr]; exact hA
  have hl := lv_entry Ar (n := y_nl Y) hlen
  rw [lg_entry_eq]
  refine kk p e s m Ar.toArray below meth c ⟨B.exec, B.bytes, B.returns, hml, hown, hts, B.notSynchronized, hK, (name_of_methodNamed B.named B.method).1⟩ s.drawn hd0 s.heap [] _ [] hH (fun q h => by cases h) ⟨_, hl, ?_, fun i v hi => ?_⟩ rfl
  · unfold lo0
    rw [List.length_append, List.length_map, List.length_replicate]
    omega
  · unfold lo0 at hi
    rcases Nat.lt_or_ge i A.length with h | h
    · rw [List.getElem?_append_left (by rw [List.length_map]; exact h), List.getElem?_map] at hi
      cases hv : A[i]? with
      | none => rw [hv] at hi; cases hi
      | some w =>
        rw [hv] at hi; cases hi
        obtain ⟨r, h1, h2⟩ := lv_args_vRs 0 hAr i _ hv
        rw [Nat.zero_add] at h1
        exact ⟨r, h1, h2⟩
    · rw [List.getElem?_append_right (by rw [List.length_map]; exact h)] at hi
      have := List.mem_of_getElem? hi
      rw [List.mem_replicate] at this
      cases this.2
/-- a contract's end may be weaker -/
theorem mC_mono {A : List Value} {Q' : Option Value → Sh → Dt → Prop} (h : mC G Y A σ d Q') (hQ : ∀ v σ' d', Q' v σ' d' → Q v σ' d') : mC G Y A σ d Q := by
  intro Ar hAr p e ha hc hk s m args below hf happ hP hK
  obtain ⟨n, o, h1, h2, h3, dd, h4, h5, h6⟩ := h Ar hAr p e ha hc hk s m args below hf happ hP hK
  obtain ⟨v, v', σ', d', q1, q2, q3, q4⟩ := h5
  exact ⟨n, o, h1, h2, h3, dd, h4, ⟨v, v', σ', d', q1, q2, hQ _ _ _ q3, q4⟩, h6⟩
end CALLS
end
section
theorem zz_one : 1 = 1 := rfl
end
