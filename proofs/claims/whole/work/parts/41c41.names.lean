-- ===== PART A: goes FIRST, ahead of the names: the tables' words, and 'selects' of the private methods out of them =====
/-- a private method of a class that the tables say can be made, by its rows of tables_1 -/
def lw_okq (q : MethodName × Nat) : Prop := (q.1.cls ≠ "java/lang/invoke/MethodHandle" ∧ q.1.cls ≠ "java/lang/invoke/VarHandle") ∧ Cond.instantiable q.1.cls q.2 ∈ tables_1 ∧ Cond.privateMethod q.1 ∈ tables_1 ∧ Cond.instanceMethod q.1 ∈ tables_1
theorem lw_p0 : lw_okq (⟨"SnowForSummer$Town", "readLine", "(LSnowForSummer$Text;I)Z"⟩, 4) := ⟨⟨by decide +kernel, by decide +kernel⟩, List.mem_of_getElem? (i := 57) (by decide +kernel), List.mem_of_getElem? (i := 408) (by decide +kernel), List.mem_of_getElem? (i := 409) (by decide +kernel)⟩
theorem lw_p1 : lw_okq (⟨"SnowForSummer$Town", "readHay", "(LSnowForSummer$Text;)I"⟩, 4) := ⟨⟨by decide +kernel, by decide +kernel⟩, List.mem_of_getElem? (i := 57) (by decide +kernel), List.mem_of_getElem? (i := 433) (by decide +kernel), List.mem_of_getElem? (i := 434) (by decide +kernel)⟩
theorem lw_p2 : lw_okq (⟨"SnowForSummer$Town", "growTo", "(I)I"⟩, 4) := ⟨⟨by decide +kernel, by decide +kernel⟩, List.mem_of_getElem? (i := 57) (by decide +kernel), List.mem_of_getElem? (i := 441) (by decide +kernel), List.mem_of_getElem? (i := 442) (by decide +kernel)⟩
theorem lw_p3 : lw_okq (⟨"SnowForSummer$Rule", "readComparison", "(LSnowForSummer$Text;I)Z"⟩, 6) := ⟨⟨by decide +kernel, by decide +kernel⟩, List.mem_of_getElem? (i := 100) (by decide +kernel), List.mem_of_getElem? (i := 485) (by decide +kernel), List.mem_of_getElem? (i := 486) (by decide +kernel)⟩
theorem lw_p4 : lw_okq (⟨"SnowForSummer$Rule", "readSum", "(LSnowForSummer$Text;I)Z"⟩, 6) := ⟨⟨by decide +kernel, by decide +kernel⟩, List.mem_of_getElem? (i := 100) (by decide +kernel), List.mem_of_getElem? (i := 489) (by decide +kernel), List.mem_of_getElem? (i := 490) (by decide +kernel)⟩
theorem lw_p5 : lw_okq (⟨"SnowForSummer$Rule", "readProduct", "(LSnowForSummer$Text;I)Z"⟩, 6) := ⟨⟨by decide +kernel, by decide +kernel⟩, List.mem_of_getElem? (i := 100) (by decide +kernel), List.mem_of_getElem? (i := 493) (by decide +kernel), List.mem_of_getElem? (i := 494) (by decide +kernel)⟩
theorem lw_p6 : lw_okq (⟨"SnowForSummer$Rule", "readFactor", "(LSnowForSummer$Text;I)Z"⟩, 6) := ⟨⟨by decide +kernel, by decide +kernel⟩, List.mem_of_getElem? (i := 100) (by decide +kernel), List.mem_of_getElem? (i := 497) (by decide +kernel), List.mem_of_getElem? (i := 498) (by decide +kernel)⟩
theorem lw_p7 : lw_okq (⟨"SnowForSummer$Rule", "readThing", "(LSnowForSummer$Text;I)Z"⟩, 6) := ⟨⟨by decide +kernel, by decide +kernel⟩, List.mem_of_getElem? (i := 100) (by decide +kernel), List.mem_of_getElem? (i := 502) (by decide +kernel), List.mem_of_getElem? (i := 503) (by decide +kernel)⟩
theorem lw_p8 : lw_okq (⟨"SnowForSummer$Rule", "put", "(I)V"⟩, 6) := ⟨⟨by decide +kernel, by decide +kernel⟩, List.mem_of_getElem? (i := 100) (by decide +kernel), List.mem_of_getElem? (i := 509) (by decide +kernel), List.mem_of_getElem? (i := 510) (by decide +kernel)⟩
theorem lw_p9 : lw_okq (⟨"SnowForSummer", "tell", "(II)V"⟩, 18) := ⟨⟨by decide +kernel, by decide +kernel⟩, List.mem_of_getElem? (i := 28) (by decide +kernel), List.mem_of_getElem? (i := 649) (by decide +kernel), List.mem_of_getElem? (i := 650) (by decide +kernel)⟩
theorem lw_p10 : lw_okq (⟨"SnowForSummer", "tell", "(I)V"⟩, 18) := ⟨⟨by decide +kernel, by decide +kernel⟩, List.mem_of_getElem? (i := 28) (by decide +kernel), List.mem_of_getElem? (i := 653) (by decide +kernel), List.mem_of_getElem? (i := 654) (by decide +kernel)⟩
theorem lw_p11 : lw_okq (⟨"SnowForSummer", "tellMore", "(I)V"⟩, 18) := ⟨⟨by decide +kernel, by decide +kernel⟩, List.mem_of_getElem? (i := 28) (by decide +kernel), List.mem_of_getElem? (i := 657) (by decide +kernel), List.mem_of_getElem? (i := 658) (by decide +kernel)⟩
theorem lw_p12 : lw_okq (⟨"SnowForSummer", "goOn", "(I)I"⟩, 18) := ⟨⟨by decide +kernel, by decide +kernel⟩, List.mem_of_getElem? (i := 28) (by decide +kernel), List.mem_of_getElem? (i := 674) (by decide +kernel), List.mem_of_getElem? (i := 675) (by decide +kernel)⟩
theorem lw_p13 : lw_okq (⟨"SnowForSummer", "startCall", "()V"⟩, 18) := ⟨⟨by decide +kernel, by decide +kernel⟩, List.mem_of_getElem? (i := 28) (by decide +kernel), List.mem_of_getElem? (i := 678) (by decide +kernel), List.mem_of_getElem? (i := 679) (by decide +kernel)⟩
theorem lw_p14 : lw_okq (⟨"SnowForSummer$Walk", "fallOnTown", "(I)V"⟩, 9) := ⟨⟨by decide +kernel, by decide +kernel⟩, List.mem_of_getElem? (i := 149) (by decide +kernel), List.mem_of_getElem? (i := 702) (by decide +kernel), List.mem_of_getElem? (i := 703) (by decide +kernel)⟩
theorem lw_p15 : lw_okq (⟨"SnowForSummer", "sweepNow", "(II)I"⟩, 18) := ⟨⟨by decide +kernel, by decide +kernel⟩, List.mem_of_getElem? (i := 28) (by decide +kernel), List.mem_of_getElem? (i := 750) (by decide +kernel), List.mem_of_getElem? (i := 751) (by decide +kernel)⟩
def lw_privs_1 : List (MethodName × Nat) := [(⟨"SnowForSummer$Town", "readLine", "(LSnowForSummer$Text;I)Z"⟩, 4), (⟨"SnowForSummer$Town", "readHay", "(LSnowForSummer$Text;)I"⟩, 4), (⟨"SnowForSummer$Town", "growTo", "(I)I"⟩, 4), (⟨"SnowForSummer$Rule", "readComparison", "(LSnowForSummer$Text;I)Z"⟩, 6), (⟨"SnowForSummer$Rule", "readSum", "(LSnowForSummer$Text;I)Z"⟩, 6), (⟨"SnowForSummer$Rule", "readProduct", "(LSnowForSummer$Text;I)Z"⟩, 6), (⟨"SnowForSummer$Rule", "readFactor", "(LSnowForSummer$Text;I)Z"⟩, 6), (⟨"SnowForSummer$Rule", "readThing", "(LSnowForSummer$Text;I)Z"⟩, 6), (⟨"SnowForSummer$Rule", "put", "(I)V"⟩, 6), (⟨"SnowForSummer", "tell", "(II)V"⟩, 18), (⟨"SnowForSummer", "tell", "(I)V"⟩, 18), (⟨"SnowForSummer", "tellMore", "(I)V"⟩, 18), (⟨"SnowForSummer", "goOn", "(I)I"⟩, 18), (⟨"SnowForSummer", "startCall", "()V"⟩, 18), (⟨"SnowForSummer$Walk", "fallOnTown", "(I)V"⟩, 9), (⟨"SnowForSummer", "sweepNow", "(II)I"⟩, 18)]
theorem lw_r1 : ∀ q ∈ lw_privs_1, lw_okq q := List.forall_mem_cons.mpr ⟨lw_p0, List.forall_mem_cons.mpr ⟨lw_p1, List.forall_mem_cons.mpr ⟨lw_p2, List.forall_mem_cons.mpr ⟨lw_p3, List.forall_mem_cons.mpr ⟨lw_p4, List.forall_mem_cons.mpr ⟨lw_p5, List.forall_mem_cons.mpr ⟨lw_p6, List.forall_mem_cons.mpr ⟨lw_p7, List.forall_mem_cons.mpr ⟨lw_p8, List.forall_mem_cons.mpr ⟨lw_p9, List.forall_mem_cons.mpr ⟨lw_p10, List.forall_mem_cons.mpr ⟨lw_p11, List.forall_mem_cons.mpr ⟨lw_p12, List.forall_mem_cons.mpr ⟨lw_p13, List.forall_mem_cons.mpr ⟨lw_p14, List.forall_mem_cons.mpr ⟨lw_p15, fun _ h => absurd h List.not_mem_nil⟩⟩⟩⟩⟩⟩⟩⟩⟩⟩⟩⟩⟩⟩⟩⟩
theorem lw_p16 : lw_okq (⟨"SnowForSummer", "remembered", "(I)I"⟩, 18) := ⟨⟨by decide +kernel, by decide +kernel⟩, List.mem_of_getElem? (i := 28) (by decide +kernel), List.mem_of_getElem? (i := 762) (by decide +kernel), List.mem_of_getElem? (i := 763) (by decide +kernel)⟩
theorem lw_p17 : lw_okq (⟨"SnowForSummer", "clearNow", "(II)I"⟩, 18) := ⟨⟨by decide +kernel, by decide +kernel⟩, List.mem_of_getElem? (i := 28) (by decide +kernel), List.mem_of_getElem? (i := 770) (by decide +kernel), List.mem_of_getElem? (i := 771) (by decide +kernel)⟩
theorem lw_p18 : lw_okq (⟨"SnowForSummer", "looseNow", "(II)I"⟩, 18) := ⟨⟨by decide +kernel, by decide +kernel⟩, List.mem_of_getElem? (i := 28) (by decide +kernel), List.mem_of_getElem? (i := 782) (by decide +kernel), List.mem_of_getElem? (i := 783) (by decide +kernel)⟩
theorem lw_p19 : lw_okq (⟨"SnowForSummer$Acts", "readAct", "(LSnowForSummer$Text;I)Z"⟩, 4) := ⟨⟨by decide +kernel, by decide +kernel⟩, List.mem_of_getElem? (i := 126) (by decide +kernel), List.mem_of_getElem? (i := 801) (by decide +kernel), List.mem_of_getElem? (i := 802) (by decide +kernel)⟩
theorem lw_p20 : lw_okq (⟨"SnowForSummer$Acts", "readInches", "(LSnowForSummer$Text;I)Z"⟩, 4) := ⟨⟨by decide +kernel, by decide +kernel⟩, List.mem_of_getElem? (i := 126) (by decide +kernel), List.mem_of_getElem? (i := 811) (by decide +kernel), List.mem_of_getElem? (i := 812) (by decide +kernel)⟩
theorem lw_p21 : lw_okq (⟨"SnowForSummer", "doAct", "(I)I"⟩, 18) := ⟨⟨by decide +kernel, by decide +kernel⟩, List.mem_of_getElem? (i := 28) (by decide +kernel), List.mem_of_getElem? (i := 819) (by decide +kernel), List.mem_of_getElem? (i := 820) (by decide +kernel)⟩
theorem lw_p22 : lw_okq (⟨"SnowForSummer$Ring", "measure", "(LSnowForSummer$State;I)V"⟩, 4) := ⟨⟨by decide +kernel, by decide +kernel⟩, List.mem_of_getElem? (i := 275) (by decide +kernel), List.mem_of_getElem? (i := 839) (by decide +kernel), List.mem_of_getElem? (i := 840) (by decide +kernel)⟩
theorem lw_p23 : lw_okq (⟨"SnowForSummer$Ring", "nearest", "(LSnowForSummer$State;II)I"⟩, 4) := ⟨⟨by decide +kernel, by decide +kernel⟩, List.mem_of_getElem? (i := 275) (by decide +kernel), List.mem_of_getElem? (i := 844) (by decide +kernel), List.mem_of_getElem? (i := 845) (by decide +kernel)⟩
theorem lw_p24 : lw_okq (⟨"SnowForSummer$Ring", "lengthFrom", "(LSnowForSummer$State;I)I"⟩, 4) := ⟨⟨by decide +kernel, by decide +kernel⟩, List.mem_of_getElem? (i := 275) (by decide +kernel), List.mem_of_getElem? (i := 849) (by decide +kernel), List.mem_of_getElem? (i := 850) (by decide +kernel)⟩
theorem lw_p25 : lw_okq (⟨"SnowForSummer$Ring", "lay", "(LSnowForSummer$State;I)V"⟩, 4) := ⟨⟨by decide +kernel, by decide +kernel⟩, List.mem_of_getElem? (i := 275) (by decide +kernel), List.mem_of_getElem? (i := 853) (by decide +kernel), List.mem_of_getElem? (i := 854) (by decide +kernel)⟩
theorem lw_p26 : lw_okq (⟨"SnowForSummer$Ring", "nextOf", "(LSnowForSummer$State;III)I"⟩, 4) := ⟨⟨by decide +kernel, by decide +kernel⟩, List.mem_of_getElem? (i := 275) (by decide +kernel), List.mem_of_getElem? (i := 857) (by decide +kernel), List.mem_of_getElem? (i := 858) (by decide +kernel)⟩
theorem lw_p27 : lw_okq (⟨"SnowForSummer", "mostOwing", "()I"⟩, 18) := ⟨⟨by decide +kernel, by decide +kernel⟩, List.mem_of_getElem? (i := 28) (by decide +kernel), List.mem_of_getElem? (i := 906) (by decide +kernel), List.mem_of_getElem? (i := 907) (by decide +kernel)⟩
theorem lw_p28 : lw_okq (⟨"SnowForSummer", "firstOwing", "(I)I"⟩, 18) := ⟨⟨by decide +kernel, by decide +kernel⟩, List.mem_of_getElem? (i := 28) (by decide +kernel), List.mem_of_getElem? (i := 911) (by decide +kernel), List.mem_of_getElem? (i := 912) (by decide +kernel)⟩
theorem lw_p29 : lw_okq (⟨"SnowForSummer", "workThrough", "(I)V"⟩, 18) := ⟨⟨by decide +kernel, by decide +kernel⟩, List.mem_of_getElem? (i := 28) (by decide +kernel), List.mem_of_getElem? (i := 927) (by decide +kernel), List.mem_of_getElem? (i := 928) (by decide +kernel)⟩
theorem lw_p30 : lw_okq (⟨"SnowForSummer", "isAllHayIn", "()Z"⟩, 18) := ⟨⟨by decide +kernel, by decide +kernel⟩, List.mem_of_getElem? (i := 28) (by decide +kernel), List.mem_of_getElem? (i := 939) (by decide +kernel), List.mem_of_getElem? (i := 940) (by decide +kernel)⟩
theorem lw_p31 : lw_okq (⟨"SnowForSummer", "staysWithin", "(IIII)Z"⟩, 18) := ⟨⟨by decide +kernel, by decide +kernel⟩, List.mem_of_getElem? (i := 28) (by decide +kernel), List.mem_of_getElem? (i := 1006) (by decide +kernel), List.mem_of_getElem? (i := 1007) (by decide +kernel)⟩
def lw_privs_2 : List (MethodName × Nat) := [(⟨"SnowForSummer", "remembered", "(I)I"⟩, 18), (⟨"SnowForSummer", "clearNow", "(II)I"⟩, 18), (⟨"SnowForSummer", "looseNow", "(II)I"⟩, 18), (⟨"SnowForSummer$Acts", "readAct", "(LSnowForSummer$Text;I)Z"⟩, 4), (⟨"SnowForSummer$Acts", "readInches", "(LSnowForSummer$Text;I)Z"⟩, 4), (⟨"SnowForSummer", "doAct", "(I)I"⟩, 18), (⟨"SnowForSummer$Ring", "measure", "(LSnowForSummer$State;I)V"⟩, 4), (⟨"SnowForSummer$Ring", "nearest", "(LSnowForSummer$State;II)I"⟩, 4), (⟨"SnowForSummer$Ring", "lengthFrom", "(LSnowForSummer$State;I)I"⟩, 4), (⟨"SnowForSummer$Ring", "lay", "(LSnowForSummer$State;I)V"⟩, 4), (⟨"SnowForSummer$Ring", "nextOf", "(LSnowForSummer$State;III)I"⟩, 4), (⟨"SnowForSummer", "mostOwing", "()I"⟩, 18), (⟨"SnowForSummer", "firstOwing", "(I)I"⟩, 18), (⟨"SnowForSummer", "workThrough", "(I)V"⟩, 18), (⟨"SnowForSummer", "isAllHayIn", "()Z"⟩, 18), (⟨"SnowForSummer", "staysWithin", "(IIII)Z"⟩, 18)]
theorem lw_r2 : ∀ q ∈ lw_privs_2, lw_okq q := List.forall_mem_cons.mpr ⟨lw_p16, List.forall_mem_cons.mpr ⟨lw_p17, List.forall_mem_cons.mpr ⟨lw_p18, List.forall_mem_cons.mpr ⟨lw_p19, List.forall_mem_cons.mpr ⟨lw_p20, List.forall_mem_cons.mpr ⟨lw_p21, List.forall_mem_cons.mpr ⟨lw_p22, List.forall_mem_cons.mpr ⟨lw_p23, List.forall_mem_cons.mpr ⟨lw_p24, List.forall_mem_cons.mpr ⟨lw_p25, List.forall_mem_cons.mpr ⟨lw_p26, List.forall_mem_cons.mpr ⟨lw_p27, List.forall_mem_cons.mpr ⟨lw_p28, List.forall_mem_cons.mpr ⟨lw_p29, List.forall_mem_cons.mpr ⟨lw_p30, List.forall_mem_cons.mpr ⟨lw_p31, fun _ h => absurd h List.not_mem_nil⟩⟩⟩⟩⟩⟩⟩⟩⟩⟩⟩⟩⟩⟩⟩⟩
theorem lw_p32 : lw_okq (⟨"SnowForSummer$Hands", "tryNight", "(I)V"⟩, 7) := ⟨⟨by decide +kernel, by decide +kernel⟩, List.mem_of_getElem? (i := 220) (by decide +kernel), List.mem_of_getElem? (i := 1021) (by decide +kernel), List.mem_of_getElem? (i := 1022) (by decide +kernel)⟩
theorem lw_p33 : lw_okq (⟨"SnowForSummer$Hands", "costOf", "(LSnowForSummer$Walk;)I"⟩, 7) := ⟨⟨by decide +kernel, by decide +kernel⟩, List.mem_of_getElem? (i := 220) (by decide +kernel), List.mem_of_getElem? (i := 1025) (by decide +kernel), List.mem_of_getElem? (i := 1026) (by decide +kernel)⟩
theorem lw_p34 : lw_okq (⟨"SnowForSummer$Hands", "isChoice", "(LSnowForSummer$State;I)Z"⟩, 7) := ⟨⟨by decide +kernel, by decide +kernel⟩, List.mem_of_getElem? (i := 220) (by decide +kernel), List.mem_of_getElem? (i := 1030) (by decide +kernel), List.mem_of_getElem? (i := 1031) (by decide +kernel)⟩
theorem lw_p35 : lw_okq (⟨"SnowForSummer", "tellSweeping", "(I)I"⟩, 18) := ⟨⟨by decide +kernel, by decide +kernel⟩, List.mem_of_getElem? (i := 28) (by decide +kernel), List.mem_of_getElem? (i := 1041) (by decide +kernel), List.mem_of_getElem? (i := 1042) (by decide +kernel)⟩
theorem lw_p36 : lw_okq (⟨"SnowForSummer", "owedFrom", "(LSnowForSummer$State;IIZ)I"⟩, 18) := ⟨⟨by decide +kernel, by decide +kernel⟩, List.mem_of_getElem? (i := 28) (by decide +kernel), List.mem_of_getElem? (i := 1053) (by decide +kernel), List.mem_of_getElem? (i := 1054) (by decide +kernel)⟩
theorem lw_p37 : lw_okq (⟨"SnowForSummer", "isBetterLoose", "(II)Z"⟩, 18) := ⟨⟨by decide +kernel, by decide +kernel⟩, List.mem_of_getElem? (i := 28) (by decide +kernel), List.mem_of_getElem? (i := 1061) (by decide +kernel), List.mem_of_getElem? (i := 1062) (by decide +kernel)⟩
theorem lw_p38 : lw_okq (⟨"SnowForSummer", "bestRoof", "(II)I"⟩, 18) := ⟨⟨by decide +kernel, by decide +kernel⟩, List.mem_of_getElem? (i := 28) (by decide +kernel), List.mem_of_getElem? (i := 1069) (by decide +kernel), List.mem_of_getElem? (i := 1070) (by decide +kernel)⟩
theorem lw_p39 : lw_okq (⟨"SnowForSummer", "owesNothing", "(II)Z"⟩, 18) := ⟨⟨by decide +kernel, by decide +kernel⟩, List.mem_of_getElem? (i := 28) (by decide +kernel), List.mem_of_getElem? (i := 1086) (by decide +kernel), List.mem_of_getElem? (i := 1087) (by decide +kernel)⟩
theorem lw_p40 : lw_okq (⟨"java/lang/Throwable", "fillInStackTrace", "(I)Ljava/lang/Throwable;"⟩, 6) := ⟨⟨by decide +kernel, by decide +kernel⟩, List.mem_of_getElem? (i := 1179) (by decide +kernel), List.mem_of_getElem? (i := 1177) (by decide +kernel), List.mem_of_getElem? (i := 1178) (by decide +kernel)⟩
theorem lw_p41 : lw_okq (⟨"SnowForSummerModel", "begin", "([BII)V"⟩, 52) := ⟨⟨by decide +kernel, by decide +kernel⟩, List.mem_of_getElem? (i := 1232) (by decide +kernel), List.mem_of_getElem? (i := 1415) (by decide +kernel), List.mem_of_getElem? (i := 1416) (by decide +kernel)⟩
theorem lw_p42 : lw_okq (⟨"SnowForSummerModel", "fine", "()Z"⟩, 52) := ⟨⟨by decide +kernel, by decide +kernel⟩, List.mem_of_getElem? (i := 1232) (by decide +kernel), List.mem_of_getElem? (i := 1419) (by decide +kernel), List.mem_of_getElem? (i := 1420) (by decide +kernel)⟩
theorem lw_p43 : lw_okq (⟨"SnowForSummerModel", "fault", "(I)V"⟩, 52) := ⟨⟨by decide +kernel, by decide +kernel⟩, List.mem_of_getElem? (i := 1232) (by decide +kernel), List.mem_of_getElem? (i := 1423) (by decide +kernel), List.mem_of_getElem? (i := 1424) (by decide +kernel)⟩
theorem lw_p44 : lw_okq (⟨"SnowForSummerModel", "number", "(III)I"⟩, 52) := ⟨⟨by decide +kernel, by decide +kernel⟩, List.mem_of_getElem? (i := 1232) (by decide +kernel), List.mem_of_getElem? (i := 1427) (by decide +kernel), List.mem_of_getElem? (i := 1428) (by decide +kernel)⟩
theorem lw_p45 : lw_okq (⟨"SnowForSummerModel", "here", "()I"⟩, 52) := ⟨⟨by decide +kernel, by decide +kernel⟩, List.mem_of_getElem? (i := 1232) (by decide +kernel), List.mem_of_getElem? (i := 1431) (by decide +kernel), List.mem_of_getElem? (i := 1432) (by decide +kernel)⟩
theorem lw_p46 : lw_okq (⟨"SnowForSummerModel", "need", "(C)V"⟩, 52) := ⟨⟨by decide +kernel, by decide +kernel⟩, List.mem_of_getElem? (i := 1232) (by decide +kernel), List.mem_of_getElem? (i := 1435) (by decide +kernel), List.mem_of_getElem? (i := 1436) (by decide +kernel)⟩
theorem lw_p47 : lw_okq (⟨"SnowForSummerModel", "passes", "(C)Z"⟩, 52) := ⟨⟨by decide +kernel, by decide +kernel⟩, List.mem_of_getElem? (i := 1232) (by decide +kernel), List.mem_of_getElem? (i := 1439) (by decide +kernel), List.mem_of_getElem? (i := 1440) (by decide +kernel)⟩
def lw_privs_3 : List (MethodName × Nat) := [(⟨"SnowForSummer$Hands", "tryNight", "(I)V"⟩, 7), (⟨"SnowForSummer$Hands", "costOf", "(LSnowForSummer$Walk;)I"⟩, 7), (⟨"SnowForSummer$Hands", "isChoice", "(LSnowForSummer$State;I)Z"⟩, 7), (⟨"SnowForSummer", "tellSweeping", "(I)I"⟩, 18), (⟨"SnowForSummer", "owedFrom", "(LSnowForSummer$State;IIZ)I"⟩, 18), (⟨"SnowForSummer", "isBetterLoose", "(II)Z"⟩, 18), (⟨"SnowForSummer", "bestRoof", "(II)I"⟩, 18), (⟨"SnowForSummer", "owesNothing", "(II)Z"⟩, 18), (⟨"java/lang/Throwable", "fillInStackTrace", "(I)Ljava/lang/Throwable;"⟩, 6), (⟨"SnowForSummerModel", "begin", "([BII)V"⟩, 52), (⟨"SnowForSummerModel", "fine", "()Z"⟩, 52), (⟨"SnowForSummerModel", "fault", "(I)V"⟩, 52), (⟨"SnowForSummerModel", "number", "(III)I"⟩, 52), (⟨"SnowForSummerModel", "here", "()I"⟩, 52), (⟨"SnowForSummerModel", "need", "(C)V"⟩, 52), (⟨"SnowForSummerModel", "passes", "(C)Z"⟩, 52)]
theorem lw_r3 : ∀ q ∈ lw_privs_3, lw_okq q := List.forall_mem_cons.mpr ⟨lw_p32, List.forall_mem_cons.mpr ⟨lw_p33, List.forall_mem_cons.mpr ⟨lw_p34, List.forall_mem_cons.mpr ⟨lw_p35, List.forall_mem_cons.mpr ⟨lw_p36, List.forall_mem_cons.mpr ⟨lw_p37, List.forall_mem_cons.mpr ⟨lw_p38, List.forall_mem_cons.mpr ⟨lw_p39, List.forall_mem_cons.mpr ⟨lw_p40, List.forall_mem_cons.mpr ⟨lw_p41, List.forall_mem_cons.mpr ⟨lw_p42, List.forall_mem_cons.mpr ⟨lw_p43, List.forall_mem_cons.mpr ⟨lw_p44, List.forall_mem_cons.mpr ⟨lw_p45, List.forall_mem_cons.mpr ⟨lw_p46, List.forall_mem_cons.mpr ⟨lw_p47, fun _ h => absurd h List.not_mem_nil⟩⟩⟩⟩⟩⟩⟩⟩⟩⟩⟩⟩⟩⟩⟩⟩
theorem lw_p48 : lw_okq (⟨"SnowForSummerModel", "weatherOf", "(I)I"⟩, 52) := ⟨⟨by decide +kernel, by decide +kernel⟩, List.mem_of_getElem? (i := 1232) (by decide +kernel), List.mem_of_getElem? (i := 1456) (by decide +kernel), List.mem_of_getElem? (i := 1457) (by decide +kernel)⟩
theorem lw_p49 : lw_okq (⟨"SnowForSummerModel", "held", "(I)I"⟩, 52) := ⟨⟨by decide +kernel, by decide +kernel⟩, List.mem_of_getElem? (i := 1232) (by decide +kernel), List.mem_of_getElem? (i := 1464) (by decide +kernel), List.mem_of_getElem? (i := 1465) (by decide +kernel)⟩
theorem lw_p50 : lw_okq (⟨"SnowForSummerModel", "sum", "(I)I"⟩, 52) := ⟨⟨by decide +kernel, by decide +kernel⟩, List.mem_of_getElem? (i := 1232) (by decide +kernel), List.mem_of_getElem? (i := 1468) (by decide +kernel), List.mem_of_getElem? (i := 1469) (by decide +kernel)⟩
theorem lw_p51 : lw_okq (⟨"SnowForSummerModel", "product", "(I)I"⟩, 52) := ⟨⟨by decide +kernel, by decide +kernel⟩, List.mem_of_getElem? (i := 1232) (by decide +kernel), List.mem_of_getElem? (i := 1472) (by decide +kernel), List.mem_of_getElem? (i := 1473) (by decide +kernel)⟩
theorem lw_p52 : lw_okq (⟨"SnowForSummerModel", "thing", "(I)I"⟩, 52) := ⟨⟨by decide +kernel, by decide +kernel⟩, List.mem_of_getElem? (i := 1232) (by decide +kernel), List.mem_of_getElem? (i := 1476) (by decide +kernel), List.mem_of_getElem? (i := 1477) (by decide +kernel)⟩
theorem lw_p53 : lw_okq (⟨"SnowForSummerModel", "letter", "(I)I"⟩, 52) := ⟨⟨by decide +kernel, by decide +kernel⟩, List.mem_of_getElem? (i := 1232) (by decide +kernel), List.mem_of_getElem? (i := 1480) (by decide +kernel), List.mem_of_getElem? (i := 1481) (by decide +kernel)⟩
theorem lw_p54 : lw_okq (⟨"SnowForSummerModel", "thawOf", "(I)I"⟩, 52) := ⟨⟨by decide +kernel, by decide +kernel⟩, List.mem_of_getElem? (i := 1232) (by decide +kernel), List.mem_of_getElem? (i := 1484) (by decide +kernel), List.mem_of_getElem? (i := 1485) (by decide +kernel)⟩
theorem lw_p55 : lw_okq (⟨"SnowForSummerModel", "isHouse", "(I)Z"⟩, 52) := ⟨⟨by decide +kernel, by decide +kernel⟩, List.mem_of_getElem? (i := 1232) (by decide +kernel), List.mem_of_getElem? (i := 1493) (by decide +kernel), List.mem_of_getElem? (i := 1494) (by decide +kernel)⟩
theorem lw_p56 : lw_okq (⟨"SnowForSummerModel", "lost", "()I"⟩, 52) := ⟨⟨by decide +kernel, by decide +kernel⟩, List.mem_of_getElem? (i := 1232) (by decide +kernel), List.mem_of_getElem? (i := 1497) (by decide +kernel), List.mem_of_getElem? (i := 1498) (by decide +kernel)⟩
theorem lw_p57 : lw_okq (⟨"SnowForSummerModel", "owed", "(I)I"⟩, 52) := ⟨⟨by decide +kernel, by decide +kernel⟩, List.mem_of_getElem? (i := 1232) (by decide +kernel), List.mem_of_getElem? (i := 1504) (by decide +kernel), List.mem_of_getElem? (i := 1505) (by decide +kernel)⟩
theorem lw_p58 : lw_okq (⟨"SnowForSummerModel", "tell", "(I)V"⟩, 52) := ⟨⟨by decide +kernel, by decide +kernel⟩, List.mem_of_getElem? (i := 1232) (by decide +kernel), List.mem_of_getElem? (i := 1522) (by decide +kernel), List.mem_of_getElem? (i := 1523) (by decide +kernel)⟩
theorem lw_p59 : lw_okq (⟨"SnowForSummerModel", "areTwo", "(II)Z"⟩, 52) := ⟨⟨by decide +kernel, by decide +kernel⟩, List.mem_of_getElem? (i := 1232) (by decide +kernel), List.mem_of_getElem? (i := 1530) (by decide +kernel), List.mem_of_getElem? (i := 1531) (by decide +kernel)⟩
theorem lw_p60 : lw_okq (⟨"SnowForSummerModel", "remember", "([I)V"⟩, 52) := ⟨⟨by decide +kernel, by decide +kernel⟩, List.mem_of_getElem? (i := 1232) (by decide +kernel), List.mem_of_getElem? (i := 1538) (by decide +kernel), List.mem_of_getElem? (i := 1539) (by decide +kernel)⟩
theorem lw_p61 : lw_okq (⟨"SnowForSummerModel", "tellDays", "(I)I"⟩, 52) := ⟨⟨by decide +kernel, by decide +kernel⟩, List.mem_of_getElem? (i := 1232) (by decide +kernel), List.mem_of_getElem? (i := 1545) (by decide +kernel), List.mem_of_getElem? (i := 1546) (by decide +kernel)⟩
theorem lw_p62 : lw_okq (⟨"SnowForSummerModel", "beginCount", "()V"⟩, 52) := ⟨⟨by decide +kernel, by decide +kernel⟩, List.mem_of_getElem? (i := 1232) (by decide +kernel), List.mem_of_getElem? (i := 1549) (by decide +kernel), List.mem_of_getElem? (i := 1550) (by decide +kernel)⟩
theorem lw_p63 : lw_okq (⟨"SnowForSummerModel", "goDay", "([I)V"⟩, 52) := ⟨⟨by decide +kernel, by decide +kernel⟩, List.mem_of_getElem? (i := 1232) (by decide +kernel), List.mem_of_getElem? (i := 1553) (by decide +kernel), List.mem_of_getElem? (i := 1554) (by decide +kernel)⟩
def lw_privs_4 : List (MethodName × Nat) := [(⟨"SnowForSummerModel", "weatherOf", "(I)I"⟩, 52), (⟨"SnowForSummerModel", "held", "(I)I"⟩, 52), (⟨"SnowForSummerModel", "sum", "(I)I"⟩, 52), (⟨"SnowForSummerModel", "product", "(I)I"⟩, 52), (⟨"SnowForSummerModel", "thing", "(I)I"⟩, 52), (⟨"SnowForSummerModel", "letter", "(I)I"⟩, 52), (⟨"SnowForSummerModel", "thawOf", "(I)I"⟩, 52), (⟨"SnowForSummerModel", "isHouse", "(I)Z"⟩, 52), (⟨"SnowForSummerModel", "lost", "()I"⟩, 52), (⟨"SnowForSummerModel", "owed", "(I)I"⟩, 52), (⟨"SnowForSummerModel", "tell", "(I)V"⟩, 52), (⟨"SnowForSummerModel", "areTwo", "(II)Z"⟩, 52), (⟨"SnowForSummerModel", "remember", "([I)V"⟩, 52), (⟨"SnowForSummerModel", "tellDays", "(I)I"⟩, 52), (⟨"SnowForSummerModel", "beginCount", "()V"⟩, 52), (⟨"SnowForSummerModel", "goDay", "([I)V"⟩, 52)]
theorem lw_r4 : ∀ q ∈ lw_privs_4, lw_okq q := List.forall_mem_cons.mpr ⟨lw_p48, List.forall_mem_cons.mpr ⟨lw_p49, List.forall_mem_cons.mpr ⟨lw_p50, List.forall_mem_cons.mpr ⟨lw_p51, List.forall_mem_cons.mpr ⟨lw_p52, List.forall_mem_cons.mpr ⟨lw_p53, List.forall_mem_cons.mpr ⟨lw_p54, List.forall_mem_cons.mpr ⟨lw_p55, List.forall_mem_cons.mpr ⟨lw_p56, List.forall_mem_cons.mpr ⟨lw_p57, List.forall_mem_cons.mpr ⟨lw_p58, List.forall_mem_cons.mpr ⟨lw_p59, List.forall_mem_cons.mpr ⟨lw_p60, List.forall_mem_cons.mpr ⟨lw_p61, List.forall_mem_cons.mpr ⟨lw_p62, List.forall_mem_cons.mpr ⟨lw_p63, fun _ h => absurd h List.not_mem_nil⟩⟩⟩⟩⟩⟩⟩⟩⟩⟩⟩⟩⟩⟩⟩⟩
theorem lw_p64 : lw_okq (⟨"SnowForSummerModel", "slide", "([IIII)V"⟩, 52) := ⟨⟨by decide +kernel, by decide +kernel⟩, List.mem_of_getElem? (i := 1232) (by decide +kernel), List.mem_of_getElem? (i := 1557) (by decide +kernel), List.mem_of_getElem? (i := 1558) (by decide +kernel)⟩
theorem lw_p65 : lw_okq (⟨"SnowForSummerModel", "ruled", "()I"⟩, 52) := ⟨⟨by decide +kernel, by decide +kernel⟩, List.mem_of_getElem? (i := 1232) (by decide +kernel), List.mem_of_getElem? (i := 1561) (by decide +kernel), List.mem_of_getElem? (i := 1562) (by decide +kernel)⟩
theorem lw_p66 : lw_okq (⟨"SnowForSummerModel", "paths", "([I)I"⟩, 52) := ⟨⟨by decide +kernel, by decide +kernel⟩, List.mem_of_getElem? (i := 1232) (by decide +kernel), List.mem_of_getElem? (i := 1565) (by decide +kernel), List.mem_of_getElem? (i := 1566) (by decide +kernel)⟩
theorem lw_p67 : lw_okq (⟨"SnowForSummerModel", "sweepRefusal", "(II)I"⟩, 52) := ⟨⟨by decide +kernel, by decide +kernel⟩, List.mem_of_getElem? (i := 1232) (by decide +kernel), List.mem_of_getElem? (i := 1577) (by decide +kernel), List.mem_of_getElem? (i := 1578) (by decide +kernel)⟩
theorem lw_p68 : lw_okq (⟨"SnowForSummerModel", "isSide", "(I)Z"⟩, 52) := ⟨⟨by decide +kernel, by decide +kernel⟩, List.mem_of_getElem? (i := 1232) (by decide +kernel), List.mem_of_getElem? (i := 1581) (by decide +kernel), List.mem_of_getElem? (i := 1582) (by decide +kernel)⟩
theorem lw_p69 : lw_okq (⟨"SnowForSummerModel", "clearRefusal", "(II)I"⟩, 52) := ⟨⟨by decide +kernel, by decide +kernel⟩, List.mem_of_getElem? (i := 1232) (by decide +kernel), List.mem_of_getElem? (i := 1592) (by decide +kernel), List.mem_of_getElem? (i := 1593) (by decide +kernel)⟩
theorem lw_p70 : lw_okq (⟨"SnowForSummerModel", "looseRefusal", "(II)I"⟩, 52) := ⟨⟨by decide +kernel, by decide +kernel⟩, List.mem_of_getElem? (i := 1232) (by decide +kernel), List.mem_of_getElem? (i := 1604) (by decide +kernel), List.mem_of_getElem? (i := 1605) (by decide +kernel)⟩
theorem lw_p71 : lw_okq (⟨"SnowForSummerModel", "readAct", "(I)V"⟩, 52) := ⟨⟨by decide +kernel, by decide +kernel⟩, List.mem_of_getElem? (i := 1232) (by decide +kernel), List.mem_of_getElem? (i := 1616) (by decide +kernel), List.mem_of_getElem? (i := 1617) (by decide +kernel)⟩
theorem lw_p72 : lw_okq (⟨"SnowForSummerModel", "act", "(I)Z"⟩, 52) := ⟨⟨by decide +kernel, by decide +kernel⟩, List.mem_of_getElem? (i := 1232) (by decide +kernel), List.mem_of_getElem? (i := 1620) (by decide +kernel), List.mem_of_getElem? (i := 1621) (by decide +kernel)⟩
theorem lw_p73 : lw_okq (⟨"SnowForSummerModel", "findRing", "()I"⟩, 52) := ⟨⟨by decide +kernel, by decide +kernel⟩, List.mem_of_getElem? (i := 1232) (by decide +kernel), List.mem_of_getElem? (i := 1632) (by decide +kernel), List.mem_of_getElem? (i := 1633) (by decide +kernel)⟩
theorem lw_p74 : lw_okq (⟨"SnowForSummerModel", "goRing", "(I)V"⟩, 52) := ⟨⟨by decide +kernel, by decide +kernel⟩, List.mem_of_getElem? (i := 1232) (by decide +kernel), List.mem_of_getElem? (i := 1637) (by decide +kernel), List.mem_of_getElem? (i := 1638) (by decide +kernel)⟩
theorem lw_p75 : lw_okq (⟨"SnowForSummerModel", "clearRing", "(I)I"⟩, 52) := ⟨⟨by decide +kernel, by decide +kernel⟩, List.mem_of_getElem? (i := 1232) (by decide +kernel), List.mem_of_getElem? (i := 1645) (by decide +kernel), List.mem_of_getElem? (i := 1646) (by decide +kernel)⟩
theorem lw_p76 : lw_okq (⟨"SnowForSummerModel", "netOf", "(I)I"⟩, 52) := ⟨⟨by decide +kernel, by decide +kernel⟩, List.mem_of_getElem? (i := 1232) (by decide +kernel), List.mem_of_getElem? (i := 1657) (by decide +kernel), List.mem_of_getElem? (i := 1658) (by decide +kernel)⟩
theorem lw_p77 : lw_okq (⟨"SnowForSummerModel", "allOwed", "()I"⟩, 52) := ⟨⟨by decide +kernel, by decide +kernel⟩, List.mem_of_getElem? (i := 1232) (by decide +kernel), List.mem_of_getElem? (i := 1665) (by decide +kernel), List.mem_of_getElem? (i := 1666) (by decide +kernel)⟩
theorem lw_p78 : lw_okq (⟨"SnowForSummerModel", "greatestDebtor", "()I"⟩, 52) := ⟨⟨by decide +kernel, by decide +kernel⟩, List.mem_of_getElem? (i := 1232) (by decide +kernel), List.mem_of_getElem? (i := 1677) (by decide +kernel), List.mem_of_getElem? (i := 1678) (by decide +kernel)⟩
theorem lw_p79 : lw_okq (⟨"SnowForSummerModel", "wanting", "(I)I"⟩, 52) := ⟨⟨by decide +kernel, by decide +kernel⟩, List.mem_of_getElem? (i := 1232) (by decide +kernel), List.mem_of_getElem? (i := 1689) (by decide +kernel), List.mem_of_getElem? (i := 1690) (by decide +kernel)⟩
def lw_privs_5 : List (MethodName × Nat) := [(⟨"SnowForSummerModel", "slide", "([IIII)V"⟩, 52), (⟨"SnowForSummerModel", "ruled", "()I"⟩, 52), (⟨"SnowForSummerModel", "paths", "([I)I"⟩, 52), (⟨"SnowForSummerModel", "sweepRefusal", "(II)I"⟩, 52), (⟨"SnowForSummerModel", "isSide", "(I)Z"⟩, 52), (⟨"SnowForSummerModel", "clearRefusal", "(II)I"⟩, 52), (⟨"SnowForSummerModel", "looseRefusal", "(II)I"⟩, 52), (⟨"SnowForSummerModel", "readAct", "(I)V"⟩, 52), (⟨"SnowForSummerModel", "act", "(I)Z"⟩, 52), (⟨"SnowForSummerModel", "findRing", "()I"⟩, 52), (⟨"SnowForSummerModel", "goRing", "(I)V"⟩, 52), (⟨"SnowForSummerModel", "clearRing", "(I)I"⟩, 52), (⟨"SnowForSummerModel", "netOf", "(I)I"⟩, 52), (⟨"SnowForSummerModel", "allOwed", "()I"⟩, 52), (⟨"SnowForSummerModel", "greatestDebtor", "()I"⟩, 52), (⟨"SnowForSummerModel", "wanting", "(I)I"⟩, 52)]
theorem lw_r5 : ∀ q ∈ lw_privs_5, lw_okq q := List.forall_mem_cons.mpr ⟨lw_p64, List.forall_mem_cons.mpr ⟨lw_p65, List.forall_mem_cons.mpr ⟨lw_p66, List.forall_mem_cons.mpr ⟨lw_p67, List.forall_mem_cons.mpr ⟨lw_p68, List.forall_mem_cons.mpr ⟨lw_p69, List.forall_mem_cons.mpr ⟨lw_p70, List.forall_mem_cons.mpr ⟨lw_p71, List.forall_mem_cons.mpr ⟨lw_p72, List.forall_mem_cons.mpr ⟨lw_p73, List.forall_mem_cons.mpr ⟨lw_p74, List.forall_mem_cons.mpr ⟨lw_p75, List.forall_mem_cons.mpr ⟨lw_p76, List.forall_mem_cons.mpr ⟨lw_p77, List.forall_mem_cons.mpr ⟨lw_p78, List.forall_mem_cons.mpr ⟨lw_p79, fun _ h => absurd h List.not_mem_nil⟩⟩⟩⟩⟩⟩⟩⟩⟩⟩⟩⟩⟩⟩⟩⟩
theorem lw_p80 : lw_okq (⟨"SnowForSummerModel", "goJune", "(I)V"⟩, 52) := ⟨⟨by decide +kernel, by decide +kernel⟩, List.mem_of_getElem? (i := 1232) (by decide +kernel), List.mem_of_getElem? (i := 1693) (by decide +kernel), List.mem_of_getElem? (i := 1694) (by decide +kernel)⟩
theorem lw_p81 : lw_okq (⟨"SnowForSummerModel", "goOn", "(I)V"⟩, 52) := ⟨⟨by decide +kernel, by decide +kernel⟩, List.mem_of_getElem? (i := 1232) (by decide +kernel), List.mem_of_getElem? (i := 1712) (by decide +kernel), List.mem_of_getElem? (i := 1713) (by decide +kernel)⟩
theorem lw_p82 : lw_okq (⟨"SnowForSummerModel", "isBareOf", "()Z"⟩, 52) := ⟨⟨by decide +kernel, by decide +kernel⟩, List.mem_of_getElem? (i := 1232) (by decide +kernel), List.mem_of_getElem? (i := 1740) (by decide +kernel), List.mem_of_getElem? (i := 1741) (by decide +kernel)⟩
theorem lw_p83 : lw_okq (⟨"SnowForSummerModel", "bestBy", "(III)I"⟩, 52) := ⟨⟨by decide +kernel, by decide +kernel⟩, List.mem_of_getElem? (i := 1232) (by decide +kernel), List.mem_of_getElem? (i := 1760) (by decide +kernel), List.mem_of_getElem? (i := 1761) (by decide +kernel)⟩
theorem lw_p84 : lw_okq (⟨"SnowForSummerModel", "owedByPlan", "(III)I"⟩, 52) := ⟨⟨by decide +kernel, by decide +kernel⟩, List.mem_of_getElem? (i := 1232) (by decide +kernel), List.mem_of_getElem? (i := 1764) (by decide +kernel), List.mem_of_getElem? (i := 1765) (by decide +kernel)⟩
theorem lw_p85 : lw_okq (⟨"SnowForSummerModel", "compare", "([III)V"⟩, 52) := ⟨⟨by decide +kernel, by decide +kernel⟩, List.mem_of_getElem? (i := 1232) (by decide +kernel), List.mem_of_getElem? (i := 1776) (by decide +kernel), List.mem_of_getElem? (i := 1777) (by decide +kernel)⟩
theorem lw_p86 : lw_okq (⟨"SnowForSummerModel", "owedIn", "(I)I"⟩, 52) := ⟨⟨by decide +kernel, by decide +kernel⟩, List.mem_of_getElem? (i := 1232) (by decide +kernel), List.mem_of_getElem? (i := 1788) (by decide +kernel), List.mem_of_getElem? (i := 1789) (by decide +kernel)⟩
theorem lw_p87 : lw_okq (⟨"SnowForSummerModel", "turn", "(I)V"⟩, 52) := ⟨⟨by decide +kernel, by decide +kernel⟩, List.mem_of_getElem? (i := 1232) (by decide +kernel), List.mem_of_getElem? (i := 1796) (by decide +kernel), List.mem_of_getElem? (i := 1797) (by decide +kernel)⟩
theorem lw_p88 : lw_okq (⟨"SnowForSummerModel", "outIn", "(I)I"⟩, 52) := ⟨⟨by decide +kernel, by decide +kernel⟩, List.mem_of_getElem? (i := 1232) (by decide +kernel), List.mem_of_getElem? (i := 1823) (by decide +kernel), List.mem_of_getElem? (i := 1824) (by decide +kernel)⟩
def lw_privs_6 : List (MethodName × Nat) := [(⟨"SnowForSummerModel", "goJune", "(I)V"⟩, 52), (⟨"SnowForSummerModel", "goOn", "(I)V"⟩, 52), (⟨"SnowForSummerModel", "isBareOf", "()Z"⟩, 52), (⟨"SnowForSummerModel", "bestBy", "(III)I"⟩, 52), (⟨"SnowForSummerModel", "owedByPlan", "(III)I"⟩, 52), (⟨"SnowForSummerModel", "compare", "([III)V"⟩, 52), (⟨"SnowForSummerModel", "owedIn", "(I)I"⟩, 52), (⟨"SnowForSummerModel", "turn", "(I)V"⟩, 52), (⟨"SnowForSummerModel", "outIn", "(I)I"⟩, 52)]
theorem lw_r6 : ∀ q ∈ lw_privs_6, lw_okq q := List.forall_mem_cons.mpr ⟨lw_p80, List.forall_mem_cons.mpr ⟨lw_p81, List.forall_mem_cons.mpr ⟨lw_p82, List.forall_mem_cons.mpr ⟨lw_p83, List.forall_mem_cons.mpr ⟨lw_p84, List.forall_mem_cons.mpr ⟨lw_p85, List.forall_mem_cons.mpr ⟨lw_p86, List.forall_mem_cons.mpr ⟨lw_p87, List.forall_mem_cons.mpr ⟨lw_p88, fun _ h => absurd h List.not_mem_nil⟩⟩⟩⟩⟩⟩⟩⟩⟩
def lw_privs : List (MethodName × Nat) := lw_privs_1 ++ (lw_privs_2 ++ (lw_privs_3 ++ (lw_privs_4 ++ (lw_privs_5 ++ (lw_privs_6)))))
def lw_tbl : List Cond := k2_sels lw_privs ++ tables_1
theorem lw_privs_ok : ∀ q ∈ lw_privs, lw_okq q := by
  show ∀ q ∈ lw_privs_1 ++ (lw_privs_2 ++ (lw_privs_3 ++ (lw_privs_4 ++ (lw_privs_5 ++ (lw_privs_6))))), lw_okq q
  exact List.forall_mem_append.mpr ⟨lw_r1, List.forall_mem_append.mpr ⟨lw_r2, List.forall_mem_append.mpr ⟨lw_r3, List.forall_mem_append.mpr ⟨lw_r4, List.forall_mem_append.mpr ⟨lw_r5, lw_r6⟩⟩⟩⟩⟩
def RX0 : String := "SnowForSummer$Acts"
def TX0 : u_T := fun k => match k with
  | 0 => ("SnowForSummer$Acts", "kind", "[I", true)
  | 1 => ("SnowForSummer$Acts", "first", "[I", true)
  | 2 => ("SnowForSummer$Acts", "second", "[I", true)
  | _ => ("SnowForSummer$Acts", "size", "I", false)
def tyX0 : Nat → FieldType := fun k => match k with
  | 0 => .array .int
  | 1 => .array .int
  | 2 => .array .int
  | _ => .int
abbrev wsX00 : List Cond := u_ws RX0 TX0 4
theorem nmX0 : ∀ a, a < 4 → ∀ b, b < 4 → a ≠ b → (TX0 a).2.1 ≠ (TX0 b).2.1 := by decide +kernel
theorem tyX0_ok : ∀ k, k < 4 → parseFieldDescriptor (TX0 k).2.2.1 = some (tyX0 k) := by decide +kernel
abbrev cX0_init : ByteArray := prog_2_method_1_code
def yX0_init : MethodName := ⟨RX0, "<init>", "()V"⟩
abbrev cX0_read : ByteArray := prog_2_method_2_code
def yX0_read : MethodName := ⟨RX0, "read", "(LSnowForSummer$Text;)Z"⟩
abbrev cX0_readAct : ByteArray := prog_2_method_3_code
def yX0_readAct : MethodName := ⟨RX0, "readAct", "(LSnowForSummer$Text;I)Z"⟩
abbrev cX0_readSide : ByteArray := prog_2_method_4_code
def yX0_readSide : MethodName := ⟨RX0, "readSide", "(LSnowForSummer$Text;)I"⟩
abbrev cX0_readInches : ByteArray := prog_2_method_5_code
def yX0_readInches : MethodName := ⟨RX0, "readInches", "(LSnowForSummer$Text;I)Z"⟩
def RX1 : String := "SnowForSummer$Hands"
def TX1 : u_T := fun k => match k with
  | 0 => ("SnowForSummer$Hands", "walks", "[LSnowForSummer$Walk;", true)
  | 1 => ("SnowForSummer$Hands", "chosen", "[I", true)
  | 2 => ("SnowForSummer$Hands", "bestRow", "[I", true)
  | 3 => ("SnowForSummer$Hands", "house", "I", false)
  | 4 => ("SnowForSummer$Hands", "count", "I", false)
  | 5 => ("SnowForSummer$Hands", "inches", "I", false)
  | _ => ("SnowForSummer$Hands", "fewest", "I", false)
def tyX1 : Nat → FieldType := fun k => match k with
  | 0 => .array (.object "SnowForSummer$Walk")
  | 1 => .array .int
  | 2 => .array .int
  | 3 => .int
  | 4 => .int
  | 5 => .int
  | _ => .int
abbrev wsX10 : List Cond := u_ws RX1 TX1 7
theorem nmX1 : ∀ a, a < 7 → ∀ b, b < 7 → a ≠ b → (TX1 a).2.1 ≠ (TX1 b).2.1 := by decide +kernel
theorem tyX1_ok : ∀ k, k < 7 → parseFieldDescriptor (TX1 k).2.2.1 = some (tyX1 k) := by decide +kernel
abbrev cX1_init : ByteArray := prog_3_method_1_code
def yX1_init : MethodName := ⟨RX1, "<init>", "(LSnowForSummer$Town;LSnowForSummer$Weather;LSnowForSummer$Rule;)V"⟩
abbrev cX1_look : ByteArray := prog_3_method_2_code
def yX1_look : MethodName := ⟨RX1, "look", "(LSnowForSummer$State;III)I"⟩
abbrev cX1_tryNight : ByteArray := prog_3_method_3_code
def yX1_tryNight : MethodName := ⟨RX1, "tryNight", "(I)V"⟩
abbrev cX1_isChoice : ByteArray := prog_3_method_4_code
def yX1_isChoice : MethodName := ⟨RX1, "isChoice", "(LSnowForSummer$State;I)Z"⟩
abbrev cX1_costOf : ByteArray := prog_3_method_5_code
def yX1_costOf : MethodName := ⟨RX1, "costOf", "(LSnowForSummer$Walk;)I"⟩
def RX2 : String := "SnowForSummer$History"
def TX2 : u_T := fun k => match k with
  | 0 => ("SnowForSummer$History", "states", "[LSnowForSummer$State;", true)
  | 1 => ("SnowForSummer$History", "size", "I", false)
  | _ => ("SnowForSummer$History", "next", "I", false)
def tyX2 : Nat → FieldType := fun k => match k with
  | 0 => .array (.object "SnowForSummer$State")
  | 1 => .int
  | _ => .int
abbrev wsX20 : List Cond := u_ws RX2 TX2 3
theorem nmX2 : ∀ a, a < 3 → ∀ b, b < 3 → a ≠ b → (TX2 a).2.1 ≠ (TX2 b).2.1 := by decide +kernel
theorem tyX2_ok : ∀ k, k < 3 → parseFieldDescriptor (TX2 k).2.2.1 = some (tyX2 k) := by decide +kernel
abbrev cX2_init : ByteArray := prog_4_method_1_code
def yX2_init : MethodName := ⟨RX2, "<init>", "()V"⟩
abbrev cX2_push : ByteArray := prog_4_method_2_code
def yX2_push : MethodName := ⟨RX2, "push", "(LSnowForSummer$State;)V"⟩
abbrev cX2_pop : ByteArray := prog_4_method_3_code
def yX2_pop : MethodName := ⟨RX2, "pop", "(LSnowForSummer$State;)V"⟩
abbrev cX2_forget : ByteArray := prog_4_method_4_code
def yX2_forget : MethodName := ⟨RX2, "forget", "()V"⟩
def RX3 : String := "SnowForSummer$Ring"
def TX3 : u_T := fun k => match k with
  | 0 => ("SnowForSummer$Ring", "members", "[I", true)
  | 1 => ("SnowForSummer$Ring", "steps", "[I", true)
  | 2 => ("SnowForSummer$Ring", "size", "I", false)
  | _ => ("SnowForSummer$Ring", "least", "I", false)
def tyX3 : Nat → FieldType := fun k => match k with
  | 0 => .array .int
  | 1 => .array .int
  | 2 => .int
  | _ => .int
abbrev wsX30 : List Cond := u_ws RX3 TX3 4
theorem nmX3 : ∀ a, a < 4 → ∀ b, b < 4 → a ≠ b → (TX3 a).2.1 ≠ (TX3 b).2.1 := by decide +kernel
theorem tyX3_ok : ∀ k, k < 4 → parseFieldDescriptor (TX3 k).2.2.1 = some (tyX3 k) := by decide +kernel
abbrev cX3_init : ByteArray := prog_5_method_1_code
def yX3_init : MethodName := ⟨RX3, "<init>", "()V"⟩
abbrev cX3_find : ByteArray := prog_5_method_2_code
def yX3_find : MethodName := ⟨RX3, "find", "(LSnowForSummer$State;)Z"⟩
abbrev cX3_measure : ByteArray := prog_5_method_3_code
def yX3_measure : MethodName := ⟨RX3, "measure", "(LSnowForSummer$State;I)V"⟩
abbrev cX3_nearest : ByteArray := prog_5_method_4_code
def yX3_nearest : MethodName := ⟨RX3, "nearest", "(LSnowForSummer$State;II)I"⟩
abbrev cX3_lengthFrom : ByteArray := prog_5_method_5_code
def yX3_lengthFrom : MethodName := ⟨RX3, "lengthFrom", "(LSnowForSummer$State;I)I"⟩
abbrev cX3_lay : ByteArray := prog_5_method_6_code
def yX3_lay : MethodName := ⟨RX3, "lay", "(LSnowForSummer$State;I)V"⟩
abbrev cX3_nextOf : ByteArray := prog_5_method_7_code
def yX3_nextOf : MethodName := ⟨RX3, "nextOf", "(LSnowForSummer$State;III)I"⟩
abbrev cX3_clearIn : ByteArray := prog_5_method_8_code
def yX3_clearIn : MethodName := ⟨RX3, "clearIn", "(LSnowForSummer$State;)I"⟩
def RX4 : String := "SnowForSummer$Rule"
def TX4 : u_T := fun k => match k with
  | 0 => ("SnowForSummer$Rule", "code", "[I", true)
  | 1 => ("SnowForSummer$Rule", "draft", "[I", true)
  | 2 => ("SnowForSummer$Rule", "stack", "[I", true)
  | 3 => ("SnowForSummer$Rule", "things", "[I", true)
  | 4 => ("SnowForSummer$Rule", "length", "I", false)
  | _ => ("SnowForSummer$Rule", "drafted", "I", false)
def tyX4 : Nat → FieldType := fun k => match k with
  | 0 => .array .int
  | 1 => .array .int
  | 2 => .array .int
  | 3 => .array .int
  | 4 => .int
  | _ => .int
abbrev wsX40 : List Cond := u_ws RX4 TX4 6
theorem nmX4 : ∀ a, a < 6 → ∀ b, b < 6 → a ≠ b → (TX4 a).2.1 ≠ (TX4 b).2.1 := by decide +kernel
theorem tyX4_ok : ∀ k, k < 6 → parseFieldDescriptor (TX4 k).2.2.1 = some (tyX4 k) := by decide +kernel
abbrev cX4_init : ByteArray := prog_6_method_1_code
def yX4_init : MethodName := ⟨RX4, "<init>", "()V"⟩
abbrev cX4_read : ByteArray := prog_6_method_2_code
def yX4_read : MethodName := ⟨RX4, "read", "(LSnowForSummer$Text;)I"⟩
abbrev cX4_put : ByteArray := prog_6_method_3_code
def yX4_put : MethodName := ⟨RX4, "put", "(I)V"⟩
abbrev cX4_readComparison : ByteArray := prog_6_method_4_code
def yX4_readComparison : MethodName := ⟨RX4, "readComparison", "(LSnowForSummer$Text;I)Z"⟩
abbrev cX4_readSum : ByteArray := prog_6_method_5_code
def yX4_readSum : MethodName := ⟨RX4, "readSum", "(LSnowForSummer$Text;I)Z"⟩
abbrev cX4_readProduct : ByteArray := prog_6_method_6_code
def yX4_readProduct : MethodName := ⟨RX4, "readProduct", "(LSnowForSummer$Text;I)Z"⟩
abbrev cX4_readFactor : ByteArray := prog_6_method_7_code
def yX4_readFactor : MethodName := ⟨RX4, "readFactor", "(LSnowForSummer$Text;I)Z"⟩
abbrev cX4_readThing : ByteArray := prog_6_method_8_code
def yX4_readThing : MethodName := ⟨RX4, "readThing", "(LSnowForSummer$Text;I)Z"⟩
abbrev cX4_daysOwed : ByteArray := prog_6_method_9_code
def yX4_daysOwed : MethodName := ⟨RX4, "daysOwed", "()I"⟩
abbrev cX4_join : ByteArray := prog_6_method_10_code
def yX4_join : MethodName := ⟨RX4, "join", "(III)I"⟩
def RX5 : String := "SnowForSummer$State"
def TX5 : u_T := fun k => match k with
  | 0 => ("SnowForSummer$State", "snow", "[I", true)
  | 1 => ("SnowForSummer$State", "path", "[I", true)
  | 2 => ("SnowForSummer$State", "debt", "[I", true)
  | _ => ("SnowForSummer$State", "now", "I", false)
def tyX5 : Nat → FieldType := fun k => match k with
  | 0 => .array .int
  | 1 => .array .int
  | 2 => .array .int
  | _ => .int
abbrev wsX50 : List Cond := u_ws RX5 TX5 4
theorem nmX5 : ∀ a, a < 4 → ∀ b, b < 4 → a ≠ b → (TX5 a).2.1 ≠ (TX5 b).2.1 := by decide +kernel
theorem tyX5_ok : ∀ k, k < 4 → parseFieldDescriptor (TX5 k).2.2.1 = some (tyX5 k) := by decide +kernel
abbrev cX5_init : ByteArray := prog_7_method_1_code
def yX5_init : MethodName := ⟨RX5, "<init>", "()V"⟩
abbrev cX5_takeFrom : ByteArray := prog_7_method_2_code
def yX5_takeFrom : MethodName := ⟨RX5, "takeFrom", "(LSnowForSummer$State;)V"⟩
abbrev cX5_onRoofs : ByteArray := prog_7_method_3_code
def yX5_onRoofs : MethodName := ⟨RX5, "onRoofs", "()I"⟩
abbrev cX5_onPaths : ByteArray := prog_7_method_4_code
def yX5_onPaths : MethodName := ⟨RX5, "onPaths", "()I"⟩
abbrev cX5_owedInAll : ByteArray := prog_7_method_5_code
def yX5_owedInAll : MethodName := ⟨RX5, "owedInAll", "()I"⟩
abbrev cX5_sumOf : ByteArray := prog_7_method_6_code
def yX5_sumOf : MethodName := ⟨RX5, "sumOf", "([I)I"⟩
abbrev cX5_owedBy : ByteArray := prog_7_method_7_code
def yX5_owedBy : MethodName := ⟨RX5, "owedBy", "(I)I"⟩
abbrev cX5_owedTo : ByteArray := prog_7_method_8_code
def yX5_owedTo : MethodName := ⟨RX5, "owedTo", "(I)I"⟩
abbrev cX5_balance : ByteArray := prog_7_method_9_code
def yX5_balance : MethodName := ⟨RX5, "balance", "(I)I"⟩
abbrev cX5_creditorsOf : ByteArray := prog_7_method_10_code
def yX5_creditorsOf : MethodName := ⟨RX5, "creditorsOf", "(I)I"⟩
abbrev cX5_shift : ByteArray := prog_7_method_11_code
def yX5_shift : MethodName := ⟨RX5, "shift", "(II)I"⟩
abbrev cX5_lying : ByteArray := prog_7_method_12_code
def yX5_lying : MethodName := ⟨RX5, "lying", "(I)I"⟩
abbrev cX5_owe : ByteArray := prog_7_method_13_code
def yX5_owe : MethodName := ⟨RX5, "owe", "(III)V"⟩
abbrev cX5_owesAnew : ByteArray := prog_7_method_14_code
def yX5_owesAnew : MethodName := ⟨RX5, "owesAnew", "([I)I"⟩
def RX6 : String := "SnowForSummer$Text"
def TX6 : u_T := fun k => match k with
  | 0 => ("SnowForSummer$Text", "signs", "[I", true)
  | 1 => ("SnowForSummer$Text", "length", "I", false)
  | 2 => ("SnowForSummer$Text", "place", "I", false)
  | _ => ("SnowForSummer$Text", "limit", "I", false)
def tyX6 : Nat → FieldType := fun k => match k with
  | 0 => .array .int
  | 1 => .int
  | 2 => .int
  | _ => .int
abbrev wsX60 : List Cond := u_ws RX6 TX6 4
theorem nmX6 : ∀ a, a < 4 → ∀ b, b < 4 → a ≠ b → (TX6 a).2.1 ≠ (TX6 b).2.1 := by decide +kernel
theorem tyX6_ok : ∀ k, k < 4 → parseFieldDescriptor (TX6 k).2.2.1 = some (tyX6 k) := by decide +kernel
abbrev cX6_init : ByteArray := prog_8_method_1_code
def yX6_init : MethodName := ⟨RX6, "<init>", "()V"⟩
abbrev cX6_append : ByteArray := prog_8_method_2_code
def yX6_append : MethodName := ⟨RX6, "append", "(I)I"⟩
abbrev cX6_cut : ByteArray := prog_8_method_3_code
def yX6_cut : MethodName := ⟨RX6, "cut", "(I)Z"⟩
abbrev cX6_empty : ByteArray := prog_8_method_4_code
def yX6_empty : MethodName := ⟨RX6, "empty", "()V"⟩
abbrev cX6_open : ByteArray := prog_8_method_5_code
def yX6_open : MethodName := ⟨RX6, "open", "(I)V"⟩
abbrev cX6_peek : ByteArray := prog_8_method_6_code
def yX6_peek : MethodName := ⟨RX6, "peek", "()I"⟩
abbrev cX6_skip : ByteArray := prog_8_method_7_code
def yX6_skip : MethodName := ⟨RX6, "skip", "()V"⟩
abbrev cX6_stepBack : ByteArray := prog_8_method_8_code
def yX6_stepBack : MethodName := ⟨RX6, "stepBack", "()V"⟩
abbrev cX6_take : ByteArray := prog_8_method_9_code
def yX6_take : MethodName := ⟨RX6, "take", "(I)Z"⟩
abbrev cX6_takeDigit : ByteArray := prog_8_method_10_code
def yX6_takeDigit : MethodName := ⟨RX6, "takeDigit", "(II)I"⟩
abbrev cX6_takeNumber : ByteArray := prog_8_method_11_code
def yX6_takeNumber : MethodName := ⟨RX6, "takeNumber", "(I)I"⟩
abbrev cX6_isThrough : ByteArray := prog_8_method_12_code
def yX6_isThrough : MethodName := ⟨RX6, "isThrough", "()Z"⟩
abbrev cX6_fault : ByteArray := prog_8_method_13_code
def yX6_fault : MethodName := ⟨RX6, "fault", "()I"⟩
def RX7 : String := "SnowForSummer$Town"
def TX7 : u_T := fun k => match k with
  | 0 => ("SnowForSummer$Town", "hold", "[I", true)
  | 1 => ("SnowForSummer$Town", "below", "[I", true)
  | 2 => ("SnowForSummer$Town", "hay", "[I", true)
  | _ => ("SnowForSummer$Town", "houses", "I", false)
def tyX7 : Nat → FieldType := fun k => match k with
  | 0 => .array .int
  | 1 => .array .int
  | 2 => .array .int
  | _ => .int
abbrev wsX70 : List Cond := u_ws RX7 TX7 4
theorem nmX7 : ∀ a, a < 4 → ∀ b, b < 4 → a ≠ b → (TX7 a).2.1 ≠ (TX7 b).2.1 := by decide +kernel
theorem tyX7_ok : ∀ k, k < 4 → parseFieldDescriptor (TX7 k).2.2.1 = some (tyX7 k) := by decide +kernel
abbrev cX7_init : ByteArray := prog_9_method_1_code
def yX7_init : MethodName := ⟨RX7, "<init>", "()V"⟩
abbrev cX7_has : ByteArray := prog_9_method_2_code
def yX7_has : MethodName := ⟨RX7, "has", "(I)Z"⟩
abbrev cX7_hasTwo : ByteArray := prog_9_method_3_code
def yX7_hasTwo : MethodName := ⟨RX7, "hasTwo", "(II)Z"⟩
abbrev cX7_hasSide : ByteArray := prog_9_method_4_code
def yX7_hasSide : MethodName := ⟨RX7, "hasSide", "(I)Z"⟩
abbrev cX7_allBits : ByteArray := prog_9_method_5_code
def yX7_allBits : MethodName := ⟨RX7, "allBits", "()I"⟩
abbrev cX7_rebuild : ByteArray := prog_9_method_6_code
def yX7_rebuild : MethodName := ⟨RX7, "rebuild", "(II)I"⟩
abbrev cX7_read : ByteArray := prog_9_method_7_code
def yX7_read : MethodName := ⟨RX7, "read", "(LSnowForSummer$Text;)I"⟩
abbrev cX7_growTo : ByteArray := prog_9_method_8_code
def yX7_growTo : MethodName := ⟨RX7, "growTo", "(I)I"⟩
abbrev cX7_readLine : ByteArray := prog_9_method_9_code
def yX7_readLine : MethodName := ⟨RX7, "readLine", "(LSnowForSummer$Text;I)Z"⟩
abbrev cX7_readHay : ByteArray := prog_9_method_10_code
def yX7_readHay : MethodName := ⟨RX7, "readHay", "(LSnowForSummer$Text;)I"⟩
def RX8 : String := "SnowForSummer$Tracks"
def TX8 : u_T := fun k => match k with
  | 0 => ("SnowForSummer$Tracks", "house", "[I", true)
  | 1 => ("SnowForSummer$Tracks", "night", "[I", true)
  | 2 => ("SnowForSummer$Tracks", "out", "[I", true)
  | _ => ("SnowForSummer$Tracks", "size", "I", false)
def tyX8 : Nat → FieldType := fun k => match k with
  | 0 => .array .int
  | 1 => .array .int
  | 2 => .array .int
  | _ => .int
abbrev wsX80 : List Cond := u_ws RX8 TX8 4
theorem nmX8 : ∀ a, a < 4 → ∀ b, b < 4 → a ≠ b → (TX8 a).2.1 ≠ (TX8 b).2.1 := by decide +kernel
theorem tyX8_ok : ∀ k, k < 4 → parseFieldDescriptor (TX8 k).2.2.1 = some (tyX8 k) := by decide +kernel
abbrev cX8_init : ByteArray := prog_10_method_1_code
def yX8_init : MethodName := ⟨RX8, "<init>", "()V"⟩
abbrev cX8_add : ByteArray := prog_10_method_2_code
def yX8_add : MethodName := ⟨RX8, "add", "(II)I"⟩
abbrev cX8_forget : ByteArray := prog_10_method_3_code
def yX8_forget : MethodName := ⟨RX8, "forget", "()I"⟩
abbrev cX8_gather : ByteArray := prog_10_method_4_code
def yX8_gather : MethodName := ⟨RX8, "gather", "()V"⟩
abbrev cX8_areSeen : ByteArray := prog_10_method_5_code
def yX8_areSeen : MethodName := ⟨RX8, "areSeen", "(II)Z"⟩
def RX9 : String := "SnowForSummer$Walk"
def TX9 : u_T := fun k => match k with
  | 0 => ("SnowForSummer$Walk", "town", "LSnowForSummer$Town;", true)
  | 1 => ("SnowForSummer$Walk", "weather", "LSnowForSummer$Weather;", true)
  | 2 => ("SnowForSummer$Walk", "rule", "LSnowForSummer$Rule;", true)
  | 3 => ("SnowForSummer$Walk", "state", "LSnowForSummer$State;", true)
  | 4 => ("SnowForSummer$Walk", "owedBy", "[I", true)
  | 5 => ("SnowForSummer$Walk", "owed", "I", false)
  | 6 => ("SnowForSummer$Walk", "slides", "I", false)
  | 7 => ("SnowForSummer$Walk", "struck", "I", false)
  | _ => ("SnowForSummer$Walk", "slid", "I", false)
def tyX9 : Nat → FieldType := fun k => match k with
  | 0 => .object "SnowForSummer$Town"
  | 1 => .object "SnowForSummer$Weather"
  | 2 => .object "SnowForSummer$Rule"
  | 3 => .object "SnowForSummer$State"
  | 4 => .array .int
  | 5 => .int
  | 6 => .int
  | 7 => .int
  | _ => .int
abbrev wsX90 : List Cond := u_ws RX9 TX9 9
theorem nmX9 : ∀ a, a < 9 → ∀ b, b < 9 → a ≠ b → (TX9 a).2.1 ≠ (TX9 b).2.1 := by decide +kernel
theorem tyX9_ok : ∀ k, k < 9 → parseFieldDescriptor (TX9 k).2.2.1 = some (tyX9 k) := by decide +kernel
abbrev cX9_init : ByteArray := prog_11_method_1_code
def yX9_init : MethodName := ⟨RX9, "<init>", "(LSnowForSummer$Town;LSnowForSummer$Weather;LSnowForSummer$Rule;)V"⟩
abbrev cX9_beginAt : ByteArray := prog_11_method_2_code
def yX9_beginAt : MethodName := ⟨RX9, "beginAt", "(LSnowForSummer$State;)V"⟩
abbrev cX9_walkFrom : ByteArray := prog_11_method_3_code
def yX9_walkFrom : MethodName := ⟨RX9, "walkFrom", "(LSnowForSummer$State;I)V"⟩
abbrev cX9_clearTally : ByteArray := prog_11_method_4_code
def yX9_clearTally : MethodName := ⟨RX9, "clearTally", "()V"⟩
abbrev cX9_follow : ByteArray := prog_11_method_5_code
def yX9_follow : MethodName := ⟨RX9, "follow", "(LSnowForSummer$Walk;)V"⟩
abbrev cX9_goDays : ByteArray := prog_11_method_6_code
def yX9_goDays : MethodName := ⟨RX9, "goDays", "(I)V"⟩
abbrev cX9_goDay : ByteArray := prog_11_method_7_code
def yX9_goDay : MethodName := ⟨RX9, "goDay", "()V"⟩
abbrev cX9_fallOnTown : ByteArray := prog_11_method_8_code
def yX9_fallOnTown : MethodName := ⟨RX9, "fallOnTown", "(I)V"⟩
abbrev cX9_slideOff : ByteArray := prog_11_method_9_code
def yX9_slideOff : MethodName := ⟨RX9, "slideOff", "(IIZ)V"⟩
def RX10 : String := "SnowForSummer$Weather"
def TX10 : u_T := fun k => match k with
  | 0 => ("SnowForSummer$Weather", "inches", "[I", true)
  | 1 => ("SnowForSummer$Weather", "length", "I", false)
  | _ => ("SnowForSummer$Weather", "cycle", "I", false)
def tyX10 : Nat → FieldType := fun k => match k with
  | 0 => .array .int
  | 1 => .int
  | _ => .int
abbrev wsX100 : List Cond := u_ws RX10 TX10 3
theorem nmX10 : ∀ a, a < 3 → ∀ b, b < 3 → a ≠ b → (TX10 a).2.1 ≠ (TX10 b).2.1 := by decide +kernel
theorem tyX10_ok : ∀ k, k < 3 → parseFieldDescriptor (TX10 k).2.2.1 = some (tyX10 k) := by decide +kernel
abbrev cX10_init : ByteArray := prog_12_method_1_code
def yX10_init : MethodName := ⟨RX10, "<init>", "()V"⟩
abbrev cX10_read : ByteArray := prog_12_method_2_code
def yX10_read : MethodName := ⟨RX10, "read", "(LSnowForSummer$Text;)I"⟩
abbrev cX10_isWeather : ByteArray := prog_12_method_3_code
def yX10_isWeather : MethodName := ⟨RX10, "isWeather", "(I)Z"⟩
abbrev cX10_draw : ByteArray := prog_12_method_4_code
def yX10_draw : MethodName := ⟨RX10, "draw", "(II)I"⟩
abbrev cX10_inchesIn : ByteArray := prog_12_method_5_code
def yX10_inchesIn : MethodName := ⟨RX10, "inchesIn", "(I)I"⟩
def RX11 : String := "SnowForSummer"
def TX11 : u_T := fun k => match k with
  | 0 => ("SnowForSummer", "text", "LSnowForSummer$Text;", true)
  | 1 => ("SnowForSummer", "town", "LSnowForSummer$Town;", true)
  | 2 => ("SnowForSummer", "weather", "LSnowForSummer$Weather;", true)
  | 3 => ("SnowForSummer", "rule", "LSnowForSummer$Rule;", true)
  | 4 => ("SnowForSummer", "acts", "LSnowForSummer$Acts;", true)
  | 5 => ("SnowForSummer", "real", "LSnowForSummer$Walk;", true)
  | 6 => ("SnowForSummer", "trial", "LSnowForSummer$Walk;", true)
  | 7 => ("SnowForSummer", "round", "LSnowForSummer$Walk;", true)
  | 8 => ("SnowForSummer", "nights", "LSnowForSummer$Hands;", true)
  | 9 => ("SnowForSummer", "before", "LSnowForSummer$State;", true)
  | 10 => ("SnowForSummer", "history", "LSnowForSummer$History;", true)
  | 11 => ("SnowForSummer", "kept", "[LSnowForSummer$State;", true)
  | 12 => ("SnowForSummer", "keptHouses", "[I", true)
  | 13 => ("SnowForSummer", "shortest", "LSnowForSummer$Ring;", true)
  | 14 => ("SnowForSummer", "tracks", "LSnowForSummer$Tracks;", true)
  | 15 => ("SnowForSummer", "tally", "[I", true)
  | 16 => ("SnowForSummer", "told", "[I", true)
  | _ => ("SnowForSummer", "toldCount", "I", false)
def tyX11 : Nat → FieldType := fun k => match k with
  | 0 => .object "SnowForSummer$Text"
  | 1 => .object "SnowForSummer$Town"
  | 2 => .object "SnowForSummer$Weather"
  | 3 => .object "SnowForSummer$Rule"
  | 4 => .object "SnowForSummer$Acts"
  | 5 => .object "SnowForSummer$Walk"
  | 6 => .object "SnowForSummer$Walk"
  | 7 => .object "SnowForSummer$Walk"
  | 8 => .object "SnowForSummer$Hands"
  | 9 => .object "SnowForSummer$State"
  | 10 => .object "SnowForSummer$History"
  | 11 => .array (.object "SnowForSummer$State")
  | 12 => .array .int
  | 13 => .object "SnowForSummer$Ring"
  | 14 => .object "SnowForSummer$Tracks"
  | 15 => .array .int
  | 16 => .array .int
  | _ => .int
abbrev wsX110 : List Cond := u_ws RX11 TX11 18
theorem nmX11 : ∀ a, a < 18 → ∀ b, b < 18 → a ≠ b → (TX11 a).2.1 ≠ (TX11 b).2.1 := by decide +kernel
theorem tyX11_ok : ∀ k, k < 18 → parseFieldDescriptor (TX11 k).2.2.1 = some (tyX11 k) := by decide +kernel
abbrev cX11_init : ByteArray := prog_1_method_1_code
def yX11_init : MethodName := ⟨RX11, "<init>", "()V"⟩
abbrev cX11_sign : ByteArray := prog_1_method_2_code
def yX11_sign : MethodName := ⟨RX11, "sign", "(I)I"⟩
abbrev cX11_end : ByteArray := prog_1_method_3_code
def yX11_end : MethodName := ⟨RX11, "end", "(I)Z"⟩
abbrev cX11_town : ByteArray := prog_1_method_4_code
def yX11_town : MethodName := ⟨RX11, "town", "()I"⟩
abbrev cX11_weather : ByteArray := prog_1_method_5_code
def yX11_weather : MethodName := ⟨RX11, "weather", "()I"⟩
abbrev cX11_rule : ByteArray := prog_1_method_6_code
def yX11_rule : MethodName := ⟨RX11, "rule", "()I"⟩
abbrev cX11_winter : ByteArray := prog_1_method_7_code
def yX11_winter : MethodName := ⟨RX11, "winter", "(II)I"⟩
abbrev cX11_falls : ByteArray := prog_1_method_8_code
def yX11_falls : MethodName := ⟨RX11, "falls", "(I)I"⟩
abbrev cX11_of : ByteArray := prog_1_method_9_code
def yX11_of : MethodName := ⟨RX11, "of", "(II)I"⟩
abbrev cX11_set : ByteArray := prog_1_method_10_code
def yX11_set : MethodName := ⟨RX11, "set", "(III)I"⟩
abbrev cX11_exchange : ByteArray := prog_1_method_11_code
def yX11_exchange : MethodName := ⟨RX11, "exchange", "([IIIII)I"⟩
abbrev cX11_sheet : ByteArray := prog_1_method_12_code
def yX11_sheet : MethodName := ⟨RX11, "sheet", "(IIII)I"⟩
abbrev cX11_entryOf : ByteArray := prog_1_method_13_code
def yX11_entryOf : MethodName := ⟨RX11, "entryOf", "(II)I"⟩
abbrev cX11_above : ByteArray := prog_1_method_14_code
def yX11_above : MethodName := ⟨RX11, "above", "(I)I"⟩
abbrev cX11_debt : ByteArray := prog_1_method_15_code
def yX11_debt : MethodName := ⟨RX11, "debt", "(II)I"⟩
abbrev cX11_day : ByteArray := prog_1_method_16_code
def yX11_day : MethodName := ⟨RX11, "day", "()I"⟩
abbrev cX11_days : ByteArray := prog_1_method_17_code
def yX11_days : MethodName := ⟨RX11, "days", "(I)I"⟩
abbrev cX11_goOn : ByteArray := prog_1_method_18_code
def yX11_goOn : MethodName := ⟨RX11, "goOn", "(I)I"⟩
abbrev cX11_sweep : ByteArray := prog_1_method_19_code
def yX11_sweep : MethodName := ⟨RX11, "sweep", "(II)I"⟩
abbrev cX11_clear : ByteArray := prog_1_method_20_code
def yX11_clear : MethodName := ⟨RX11, "clear", "(II)I"⟩
abbrev cX11_wind : ByteArray := prog_1_method_21_code
def yX11_wind : MethodName := ⟨RX11, "wind", "(II)I"⟩
abbrev cX11_loose : ByteArray := prog_1_method_22_code
def yX11_loose : MethodName := ⟨RX11, "loose", "(II)I"⟩
abbrev cX11_work : ByteArray := prog_1_method_23_code
def yX11_work : MethodName := ⟨RX11, "work", "(III)I"⟩
abbrev cX11_night : ByteArray := prog_1_method_24_code
def yX11_night : MethodName := ⟨RX11, "night", "()I"⟩
abbrev cX11_doAct : ByteArray := prog_1_method_25_code
def yX11_doAct : MethodName := ⟨RX11, "doAct", "(I)I"⟩
abbrev cX11_sweepNow : ByteArray := prog_1_method_26_code
def yX11_sweepNow : MethodName := ⟨RX11, "sweepNow", "(II)I"⟩
abbrev cX11_clearNow : ByteArray := prog_1_method_27_code
def yX11_clearNow : MethodName := ⟨RX11, "clearNow", "(II)I"⟩
abbrev cX11_looseNow : ByteArray := prog_1_method_28_code
def yX11_looseNow : MethodName := ⟨RX11, "looseNow", "(II)I"⟩
abbrev cX11_startCall : ByteArray := prog_1_method_29_code
def yX11_startCall : MethodName := ⟨RX11, "startCall", "()V"⟩
abbrev cX11_remembered : ByteArray := prog_1_method_30_code
def yX11_remembered : MethodName := ⟨RX11, "remembered", "(I)I"⟩
abbrev cX11_undo : ByteArray := prog_1_method_31_code
def yX11_undo : MethodName := ⟨RX11, "undo", "()I"⟩
abbrev cX11_ring : ByteArray := prog_1_method_32_code
def yX11_ring : MethodName := ⟨RX11, "ring", "()I"⟩
abbrev cX11_cancel : ByteArray := prog_1_method_33_code
def yX11_cancel : MethodName := ⟨RX11, "cancel", "()I"⟩
abbrev cX11_rings : ByteArray := prog_1_method_34_code
def yX11_rings : MethodName := ⟨RX11, "rings", "()I"⟩
abbrev cX11_net : ByteArray := prog_1_method_35_code
def yX11_net : MethodName := ⟨RX11, "net", "(I)I"⟩
abbrev cX11_least : ByteArray := prog_1_method_36_code
def yX11_least : MethodName := ⟨RX11, "least", "()I"⟩
abbrev cX11_even : ByteArray := prog_1_method_37_code
def yX11_even : MethodName := ⟨RX11, "even", "()I"⟩
abbrev cX11_debtor : ByteArray := prog_1_method_38_code
def yX11_debtor : MethodName := ⟨RX11, "debtor", "()I"⟩
abbrev cX11_mostOwing : ByteArray := prog_1_method_39_code
def yX11_mostOwing : MethodName := ⟨RX11, "mostOwing", "()I"⟩
abbrev cX11_firstOwing : ByteArray := prog_1_method_40_code
def yX11_firstOwing : MethodName := ⟨RX11, "firstOwing", "(I)I"⟩
abbrev cX11_june : ByteArray := prog_1_method_41_code
def yX11_june : MethodName := ⟨RX11, "june", "()I"⟩
abbrev cX11_hay : ByteArray := prog_1_method_42_code
def yX11_hay : MethodName := ⟨RX11, "hay", "(I)I"⟩
abbrev cX11_workThrough : ByteArray := prog_1_method_43_code
def yX11_workThrough : MethodName := ⟨RX11, "workThrough", "(I)V"⟩
abbrev cX11_works : ByteArray := prog_1_method_44_code
def yX11_works : MethodName := ⟨RX11, "works", "(II)I"⟩
abbrev cX11_summer : ByteArray := prog_1_method_45_code
def yX11_summer : MethodName := ⟨RX11, "summer", "()I"⟩
abbrev cX11_isAllHayIn : ByteArray := prog_1_method_46_code
def yX11_isAllHayIn : MethodName := ⟨RX11, "isAllHayIn", "()Z"⟩
abbrev cX11_ahead : ByteArray := prog_1_method_47_code
def yX11_ahead : MethodName := ⟨RX11, "ahead", "(I)I"⟩
abbrev cX11_slides : ByteArray := prog_1_method_48_code
def yX11_slides : MethodName := ⟨RX11, "slides", "(I)I"⟩
abbrev cX11_later : ByteArray := prog_1_method_49_code
def yX11_later : MethodName := ⟨RX11, "later", "(II)I"⟩
abbrev cX11_deepest : ByteArray := prog_1_method_50_code
def yX11_deepest : MethodName := ⟨RX11, "deepest", "(II)I"⟩
abbrev cX11_lord : ByteArray := prog_1_method_51_code
def yX11_lord : MethodName := ⟨RX11, "lord", "(I)I"⟩
abbrev cX11_worst : ByteArray := prog_1_method_52_code
def yX11_worst : MethodName := ⟨RX11, "worst", "(I)I"⟩
abbrev cX11_melt : ByteArray := prog_1_method_53_code
def yX11_melt : MethodName := ⟨RX11, "melt", "()I"⟩
abbrev cX11_lazy : ByteArray := prog_1_method_54_code
def yX11_lazy : MethodName := ⟨RX11, "lazy", "(I)I"⟩
abbrev cX11_dig : ByteArray := prog_1_method_55_code
def yX11_dig : MethodName := ⟨RX11, "dig", "(III)I"⟩
abbrev cX11_staysWithin : ByteArray := prog_1_method_56_code
def yX11_staysWithin : MethodName := ⟨RX11, "staysWithin", "(IIII)Z"⟩
abbrev cX11_bare : ByteArray := prog_1_method_57_code
def yX11_bare : MethodName := ⟨RX11, "bare", "(II)I"⟩
abbrev cX11_best : ByteArray := prog_1_method_58_code
def yX11_best : MethodName := ⟨RX11, "best", "(II)I"⟩
abbrev cX11_own : ByteArray := prog_1_method_59_code
def yX11_own : MethodName := ⟨RX11, "own", "(III)I"⟩
abbrev cX11_tellSweeping : ByteArray := prog_1_method_60_code
def yX11_tellSweeping : MethodName := ⟨RX11, "tellSweeping", "(I)I"⟩
abbrev cX11_better : ByteArray := prog_1_method_61_code
def yX11_better : MethodName := ⟨RX11, "better", "(II)I"⟩
abbrev cX11_owedFrom : ByteArray := prog_1_method_62_code
def yX11_owedFrom : MethodName := ⟨RX11, "owedFrom", "(LSnowForSummer$State;IIZ)I"⟩
abbrev cX11_rests : ByteArray := prog_1_method_63_code
def yX11_rests : MethodName := ⟨RX11, "rests", "(II)I"⟩
abbrev cX11_isBetterLoose : ByteArray := prog_1_method_64_code
def yX11_isBetterLoose : MethodName := ⟨RX11, "isBetterLoose", "(II)Z"⟩
abbrev cX11_rough : ByteArray := prog_1_method_65_code
def yX11_rough : MethodName := ⟨RX11, "rough", "(II)I"⟩
abbrev cX11_turned : ByteArray := prog_1_method_66_code
def yX11_turned : MethodName := ⟨RX11, "turned", "(I)I"⟩
abbrev cX11_bestRoof : ByteArray := prog_1_method_67_code
def yX11_bestRoof : MethodName := ⟨RX11, "bestRoof", "(II)I"⟩
abbrev cX11_needs : ByteArray := prog_1_method_68_code
def yX11_needs : MethodName := ⟨RX11, "needs", "(II)I"⟩
abbrev cX11_owesNothing : ByteArray := prog_1_method_69_code
def yX11_owesNothing : MethodName := ⟨RX11, "owesNothing", "(II)Z"⟩
abbrev cX11_premium : ByteArray := prog_1_method_70_code
def yX11_premium : MethodName := ⟨RX11, "premium", "(I)I"⟩
abbrev cX11_track : ByteArray := prog_1_method_71_code
def yX11_track : MethodName := ⟨RX11, "track", "(II)I"⟩
abbrev cX11_thaw : ByteArray := prog_1_method_72_code
def yX11_thaw : MethodName := ⟨RX11, "thaw", "()I"⟩
abbrev cX11_suspects : ByteArray := prog_1_method_73_code
def yX11_suspects : MethodName := ⟨RX11, "suspects", "(I)I"⟩
abbrev cX11_gang : ByteArray := prog_1_method_74_code
def yX11_gang : MethodName := ⟨RX11, "gang", "(I)I"⟩
abbrev cX11_keep : ByteArray := prog_1_method_75_code
def yX11_keep : MethodName := ⟨RX11, "keep", "(I)Z"⟩
abbrev cX11_again : ByteArray := prog_1_method_76_code
def yX11_again : MethodName := ⟨RX11, "again", "(I)Z"⟩
abbrev cX11_count : ByteArray := prog_1_method_77_code
def yX11_count : MethodName := ⟨RX11, "count", "(I)I"⟩
abbrev cX11_row : ByteArray := prog_1_method_78_code
def yX11_row : MethodName := ⟨RX11, "row", "(I)I"⟩
abbrev cX11_tell : ByteArray := prog_1_method_79_code
def yX11_tell : MethodName := ⟨RX11, "tell", "(I)V"⟩
abbrev cX11_tell_ : ByteArray := prog_1_method_80_code
def yX11_tell_ : MethodName := ⟨RX11, "tell", "(II)V"⟩
abbrev cX11_tellMore : ByteArray := prog_1_method_81_code
def yX11_tellMore : MethodName := ⟨RX11, "tellMore", "(I)V"⟩
abbrev cX11_isWithin : ByteArray := prog_1_method_82_code
def yX11_isWithin : MethodName := ⟨RX11, "isWithin", "(III)Z"⟩
def RX12 : String := "SnowForSummerModel"
def TX12 : u_T := fun k => match k with
  | 0 => ("SnowForSummerModel", "now", "[I", true)
  | 1 => ("SnowForSummerModel", "houses", "I", false)
  | 2 => ("SnowForSummerModel", "hold", "[I", true)
  | 3 => ("SnowForSummerModel", "below", "[I", true)
  | 4 => ("SnowForSummerModel", "hay", "[I", true)
  | 5 => ("SnowForSummerModel", "weather", "[I", true)
  | 6 => ("SnowForSummerModel", "weatherMany", "I", false)
  | 7 => ("SnowForSummerModel", "text", "[B", true)
  | 8 => ("SnowForSummerModel", "typed", "I", false)
  | 9 => ("SnowForSummerModel", "row", "[I", true)
  | 10 => ("SnowForSummerModel", "rowMany", "I", false)
  | 11 => ("SnowForSummerModel", "thrown", "I", false)
  | 12 => ("SnowForSummerModel", "read", "[B", false)
  | 13 => ("SnowForSummerModel", "length", "I", false)
  | 14 => ("SnowForSummerModel", "top", "I", false)
  | 15 => ("SnowForSummerModel", "at", "I", false)
  | 16 => ("SnowForSummerModel", "wrong", "I", false)
  | 17 => ("SnowForSummerModel", "comes", "[I", true)
  | 18 => ("SnowForSummerModel", "rule", "[B", true)
  | 19 => ("SnowForSummerModel", "ruleSize", "I", false)
  | 20 => ("SnowForSummerModel", "isAsked", "Z", false)
  | 21 => ("SnowForSummerModel", "askedInches", "I", false)
  | 22 => ("SnowForSummerModel", "askedPath", "I", false)
  | 23 => ("SnowForSummerModel", "askedDay", "I", false)
  | 24 => ("SnowForSummerModel", "askedRoof", "I", false)
  | 25 => ("SnowForSummerModel", "askedBelow", "I", false)
  | 26 => ("SnowForSummerModel", "askedLoose", "I", false)
  | 27 => ("SnowForSummerModel", "slidesMany", "I", false)
  | 28 => ("SnowForSummerModel", "owedNow", "I", false)
  | 29 => ("SnowForSummerModel", "owedBy", "[I", true)
  | 30 => ("SnowForSummerModel", "slidInto", "I", false)
  | 31 => ("SnowForSummerModel", "undos", "[I", true)
  | 32 => ("SnowForSummerModel", "undoMany", "I", false)
  | 33 => ("SnowForSummerModel", "aside", "[I", true)
  | 34 => ("SnowForSummerModel", "acts", "[I", true)
  | 35 => ("SnowForSummerModel", "ring", "[I", true)
  | 36 => ("SnowForSummerModel", "bestRing", "[I", true)
  | 37 => ("SnowForSummerModel", "bestLength", "I", false)
  | 38 => ("SnowForSummerModel", "nets", "[I", true)
  | 39 => ("SnowForSummerModel", "worked", "[I", true)
  | 40 => ("SnowForSummerModel", "then", "[I", true)
  | 41 => ("SnowForSummerModel", "plan", "[I", true)
  | 42 => ("SnowForSummerModel", "bestPlan", "[I", true)
  | 43 => ("SnowForSummerModel", "tried", "[I", true)
  | 44 => ("SnowForSummerModel", "setOff", "I", false)
  | 45 => ("SnowForSummerModel", "letLie", "I", false)
  | 46 => ("SnowForSummerModel", "tracks", "[I", true)
  | 47 => ("SnowForSummerModel", "trackMany", "I", false)
  | 48 => ("SnowForSummerModel", "came", "I", false)
  | 49 => ("SnowForSummerModel", "kept", "[I", true)
  | 50 => ("SnowForSummerModel", "isKept", "[Z", true)
  | _ => ("SnowForSummerModel", "keptCame", "[I", true)
def tyX12 : Nat → FieldType := fun k => match k with
  | 0 => .array .int
  | 1 => .int
  | 2 => .array .int
  | 3 => .array .int
  | 4 => .array .int
  | 5 => .array .int
  | 6 => .int
  | 7 => .array .byte
  | 8 => .int
  | 9 => .array .int
  | 10 => .int
  | 11 => .int
  | 12 => .array .byte
  | 13 => .int
  | 14 => .int
  | 15 => .int
  | 16 => .int
  | 17 => .array .int
  | 18 => .array .byte
  | 19 => .int
  | 20 => .boolean
  | 21 => .int
  | 22 => .int
  | 23 => .int
  | 24 => .int
  | 25 => .int
  | 26 => .int
  | 27 => .int
  | 28 => .int
  | 29 => .array .int
  | 30 => .int
  | 31 => .array .int
  | 32 => .int
  | 33 => .array .int
  | 34 => .array .int
  | 35 => .array .int
  | 36 => .array .int
  | 37 => .int
  | 38 => .array .int
  | 39 => .array .int
  | 40 => .array .int
  | 41 => .array .int
  | 42 => .array .int
  | 43 => .array .int
  | 44 => .int
  | 45 => .int
  | 46 => .array .int
  | 47 => .int
  | 48 => .int
  | 49 => .array .int
  | 50 => .array .boolean
  | _ => .array .int
abbrev wsX120 : List Cond := u_ws RX12 TX12 52
theorem nmX12 : ∀ a, a < 52 → ∀ b, b < 52 → a ≠ b → (TX12 a).2.1 ≠ (TX12 b).2.1 := by decide +kernel
theorem tyX12_ok : ∀ k, k < 52 → parseFieldDescriptor (TX12 k).2.2.1 = some (tyX12 k) := by decide +kernel
abbrev cX12_init : ByteArray := prog_14_method_1_code
def yX12_init : MethodName := ⟨RX12, "<init>", "()V"⟩
abbrev cX12_thrown : ByteArray := prog_14_method_2_code
def yX12_thrown : MethodName := ⟨RX12, "thrown", "()I"⟩
abbrev cX12_in : ByteArray := prog_14_method_3_code
def yX12_in : MethodName := ⟨RX12, "in", "(III)Z"⟩
abbrev cX12_has : ByteArray := prog_14_method_4_code
def yX12_has : MethodName := ⟨RX12, "has", "(II)Z"⟩
abbrev cX12_lost : ByteArray := prog_14_method_5_code
def yX12_lost : MethodName := ⟨RX12, "lost", "()I"⟩
abbrev cX12_tell : ByteArray := prog_14_method_6_code
def yX12_tell : MethodName := ⟨RX12, "tell", "(I)V"⟩
abbrev cX12_isHouse : ByteArray := prog_14_method_7_code
def yX12_isHouse : MethodName := ⟨RX12, "isHouse", "(I)Z"⟩
abbrev cX12_areTwo : ByteArray := prog_14_method_8_code
def yX12_areTwo : MethodName := ⟨RX12, "areTwo", "(II)Z"⟩
abbrev cX12_isSide : ByteArray := prog_14_method_9_code
def yX12_isSide : MethodName := ⟨RX12, "isSide", "(I)Z"⟩
abbrev cX12_sign : ByteArray := prog_14_method_10_code
def yX12_sign : MethodName := ⟨RX12, "sign", "(I)I"⟩
abbrev cX12_end : ByteArray := prog_14_method_11_code
def yX12_end : MethodName := ⟨RX12, "end", "(I)Z"⟩
abbrev cX12_begin : ByteArray := prog_14_method_12_code
def yX12_begin : MethodName := ⟨RX12, "begin", "([BII)V"⟩
abbrev cX12_here : ByteArray := prog_14_method_13_code
def yX12_here : MethodName := ⟨RX12, "here", "()I"⟩
abbrev cX12_fine : ByteArray := prog_14_method_14_code
def yX12_fine : MethodName := ⟨RX12, "fine", "()Z"⟩
abbrev cX12_fault : ByteArray := prog_14_method_15_code
def yX12_fault : MethodName := ⟨RX12, "fault", "(I)V"⟩
abbrev cX12_passes : ByteArray := prog_14_method_16_code
def yX12_passes : MethodName := ⟨RX12, "passes", "(C)Z"⟩
abbrev cX12_need : ByteArray := prog_14_method_17_code
def yX12_need : MethodName := ⟨RX12, "need", "(C)V"⟩
abbrev cX12_number : ByteArray := prog_14_method_18_code
def yX12_number : MethodName := ⟨RX12, "number", "(III)I"⟩
abbrev cX12_town : ByteArray := prog_14_method_19_code
def yX12_town : MethodName := ⟨RX12, "town", "()I"⟩
abbrev cX12_weather : ByteArray := prog_14_method_20_code
def yX12_weather : MethodName := ⟨RX12, "weather", "()I"⟩
abbrev cX12_winter : ByteArray := prog_14_method_21_code
def yX12_winter : MethodName := ⟨RX12, "winter", "(II)I"⟩
abbrev cX12_weatherOf : ByteArray := prog_14_method_22_code
def yX12_weatherOf : MethodName := ⟨RX12, "weatherOf", "(I)I"⟩
abbrev cX12_thawOf : ByteArray := prog_14_method_23_code
def yX12_thawOf : MethodName := ⟨RX12, "thawOf", "(I)I"⟩
abbrev cX12_falls : ByteArray := prog_14_method_24_code
def yX12_falls : MethodName := ⟨RX12, "falls", "(I)I"⟩
abbrev cX12_held : ByteArray := prog_14_method_25_code
def yX12_held : MethodName := ⟨RX12, "held", "(I)I"⟩
abbrev cX12_sum : ByteArray := prog_14_method_26_code
def yX12_sum : MethodName := ⟨RX12, "sum", "(I)I"⟩
abbrev cX12_product : ByteArray := prog_14_method_27_code
def yX12_product : MethodName := ⟨RX12, "product", "(I)I"⟩
abbrev cX12_thing : ByteArray := prog_14_method_28_code
def yX12_thing : MethodName := ⟨RX12, "thing", "(I)I"⟩
abbrev cX12_letter : ByteArray := prog_14_method_29_code
def yX12_letter : MethodName := ⟨RX12, "letter", "(I)I"⟩
abbrev cX12_rule : ByteArray := prog_14_method_30_code
def yX12_rule : MethodName := ⟨RX12, "rule", "()I"⟩
abbrev cX12_ruled : ByteArray := prog_14_method_31_code
def yX12_ruled : MethodName := ⟨RX12, "ruled", "()I"⟩
abbrev cX12_of : ByteArray := prog_14_method_32_code
def yX12_of : MethodName := ⟨RX12, "of", "(II)I"⟩
abbrev cX12_owes : ByteArray := prog_14_method_33_code
def yX12_owes : MethodName := ⟨RX12, "owes", "([II)I"⟩
abbrev cX12_owed : ByteArray := prog_14_method_34_code
def yX12_owed : MethodName := ⟨RX12, "owed", "(I)I"⟩
abbrev cX12_set : ByteArray := prog_14_method_35_code
def yX12_set : MethodName := ⟨RX12, "set", "(III)I"⟩
abbrev cX12_sheet : ByteArray := prog_14_method_36_code
def yX12_sheet : MethodName := ⟨RX12, "sheet", "(IIII)I"⟩
abbrev cX12_above : ByteArray := prog_14_method_37_code
def yX12_above : MethodName := ⟨RX12, "above", "(I)I"⟩
abbrev cX12_debt : ByteArray := prog_14_method_38_code
def yX12_debt : MethodName := ⟨RX12, "debt", "(II)I"⟩
abbrev cX12_beginCount : ByteArray := prog_14_method_39_code
def yX12_beginCount : MethodName := ⟨RX12, "beginCount", "()V"⟩
abbrev cX12_slide : ByteArray := prog_14_method_40_code
def yX12_slide : MethodName := ⟨RX12, "slide", "([IIII)V"⟩
abbrev cX12_goDay : ByteArray := prog_14_method_41_code
def yX12_goDay : MethodName := ⟨RX12, "goDay", "([I)V"⟩
abbrev cX12_lay : ByteArray := prog_14_method_42_code
def yX12_lay : MethodName := ⟨RX12, "lay", "([I[II)V"⟩
abbrev cX12_remember : ByteArray := prog_14_method_43_code
def yX12_remember : MethodName := ⟨RX12, "remember", "([I)V"⟩
abbrev cX12_paths : ByteArray := prog_14_method_44_code
def yX12_paths : MethodName := ⟨RX12, "paths", "([I)I"⟩
abbrev cX12_tellDays : ByteArray := prog_14_method_45_code
def yX12_tellDays : MethodName := ⟨RX12, "tellDays", "(I)I"⟩
abbrev cX12_day : ByteArray := prog_14_method_46_code
def yX12_day : MethodName := ⟨RX12, "day", "()I"⟩
abbrev cX12_days : ByteArray := prog_14_method_47_code
def yX12_days : MethodName := ⟨RX12, "days", "(I)I"⟩
abbrev cX12_sweeps : ByteArray := prog_14_method_48_code
def yX12_sweeps : MethodName := ⟨RX12, "sweeps", "([III)V"⟩
abbrev cX12_sweepRefusal : ByteArray := prog_14_method_49_code
def yX12_sweepRefusal : MethodName := ⟨RX12, "sweepRefusal", "(II)I"⟩
abbrev cX12_sweep : ByteArray := prog_14_method_50_code
def yX12_sweep : MethodName := ⟨RX12, "sweep", "(II)I"⟩
abbrev cX12_clearRefusal : ByteArray := prog_14_method_51_code
def yX12_clearRefusal : MethodName := ⟨RX12, "clearRefusal", "(II)I"⟩
abbrev cX12_clear : ByteArray := prog_14_method_52_code
def yX12_clear : MethodName := ⟨RX12, "clear", "(II)I"⟩
abbrev cX12_wind : ByteArray := prog_14_method_53_code
def yX12_wind : MethodName := ⟨RX12, "wind", "(II)I"⟩
abbrev cX12_looseRefusal : ByteArray := prog_14_method_54_code
def yX12_looseRefusal : MethodName := ⟨RX12, "looseRefusal", "(II)I"⟩
abbrev cX12_loose : ByteArray := prog_14_method_55_code
def yX12_loose : MethodName := ⟨RX12, "loose", "(II)I"⟩
abbrev cX12_work : ByteArray := prog_14_method_56_code
def yX12_work : MethodName := ⟨RX12, "work", "(III)I"⟩
abbrev cX12_night : ByteArray := prog_14_method_57_code
def yX12_night : MethodName := ⟨RX12, "night", "()I"⟩
abbrev cX12_readAct : ByteArray := prog_14_method_58_code
def yX12_readAct : MethodName := ⟨RX12, "readAct", "(I)V"⟩
abbrev cX12_act : ByteArray := prog_14_method_59_code
def yX12_act : MethodName := ⟨RX12, "act", "(I)Z"⟩
abbrev cX12_undo : ByteArray := prog_14_method_60_code
def yX12_undo : MethodName := ⟨RX12, "undo", "()I"⟩
abbrev cX12_goRing : ByteArray := prog_14_method_61_code
def yX12_goRing : MethodName := ⟨RX12, "goRing", "(I)V"⟩
abbrev cX12_findRing : ByteArray := prog_14_method_62_code
def yX12_findRing : MethodName := ⟨RX12, "findRing", "()I"⟩
abbrev cX12_clearRing : ByteArray := prog_14_method_63_code
def yX12_clearRing : MethodName := ⟨RX12, "clearRing", "(I)I"⟩
abbrev cX12_ring : ByteArray := prog_14_method_64_code
def yX12_ring : MethodName := ⟨RX12, "ring", "()I"⟩
abbrev cX12_cancel : ByteArray := prog_14_method_65_code
def yX12_cancel : MethodName := ⟨RX12, "cancel", "()I"⟩
abbrev cX12_rings : ByteArray := prog_14_method_66_code
def yX12_rings : MethodName := ⟨RX12, "rings", "()I"⟩
abbrev cX12_netOf : ByteArray := prog_14_method_67_code
def yX12_netOf : MethodName := ⟨RX12, "netOf", "(I)I"⟩
abbrev cX12_net : ByteArray := prog_14_method_68_code
def yX12_net : MethodName := ⟨RX12, "net", "(I)I"⟩
abbrev cX12_allOwed : ByteArray := prog_14_method_69_code
def yX12_allOwed : MethodName := ⟨RX12, "allOwed", "()I"⟩
abbrev cX12_least : ByteArray := prog_14_method_70_code
def yX12_least : MethodName := ⟨RX12, "least", "()I"⟩
abbrev cX12_even : ByteArray := prog_14_method_71_code
def yX12_even : MethodName := ⟨RX12, "even", "()I"⟩
abbrev cX12_greatestDebtor : ByteArray := prog_14_method_72_code
def yX12_greatestDebtor : MethodName := ⟨RX12, "greatestDebtor", "()I"⟩
abbrev cX12_debtor : ByteArray := prog_14_method_73_code
def yX12_debtor : MethodName := ⟨RX12, "debtor", "()I"⟩
abbrev cX12_june : ByteArray := prog_14_method_74_code
def yX12_june : MethodName := ⟨RX12, "june", "()I"⟩
abbrev cX12_goJune : ByteArray := prog_14_method_75_code
def yX12_goJune : MethodName := ⟨RX12, "goJune", "(I)V"⟩
abbrev cX12_wanting : ByteArray := prog_14_method_76_code
def yX12_wanting : MethodName := ⟨RX12, "wanting", "(I)I"⟩
abbrev cX12_hay : ByteArray := prog_14_method_77_code
def yX12_hay : MethodName := ⟨RX12, "hay", "(I)I"⟩
abbrev cX12_works : ByteArray := prog_14_method_78_code
def yX12_works : MethodName := ⟨RX12, "works", "(II)I"⟩
abbrev cX12_summer : ByteArray := prog_14_method_79_code
def yX12_summer : MethodName := ⟨RX12, "summer", "()I"⟩
abbrev cX12_goOn : ByteArray := prog_14_method_80_code
def yX12_goOn : MethodName := ⟨RX12, "goOn", "(I)V"⟩
abbrev cX12_isDays : ByteArray := prog_14_method_81_code
def yX12_isDays : MethodName := ⟨RX12, "isDays", "(I)Z"⟩
abbrev cX12_ahead : ByteArray := prog_14_method_82_code
def yX12_ahead : MethodName := ⟨RX12, "ahead", "(I)I"⟩
abbrev cX12_slides : ByteArray := prog_14_method_83_code
def yX12_slides : MethodName := ⟨RX12, "slides", "(I)I"⟩
abbrev cX12_later : ByteArray := prog_14_method_84_code
def yX12_later : MethodName := ⟨RX12, "later", "(II)I"⟩
abbrev cX12_deepest : ByteArray := prog_14_method_85_code
def yX12_deepest : MethodName := ⟨RX12, "deepest", "(II)I"⟩
abbrev cX12_lord : ByteArray := prog_14_method_86_code
def yX12_lord : MethodName := ⟨RX12, "lord", "(I)I"⟩
abbrev cX12_worst : ByteArray := prog_14_method_87_code
def yX12_worst : MethodName := ⟨RX12, "worst", "(I)I"⟩
abbrev cX12_isBareOf : ByteArray := prog_14_method_88_code
def yX12_isBareOf : MethodName := ⟨RX12, "isBareOf", "()Z"⟩
abbrev cX12_melt : ByteArray := prog_14_method_89_code
def yX12_melt : MethodName := ⟨RX12, "melt", "()I"⟩
abbrev cX12_lazy : ByteArray := prog_14_method_90_code
def yX12_lazy : MethodName := ⟨RX12, "lazy", "(I)I"⟩
abbrev cX12_dig : ByteArray := prog_14_method_91_code
def yX12_dig : MethodName := ⟨RX12, "dig", "(III)I"⟩
abbrev cX12_bare : ByteArray := prog_14_method_92_code
def yX12_bare : MethodName := ⟨RX12, "bare", "(II)I"⟩
abbrev cX12_owedByPlan : ByteArray := prog_14_method_93_code
def yX12_owedByPlan : MethodName := ⟨RX12, "owedByPlan", "(III)I"⟩
abbrev cX12_bestBy : ByteArray := prog_14_method_94_code
def yX12_bestBy : MethodName := ⟨RX12, "bestBy", "(III)I"⟩
abbrev cX12_best : ByteArray := prog_14_method_95_code
def yX12_best : MethodName := ⟨RX12, "best", "(II)I"⟩
abbrev cX12_own : ByteArray := prog_14_method_96_code
def yX12_own : MethodName := ⟨RX12, "own", "(III)I"⟩
abbrev cX12_compare : ByteArray := prog_14_method_97_code
def yX12_compare : MethodName := ⟨RX12, "compare", "([III)V"⟩
abbrev cX12_better : ByteArray := prog_14_method_98_code
def yX12_better : MethodName := ⟨RX12, "better", "(II)I"⟩
abbrev cX12_rests : ByteArray := prog_14_method_99_code
def yX12_rests : MethodName := ⟨RX12, "rests", "(II)I"⟩
abbrev cX12_owedIn : ByteArray := prog_14_method_100_code
def yX12_owedIn : MethodName := ⟨RX12, "owedIn", "(I)I"⟩
abbrev cX12_rough : ByteArray := prog_14_method_101_code
def yX12_rough : MethodName := ⟨RX12, "rough", "(II)I"⟩
abbrev cX12_turn : ByteArray := prog_14_method_102_code
def yX12_turn : MethodName := ⟨RX12, "turn", "(I)V"⟩
abbrev cX12_turned : ByteArray := prog_14_method_103_code
def yX12_turned : MethodName := ⟨RX12, "turned", "(I)I"⟩
abbrev cX12_needs : ByteArray := prog_14_method_104_code
def yX12_needs : MethodName := ⟨RX12, "needs", "(II)I"⟩
abbrev cX12_premium : ByteArray := prog_14_method_105_code
def yX12_premium : MethodName := ⟨RX12, "premium", "(I)I"⟩
abbrev cX12_track : ByteArray := prog_14_method_106_code
def yX12_track : MethodName := ⟨RX12, "track", "(II)I"⟩
abbrev cX12_thaw : ByteArray := prog_14_method_107_code
def yX12_thaw : MethodName := ⟨RX12, "thaw", "()I"⟩
abbrev cX12_outIn : ByteArray := prog_14_method_108_code
def yX12_outIn : MethodName := ⟨RX12, "outIn", "(I)I"⟩
abbrev cX12_suspects : ByteArray := prog_14_method_109_code
def yX12_suspects : MethodName := ⟨RX12, "suspects", "(I)I"⟩
abbrev cX12_gang : ByteArray := prog_14_method_110_code
def yX12_gang : MethodName := ⟨RX12, "gang", "(I)I"⟩
abbrev cX12_keep : ByteArray := prog_14_method_111_code
def yX12_keep : MethodName := ⟨RX12, "keep", "(I)Z"⟩
abbrev cX12_again : ByteArray := prog_14_method_112_code
def yX12_again : MethodName := ⟨RX12, "again", "(I)Z"⟩
abbrev cX12_count : ByteArray := prog_14_method_113_code
def yX12_count : MethodName := ⟨RX12, "count", "(I)I"⟩
abbrev cX12_row : ByteArray := prog_14_method_114_code
def yX12_row : MethodName := ⟨RX12, "row", "(I)I"⟩
def RJx145de : String := "java/io/Serializable"
def TJx145de : u_T := fun k => match k with
  | _ => ("", "", "", false)
def tyJx145de : Nat → FieldType := fun k => match k with
  | _ => .int
abbrev wsJx145de0 : List Cond := u_ws RJx145de TJx145de 0
theorem nmJx145de : ∀ a, a < 0 → ∀ b, b < 0 → a ≠ b → (TJx145de a).2.1 ≠ (TJx145de b).2.1 := by decide +kernel
theorem tyJx145de_ok : ∀ k, k < 0 → parseFieldDescriptor (TJx145de k).2.2.1 = some (tyJx145de k) := by decide +kernel
def RJx9f9b0 : String := "java/lang/CharSequence"
def TJx9f9b0 : u_T := fun k => match k with
  | _ => ("", "", "", false)
def tyJx9f9b0 : Nat → FieldType := fun k => match k with
  | _ => .int
abbrev wsJx9f9b00 : List Cond := u_ws RJx9f9b0 TJx9f9b0 0
theorem nmJx9f9b0 : ∀ a, a < 0 → ∀ b, b < 0 → a ≠ b → (TJx9f9b0 a).2.1 ≠ (TJx9f9b0 b).2.1 := by decide +kernel
theorem tyJx9f9b0_ok : ∀ k, k < 0 → parseFieldDescriptor (TJx9f9b0 k).2.2.1 = some (tyJx9f9b0 k) := by decide +kernel
def RJ11 : String := "java/lang/Character"
def TJ11 : u_T := fun k => match k with
  | _ => ("", "", "", false)
def tyJ11 : Nat → FieldType := fun k => match k with
  | _ => .int
abbrev wsJ110 : List Cond := u_ws RJ11 TJ11 0
theorem nmJ11 : ∀ a, a < 0 → ∀ b, b < 0 → a ≠ b → (TJ11 a).2.1 ≠ (TJ11 b).2.1 := by decide +kernel
theorem tyJ11_ok : ∀ k, k < 0 → parseFieldDescriptor (TJ11 k).2.2.1 = some (tyJ11 k) := by decide +kernel
abbrev cJ11_isValidCodePoint_9a6ad : ByteArray := prog_17_method_11_code
def yJ11_isValidCodePoint_9a6ad : MethodName := ⟨RJ11, "isValidCodePoint", "(I)Z"⟩
abbrev cJ11_highSurrogate_5068e : ByteArray := prog_17_method_28_code
def yJ11_highSurrogate_5068e : MethodName := ⟨RJ11, "highSurrogate", "(I)C"⟩
abbrev cJ11_lowSurrogate_5068e : ByteArray := prog_17_method_29_code
def yJ11_lowSurrogate_5068e : MethodName := ⟨RJ11, "lowSurrogate", "(I)C"⟩
def RJxb160c : String := "java/lang/Comparable"
def TJxb160c : u_T := fun k => match k with
  | _ => ("", "", "", false)
def tyJxb160c : Nat → FieldType := fun k => match k with
  | _ => .int
abbrev wsJxb160c0 : List Cond := u_ws RJxb160c TJxb160c 0
theorem nmJxb160c : ∀ a, a < 0 → ∀ b, b < 0 → a ≠ b → (TJxb160c a).2.1 ≠ (TJxb160c b).2.1 := by decide +kernel
theorem tyJxb160c_ok : ∀ k, k < 0 → parseFieldDescriptor (TJxb160c k).2.2.1 = some (tyJxb160c k) := by decide +kernel
def RJ6 : String := "java/lang/Integer"
def TJ6 : u_T := fun k => match k with
  | _ => ("", "", "", false)
def tyJ6 : Nat → FieldType := fun k => match k with
  | _ => .int
abbrev wsJ60 : List Cond := u_ws RJ6 TJ6 0
theorem nmJ6 : ∀ a, a < 0 → ∀ b, b < 0 → a ≠ b → (TJ6 a).2.1 ≠ (TJ6 b).2.1 := by decide +kernel
theorem tyJ6_ok : ∀ k, k < 0 → parseFieldDescriptor (TJ6 k).2.2.1 = some (tyJ6 k) := by decide +kernel
abbrev cJ6_bitCount_0f7a4 : ByteArray := prog_20_method_49_code
def yJ6_bitCount_0f7a4 : MethodName := ⟨RJ6, "bitCount", "(I)I"⟩
def RJ9 : String := "java/lang/Math"
def TJ9 : u_T := fun k => match k with
  | _ => ("", "", "", false)
def tyJ9 : Nat → FieldType := fun k => match k with
  | _ => .int
abbrev wsJ90 : List Cond := u_ws RJ9 TJ9 0
theorem nmJ9 : ∀ a, a < 0 → ∀ b, b < 0 → a ≠ b → (TJ9 a).2.1 ≠ (TJ9 b).2.1 := by decide +kernel
theorem tyJ9_ok : ∀ k, k < 0 → parseFieldDescriptor (TJ9 k).2.2.1 = some (tyJ9 k) := by decide +kernel
abbrev cJ9_max_7cf53 : ByteArray := prog_21_method_65_code
def yJ9_max_7cf53 : MethodName := ⟨RJ9, "max", "(II)I"⟩
abbrev cJ9_min_7cf53 : ByteArray := prog_21_method_69_code
def yJ9_min_7cf53 : MethodName := ⟨RJ9, "min", "(II)I"⟩
def RJ0 : String := "java/lang/String"
def TJ0 : u_T := fun k => match k with
  | _ => ("", "", "", false)
def tyJ0 : Nat → FieldType := fun k => match k with
  | _ => .int
abbrev wsJ00 : List Cond := u_ws RJ0 TJ0 0
theorem nmJ0 : ∀ a, a < 0 → ∀ b, b < 0 → a ≠ b → (TJ0 a).2.1 ≠ (TJ0 b).2.1 := by decide +kernel
theorem tyJ0_ok : ∀ k, k < 0 → parseFieldDescriptor (TJ0 k).2.2.1 = some (tyJ0 k) := by decide +kernel
abbrev cJ0_length_8abf5 : ByteArray := prog_23_method_54_code
def yJ0_length_8abf5 : MethodName := ⟨RJ0, "length", "()I"⟩
abbrev cJ0_indexOf_0f7a4 : ByteArray := prog_23_method_79_code
def yJ0_indexOf_0f7a4 : MethodName := ⟨RJ0, "indexOf", "(I)I"⟩
abbrev cJ0_indexOf_7cf53 : ByteArray := prog_23_method_80_code
def yJ0_indexOf_7cf53 : MethodName := ⟨RJ0, "indexOf", "(II)I"⟩
abbrev cJ0_coder_7d493 : ByteArray := prog_23_method_152_code
def yJ0_coder_7d493 : MethodName := ⟨RJ0, "coder", "()B"⟩
abbrev cJ0_isLatin1_aae02 : ByteArray := prog_23_method_154_code
def yJ0_isLatin1_aae02 : MethodName := ⟨RJ0, "isLatin1", "()Z"⟩
abbrev cJ0_checkBoundsBeginEnd_23922 : ByteArray := prog_23_method_158_code
def yJ0_checkBoundsBeginEnd_23922 : MethodName := ⟨RJ0, "checkBoundsBeginEnd", "(III)V"⟩
def RJ1 : String := "java/lang/StringLatin1"
def TJ1 : u_T := fun k => match k with
  | _ => ("", "", "", false)
def tyJ1 : Nat → FieldType := fun k => match k with
  | _ => .int
abbrev wsJ10 : List Cond := u_ws RJ1 TJ1 0
theorem nmJ1 : ∀ a, a < 0 → ∀ b, b < 0 → a ≠ b → (TJ1 a).2.1 ≠ (TJ1 b).2.1 := by decide +kernel
theorem tyJ1_ok : ∀ k, k < 0 → parseFieldDescriptor (TJ1 k).2.2.1 = some (tyJ1 k) := by decide +kernel
abbrev cJ1_canEncode_9a6ad : ByteArray := prog_24_method_4_code
def yJ1_canEncode_9a6ad : MethodName := ⟨RJ1, "canEncode", "(I)Z"⟩
abbrev cJ1_indexOf_4cfef : ByteArray := prog_24_method_22_code
def yJ1_indexOf_4cfef : MethodName := ⟨RJ1, "indexOf", "([BIII)I"⟩
abbrev cJ1_indexOfChar_4cfef : ByteArray := prog_24_method_23_code
def yJ1_indexOfChar_4cfef : MethodName := ⟨RJ1, "indexOfChar", "([BIII)I"⟩
def RJ2 : String := "java/lang/StringUTF16"
def TJ2 : u_T := fun k => match k with
  | _ => ("", "", "", false)
def tyJ2 : Nat → FieldType := fun k => match k with
  | _ => .int
abbrev wsJ20 : List Cond := u_ws RJ2 TJ2 0
theorem nmJ2 : ∀ a, a < 0 → ∀ b, b < 0 → a ≠ b → (TJ2 a).2.1 ≠ (TJ2 b).2.1 := by decide +kernel
theorem tyJ2_ok : ∀ k, k < 0 → parseFieldDescriptor (TJ2 k).2.2.1 = some (tyJ2 k) := by decide +kernel
abbrev cJ2_getChar_3b067 : ByteArray := prog_25_method_5_code
def yJ2_getChar_3b067 : MethodName := ⟨RJ2, "getChar", "([BI)C"⟩
abbrev cJ2_length_9d52b : ByteArray := prog_25_method_6_code
def yJ2_length_9d52b : MethodName := ⟨RJ2, "length", "([B)I"⟩
abbrev cJ2_indexOf_4cfef : ByteArray := prog_25_method_40_code
def yJ2_indexOf_4cfef : MethodName := ⟨RJ2, "indexOf", "([BIII)I"⟩
abbrev cJ2_indexOfChar_4cfef : ByteArray := prog_25_method_47_code
def yJ2_indexOfChar_4cfef : MethodName := ⟨RJ2, "indexOfChar", "([BIII)I"⟩
abbrev cJ2_indexOfCharUnsafe_4cfef : ByteArray := prog_25_method_48_code
def yJ2_indexOfCharUnsafe_4cfef : MethodName := ⟨RJ2, "indexOfCharUnsafe", "([BIII)I"⟩
abbrev cJ2_indexOfSupplementary_4cfef : ByteArray := prog_25_method_49_code
def yJ2_indexOfSupplementary_4cfef : MethodName := ⟨RJ2, "indexOfSupplementary", "([BIII)I"⟩
abbrev cJ2_checkBoundsBeginEnd_d044e : ByteArray := prog_25_method_93_code
def yJ2_checkBoundsBeginEnd_d044e : MethodName := ⟨RJ2, "checkBoundsBeginEnd", "(II[B)V"⟩
def RJ10 : String := "java/lang/System"
def TJ10 : u_T := fun k => match k with
  | _ => ("", "", "", false)
def tyJ10 : Nat → FieldType := fun k => match k with
  | _ => .int
abbrev wsJ100 : List Cond := u_ws RJ10 TJ10 0
theorem nmJ10 : ∀ a, a < 0 → ∀ b, b < 0 → a ≠ b → (TJ10 a).2.1 ≠ (TJ10 b).2.1 := by decide +kernel
theorem tyJ10_ok : ∀ k, k < 0 → parseFieldDescriptor (TJ10 k).2.2.1 = some (tyJ10 k) := by decide +kernel
def RJxfd54e : String := "java/lang/constant/Constable"
def TJxfd54e : u_T := fun k => match k with
  | _ => ("", "", "", false)
def tyJxfd54e : Nat → FieldType := fun k => match k with
  | _ => .int
abbrev wsJxfd54e0 : List Cond := u_ws RJxfd54e TJxfd54e 0
theorem nmJxfd54e : ∀ a, a < 0 → ∀ b, b < 0 → a ≠ b → (TJxfd54e a).2.1 ≠ (TJxfd54e b).2.1 := by decide +kernel
theorem tyJxfd54e_ok : ∀ k, k < 0 → parseFieldDescriptor (TJxfd54e k).2.2.1 = some (tyJxfd54e k) := by decide +kernel
def RJx3cf43 : String := "java/lang/constant/ConstantDesc"
def TJx3cf43 : u_T := fun k => match k with
  | _ => ("", "", "", false)
def tyJx3cf43 : Nat → FieldType := fun k => match k with
  | _ => .int
abbrev wsJx3cf430 : List Cond := u_ws RJx3cf43 TJx3cf43 0
theorem nmJx3cf43 : ∀ a, a < 0 → ∀ b, b < 0 → a ≠ b → (TJx3cf43 a).2.1 ≠ (TJx3cf43 b).2.1 := by decide +kernel
theorem tyJx3cf43_ok : ∀ k, k < 0 → parseFieldDescriptor (TJx3cf43 k).2.2.1 = some (tyJx3cf43 k) := by decide +kernel
def RJ7 : String := "java/util/Arrays"
def TJ7 : u_T := fun k => match k with
  | _ => ("", "", "", false)
def tyJ7 : Nat → FieldType := fun k => match k with
  | _ => .int
abbrev wsJ70 : List Cond := u_ws RJ7 TJ7 0
theorem nmJ7 : ∀ a, a < 0 → ∀ b, b < 0 → a ≠ b → (TJ7 a).2.1 ≠ (TJ7 b).2.1 := by decide +kernel
theorem tyJ7_ok : ∀ k, k < 0 → parseFieldDescriptor (TJ7 k).2.2.1 = some (tyJ7 k) := by decide +kernel
abbrev cJ7_fill_53178 : ByteArray := prog_30_method_103_code
def yJ7_fill_53178 : MethodName := ⟨RJ7, "fill", "([II)V"⟩
def RJ3 : String := "jdk/internal/util/Preconditions"
def TJ3 : u_T := fun k => match k with
  | _ => ("", "", "", false)
def tyJ3 : Nat → FieldType := fun k => match k with
  | _ => .int
abbrev wsJ30 : List Cond := u_ws RJ3 TJ3 0
theorem nmJ3 : ∀ a, a < 0 → ∀ b, b < 0 → a ≠ b → (TJ3 a).2.1 ≠ (TJ3 b).2.1 := by decide +kernel
theorem tyJ3_ok : ∀ k, k < 0 → parseFieldDescriptor (TJ3 k).2.2.1 = some (tyJ3 k) := by decide +kernel
abbrev cJ3_checkFromToIndex_8c36e : ByteArray := prog_32_method_12_code
def yJ3_checkFromToIndex_8c36e : MethodName := ⟨RJ3, "checkFromToIndex", "(IIILjava/util/function/BiFunction;)I"⟩
def RL : String := "SnowForSummerLaw"
abbrev cL_of : ByteArray := method_3_code
def yL_of : MethodName := ⟨RL, "of", "(LSnowForSummer;II[J)I"⟩
abbrev cL_net : ByteArray := method_4_code
def yL_net : MethodName := ⟨RL, "net", "(LSnowForSummer;I[J)I"⟩
abbrev cL_bare : ByteArray := method_5_code
def yL_bare : MethodName := ⟨RL, "bare", "(LSnowForSummer;II[J)I"⟩
abbrev cL_premium : ByteArray := method_6_code
def yL_premium : MethodName := ⟨RL, "premium", "(LSnowForSummer;I[J)I"⟩
abbrev cL_row : ByteArray := method_7_code
def yL_row : MethodName := ⟨RL, "row", "(LSnowForSummer;I[J)I"⟩
abbrev cL_law : ByteArray := code
def yL_law : MethodName := ⟨RL, "law", "([I)Z"⟩
abbrev classes : List vw_C := [(RX0, TX0, 4), (RX1, TX1, 7), (RX2, TX2, 3), (RX3, TX3, 4), (RX4, TX4, 6), (RX5, TX5, 4), (RX6, TX6, 4), (RX7, TX7, 4), (RX8, TX8, 4), (RX9, TX9, 9), (RX10, TX10, 3), (RX11, TX11, 18), (RX12, TX12, 52)]
