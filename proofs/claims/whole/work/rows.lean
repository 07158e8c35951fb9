section
-- ===== PART A: goes FIRST, ahead of the names: the tables' words, and 'selects' of the private methods out of them =====
/-- a private method of a class that the tables say can be made, by its rows of tables_1 -/
def lw_okq (q : MethodName × Nat) : Prop := (q.1.cls ≠ "java/lang/invoke/MethodHandle" ∧ q.1.cls ≠ "java/lang/invoke/VarHandle") ∧ Cond.instantiable q.1.cls q.2 ∈ tables_1 ∧ Cond.privateMethod q.1 ∈ tables_1 ∧ Cond.instanceMethod q.1 ∈ tables_1
theorem lw_p0 : lw_okq (⟨"NodBets", "found", "(I)I"⟩, 9) := ⟨⟨by decide +kernel, by decide +kernel⟩, List.mem_of_getElem? (i := 15) (by decide +kernel), List.mem_of_getElem? (i := 267) (by decide +kernel), List.mem_of_getElem? (i := 268) (by decide +kernel)⟩
theorem lw_p1 : lw_okq (⟨"NodBets", "unfound", "(I)I"⟩, 9) := ⟨⟨by decide +kernel, by decide +kernel⟩, List.mem_of_getElem? (i := 15) (by decide +kernel), List.mem_of_getElem? (i := 276) (by decide +kernel), List.mem_of_getElem? (i := 277) (by decide +kernel)⟩
theorem lw_p2 : lw_okq (⟨"NodBets$Reader", "readLaw", "(LNodBets$Town;)Z"⟩, 4) := ⟨⟨by decide +kernel, by decide +kernel⟩, List.mem_of_getElem? (i := 40) (by decide +kernel), List.mem_of_getElem? (i := 343) (by decide +kernel), List.mem_of_getElem? (i := 344) (by decide +kernel)⟩
theorem lw_p3 : lw_okq (⟨"NodBets$Reader", "passed", "(I)Z"⟩, 4) := ⟨⟨by decide +kernel, by decide +kernel⟩, List.mem_of_getElem? (i := 40) (by decide +kernel), List.mem_of_getElem? (i := 347) (by decide +kernel), List.mem_of_getElem? (i := 348) (by decide +kernel)⟩
theorem lw_p4 : lw_okq (⟨"NodBets$Reader", "here", "()I"⟩, 4) := ⟨⟨by decide +kernel, by decide +kernel⟩, List.mem_of_getElem? (i := 40) (by decide +kernel), List.mem_of_getElem? (i := 351) (by decide +kernel), List.mem_of_getElem? (i := 352) (by decide +kernel)⟩
theorem lw_p5 : lw_okq (⟨"NodBets$Reader", "byteAt", "(I)I"⟩, 4) := ⟨⟨by decide +kernel, by decide +kernel⟩, List.mem_of_getElem? (i := 40) (by decide +kernel), List.mem_of_getElem? (i := 355) (by decide +kernel), List.mem_of_getElem? (i := 356) (by decide +kernel)⟩
theorem lw_p6 : lw_okq (⟨"NodBets$Reader", "refuse", "(I)Z"⟩, 4) := ⟨⟨by decide +kernel, by decide +kernel⟩, List.mem_of_getElem? (i := 40) (by decide +kernel), List.mem_of_getElem? (i := 359) (by decide +kernel), List.mem_of_getElem? (i := 360) (by decide +kernel)⟩
theorem lw_p7 : lw_okq (⟨"NodBets$Reader", "readNumber", "(II)I"⟩, 4) := ⟨⟨by decide +kernel, by decide +kernel⟩, List.mem_of_getElem? (i := 40) (by decide +kernel), List.mem_of_getElem? (i := 363) (by decide +kernel), List.mem_of_getElem? (i := 364) (by decide +kernel)⟩
theorem lw_p8 : lw_okq (⟨"NodBets$Reader", "readLies", "(LNodBets$Town;)Z"⟩, 4) := ⟨⟨by decide +kernel, by decide +kernel⟩, List.mem_of_getElem? (i := 40) (by decide +kernel), List.mem_of_getElem? (i := 374) (by decide +kernel), List.mem_of_getElem? (i := 375) (by decide +kernel)⟩
theorem lw_p9 : lw_okq (⟨"NodBets$Reader", "readStrangers", "(LNodBets$Town;)Z"⟩, 4) := ⟨⟨by decide +kernel, by decide +kernel⟩, List.mem_of_getElem? (i := 40) (by decide +kernel), List.mem_of_getElem? (i := 385) (by decide +kernel), List.mem_of_getElem? (i := 386) (by decide +kernel)⟩
theorem lw_p10 : lw_okq (⟨"NodBets$Mind", "undoubtedNeed", "(III)I"⟩, 4) := ⟨⟨by decide +kernel, by decide +kernel⟩, List.mem_of_getElem? (i := 162) (by decide +kernel), List.mem_of_getElem? (i := 464) (by decide +kernel), List.mem_of_getElem? (i := 465) (by decide +kernel)⟩
theorem lw_p11 : lw_okq (⟨"NodBets$Foresight", "seekOrderFrom", "(III)V"⟩, 9) := ⟨⟨by decide +kernel, by decide +kernel⟩, List.mem_of_getElem? (i := 155) (by decide +kernel), List.mem_of_getElem? (i := 559) (by decide +kernel), List.mem_of_getElem? (i := 560) (by decide +kernel)⟩
theorem lw_p12 : lw_okq (⟨"NodBets$Foresight", "keepBest", "(II)V"⟩, 9) := ⟨⟨by decide +kernel, by decide +kernel⟩, List.mem_of_getElem? (i := 155) (by decide +kernel), List.mem_of_getElem? (i := 564) (by decide +kernel), List.mem_of_getElem? (i := 565) (by decide +kernel)⟩
theorem lw_p13 : lw_okq (⟨"NodBets$Foresight", "tryNext", "(II)Z"⟩, 9) := ⟨⟨by decide +kernel, by decide +kernel⟩, List.mem_of_getElem? (i := 155) (by decide +kernel), List.mem_of_getElem? (i := 568) (by decide +kernel), List.mem_of_getElem? (i := 569) (by decide +kernel)⟩
theorem lw_p14 : lw_okq (⟨"NodBets$Foresight", "comesInFrom", "(IIII)Z"⟩, 9) := ⟨⟨by decide +kernel, by decide +kernel⟩, List.mem_of_getElem? (i := 155) (by decide +kernel), List.mem_of_getElem? (i := 594) (by decide +kernel), List.mem_of_getElem? (i := 595) (by decide +kernel)⟩
theorem lw_p15 : lw_okq (⟨"NodBets$Foresight", "deadFrom", "(III)I"⟩, 9) := ⟨⟨by decide +kernel, by decide +kernel⟩, List.mem_of_getElem? (i := 155) (by decide +kernel), List.mem_of_getElem? (i := 611) (by decide +kernel), List.mem_of_getElem? (i := 612) (by decide +kernel)⟩
def lw_privs_1 : List (MethodName × Nat) := [(⟨"NodBets", "found", "(I)I"⟩, 9), (⟨"NodBets", "unfound", "(I)I"⟩, 9), (⟨"NodBets$Reader", "readLaw", "(LNodBets$Town;)Z"⟩, 4), (⟨"NodBets$Reader", "passed", "(I)Z"⟩, 4), (⟨"NodBets$Reader", "here", "()I"⟩, 4), (⟨"NodBets$Reader", "byteAt", "(I)I"⟩, 4), (⟨"NodBets$Reader", "refuse", "(I)Z"⟩, 4), (⟨"NodBets$Reader", "readNumber", "(II)I"⟩, 4), (⟨"NodBets$Reader", "readLies", "(LNodBets$Town;)Z"⟩, 4), (⟨"NodBets$Reader", "readStrangers", "(LNodBets$Town;)Z"⟩, 4), (⟨"NodBets$Mind", "undoubtedNeed", "(III)I"⟩, 4), (⟨"NodBets$Foresight", "seekOrderFrom", "(III)V"⟩, 9), (⟨"NodBets$Foresight", "keepBest", "(II)V"⟩, 9), (⟨"NodBets$Foresight", "tryNext", "(II)Z"⟩, 9), (⟨"NodBets$Foresight", "comesInFrom", "(IIII)Z"⟩, 9), (⟨"NodBets$Foresight", "deadFrom", "(III)I"⟩, 9)]
theorem lw_r1 : ∀ q ∈ lw_privs_1, lw_okq q := List.forall_mem_cons.mpr ⟨lw_p0, List.forall_mem_cons.mpr ⟨lw_p1, List.forall_mem_cons.mpr ⟨lw_p2, List.forall_mem_cons.mpr ⟨lw_p3, List.forall_mem_cons.mpr ⟨lw_p4, List.forall_mem_cons.mpr ⟨lw_p5, List.forall_mem_cons.mpr ⟨lw_p6, List.forall_mem_cons.mpr ⟨lw_p7, List.forall_mem_cons.mpr ⟨lw_p8, List.forall_mem_cons.mpr ⟨lw_p9, List.forall_mem_cons.mpr ⟨lw_p10, List.forall_mem_cons.mpr ⟨lw_p11, List.forall_mem_cons.mpr ⟨lw_p12, List.forall_mem_cons.mpr ⟨lw_p13, List.forall_mem_cons.mpr ⟨lw_p14, List.forall_mem_cons.mpr ⟨lw_p15, fun _ h => absurd h List.not_mem_nil⟩⟩⟩⟩⟩⟩⟩⟩⟩⟩⟩⟩⟩⟩⟩⟩
theorem lw_p16 : lw_okq (⟨"NodBets$Foresight", "bringsIn", "(II)Z"⟩, 9) := ⟨⟨by decide +kernel, by decide +kernel⟩, List.mem_of_getElem? (i := 155) (by decide +kernel), List.mem_of_getElem? (i := 624) (by decide +kernel), List.mem_of_getElem? (i := 625) (by decide +kernel)⟩
theorem lw_p17 : lw_okq (⟨"NodBets", "takeTelling", "(III)I"⟩, 9) := ⟨⟨by decide +kernel, by decide +kernel⟩, List.mem_of_getElem? (i := 15) (by decide +kernel), List.mem_of_getElem? (i := 640) (by decide +kernel), List.mem_of_getElem? (i := 641) (by decide +kernel)⟩
theorem lw_p18 : lw_okq (⟨"NodBets$Foresight", "waysFrom", "(III)I"⟩, 9) := ⟨⟨by decide +kernel, by decide +kernel⟩, List.mem_of_getElem? (i := 155) (by decide +kernel), List.mem_of_getElem? (i := 677) (by decide +kernel), List.mem_of_getElem? (i := 678) (by decide +kernel)⟩
theorem lw_p19 : lw_okq (⟨"NodBets$Asks", "sizeOf", "(II)I"⟩, 3) := ⟨⟨by decide +kernel, by decide +kernel⟩, List.mem_of_getElem? (i := 212) (by decide +kernel), List.mem_of_getElem? (i := 727) (by decide +kernel), List.mem_of_getElem? (i := 728) (by decide +kernel)⟩
theorem lw_p20 : lw_okq (⟨"NodBets$Asks", "run", "(III)I"⟩, 3) := ⟨⟨by decide +kernel, by decide +kernel⟩, List.mem_of_getElem? (i := 212) (by decide +kernel), List.mem_of_getElem? (i := 737) (by decide +kernel), List.mem_of_getElem? (i := 738) (by decide +kernel)⟩
theorem lw_p21 : lw_okq (⟨"NodBets$Asks", "leaveTrace", "(I)V"⟩, 3) := ⟨⟨by decide +kernel, by decide +kernel⟩, List.mem_of_getElem? (i := 212) (by decide +kernel), List.mem_of_getElem? (i := 741) (by decide +kernel), List.mem_of_getElem? (i := 742) (by decide +kernel)⟩
theorem lw_p22 : lw_okq (⟨"NodBets$Asks", "markOf", "(II)I"⟩, 3) := ⟨⟨by decide +kernel, by decide +kernel⟩, List.mem_of_getElem? (i := 212) (by decide +kernel), List.mem_of_getElem? (i := 745) (by decide +kernel), List.mem_of_getElem? (i := 746) (by decide +kernel)⟩
theorem lw_p23 : lw_okq (⟨"NodBetsModel", "found", "(I)I"⟩, 28) := ⟨⟨by decide +kernel, by decide +kernel⟩, List.mem_of_getElem? (i := 777) (by decide +kernel), List.mem_of_getElem? (i := 881) (by decide +kernel), List.mem_of_getElem? (i := 882) (by decide +kernel)⟩
theorem lw_p24 : lw_okq (⟨"NodBetsModel", "well", "(I)I"⟩, 28) := ⟨⟨by decide +kernel, by decide +kernel⟩, List.mem_of_getElem? (i := 777) (by decide +kernel), List.mem_of_getElem? (i := 886) (by decide +kernel), List.mem_of_getElem? (i := 887) (by decide +kernel)⟩
theorem lw_p25 : lw_okq (⟨"NodBetsModel", "isMissing", "(I)Z"⟩, 28) := ⟨⟨by decide +kernel, by decide +kernel⟩, List.mem_of_getElem? (i := 777) (by decide +kernel), List.mem_of_getElem? (i := 894) (by decide +kernel), List.mem_of_getElem? (i := 895) (by decide +kernel)⟩
theorem lw_p26 : lw_okq (⟨"NodBetsModel", "isPart", "(III)Z"⟩, 28) := ⟨⟨by decide +kernel, by decide +kernel⟩, List.mem_of_getElem? (i := 777) (by decide +kernel), List.mem_of_getElem? (i := 905) (by decide +kernel), List.mem_of_getElem? (i := 906) (by decide +kernel)⟩
theorem lw_p27 : lw_okq (⟨"NodBetsModel", "advances", "()V"⟩, 28) := ⟨⟨by decide +kernel, by decide +kernel⟩, List.mem_of_getElem? (i := 777) (by decide +kernel), List.mem_of_getElem? (i := 922) (by decide +kernel), List.mem_of_getElem? (i := 923) (by decide +kernel)⟩
theorem lw_p28 : lw_okq (⟨"NodBetsModel", "byteAt", "(I)I"⟩, 28) := ⟨⟨by decide +kernel, by decide +kernel⟩, List.mem_of_getElem? (i := 777) (by decide +kernel), List.mem_of_getElem? (i := 926) (by decide +kernel), List.mem_of_getElem? (i := 927) (by decide +kernel)⟩
theorem lw_p29 : lw_okq (⟨"NodBetsModel", "takes", "(ZI)I"⟩, 28) := ⟨⟨by decide +kernel, by decide +kernel⟩, List.mem_of_getElem? (i := 777) (by decide +kernel), List.mem_of_getElem? (i := 930) (by decide +kernel), List.mem_of_getElem? (i := 931) (by decide +kernel)⟩
theorem lw_p30 : lw_okq (⟨"NodBetsModel", "isWell", "()Z"⟩, 28) := ⟨⟨by decide +kernel, by decide +kernel⟩, List.mem_of_getElem? (i := 777) (by decide +kernel), List.mem_of_getElem? (i := 934) (by decide +kernel), List.mem_of_getElem? (i := 935) (by decide +kernel)⟩
theorem lw_p31 : lw_okq (⟨"NodBetsModel", "figure", "(II)I"⟩, 28) := ⟨⟨by decide +kernel, by decide +kernel⟩, List.mem_of_getElem? (i := 777) (by decide +kernel), List.mem_of_getElem? (i := 938) (by decide +kernel), List.mem_of_getElem? (i := 939) (by decide +kernel)⟩
def lw_privs_2 : List (MethodName × Nat) := [(⟨"NodBets$Foresight", "bringsIn", "(II)Z"⟩, 9), (⟨"NodBets", "takeTelling", "(III)I"⟩, 9), (⟨"NodBets$Foresight", "waysFrom", "(III)I"⟩, 9), (⟨"NodBets$Asks", "sizeOf", "(II)I"⟩, 3), (⟨"NodBets$Asks", "run", "(III)I"⟩, 3), (⟨"NodBets$Asks", "leaveTrace", "(I)V"⟩, 3), (⟨"NodBets$Asks", "markOf", "(II)I"⟩, 3), (⟨"NodBetsModel", "found", "(I)I"⟩, 28), (⟨"NodBetsModel", "well", "(I)I"⟩, 28), (⟨"NodBetsModel", "isMissing", "(I)Z"⟩, 28), (⟨"NodBetsModel", "isPart", "(III)Z"⟩, 28), (⟨"NodBetsModel", "advances", "()V"⟩, 28), (⟨"NodBetsModel", "byteAt", "(I)I"⟩, 28), (⟨"NodBetsModel", "takes", "(ZI)I"⟩, 28), (⟨"NodBetsModel", "isWell", "()Z"⟩, 28), (⟨"NodBetsModel", "figure", "(II)I"⟩, 28)]
theorem lw_r2 : ∀ q ∈ lw_privs_2, lw_okq q := List.forall_mem_cons.mpr ⟨lw_p16, List.forall_mem_cons.mpr ⟨lw_p17, List.forall_mem_cons.mpr ⟨lw_p18, List.forall_mem_cons.mpr ⟨lw_p19, List.forall_mem_cons.mpr ⟨lw_p20, List.forall_mem_cons.mpr ⟨lw_p21, List.forall_mem_cons.mpr ⟨lw_p22, List.forall_mem_cons.mpr ⟨lw_p23, List.forall_mem_cons.mpr ⟨lw_p24, List.forall_mem_cons.mpr ⟨lw_p25, List.forall_mem_cons.mpr ⟨lw_p26, List.forall_mem_cons.mpr ⟨lw_p27, List.forall_mem_cons.mpr ⟨lw_p28, List.forall_mem_cons.mpr ⟨lw_p29, List.forall_mem_cons.mpr ⟨lw_p30, List.forall_mem_cons.mpr ⟨lw_p31, fun _ h => absurd h List.not_mem_nil⟩⟩⟩⟩⟩⟩⟩⟩⟩⟩⟩⟩⟩⟩⟩⟩
theorem lw_p32 : lw_okq (⟨"NodBetsModel", "readsLie", "()V"⟩, 28) := ⟨⟨by decide +kernel, by decide +kernel⟩, List.mem_of_getElem? (i := 777) (by decide +kernel), List.mem_of_getElem? (i := 945) (by decide +kernel), List.mem_of_getElem? (i := 946) (by decide +kernel)⟩
theorem lw_p33 : lw_okq (⟨"NodBetsModel", "next", "(II)I"⟩, 28) := ⟨⟨by decide +kernel, by decide +kernel⟩, List.mem_of_getElem? (i := 777) (by decide +kernel), List.mem_of_getElem? (i := 949) (by decide +kernel), List.mem_of_getElem? (i := 950) (by decide +kernel)⟩
theorem lw_p34 : lw_okq (⟨"NodBetsModel", "readsStranger", "()V"⟩, 28) := ⟨⟨by decide +kernel, by decide +kernel⟩, List.mem_of_getElem? (i := 777) (by decide +kernel), List.mem_of_getElem? (i := 953) (by decide +kernel), List.mem_of_getElem? (i := 954) (by decide +kernel)⟩
theorem lw_p35 : lw_okq (⟨"NodBetsModel", "isStranger", "(I)Z"⟩, 28) := ⟨⟨by decide +kernel, by decide +kernel⟩, List.mem_of_getElem? (i := 777) (by decide +kernel), List.mem_of_getElem? (i := 969) (by decide +kernel), List.mem_of_getElem? (i := 970) (by decide +kernel)⟩
theorem lw_p36 : lw_okq (⟨"NodBetsModel", "isLie", "(I)Z"⟩, 28) := ⟨⟨by decide +kernel, by decide +kernel⟩, List.mem_of_getElem? (i := 777) (by decide +kernel), List.mem_of_getElem? (i := 973) (by decide +kernel), List.mem_of_getElem? (i := 974) (by decide +kernel)⟩
theorem lw_p37 : lw_okq (⟨"NodBetsModel", "wasTold", "(II)Z"⟩, 28) := ⟨⟨by decide +kernel, by decide +kernel⟩, List.mem_of_getElem? (i := 777) (by decide +kernel), List.mem_of_getElem? (i := 977) (by decide +kernel), List.mem_of_getElem? (i := 978) (by decide +kernel)⟩
theorem lw_p38 : lw_okq (⟨"NodBetsModel", "notes", "()V"⟩, 28) := ⟨⟨by decide +kernel, by decide +kernel⟩, List.mem_of_getElem? (i := 777) (by decide +kernel), List.mem_of_getElem? (i := 985) (by decide +kernel), List.mem_of_getElem? (i := 986) (by decide +kernel)⟩
theorem lw_p39 : lw_okq (⟨"NodBetsModel", "tries", "(I)V"⟩, 28) := ⟨⟨by decide +kernel, by decide +kernel⟩, List.mem_of_getElem? (i := 777) (by decide +kernel), List.mem_of_getElem? (i := 989) (by decide +kernel), List.mem_of_getElem? (i := 990) (by decide +kernel)⟩
theorem lw_p40 : lw_okq (⟨"NodBetsModel", "wouldNod", "(I)Z"⟩, 28) := ⟨⟨by decide +kernel, by decide +kernel⟩, List.mem_of_getElem? (i := 777) (by decide +kernel), List.mem_of_getElem? (i := 996) (by decide +kernel), List.mem_of_getElem? (i := 997) (by decide +kernel)⟩
theorem lw_p41 : lw_okq (⟨"NodBetsModel", "needs", "(I)I"⟩, 28) := ⟨⟨by decide +kernel, by decide +kernel⟩, List.mem_of_getElem? (i := 777) (by decide +kernel), List.mem_of_getElem? (i := 1000) (by decide +kernel), List.mem_of_getElem? (i := 1001) (by decide +kernel)⟩
theorem lw_p42 : lw_okq (⟨"NodBetsModel", "hears", "(IZ)V"⟩, 28) := ⟨⟨by decide +kernel, by decide +kernel⟩, List.mem_of_getElem? (i := 777) (by decide +kernel), List.mem_of_getElem? (i := 1004) (by decide +kernel), List.mem_of_getElem? (i := 1005) (by decide +kernel)⟩
theorem lw_p43 : lw_okq (⟨"NodBetsModel", "strangersWith", "(II)I"⟩, 28) := ⟨⟨by decide +kernel, by decide +kernel⟩, List.mem_of_getElem? (i := 777) (by decide +kernel), List.mem_of_getElem? (i := 1024) (by decide +kernel), List.mem_of_getElem? (i := 1025) (by decide +kernel)⟩
theorem lw_p44 : lw_okq (⟨"NodBetsModel", "noddedAt", "(I)I"⟩, 28) := ⟨⟨by decide +kernel, by decide +kernel⟩, List.mem_of_getElem? (i := 777) (by decide +kernel), List.mem_of_getElem? (i := 1028) (by decide +kernel), List.mem_of_getElem? (i := 1029) (by decide +kernel)⟩
theorem lw_p45 : lw_okq (⟨"NodBetsModel", "untold", "(I)I"⟩, 28) := ⟨⟨by decide +kernel, by decide +kernel⟩, List.mem_of_getElem? (i := 777) (by decide +kernel), List.mem_of_getElem? (i := 1044) (by decide +kernel), List.mem_of_getElem? (i := 1045) (by decide +kernel)⟩
theorem lw_p46 : lw_okq (⟨"NodBetsModel", "fills", "(IIII)V"⟩, 28) := ⟨⟨by decide +kernel, by decide +kernel⟩, List.mem_of_getElem? (i := 777) (by decide +kernel), List.mem_of_getElem? (i := 1052) (by decide +kernel), List.mem_of_getElem? (i := 1053) (by decide +kernel)⟩
theorem lw_p47 : lw_okq (⟨"NodBetsModel", "nodsAt", "(II)I"⟩, 28) := ⟨⟨by decide +kernel, by decide +kernel⟩, List.mem_of_getElem? (i := 777) (by decide +kernel), List.mem_of_getElem? (i := 1056) (by decide +kernel), List.mem_of_getElem? (i := 1057) (by decide +kernel)⟩
def lw_privs_3 : List (MethodName × Nat) := [(⟨"NodBetsModel", "readsLie", "()V"⟩, 28), (⟨"NodBetsModel", "next", "(II)I"⟩, 28), (⟨"NodBetsModel", "readsStranger", "()V"⟩, 28), (⟨"NodBetsModel", "isStranger", "(I)Z"⟩, 28), (⟨"NodBetsModel", "isLie", "(I)Z"⟩, 28), (⟨"NodBetsModel", "wasTold", "(II)Z"⟩, 28), (⟨"NodBetsModel", "notes", "()V"⟩, 28), (⟨"NodBetsModel", "tries", "(I)V"⟩, 28), (⟨"NodBetsModel", "wouldNod", "(I)Z"⟩, 28), (⟨"NodBetsModel", "needs", "(I)I"⟩, 28), (⟨"NodBetsModel", "hears", "(IZ)V"⟩, 28), (⟨"NodBetsModel", "strangersWith", "(II)I"⟩, 28), (⟨"NodBetsModel", "noddedAt", "(I)I"⟩, 28), (⟨"NodBetsModel", "untold", "(I)I"⟩, 28), (⟨"NodBetsModel", "fills", "(IIII)V"⟩, 28), (⟨"NodBetsModel", "nodsAt", "(II)I"⟩, 28)]
theorem lw_r3 : ∀ q ∈ lw_privs_3, lw_okq q := List.forall_mem_cons.mpr ⟨lw_p32, List.forall_mem_cons.mpr ⟨lw_p33, List.forall_mem_cons.mpr ⟨lw_p34, List.forall_mem_cons.mpr ⟨lw_p35, List.forall_mem_cons.mpr ⟨lw_p36, List.forall_mem_cons.mpr ⟨lw_p37, List.forall_mem_cons.mpr ⟨lw_p38, List.forall_mem_cons.mpr ⟨lw_p39, List.forall_mem_cons.mpr ⟨lw_p40, List.forall_mem_cons.mpr ⟨lw_p41, List.forall_mem_cons.mpr ⟨lw_p42, List.forall_mem_cons.mpr ⟨lw_p43, List.forall_mem_cons.mpr ⟨lw_p44, List.forall_mem_cons.mpr ⟨lw_p45, List.forall_mem_cons.mpr ⟨lw_p46, List.forall_mem_cons.mpr ⟨lw_p47, fun _ h => absurd h List.not_mem_nil⟩⟩⟩⟩⟩⟩⟩⟩⟩⟩⟩⟩⟩⟩⟩⟩
theorem lw_p48 : lw_okq (⟨"NodBetsModel", "goesOn", "(II)Z"⟩, 28) := ⟨⟨by decide +kernel, by decide +kernel⟩, List.mem_of_getElem? (i := 777) (by decide +kernel), List.mem_of_getElem? (i := 1060) (by decide +kernel), List.mem_of_getElem? (i := 1061) (by decide +kernel)⟩
theorem lw_p49 : lw_okq (⟨"NodBetsModel", "aheadOf", "(II)I"⟩, 28) := ⟨⟨by decide +kernel, by decide +kernel⟩, List.mem_of_getElem? (i := 777) (by decide +kernel), List.mem_of_getElem? (i := 1068) (by decide +kernel), List.mem_of_getElem? (i := 1069) (by decide +kernel)⟩
theorem lw_p50 : lw_okq (⟨"NodBetsModel", "helps", "(III)Z"⟩, 28) := ⟨⟨by decide +kernel, by decide +kernel⟩, List.mem_of_getElem? (i := 777) (by decide +kernel), List.mem_of_getElem? (i := 1080) (by decide +kernel), List.mem_of_getElem? (i := 1081) (by decide +kernel)⟩
theorem lw_p51 : lw_okq (⟨"NodBetsModel", "wrongIn", "(III)I"⟩, 28) := ⟨⟨by decide +kernel, by decide +kernel⟩, List.mem_of_getElem? (i := 777) (by decide +kernel), List.mem_of_getElem? (i := 1092) (by decide +kernel), List.mem_of_getElem? (i := 1093) (by decide +kernel)⟩
theorem lw_p52 : lw_okq (⟨"NodBetsModel", "goesSo", "(II)Z"⟩, 28) := ⟨⟨by decide +kernel, by decide +kernel⟩, List.mem_of_getElem? (i := 777) (by decide +kernel), List.mem_of_getElem? (i := 1096) (by decide +kernel), List.mem_of_getElem? (i := 1097) (by decide +kernel)⟩
theorem lw_p53 : lw_okq (⟨"NodBetsModel", "isTown", "()Z"⟩, 28) := ⟨⟨by decide +kernel, by decide +kernel⟩, List.mem_of_getElem? (i := 777) (by decide +kernel), List.mem_of_getElem? (i := 1108) (by decide +kernel), List.mem_of_getElem? (i := 1109) (by decide +kernel)⟩
theorem lw_p54 : lw_okq (⟨"NodBetsModel", "goesBy", "(IIIII)J"⟩, 28) := ⟨⟨by decide +kernel, by decide +kernel⟩, List.mem_of_getElem? (i := 777) (by decide +kernel), List.mem_of_getElem? (i := 1117) (by decide +kernel), List.mem_of_getElem? (i := 1118) (by decide +kernel)⟩
theorem lw_p55 : lw_okq (⟨"NodBetsModel", "kindIn", "(I)I"⟩, 28) := ⟨⟨by decide +kernel, by decide +kernel⟩, List.mem_of_getElem? (i := 777) (by decide +kernel), List.mem_of_getElem? (i := 1133) (by decide +kernel), List.mem_of_getElem? (i := 1134) (by decide +kernel)⟩
theorem lw_p56 : lw_okq (⟨"NodBetsModel", "proofSize", "(I)I"⟩, 28) := ⟨⟨by decide +kernel, by decide +kernel⟩, List.mem_of_getElem? (i := 777) (by decide +kernel), List.mem_of_getElem? (i := 1145) (by decide +kernel), List.mem_of_getElem? (i := 1146) (by decide +kernel)⟩
theorem lw_p57 : lw_okq (⟨"NodBetsModel", "begins", "(I)V"⟩, 28) := ⟨⟨by decide +kernel, by decide +kernel⟩, List.mem_of_getElem? (i := 777) (by decide +kernel), List.mem_of_getElem? (i := 1149) (by decide +kernel), List.mem_of_getElem? (i := 1150) (by decide +kernel)⟩
theorem lw_p58 : lw_okq (⟨"NodBetsModel", "easySize", "(I)I"⟩, 28) := ⟨⟨by decide +kernel, by decide +kernel⟩, List.mem_of_getElem? (i := 777) (by decide +kernel), List.mem_of_getElem? (i := 1153) (by decide +kernel), List.mem_of_getElem? (i := 1154) (by decide +kernel)⟩
theorem lw_p59 : lw_okq (⟨"NodBetsModel", "easyMark", "(I)I"⟩, 28) := ⟨⟨by decide +kernel, by decide +kernel⟩, List.mem_of_getElem? (i := 777) (by decide +kernel), List.mem_of_getElem? (i := 1157) (by decide +kernel), List.mem_of_getElem? (i := 1158) (by decide +kernel)⟩
theorem lw_p60 : lw_okq (⟨"NodBetsModel", "proofMark", "(I)I"⟩, 28) := ⟨⟨by decide +kernel, by decide +kernel⟩, List.mem_of_getElem? (i := 777) (by decide +kernel), List.mem_of_getElem? (i := 1161) (by decide +kernel), List.mem_of_getElem? (i := 1162) (by decide +kernel)⟩
def lw_privs_4 : List (MethodName × Nat) := [(⟨"NodBetsModel", "goesOn", "(II)Z"⟩, 28), (⟨"NodBetsModel", "aheadOf", "(II)I"⟩, 28), (⟨"NodBetsModel", "helps", "(III)Z"⟩, 28), (⟨"NodBetsModel", "wrongIn", "(III)I"⟩, 28), (⟨"NodBetsModel", "goesSo", "(II)Z"⟩, 28), (⟨"NodBetsModel", "isTown", "()Z"⟩, 28), (⟨"NodBetsModel", "goesBy", "(IIIII)J"⟩, 28), (⟨"NodBetsModel", "kindIn", "(I)I"⟩, 28), (⟨"NodBetsModel", "proofSize", "(I)I"⟩, 28), (⟨"NodBetsModel", "begins", "(I)V"⟩, 28), (⟨"NodBetsModel", "easySize", "(I)I"⟩, 28), (⟨"NodBetsModel", "easyMark", "(I)I"⟩, 28), (⟨"NodBetsModel", "proofMark", "(I)I"⟩, 28)]
theorem lw_r4 : ∀ q ∈ lw_privs_4, lw_okq q := List.forall_mem_cons.mpr ⟨lw_p48, List.forall_mem_cons.mpr ⟨lw_p49, List.forall_mem_cons.mpr ⟨lw_p50, List.forall_mem_cons.mpr ⟨lw_p51, List.forall_mem_cons.mpr ⟨lw_p52, List.forall_mem_cons.mpr ⟨lw_p53, List.forall_mem_cons.mpr ⟨lw_p54, List.forall_mem_cons.mpr ⟨lw_p55, List.forall_mem_cons.mpr ⟨lw_p56, List.forall_mem_cons.mpr ⟨lw_p57, List.forall_mem_cons.mpr ⟨lw_p58, List.forall_mem_cons.mpr ⟨lw_p59, List.forall_mem_cons.mpr ⟨lw_p60, fun _ h => absurd h List.not_mem_nil⟩⟩⟩⟩⟩⟩⟩⟩⟩⟩⟩⟩⟩
def lw_privs : List (MethodName × Nat) := lw_privs_1 ++ (lw_privs_2 ++ (lw_privs_3 ++ (lw_privs_4)))
def lw_tbl : List Cond := k2_sels lw_privs ++ tables_1
theorem lw_privs_ok : ∀ q ∈ lw_privs, lw_okq q := by
  show ∀ q ∈ lw_privs_1 ++ (lw_privs_2 ++ (lw_privs_3 ++ (lw_privs_4))), lw_okq q
  exact List.forall_mem_append.mpr ⟨lw_r1, List.forall_mem_append.mpr ⟨lw_r2, List.forall_mem_append.mpr ⟨lw_r3, lw_r4⟩⟩⟩
def RX0 : String := "NodBets$Acts"
def TX0 : u_T := fun k => match k with
  | 0 => ("NodBets$Acts", "strangers", "[I", true)
  | 1 => ("NodBets$Acts", "trusts", "[I", true)
  | 2 => ("NodBets$Acts", "told", "[I", true)
  | 3 => ("NodBets$Acts", "nodded", "[I", true)
  | 4 => ("NodBets$Acts", "purses", "[I", true)
  | 5 => ("NodBets$Acts", "next", "I", false)
  | _ => ("NodBets$Acts", "kept", "I", false)
def tyX0 : Nat → FieldType := fun k => match k with
  | 0 => .array .int
  | 1 => .array .int
  | 2 => .array .int
  | 3 => .array .int
  | 4 => .array .int
  | 5 => .int
  | _ => .int
abbrev wsX00 : List Cond := u_ws RX0 TX0 7
theorem nmX0 : ∀ a, a < 7 → ∀ b, b < 7 → a ≠ b → (TX0 a).2.1 ≠ (TX0 b).2.1 := by decide +kernel
theorem tyX0_ok : ∀ k, k < 7 → parseFieldDescriptor (TX0 k).2.2.1 = some (tyX0 k) := by decide +kernel
abbrev cX0_init : ByteArray := prog_2_method_1_code
def yX0_init : MethodName := ⟨RX0, "<init>", "()V"⟩
abbrev cX0_kept : ByteArray := prog_2_method_2_code
def yX0_kept : MethodName := ⟨RX0, "kept", "()I"⟩
abbrev cX0_clear : ByteArray := prog_2_method_3_code
def yX0_clear : MethodName := ⟨RX0, "clear", "()V"⟩
abbrev cX0_keepAhead : ByteArray := prog_2_method_4_code
def yX0_keepAhead : MethodName := ⟨RX0, "keepAhead", "(LNodBets$Town;I)V"⟩
abbrev cX0_undoLatest : ByteArray := prog_2_method_5_code
def yX0_undoLatest : MethodName := ⟨RX0, "undoLatest", "(LNodBets$Town;)V"⟩
def RX1 : String := "NodBets$Asks"
def TX1 : u_T := fun k => match k with
  | 0 => ("NodBets$Asks", "town", "LNodBets$Town;", true)
  | 1 => ("NodBets$Asks", "traced", "[I", true)
  | _ => ("NodBets$Asks", "tracedLength", "I", false)
def tyX1 : Nat → FieldType := fun k => match k with
  | 0 => .object "NodBets$Town"
  | 1 => .array .int
  | _ => .int
abbrev wsX10 : List Cond := u_ws RX1 TX1 3
theorem nmX1 : ∀ a, a < 3 → ∀ b, b < 3 → a ≠ b → (TX1 a).2.1 ≠ (TX1 b).2.1 := by decide +kernel
theorem tyX1_ok : ∀ k, k < 3 → parseFieldDescriptor (TX1 k).2.2.1 = some (tyX1 k) := by decide +kernel
abbrev cX1_init : ByteArray := prog_3_method_1_code
def yX1_init : MethodName := ⟨RX1, "<init>", "(LNodBets$Town;)V"⟩
abbrev cX1_answer : ByteArray := prog_3_method_2_code
def yX1_answer : MethodName := ⟨RX1, "answer", "(II)I"⟩
abbrev cX1_traceAt : ByteArray := prog_3_method_3_code
def yX1_traceAt : MethodName := ⟨RX1, "traceAt", "(I)I"⟩
abbrev cX1_sizeOf : ByteArray := prog_3_method_4_code
def yX1_sizeOf : MethodName := ⟨RX1, "sizeOf", "(II)I"⟩
abbrev cX1_markOf : ByteArray := prog_3_method_5_code
def yX1_markOf : MethodName := ⟨RX1, "markOf", "(II)I"⟩
abbrev cX1_nearestBody : ByteArray := prog_3_method_6_code
def yX1_nearestBody : MethodName := ⟨RX1, "nearestBody", "([II)I"⟩
abbrev cX1_run : ByteArray := prog_3_method_7_code
def yX1_run : MethodName := ⟨RX1, "run", "(III)I"⟩
abbrev cX1_leaveTrace : ByteArray := prog_3_method_8_code
def yX1_leaveTrace : MethodName := ⟨RX1, "leaveTrace", "(I)V"⟩
def RX2 : String := "NodBets$Foresight"
def TX2 : u_T := fun k => match k with
  | 0 => ("NodBets$Foresight", "town", "LNodBets$Town;", true)
  | 1 => ("NodBets$Foresight", "minds", "[LNodBets$Mind;", true)
  | 2 => ("NodBets$Foresight", "path", "[I", true)
  | 3 => ("NodBets$Foresight", "best", "[I", true)
  | 4 => ("NodBets$Foresight", "bestLength", "I", false)
  | 5 => ("NodBets$Foresight", "bestNodded", "I", false)
  | 6 => ("NodBets$Foresight", "tellingLies", "[I", true)
  | 7 => ("NodBets$Foresight", "tellingNods", "[I", true)
  | _ => ("NodBets$Foresight", "tellingLength", "I", false)
def tyX2 : Nat → FieldType := fun k => match k with
  | 0 => .object "NodBets$Town"
  | 1 => .array (.object "NodBets$Mind")
  | 2 => .array .int
  | 3 => .array .int
  | 4 => .int
  | 5 => .int
  | 6 => .array .int
  | 7 => .array .int
  | _ => .int
abbrev wsX20 : List Cond := u_ws RX2 TX2 9
theorem nmX2 : ∀ a, a < 9 → ∀ b, b < 9 → a ≠ b → (TX2 a).2.1 ≠ (TX2 b).2.1 := by decide +kernel
theorem tyX2_ok : ∀ k, k < 9 → parseFieldDescriptor (TX2 k).2.2.1 = some (tyX2 k) := by decide +kernel
abbrev cX2_init : ByteArray := prog_4_method_1_code
def yX2_init : MethodName := ⟨RX2, "<init>", "(LNodBets$Town;)V"⟩
abbrev cX2_mindOf : ByteArray := prog_4_method_2_code
def yX2_mindOf : MethodName := ⟨RX2, "mindOf", "(I)LNodBets$Mind;"⟩
abbrev cX2_nodsNow : ByteArray := prog_4_method_3_code
def yX2_nodsNow : MethodName := ⟨RX2, "nodsNow", "(I)I"⟩
abbrev cX2_seekOrder : ByteArray := prog_4_method_4_code
def yX2_seekOrder : MethodName := ⟨RX2, "seekOrder", "(II)V"⟩
abbrev cX2_bestNods : ByteArray := prog_4_method_5_code
def yX2_bestNods : MethodName := ⟨RX2, "bestNods", "()I"⟩
abbrev cX2_bestAt : ByteArray := prog_4_method_6_code
def yX2_bestAt : MethodName := ⟨RX2, "bestAt", "(I)I"⟩
abbrev cX2_seekOrderFrom : ByteArray := prog_4_method_7_code
def yX2_seekOrderFrom : MethodName := ⟨RX2, "seekOrderFrom", "(III)V"⟩
abbrev cX2_keepBest : ByteArray := prog_4_method_8_code
def yX2_keepBest : MethodName := ⟨RX2, "keepBest", "(II)V"⟩
abbrev cX2_tryNext : ByteArray := prog_4_method_9_code
def yX2_tryNext : MethodName := ⟨RX2, "tryNext", "(II)Z"⟩
abbrev cX2_fewestAhead : ByteArray := prog_4_method_10_code
def yX2_fewestAhead : MethodName := ⟨RX2, "fewestAhead", "(II)I"⟩
abbrev cX2_firstAhead : ByteArray := prog_4_method_11_code
def yX2_firstAhead : MethodName := ⟨RX2, "firstAhead", "()I"⟩
abbrev cX2_comesInFrom : ByteArray := prog_4_method_12_code
def yX2_comesInFrom : MethodName := ⟨RX2, "comesInFrom", "(IIII)Z"⟩
abbrev cX2_deadLies : ByteArray := prog_4_method_13_code
def yX2_deadLies : MethodName := ⟨RX2, "deadLies", "(I)I"⟩
abbrev cX2_deadFrom : ByteArray := prog_4_method_14_code
def yX2_deadFrom : MethodName := ⟨RX2, "deadFrom", "(III)I"⟩
abbrev cX2_helpEachOther : ByteArray := prog_4_method_15_code
def yX2_helpEachOther : MethodName := ⟨RX2, "helpEachOther", "(III)Z"⟩
abbrev cX2_bringsIn : ByteArray := prog_4_method_16_code
def yX2_bringsIn : MethodName := ⟨RX2, "bringsIn", "(II)Z"⟩
abbrev cX2_takeTelling : ByteArray := prog_4_method_17_code
def yX2_takeTelling : MethodName := ⟨RX2, "takeTelling", "(LNodBets$Rows;III)Z"⟩
abbrev cX2_goesSo : ByteArray := prog_4_method_18_code
def yX2_goesSo : MethodName := ⟨RX2, "goesSo", "(III)Z"⟩
abbrev cX2_waysToNod : ByteArray := prog_4_method_19_code
def yX2_waysToNod : MethodName := ⟨RX2, "waysToNod", "(III)I"⟩
abbrev cX2_waysInAll : ByteArray := prog_4_method_20_code
def yX2_waysInAll : MethodName := ⟨RX2, "waysInAll", "()I"⟩
abbrev cX2_waysFrom : ByteArray := prog_4_method_21_code
def yX2_waysFrom : MethodName := ⟨RX2, "waysFrom", "(III)I"⟩
def RX3 : String := "NodBets$Kinds"
def TX3 : u_T := fun k => match k with
  | _ => ("", "", "", false)
def tyX3 : Nat → FieldType := fun k => match k with
  | _ => .int
abbrev wsX30 : List Cond := u_ws RX3 TX3 0
theorem nmX3 : ∀ a, a < 0 → ∀ b, b < 0 → a ≠ b → (TX3 a).2.1 ≠ (TX3 b).2.1 := by decide +kernel
theorem tyX3_ok : ∀ k, k < 0 → parseFieldDescriptor (TX3 k).2.2.1 = some (tyX3 k) := by decide +kernel
abbrev cX3_isKind : ByteArray := prog_5_method_2_code
def yX3_isKind : MethodName := ⟨RX3, "isKind", "(I)Z"⟩
abbrev cX3_isOne : ByteArray := prog_5_method_3_code
def yX3_isOne : MethodName := ⟨RX3, "isOne", "(II)Z"⟩
abbrev cX3_above : ByteArray := prog_5_method_4_code
def yX3_above : MethodName := ⟨RX3, "above", "(I)I"⟩
abbrev cX3_ofLetter : ByteArray := prog_5_method_5_code
def yX3_ofLetter : MethodName := ⟨RX3, "ofLetter", "(I)I"⟩
def RX4 : String := "NodBets$Mind"
def TX4 : u_T := fun k => match k with
  | 0 => ("NodBets$Mind", "trust", "I", false)
  | 1 => ("NodBets$Mind", "doubts", "I", false)
  | 2 => ("NodBets$Mind", "toldSoFar", "I", false)
  | _ => ("NodBets$Mind", "nodsOfTopic", "[I", true)
def tyX4 : Nat → FieldType := fun k => match k with
  | 0 => .int
  | 1 => .int
  | 2 => .int
  | _ => .array .int
abbrev wsX40 : List Cond := u_ws RX4 TX4 4
theorem nmX4 : ∀ a, a < 4 → ∀ b, b < 4 → a ≠ b → (TX4 a).2.1 ≠ (TX4 b).2.1 := by decide +kernel
theorem tyX4_ok : ∀ k, k < 4 → parseFieldDescriptor (TX4 k).2.2.1 = some (tyX4 k) := by decide +kernel
abbrev cX4_init : ByteArray := prog_6_method_1_code
def yX4_init : MethodName := ⟨RX4, "<init>", "()V"⟩
abbrev cX4_enter : ByteArray := prog_6_method_2_code
def yX4_enter : MethodName := ⟨RX4, "enter", "(LNodBets$Town;I)V"⟩
abbrev cX4_become : ByteArray := prog_6_method_3_code
def yX4_become : MethodName := ⟨RX4, "become", "(LNodBets$Mind;)V"⟩
abbrev cX4_needOf : ByteArray := prog_6_method_4_code
def yX4_needOf : MethodName := ⟨RX4, "needOf", "(LNodBets$Town;I)I"⟩
abbrev cX4_wouldNod : ByteArray := prog_6_method_5_code
def yX4_wouldNod : MethodName := ⟨RX4, "wouldNod", "(LNodBets$Town;I)Z"⟩
abbrev cX4_hear : ByteArray := prog_6_method_6_code
def yX4_hear : MethodName := ⟨RX4, "hear", "(LNodBets$Town;I)Z"⟩
abbrev cX4_hearAs : ByteArray := prog_6_method_7_code
def yX4_hearAs : MethodName := ⟨RX4, "hearAs", "(LNodBets$Town;IZ)V"⟩
abbrev cX4_dine : ByteArray := prog_6_method_8_code
def yX4_dine : MethodName := ⟨RX4, "dine", "()V"⟩
abbrev cX4_undoubtedNeed : ByteArray := prog_6_method_9_code
def yX4_undoubtedNeed : MethodName := ⟨RX4, "undoubtedNeed", "(III)I"⟩
abbrev cX4_proofNeed : ByteArray := prog_6_method_10_code
def yX4_proofNeed : MethodName := ⟨RX4, "proofNeed", "(II)I"⟩
def RX5 : String := "NodBets$Reader"
def TX5 : u_T := fun k => match k with
  | 0 => ("NodBets$Reader", "tape", "[I", true)
  | 1 => ("NodBets$Reader", "bytes", "I", false)
  | 2 => ("NodBets$Reader", "at", "I", false)
  | _ => ("NodBets$Reader", "latest", "I", false)
def tyX5 : Nat → FieldType := fun k => match k with
  | 0 => .array .int
  | 1 => .int
  | 2 => .int
  | _ => .int
abbrev wsX50 : List Cond := u_ws RX5 TX5 4
theorem nmX5 : ∀ a, a < 4 → ∀ b, b < 4 → a ≠ b → (TX5 a).2.1 ≠ (TX5 b).2.1 := by decide +kernel
theorem tyX5_ok : ∀ k, k < 4 → parseFieldDescriptor (TX5 k).2.2.1 = some (tyX5 k) := by decide +kernel
abbrev cX5_init : ByteArray := prog_7_method_1_code
def yX5_init : MethodName := ⟨RX5, "<init>", "()V"⟩
abbrev cX5_isFull : ByteArray := prog_7_method_2_code
def yX5_isFull : MethodName := ⟨RX5, "isFull", "()Z"⟩
abbrev cX5_append : ByteArray := prog_7_method_3_code
def yX5_append : MethodName := ⟨RX5, "append", "(I)I"⟩
abbrev cX5_length : ByteArray := prog_7_method_4_code
def yX5_length : MethodName := ⟨RX5, "length", "()I"⟩
abbrev cX5_faultPlace : ByteArray := prog_7_method_5_code
def yX5_faultPlace : MethodName := ⟨RX5, "faultPlace", "()I"⟩
abbrev cX5_latestFault : ByteArray := prog_7_method_6_code
def yX5_latestFault : MethodName := ⟨RX5, "latestFault", "()I"⟩
abbrev cX5_readInto : ByteArray := prog_7_method_7_code
def yX5_readInto : MethodName := ⟨RX5, "readInto", "(LNodBets$Town;)Z"⟩
abbrev cX5_readLaw : ByteArray := prog_7_method_8_code
def yX5_readLaw : MethodName := ⟨RX5, "readLaw", "(LNodBets$Town;)Z"⟩
abbrev cX5_readLies : ByteArray := prog_7_method_9_code
def yX5_readLies : MethodName := ⟨RX5, "readLies", "(LNodBets$Town;)Z"⟩
abbrev cX5_readStrangers : ByteArray := prog_7_method_10_code
def yX5_readStrangers : MethodName := ⟨RX5, "readStrangers", "(LNodBets$Town;)Z"⟩
abbrev cX5_readNumber : ByteArray := prog_7_method_11_code
def yX5_readNumber : MethodName := ⟨RX5, "readNumber", "(II)I"⟩
abbrev cX5_passed : ByteArray := prog_7_method_12_code
def yX5_passed : MethodName := ⟨RX5, "passed", "(I)Z"⟩
abbrev cX5_refuse : ByteArray := prog_7_method_13_code
def yX5_refuse : MethodName := ⟨RX5, "refuse", "(I)Z"⟩
abbrev cX5_here : ByteArray := prog_7_method_14_code
def yX5_here : MethodName := ⟨RX5, "here", "()I"⟩
abbrev cX5_byteAt : ByteArray := prog_7_method_15_code
def yX5_byteAt : MethodName := ⟨RX5, "byteAt", "(I)I"⟩
abbrev cX5_isFigure : ByteArray := prog_7_method_16_code
def yX5_isFigure : MethodName := ⟨RX5, "isFigure", "(I)Z"⟩
def RX6 : String := "NodBets$Rows"
def TX6 : u_T := fun k => match k with
  | 0 => ("NodBets$Rows", "lanes", "[I", true)
  | 1 => ("NodBets$Rows", "lengths", "[I", true)
  | _ => ("NodBets$Rows", "items", "[I", true)
def tyX6 : Nat → FieldType := fun k => match k with
  | 0 => .array .int
  | 1 => .array .int
  | _ => .array .int
abbrev wsX60 : List Cond := u_ws RX6 TX6 3
theorem nmX6 : ∀ a, a < 3 → ∀ b, b < 3 → a ≠ b → (TX6 a).2.1 ≠ (TX6 b).2.1 := by decide +kernel
theorem tyX6_ok : ∀ k, k < 3 → parseFieldDescriptor (TX6 k).2.2.1 = some (tyX6 k) := by decide +kernel
abbrev cX6_init : ByteArray := prog_8_method_1_code
def yX6_init : MethodName := ⟨RX6, "<init>", "()V"⟩
abbrev cX6_isRow : ByteArray := prog_8_method_2_code
def yX6_isRow : MethodName := ⟨RX6, "isRow", "(I)Z"⟩
abbrev cX6_isLane : ByteArray := prog_8_method_3_code
def yX6_isLane : MethodName := ⟨RX6, "isLane", "(I)Z"⟩
abbrev cX6_isMissing : ByteArray := prog_8_method_4_code
def yX6_isMissing : MethodName := ⟨RX6, "isMissing", "(I)Z"⟩
abbrev cX6_laneOf : ByteArray := prog_8_method_5_code
def yX6_laneOf : MethodName := ⟨RX6, "laneOf", "(I)I"⟩
abbrev cX6_hasPlaces : ByteArray := prog_8_method_6_code
def yX6_hasPlaces : MethodName := ⟨RX6, "hasPlaces", "(III)Z"⟩
abbrev cX6_make : ByteArray := prog_8_method_7_code
def yX6_make : MethodName := ⟨RX6, "make", "(III)V"⟩
abbrev cX6_put : ByteArray := prog_8_method_8_code
def yX6_put : MethodName := ⟨RX6, "put", "(III)I"⟩
abbrev cX6_itemAt : ByteArray := prog_8_method_9_code
def yX6_itemAt : MethodName := ⟨RX6, "itemAt", "(II)I"⟩
abbrev cX6_move : ByteArray := prog_8_method_10_code
def yX6_move : MethodName := ⟨RX6, "move", "(IIIII)V"⟩
abbrev cX6_remove : ByteArray := prog_8_method_11_code
def yX6_remove : MethodName := ⟨RX6, "remove", "(I)I"⟩
abbrev cX6_present : ByteArray := prog_8_method_12_code
def yX6_present : MethodName := ⟨RX6, "present", "()I"⟩
abbrev cX6_cutToLane : ByteArray := prog_8_method_13_code
def yX6_cutToLane : MethodName := ⟨RX6, "cutToLane", "(II)I"⟩
def RX7 : String := "NodBets$Town"
def TX7 : u_T := fun k => match k with
  | 0 => ("NodBets$Town", "stake", "I", false)
  | 1 => ("NodBets$Town", "purse", "I", false)
  | 2 => ("NodBets$Town", "lies", "I", false)
  | 3 => ("NodBets$Town", "strangers", "I", false)
  | 4 => ("NodBets$Town", "kinds", "[I", true)
  | 5 => ("NodBets$Town", "weights", "[I", true)
  | 6 => ("NodBets$Town", "topics", "[I", true)
  | 7 => ("NodBets$Town", "trusts", "[I", true)
  | 8 => ("NodBets$Town", "doubts", "[I", true)
  | 9 => ("NodBets$Town", "told", "[I", true)
  | _ => ("NodBets$Town", "nodded", "[I", true)
def tyX7 : Nat → FieldType := fun k => match k with
  | 0 => .int
  | 1 => .int
  | 2 => .int
  | 3 => .int
  | 4 => .array .int
  | 5 => .array .int
  | 6 => .array .int
  | 7 => .array .int
  | 8 => .array .int
  | 9 => .array .int
  | _ => .array .int
abbrev wsX70 : List Cond := u_ws RX7 TX7 11
theorem nmX7 : ∀ a, a < 11 → ∀ b, b < 11 → a ≠ b → (TX7 a).2.1 ≠ (TX7 b).2.1 := by decide +kernel
theorem tyX7_ok : ∀ k, k < 11 → parseFieldDescriptor (TX7 k).2.2.1 = some (tyX7 k) := by decide +kernel
abbrev cX7_init : ByteArray := prog_9_method_1_code
def yX7_init : MethodName := ⟨RX7, "<init>", "()V"⟩
abbrev cX7_stands : ByteArray := prog_9_method_2_code
def yX7_stands : MethodName := ⟨RX7, "stands", "()Z"⟩
abbrev cX7_hasLie : ByteArray := prog_9_method_3_code
def yX7_hasLie : MethodName := ⟨RX7, "hasLie", "(I)Z"⟩
abbrev cX7_hasStranger : ByteArray := prog_9_method_4_code
def yX7_hasStranger : MethodName := ⟨RX7, "hasStranger", "(I)Z"⟩
abbrev cX7_isSetOfLies : ByteArray := prog_9_method_5_code
def yX7_isSetOfLies : MethodName := ⟨RX7, "isSetOfLies", "(I)Z"⟩
abbrev cX7_wasTold : ByteArray := prog_9_method_6_code
def yX7_wasTold : MethodName := ⟨RX7, "wasTold", "(II)Z"⟩
abbrev cX7_untold : ByteArray := prog_9_method_7_code
def yX7_untold : MethodName := ⟨RX7, "untold", "(I)I"⟩
abbrev cX7_strangersWith : ByteArray := prog_9_method_8_code
def yX7_strangersWith : MethodName := ⟨RX7, "strangersWith", "([II)I"⟩
abbrev cX7_begin : ByteArray := prog_9_method_9_code
def yX7_begin : MethodName := ⟨RX7, "begin", "(I)V"⟩
abbrev cX7_addLie : ByteArray := prog_9_method_10_code
def yX7_addLie : MethodName := ⟨RX7, "addLie", "(III)V"⟩
abbrev cX7_addStranger : ByteArray := prog_9_method_11_code
def yX7_addStranger : MethodName := ⟨RX7, "addStranger", "(II)V"⟩
abbrev cX7_become : ByteArray := prog_9_method_12_code
def yX7_become : MethodName := ⟨RX7, "become", "(LNodBets$Town;)V"⟩
abbrev cX7_noteTold : ByteArray := prog_9_method_13_code
def yX7_noteTold : MethodName := ⟨RX7, "noteTold", "(IIZI)V"⟩
abbrev cX7_noteSupper : ByteArray := prog_9_method_14_code
def yX7_noteSupper : MethodName := ⟨RX7, "noteSupper", "(II)V"⟩
abbrev cX7_noteForgotten : ByteArray := prog_9_method_15_code
def yX7_noteForgotten : MethodName := ⟨RX7, "noteForgotten", "(II)V"⟩
def RX8 : String := "NodBets"
def TX8 : u_T := fun k => match k with
  | 0 => ("NodBets", "rows", "LNodBets$Rows;", true)
  | 1 => ("NodBets", "reader", "LNodBets$Reader;", true)
  | 2 => ("NodBets", "current", "LNodBets$Town;", true)
  | 3 => ("NodBets", "draft", "LNodBets$Town;", true)
  | 4 => ("NodBets", "images", "[LNodBets$Town;", true)
  | 5 => ("NodBets", "acts", "LNodBets$Acts;", true)
  | 6 => ("NodBets", "foresight", "LNodBets$Foresight;", true)
  | 7 => ("NodBets", "asks", "LNodBets$Asks;", true)
  | _ => ("NodBets", "latestFinding", "I", false)
def tyX8 : Nat → FieldType := fun k => match k with
  | 0 => .object "NodBets$Rows"
  | 1 => .object "NodBets$Reader"
  | 2 => .object "NodBets$Town"
  | 3 => .object "NodBets$Town"
  | 4 => .array (.object "NodBets$Town")
  | 5 => .object "NodBets$Acts"
  | 6 => .object "NodBets$Foresight"
  | 7 => .object "NodBets$Asks"
  | _ => .int
abbrev wsX80 : List Cond := u_ws RX8 TX8 9
theorem nmX8 : ∀ a, a < 9 → ∀ b, b < 9 → a ≠ b → (TX8 a).2.1 ≠ (TX8 b).2.1 := by decide +kernel
theorem tyX8_ok : ∀ k, k < 9 → parseFieldDescriptor (TX8 k).2.2.1 = some (tyX8 k) := by decide +kernel
abbrev cX8_init : ByteArray := prog_1_method_1_code
def yX8_init : MethodName := ⟨RX8, "<init>", "()V"⟩
abbrev cX8_row : ByteArray := prog_1_method_2_code
def yX8_row : MethodName := ⟨RX8, "row", "(III)I"⟩
abbrev cX8_set : ByteArray := prog_1_method_3_code
def yX8_set : MethodName := ⟨RX8, "set", "(III)I"⟩
abbrev cX8_copy : ByteArray := prog_1_method_4_code
def yX8_copy : MethodName := ⟨RX8, "copy", "(IIIII)I"⟩
abbrev cX8_drop : ByteArray := prog_1_method_5_code
def yX8_drop : MethodName := ⟨RX8, "drop", "(I)I"⟩
abbrev cX8_feed : ByteArray := prog_1_method_6_code
def yX8_feed : MethodName := ⟨RX8, "feed", "(I)I"⟩
abbrev cX8_town : ByteArray := prog_1_method_7_code
def yX8_town : MethodName := ⟨RX8, "town", "()I"⟩
abbrev cX8_fault : ByteArray := prog_1_method_8_code
def yX8_fault : MethodName := ⟨RX8, "fault", "()I"⟩
abbrev cX8_tell : ByteArray := prog_1_method_9_code
def yX8_tell : MethodName := ⟨RX8, "tell", "(II)I"⟩
abbrev cX8_supper : ByteArray := prog_1_method_10_code
def yX8_supper : MethodName := ⟨RX8, "supper", "(I)I"⟩
abbrev cX8_forget : ByteArray := prog_1_method_11_code
def yX8_forget : MethodName := ⟨RX8, "forget", "(II)I"⟩
abbrev cX8_undo : ByteArray := prog_1_method_12_code
def yX8_undo : MethodName := ⟨RX8, "undo", "()I"⟩
abbrev cX8_lie : ByteArray := prog_1_method_13_code
def yX8_lie : MethodName := ⟨RX8, "lie", "(II)I"⟩
abbrev cX8_stranger : ByteArray := prog_1_method_14_code
def yX8_stranger : MethodName := ⟨RX8, "stranger", "(II)I"⟩
abbrev cX8_need : ByteArray := prog_1_method_15_code
def yX8_need : MethodName := ⟨RX8, "need", "(II)I"⟩
abbrev cX8_nods : ByteArray := prog_1_method_16_code
def yX8_nods : MethodName := ⟨RX8, "nods", "(I)I"⟩
abbrev cX8_order : ByteArray := prog_1_method_17_code
def yX8_order : MethodName := ⟨RX8, "order", "(III)I"⟩
abbrev cX8_comesIn : ByteArray := prog_1_method_18_code
def yX8_comesIn : MethodName := ⟨RX8, "comesIn", "(III)I"⟩
abbrev cX8_dead : ByteArray := prog_1_method_19_code
def yX8_dead : MethodName := ⟨RX8, "dead", "(I)I"⟩
abbrev cX8_help : ByteArray := prog_1_method_20_code
def yX8_help : MethodName := ⟨RX8, "help", "(II)I"⟩
abbrev cX8_suppers : ByteArray := prog_1_method_21_code
def yX8_suppers : MethodName := ⟨RX8, "suppers", "(II)I"⟩
abbrev cX8_doubted : ByteArray := prog_1_method_22_code
def yX8_doubted : MethodName := ⟨RX8, "doubted", "(IIIII)I"⟩
abbrev cX8_trusted : ByteArray := prog_1_method_23_code
def yX8_trusted : MethodName := ⟨RX8, "trusted", "(IIII)I"⟩
abbrev cX8_who : ByteArray := prog_1_method_24_code
def yX8_who : MethodName := ⟨RX8, "who", "(III)I"⟩
abbrev cX8_odds : ByteArray := prog_1_method_25_code
def yX8_odds : MethodName := ⟨RX8, "odds", "(IIIIIII)I"⟩
abbrev cX8_image : ByteArray := prog_1_method_26_code
def yX8_image : MethodName := ⟨RX8, "image", "(I)I"⟩
abbrev cX8_restore : ByteArray := prog_1_method_27_code
def yX8_restore : MethodName := ⟨RX8, "restore", "(I)I"⟩
abbrev cX8_kind : ByteArray := prog_1_method_28_code
def yX8_kind : MethodName := ⟨RX8, "kind", "(I)I"⟩
abbrev cX8_as : ByteArray := prog_1_method_29_code
def yX8_as : MethodName := ⟨RX8, "as", "(II)I"⟩
abbrev cX8_ask : ByteArray := prog_1_method_30_code
def yX8_ask : MethodName := ⟨RX8, "ask", "(II)I"⟩
abbrev cX8_trace : ByteArray := prog_1_method_31_code
def yX8_trace : MethodName := ⟨RX8, "trace", "(I)I"⟩
abbrev cX8_count : ByteArray := prog_1_method_32_code
def yX8_count : MethodName := ⟨RX8, "count", "(I)I"⟩
abbrev cX8_status : ByteArray := prog_1_method_33_code
def yX8_status : MethodName := ⟨RX8, "status", "()I"⟩
abbrev cX8_found : ByteArray := prog_1_method_34_code
def yX8_found : MethodName := ⟨RX8, "found", "(I)I"⟩
abbrev cX8_unfound : ByteArray := prog_1_method_35_code
def yX8_unfound : MethodName := ⟨RX8, "unfound", "(I)I"⟩
abbrev cX8_isTelling : ByteArray := prog_1_method_36_code
def yX8_isTelling : MethodName := ⟨RX8, "isTelling", "(II)Z"⟩
abbrev cX8_takeTelling : ByteArray := prog_1_method_37_code
def yX8_takeTelling : MethodName := ⟨RX8, "takeTelling", "(III)I"⟩
abbrev cX8_commonDivisor : ByteArray := prog_1_method_38_code
def yX8_commonDivisor : MethodName := ⟨RX8, "commonDivisor", "(II)I"⟩
def RX9 : String := "NodBetsModel"
def TX9 : u_T := fun k => match k with
  | 0 => ("NodBetsModel", "lane", "[I", true)
  | 1 => ("NodBetsModel", "many", "[I", true)
  | 2 => ("NodBetsModel", "items", "[I", true)
  | 3 => ("NodBetsModel", "spare", "[I", true)
  | 4 => ("NodBetsModel", "status", "I", false)
  | 5 => ("NodBetsModel", "tape", "[I", true)
  | 6 => ("NodBetsModel", "taped", "I", false)
  | 7 => ("NodBetsModel", "faultKind", "I", false)
  | 8 => ("NodBetsModel", "faultPlace", "I", false)
  | 9 => ("NodBetsModel", "at", "I", false)
  | 10 => ("NodBetsModel", "start", "I", false)
  | 11 => ("NodBetsModel", "token", "I", false)
  | 12 => ("NodBetsModel", "value", "I", false)
  | 13 => ("NodBetsModel", "now", "[I", true)
  | 14 => ("NodBetsModel", "draft", "[I", true)
  | 15 => ("NodBetsModel", "past", "[I", true)
  | 16 => ("NodBetsModel", "acts", "I", false)
  | 17 => ("NodBetsModel", "images", "[I", true)
  | 18 => ("NodBetsModel", "kept", "[Z", true)
  | 19 => ("NodBetsModel", "trace", "[I", true)
  | 20 => ("NodBetsModel", "traced", "I", false)
  | 21 => ("NodBetsModel", "trust", "I", false)
  | 22 => ("NodBetsModel", "doubts", "I", false)
  | 23 => ("NodBetsModel", "heard", "I", false)
  | 24 => ("NodBetsModel", "nodded", "[I", true)
  | 25 => ("NodBetsModel", "row", "[I", true)
  | 26 => ("NodBetsModel", "best", "[I", true)
  | _ => ("NodBetsModel", "most", "I", false)
def tyX9 : Nat → FieldType := fun k => match k with
  | 0 => .array .int
  | 1 => .array .int
  | 2 => .array .int
  | 3 => .array .int
  | 4 => .int
  | 5 => .array .int
  | 6 => .int
  | 7 => .int
  | 8 => .int
  | 9 => .int
  | 10 => .int
  | 11 => .int
  | 12 => .int
  | 13 => .array .int
  | 14 => .array .int
  | 15 => .array .int
  | 16 => .int
  | 17 => .array .int
  | 18 => .array .boolean
  | 19 => .array .int
  | 20 => .int
  | 21 => .int
  | 22 => .int
  | 23 => .int
  | 24 => .array .int
  | 25 => .array .int
  | 26 => .array .int
  | _ => .int
abbrev wsX90 : List Cond := u_ws RX9 TX9 28
theorem nmX9 : ∀ a, a < 28 → ∀ b, b < 28 → a ≠ b → (TX9 a).2.1 ≠ (TX9 b).2.1 := by decide +kernel
theorem tyX9_ok : ∀ k, k < 28 → parseFieldDescriptor (TX9 k).2.2.1 = some (tyX9 k) := by decide +kernel
abbrev cX9_init : ByteArray := prog_11_method_1_code
def yX9_init : MethodName := ⟨RX9, "<init>", "()V"⟩
abbrev cX9_in : ByteArray := prog_11_method_3_code
def yX9_in : MethodName := ⟨RX9, "in", "(III)Z"⟩
abbrev cX9_has : ByteArray := prog_11_method_4_code
def yX9_has : MethodName := ⟨RX9, "has", "(II)Z"⟩
abbrev cX9_ones : ByteArray := prog_11_method_5_code
def yX9_ones : MethodName := ⟨RX9, "ones", "(I)I"⟩
abbrev cX9_found : ByteArray := prog_11_method_6_code
def yX9_found : MethodName := ⟨RX9, "found", "(I)I"⟩
abbrev cX9_well : ByteArray := prog_11_method_7_code
def yX9_well : MethodName := ⟨RX9, "well", "(I)I"⟩
abbrev cX9_copies : ByteArray := prog_11_method_8_code
def yX9_copies : MethodName := ⟨RX9, "copies", "([II[II)V"⟩
abbrev cX9_isRow : ByteArray := prog_11_method_9_code
def yX9_isRow : MethodName := ⟨RX9, "isRow", "(I)Z"⟩
abbrev cX9_isMissing : ByteArray := prog_11_method_10_code
def yX9_isMissing : MethodName := ⟨RX9, "isMissing", "(I)Z"⟩
abbrev cX9_cut : ByteArray := prog_11_method_11_code
def yX9_cut : MethodName := ⟨RX9, "cut", "(II)I"⟩
abbrev cX9_row : ByteArray := prog_11_method_12_code
def yX9_row : MethodName := ⟨RX9, "row", "(III)I"⟩
abbrev cX9_set : ByteArray := prog_11_method_13_code
def yX9_set : MethodName := ⟨RX9, "set", "(III)I"⟩
abbrev cX9_isPart : ByteArray := prog_11_method_14_code
def yX9_isPart : MethodName := ⟨RX9, "isPart", "(III)Z"⟩
abbrev cX9_copy : ByteArray := prog_11_method_15_code
def yX9_copy : MethodName := ⟨RX9, "copy", "(IIIII)I"⟩
abbrev cX9_drop : ByteArray := prog_11_method_16_code
def yX9_drop : MethodName := ⟨RX9, "drop", "(I)I"⟩
abbrev cX9_feed : ByteArray := prog_11_method_17_code
def yX9_feed : MethodName := ⟨RX9, "feed", "(I)I"⟩
abbrev cX9_byteAt : ByteArray := prog_11_method_18_code
def yX9_byteAt : MethodName := ⟨RX9, "byteAt", "(I)I"⟩
abbrev cX9_advances : ByteArray := prog_11_method_19_code
def yX9_advances : MethodName := ⟨RX9, "advances", "()V"⟩
abbrev cX9_isWell : ByteArray := prog_11_method_20_code
def yX9_isWell : MethodName := ⟨RX9, "isWell", "()Z"⟩
abbrev cX9_takes : ByteArray := prog_11_method_21_code
def yX9_takes : MethodName := ⟨RX9, "takes", "(ZI)I"⟩
abbrev cX9_figure : ByteArray := prog_11_method_22_code
def yX9_figure : MethodName := ⟨RX9, "figure", "(II)I"⟩
abbrev cX9_kindOf : ByteArray := prog_11_method_23_code
def yX9_kindOf : MethodName := ⟨RX9, "kindOf", "(I)I"⟩
abbrev cX9_next : ByteArray := prog_11_method_24_code
def yX9_next : MethodName := ⟨RX9, "next", "(II)I"⟩
abbrev cX9_readsLie : ByteArray := prog_11_method_25_code
def yX9_readsLie : MethodName := ⟨RX9, "readsLie", "()V"⟩
abbrev cX9_readsStranger : ByteArray := prog_11_method_26_code
def yX9_readsStranger : MethodName := ⟨RX9, "readsStranger", "()V"⟩
abbrev cX9_town : ByteArray := prog_11_method_27_code
def yX9_town : MethodName := ⟨RX9, "town", "()I"⟩
abbrev cX9_fault : ByteArray := prog_11_method_28_code
def yX9_fault : MethodName := ⟨RX9, "fault", "()I"⟩
abbrev cX9_isTown : ByteArray := prog_11_method_29_code
def yX9_isTown : MethodName := ⟨RX9, "isTown", "()Z"⟩
abbrev cX9_isLie : ByteArray := prog_11_method_30_code
def yX9_isLie : MethodName := ⟨RX9, "isLie", "(I)Z"⟩
abbrev cX9_isStranger : ByteArray := prog_11_method_31_code
def yX9_isStranger : MethodName := ⟨RX9, "isStranger", "(I)Z"⟩
abbrev cX9_tries : ByteArray := prog_11_method_32_code
def yX9_tries : MethodName := ⟨RX9, "tries", "(I)V"⟩
abbrev cX9_needs : ByteArray := prog_11_method_33_code
def yX9_needs : MethodName := ⟨RX9, "needs", "(I)I"⟩
abbrev cX9_wouldNod : ByteArray := prog_11_method_34_code
def yX9_wouldNod : MethodName := ⟨RX9, "wouldNod", "(I)Z"⟩
abbrev cX9_hears : ByteArray := prog_11_method_35_code
def yX9_hears : MethodName := ⟨RX9, "hears", "(IZ)V"⟩
abbrev cX9_notes : ByteArray := prog_11_method_36_code
def yX9_notes : MethodName := ⟨RX9, "notes", "()V"⟩
abbrev cX9_wasTold : ByteArray := prog_11_method_37_code
def yX9_wasTold : MethodName := ⟨RX9, "wasTold", "(II)Z"⟩
abbrev cX9_tell : ByteArray := prog_11_method_38_code
def yX9_tell : MethodName := ⟨RX9, "tell", "(II)I"⟩
abbrev cX9_supper : ByteArray := prog_11_method_39_code
def yX9_supper : MethodName := ⟨RX9, "supper", "(I)I"⟩
abbrev cX9_forget : ByteArray := prog_11_method_40_code
def yX9_forget : MethodName := ⟨RX9, "forget", "(II)I"⟩
abbrev cX9_undo : ByteArray := prog_11_method_41_code
def yX9_undo : MethodName := ⟨RX9, "undo", "()I"⟩
abbrev cX9_strangersWith : ByteArray := prog_11_method_42_code
def yX9_strangersWith : MethodName := ⟨RX9, "strangersWith", "(II)I"⟩
abbrev cX9_noddedAt : ByteArray := prog_11_method_43_code
def yX9_noddedAt : MethodName := ⟨RX9, "noddedAt", "(I)I"⟩
abbrev cX9_lie : ByteArray := prog_11_method_44_code
def yX9_lie : MethodName := ⟨RX9, "lie", "(II)I"⟩
abbrev cX9_stranger : ByteArray := prog_11_method_45_code
def yX9_stranger : MethodName := ⟨RX9, "stranger", "(II)I"⟩
abbrev cX9_need : ByteArray := prog_11_method_46_code
def yX9_need : MethodName := ⟨RX9, "need", "(II)I"⟩
abbrev cX9_untold : ByteArray := prog_11_method_47_code
def yX9_untold : MethodName := ⟨RX9, "untold", "(I)I"⟩
abbrev cX9_nods : ByteArray := prog_11_method_48_code
def yX9_nods : MethodName := ⟨RX9, "nods", "(I)I"⟩
abbrev cX9_nodsAt : ByteArray := prog_11_method_49_code
def yX9_nodsAt : MethodName := ⟨RX9, "nodsAt", "(II)I"⟩
abbrev cX9_goesOn : ByteArray := prog_11_method_50_code
def yX9_goesOn : MethodName := ⟨RX9, "goesOn", "(II)Z"⟩
abbrev cX9_fills : ByteArray := prog_11_method_51_code
def yX9_fills : MethodName := ⟨RX9, "fills", "(IIII)V"⟩
abbrev cX9_order : ByteArray := prog_11_method_52_code
def yX9_order : MethodName := ⟨RX9, "order", "(III)I"⟩
abbrev cX9_aheadOf : ByteArray := prog_11_method_53_code
def yX9_aheadOf : MethodName := ⟨RX9, "aheadOf", "(II)I"⟩
abbrev cX9_comesIn : ByteArray := prog_11_method_54_code
def yX9_comesIn : MethodName := ⟨RX9, "comesIn", "(III)I"⟩
abbrev cX9_dead : ByteArray := prog_11_method_55_code
def yX9_dead : MethodName := ⟨RX9, "dead", "(I)I"⟩
abbrev cX9_helps : ByteArray := prog_11_method_56_code
def yX9_helps : MethodName := ⟨RX9, "helps", "(III)Z"⟩
abbrev cX9_help : ByteArray := prog_11_method_57_code
def yX9_help : MethodName := ⟨RX9, "help", "(II)I"⟩
abbrev cX9_suppers : ByteArray := prog_11_method_58_code
def yX9_suppers : MethodName := ⟨RX9, "suppers", "(II)I"⟩
abbrev cX9_wrongIn : ByteArray := prog_11_method_59_code
def yX9_wrongIn : MethodName := ⟨RX9, "wrongIn", "(III)I"⟩
abbrev cX9_goesSo : ByteArray := prog_11_method_60_code
def yX9_goesSo : MethodName := ⟨RX9, "goesSo", "(II)Z"⟩
abbrev cX9_doubted : ByteArray := prog_11_method_61_code
def yX9_doubted : MethodName := ⟨RX9, "doubted", "(IIIII)I"⟩
abbrev cX9_trusted : ByteArray := prog_11_method_62_code
def yX9_trusted : MethodName := ⟨RX9, "trusted", "(IIII)I"⟩
abbrev cX9_who : ByteArray := prog_11_method_63_code
def yX9_who : MethodName := ⟨RX9, "who", "(III)I"⟩
abbrev cX9_goesBy : ByteArray := prog_11_method_64_code
def yX9_goesBy : MethodName := ⟨RX9, "goesBy", "(IIIII)J"⟩
abbrev cX9_odds : ByteArray := prog_11_method_65_code
def yX9_odds : MethodName := ⟨RX9, "odds", "(IIIIIII)I"⟩
abbrev cX9_image : ByteArray := prog_11_method_66_code
def yX9_image : MethodName := ⟨RX9, "image", "(I)I"⟩
abbrev cX9_restore : ByteArray := prog_11_method_67_code
def yX9_restore : MethodName := ⟨RX9, "restore", "(I)I"⟩
abbrev cX9_kindIn : ByteArray := prog_11_method_68_code
def yX9_kindIn : MethodName := ⟨RX9, "kindIn", "(I)I"⟩
abbrev cX9_kind : ByteArray := prog_11_method_69_code
def yX9_kind : MethodName := ⟨RX9, "kind", "(I)I"⟩
abbrev cX9_as : ByteArray := prog_11_method_70_code
def yX9_as : MethodName := ⟨RX9, "as", "(II)I"⟩
abbrev cX9_begins : ByteArray := prog_11_method_71_code
def yX9_begins : MethodName := ⟨RX9, "begins", "(I)V"⟩
abbrev cX9_easyMark : ByteArray := prog_11_method_72_code
def yX9_easyMark : MethodName := ⟨RX9, "easyMark", "(I)I"⟩
abbrev cX9_proofSize : ByteArray := prog_11_method_73_code
def yX9_proofSize : MethodName := ⟨RX9, "proofSize", "(I)I"⟩
abbrev cX9_easySize : ByteArray := prog_11_method_74_code
def yX9_easySize : MethodName := ⟨RX9, "easySize", "(I)I"⟩
abbrev cX9_proofMark : ByteArray := prog_11_method_75_code
def yX9_proofMark : MethodName := ⟨RX9, "proofMark", "(I)I"⟩
abbrev cX9_ask : ByteArray := prog_11_method_76_code
def yX9_ask : MethodName := ⟨RX9, "ask", "(II)I"⟩
abbrev cX9_trace : ByteArray := prog_11_method_77_code
def yX9_trace : MethodName := ⟨RX9, "trace", "(I)I"⟩
abbrev cX9_count : ByteArray := prog_11_method_78_code
def yX9_count : MethodName := ⟨RX9, "count", "(I)I"⟩
abbrev cX9_status : ByteArray := prog_11_method_79_code
def yX9_status : MethodName := ⟨RX9, "status", "()I"⟩
def RJ6 : String := "java/lang/Integer"
def TJ6 : u_T := fun k => match k with
  | _ => ("", "", "", false)
def tyJ6 : Nat → FieldType := fun k => match k with
  | _ => .int
abbrev wsJ60 : List Cond := u_ws RJ6 TJ6 0
theorem nmJ6 : ∀ a, a < 0 → ∀ b, b < 0 → a ≠ b → (TJ6 a).2.1 ≠ (TJ6 b).2.1 := by decide +kernel
theorem tyJ6_ok : ∀ k, k < 0 → parseFieldDescriptor (TJ6 k).2.2.1 = some (tyJ6 k) := by decide +kernel
abbrev cJ6_bitCount_0f7a4 : ByteArray := prog_12_method_49_code
def yJ6_bitCount_0f7a4 : MethodName := ⟨RJ6, "bitCount", "(I)I"⟩
def RJ9 : String := "java/lang/Math"
def TJ9 : u_T := fun k => match k with
  | _ => ("", "", "", false)
def tyJ9 : Nat → FieldType := fun k => match k with
  | _ => .int
abbrev wsJ90 : List Cond := u_ws RJ9 TJ9 0
theorem nmJ9 : ∀ a, a < 0 → ∀ b, b < 0 → a ≠ b → (TJ9 a).2.1 ≠ (TJ9 b).2.1 := by decide +kernel
theorem tyJ9_ok : ∀ k, k < 0 → parseFieldDescriptor (TJ9 k).2.2.1 = some (tyJ9 k) := by decide +kernel
abbrev cJ9_max_7cf53 : ByteArray := prog_13_method_65_code
def yJ9_max_7cf53 : MethodName := ⟨RJ9, "max", "(II)I"⟩
abbrev cJ9_min_7cf53 : ByteArray := prog_13_method_69_code
def yJ9_min_7cf53 : MethodName := ⟨RJ9, "min", "(II)I"⟩
def RJ10 : String := "java/lang/System"
def TJ10 : u_T := fun k => match k with
  | _ => ("", "", "", false)
def tyJ10 : Nat → FieldType := fun k => match k with
  | _ => .int
abbrev wsJ100 : List Cond := u_ws RJ10 TJ10 0
theorem nmJ10 : ∀ a, a < 0 → ∀ b, b < 0 → a ≠ b → (TJ10 a).2.1 ≠ (TJ10 b).2.1 := by decide +kernel
theorem tyJ10_ok : ∀ k, k < 0 → parseFieldDescriptor (TJ10 k).2.2.1 = some (tyJ10 k) := by decide +kernel
def RL : String := "NodBetsLaw"
abbrev cL_law : ByteArray := code
def yL_law : MethodName := ⟨RL, "law", "([I)Z"⟩
abbrev vwCl : List vw_C := [(RX0, TX0, 7), (RX1, TX1, 3), (RX2, TX2, 9), (RX4, TX4, 4), (RX5, TX5, 4), (RX6, TX6, 3), (RX7, TX7, 11), (RX8, TX8, 9), (RX9, TX9, 28)]
end
section
/-! A program logic over W: ints as Int, the heap a function of cell and slot, all references fixed (nothing is made after the constructors). -/
abbrev SV_ : Type := Int ⊕ (Int ⊕ ((Nat × Nat) × Int))
abbrev SH_ : Type := Int → Int → Int
abbrev SG_ : Type := Launch × va_G × (Nat → Nat) × (Nat → Nat) × (Nat → Nat × (Nat → Int)) × (ClassId × ClassId × ClassId × ClassId) × Nat
abbrev MD_ : Type := MethodName × ByteArray × Nat × Option FieldType × Nat
abbrev sv_i (x : Int) : SV_ := .inl x
abbrev sv_l (x : Int) : SV_ := .inr (.inl x)
abbrev sv_r (c n : Nat) (k : Int) : SV_ := .inr (.inr ((c, n), k))
def sg_l (g : SG_) : Launch := g.1
def sg_D (g : SG_) : va_G := g.2.1
def sg_a (g : SG_) : Nat → Nat := g.2.2.1
def sg_x (g : SG_) : Nat → Nat := g.2.2.2.1
def sg_X (g : SG_) : Nat → Nat × (Nat → Int) := g.2.2.2.2.1
def sg_I (g : SG_) : ClassId := g.2.2.2.2.2.1.1
def sg_Z (g : SG_) : ClassId := g.2.2.2.2.2.1.2.1
def sg_M (g : SG_) : ClassId := g.2.2.2.2.2.1.2.2.1
def sg_T (g : SG_) : ClassId := g.2.2.2.2.2.1.2.2.2
def sg_B (g : SG_) : Nat := g.2.2.2.2.2.2
def sg_A (g : SG_) : Nat → Prop := fun q => sg_B g ≤ q
def sg_t (g : SG_) : List (ClassId × FieldType) := [(sg_I g, .int), (sg_Z g, .boolean), (sg_M g, .object "NodBets$Mind"), (sg_T g, .object "NodBets$Town")]
def sr_32 (x : Int) : Prop := -2147483648 ≤ x ∧ x < 2147483648
def sr_64 (x : Int) : Prop := -9223372036854775808 ≤ x ∧ x < 9223372036854775808
def sw_32 (x : Int) : Int := (Int32.ofInt x).toInt
def sw_64 (x : Int) : Int := (Int64.ofInt x).toInt
theorem sr_32w (x : Int) : sr_32 (sw_32 x) := by
  have h1 := Int32.le_toInt (Int32.ofInt x)
  have h2 := Int32.toInt_lt (Int32.ofInt x)
  exact ⟨h1, h2⟩
theorem sr_64w (x : Int) : sr_64 (sw_64 x) := by
  have h1 := Int64.le_toInt (Int64.ofInt x)
  have h2 := Int64.toInt_lt (Int64.ofInt x)
  exact ⟨h1, h2⟩
theorem sr_32t (x : Int32) : sr_32 x.toInt := ⟨Int32.le_toInt x, Int32.toInt_lt x⟩
theorem sr_64t (x : Int64) : sr_64 x.toInt := ⟨Int64.le_toInt x, Int64.toInt_lt x⟩
theorem sw_32i {x : Int} (h : sr_32 x) : sw_32 x = x := Int32.toInt_ofInt_of_le h.1 h.2
theorem sw_64i {x : Int} (h : sr_64 x) : sw_64 x = x := Int64.toInt_ofInt_of_le h.1 h.2
theorem sw_32o (x : Int) : Int32.ofInt (sw_32 x) = Int32.ofInt x := Int32.ofInt_toInt _
theorem sw_64o (x : Int) : Int64.ofInt (sw_64 x) = Int64.ofInt x := Int64.ofInt_toInt _
theorem si_t {x : Int} (h : sr_32 x) : (Int32.ofInt x).toInt = x := sw_32i h
theorem si_lt {x y : Int} (hx : sr_32 x) (hy : sr_32 y) : Int32.ofInt x < Int32.ofInt y ↔ x < y := by
  rw [Int32.lt_iff_toInt_lt, si_t hx, si_t hy]
theorem si_le {x y : Int} (hx : sr_32 x) (hy : sr_32 y) : Int32.ofInt x ≤ Int32.ofInt y ↔ x ≤ y := by
  rw [Int32.le_iff_toInt_le, si_t hx, si_t hy]
theorem si_eq {x y : Int} (hx : sr_32 x) (hy : sr_32 y) : Int32.ofInt x = Int32.ofInt y ↔ x = y := by
  rw [← Int32.toInt_inj, si_t hx, si_t hy]
theorem sr_320 : sr_32 0 := ⟨by decide, by decide⟩
theorem si_in {x : Int} {n : Nat} (hx : sr_32 x) (h0 : 0 ≤ x) (hn : x < n) : vp_in (Int32.ofInt x) n := by
  rw [vp_in_iff, si_t hx]
  exact ⟨h0, hn⟩
theorem si_cl {x : Int} (hx : sr_32 x) : (Int32.ofInt x).toNatClampNeg = x.toNat := by
  show (Int32.ofInt x).toInt.toNat = x.toNat
  rw [si_t hx]
/-- the value in the machine -/
def sv_v (g : SG_) : SV_ → Value
  | .inl x => .int (Int32.ofInt x)
  | .inr (.inl x) => .long (Int64.ofInt x)
  | .inr (.inr ((c, n), k)) => .ref (if c = 5 then sg_x g n else sg_a g k.toNat)
/-- the kinds of the cells: (0, n) ints, (1, n) booleans, (2, n) minds, (3, n) towns, (4, c) an object of class c -/
def sl_y : List (Nat × Nat) := [(4, 7), (4, 5), (0, 8), (0, 8), (0, 320), (4, 4), (0, 120),
  (4, 6), (0, 6), (0, 6), (0, 6), (0, 4), (0, 4), (0, 4), (0, 4), (4, 6), (0, 6), (0, 6), (0, 6), (0, 4), (0, 4), (0, 4), (0, 4),
  (4, 6), (0, 6), (0, 6), (0, 6), (0, 4), (0, 4), (0, 4), (0, 4), (4, 6), (0, 6), (0, 6), (0, 6), (0, 4), (0, 4), (0, 4), (0, 4), (3, 2),
  (4, 0), (0, 24), (0, 24), (0, 24), (0, 24), (0, 24), (4, 2), (2, 7), (0, 6), (0, 6), (0, 6), (0, 6),
  (4, 3), (0, 4), (4, 3), (0, 4), (4, 3), (0, 4), (4, 3), (0, 4), (4, 3), (0, 4), (4, 3), (0, 4), (4, 3), (0, 4), (4, 1), (0, 16),
  (4, 8), (0, 8), (0, 8), (0, 320), (0, 40), (0, 120), (0, 38), (0, 38), (0, 912), (0, 76), (1, 2), (0, 16), (0, 4), (0, 6), (0, 6)]
/-- the fields: none an int; else a cell's kind, and where it is (true: so many behind the object; false: there) -/
def sf_t : List (List (Option ((Nat × Nat) × Bool × Int))) := [
  [some ((0, 24), true, 1), some ((0, 24), true, 2), some ((0, 24), true, 3), some ((0, 24), true, 4), some ((0, 24), true, 5), none, none],
  [some ((4, 6), false, 7), some ((0, 16), true, 1), none],
  [some ((4, 6), false, 7), some ((2, 7), true, 1), some ((0, 6), true, 2), some ((0, 6), true, 3), none, none, some ((0, 6), true, 4), some ((0, 6), true, 5), none],
  [none, none, none, some ((0, 4), true, 1)],
  [some ((0, 120), true, 1), none, none, none],
  [some ((0, 8), true, 1), some ((0, 8), true, 2), some ((0, 320), true, 3)],
  [none, none, none, none, some ((0, 6), true, 1), some ((0, 6), true, 2), some ((0, 6), true, 3), some ((0, 4), true, 4), some ((0, 4), true, 5), some ((0, 4), true, 6), some ((0, 4), true, 7)],
  [some ((4, 5), false, 1), some ((4, 4), false, 5), some ((4, 6), false, 7), some ((4, 6), false, 15), some ((3, 2), false, 39), some ((4, 0), false, 40), some ((4, 2), false, 46), some ((4, 1), false, 66), none],
  [some ((0, 8), true, 1), some ((0, 8), true, 2), some ((0, 320), true, 3), some ((0, 40), true, 4), none, some ((0, 120), true, 5), none, none, none, none, none, none, none, some ((0, 38), true, 6), some ((0, 38), true, 7), some ((0, 912), true, 8), none, some ((0, 76), true, 9), some ((1, 2), true, 10), some ((0, 16), true, 11), none, none, none, none, some ((0, 4), true, 12), some ((0, 6), true, 13), some ((0, 6), true, 14), none]]
def sf_c (c : Nat) : List (Option ((Nat × Nat) × Bool × Int)) := sf_t.getD c []
def sf_v (c : Nat) (k : Int) (j : Nat) (h : SH_) : SV_ := match (sf_c c).getD j none with
  | none => .inl (h k j)
  | some (kd, true, o) => .inr (.inr (kd, k + o))
  | some (kd, false, o) => .inr (.inr (kd, o))
def sw_e (g : SG_) (kd : Nat × Nat) (k : Int) (h : SH_) : va_E := match kd.1 with
  | 0 => .inl (sg_I g, kd.2, .inl (fun j => Int32.ofInt (h k j)))
  | 1 => .inl (sg_Z g, kd.2, .inl (fun j => Int32.ofInt (h k j)))
  | 2 => .inl (sg_M g, kd.2, .inr (.inr (.inr (.inr (fun j => some (sg_a g (52 + 2 * j)))))))
  | 3 => .inl (sg_T g, kd.2, .inr (.inr (.inr (.inr (fun j => some (sg_a g (23 + 8 * j)))))))
  | _ => .inr (kd.2, (List.range (sf_c kd.2).length).map (fun j => sv_v g (sf_v kd.2 k j h)))
def sw_l (g : SG_) (h : SH_) : va_W := (List.range 83).map (fun k => (sg_a g k, sw_e g (sl_y.getD k (0, 0)) k h))
/-- a slot becomes v -/
def hs_ (h : SH_) (k j v : Int) : SH_ := fun a b => if a = k ∧ b = j then v else h a b
theorem hs_e (h : SH_) (k j v : Int) : hs_ h k j v k j = v := by simp [hs_]
theorem hs_n {h : SH_} {k j v a b : Int} (hn : ¬ (a = k ∧ b = j)) : hs_ h k j v a b = h a b := by simp [hs_, hn]
theorem hs_k {h : SH_} {k j v a : Int} (hn : a ≠ k) : hs_ h k j v a = h a := by funext b; simp [hs_, hn]
theorem sw_len : sl_y.length = 83 := by decide
theorem sw_get {g : SG_} {h : SH_} {k : Int} {kd : Nat × Nat} (h0 : 0 ≤ k) (hk : sl_y[k.toNat]? = some kd) : (sw_l g h)[k.toNat]? = some (sg_a g k.toNat, sw_e g kd k h) := by
  have hlt : k.toNat < 83 := by
    have h1 := (List.getElem?_eq_some_iff.mp hk).1
    rw [sw_len] at h1
    exact h1
  have hg : sl_y.getD k.toNat (0, 0) = kd := by rw [List.getD_eq_getElem?_getD, hk]; rfl
  rw [sw_l, List.getElem?_map, List.getElem?_range hlt]
  show some (sg_a g k.toNat, sw_e g (sl_y.getD k.toNat (0, 0)) ((k.toNat : Nat) : Int) h) = _
  rw [hg, Int.toNat_of_nonneg h0]
theorem sw_ec {g : SG_} {kd : Nat × Nat} {k : Int} {h1 h2 : SH_} (e : h1 k = h2 k) : sw_e g kd k h1 = sw_e g kd k h2 := by
  have hf : ∀ c j, sf_v c k j h1 = sf_v c k j h2 := fun c j => by
    unfold sf_v
    rw [e]
  unfold sw_e
  simp only [e, hf]
theorem sw_set {g : SG_} {h h2 : SH_} {k : Int} {kd : Nat × Nat} (h0 : 0 ≤ k) (hk : sl_y[k.toNat]? = some kd) (ho : ∀ a : Int, a ≠ k → h2 a = h a) {E : va_E} (hE : E = sw_e g kd k h2) : (sw_l g h).set k.toNat (sg_a g k.toNat, E) = sw_l g h2 := by
  subst hE
  apply List.ext_getElem?
  intro i
  by_cases hi : k.toNat = i
  · subst hi
    have h1 := sw_get (g := g) (h := h) h0 hk
    rw [List.getElem?_set_self (List.getElem?_eq_some_iff.mp h1).1, sw_get h0 hk]
  · rw [List.getElem?_set_ne hi]
    unfold sw_l
    rw [List.getElem?_map, List.getElem?_map]
    by_cases hl : i < 83
    · rw [List.getElem?_range hl]
      show some (_, _) = some (_, _)
      rw [sw_ec (h1 := h2) (h2 := h) (ho i (fun q => hi (by omega)))]
    · rw [List.getElem?_eq_none (by simpa using hl)]
      rfl
end
section
/-! the judgement -/
def sv_ok : SV_ → Prop
  | .inl x => sr_32 x
  | .inr (.inl x) => sr_64 x
  | .inr (.inr ((c, n), k)) => (c = 5 ∧ n < 4) ∨ (c ≠ 5 ∧ 0 ≤ k ∧ sl_y[k.toNat]? = some (c, n))
def sv_oks (st : List SV_) : Prop := ∀ v ∈ st, sv_ok v
def sl_ok (ls : List (Option SV_)) : Prop := ∀ v, some v ∈ ls → sv_ok v
def sh_ok (h : SH_) : Prop := ∀ k j, sr_32 (h k j)
def sl_v (g : SG_) : Nat → List (Option SV_) → List (Nat × Value)
  | _, [] => []
  | i, none :: l => sl_v g (i + 1) l
  | i, some v :: l => (i, sv_v g v) :: sl_v g (i + 1) l
theorem sl_mem {g : SG_} {q : Nat × Value} : ∀ {l : List (Option SV_)} {i : Nat}, q ∈ sl_v g i l ↔ ∃ (j : Nat) (v : SV_), l[j]? = some (some v) ∧ q = (i + j, sv_v g v) := by
  intro l
  induction l with
  | nil => intro i; simp [sl_v]
  | cons a l ih =>
    intro i
    have key : (∃ (j : Nat) (v : SV_), l[j]? = some (some v) ∧ q = (i + 1 + j, sv_v g v)) ↔ ∃ (j : Nat) (v : SV_), (a :: l)[j + 1]? = some (some v) ∧ q = (i + (j + 1), sv_v g v) := by
      constructor
      · rintro ⟨j, v, h1, h2⟩; exact ⟨j, v, by simpa using h1, by rw [h2]; congr 1; omega⟩
      · rintro ⟨j, v, h1, h2⟩; exact ⟨j, v, by simpa using h1, by rw [h2]; congr 1; omega⟩
    cases a with
    | none =>
      show q ∈ sl_v g (i + 1) l ↔ _
      rw [ih, key]
      constructor
      · rintro ⟨j, v, h1, h2⟩; exact ⟨j + 1, v, h1, h2⟩
      · rintro ⟨j, v, h1, h2⟩
        cases j with
        | zero => simp at h1
        | succ j => exact ⟨j, v, h1, h2⟩
    | some w =>
      show q ∈ (i, sv_v g w) :: sl_v g (i + 1) l ↔ _
      rw [List.mem_cons, ih, key]
      constructor
      · rintro (h | ⟨j, v, h1, h2⟩)
        · exact ⟨0, w, by simp, by simpa using h⟩
        · exact ⟨j + 1, v, h1, h2⟩
      · rintro ⟨j, v, h1, h2⟩
        cases j with
        | zero =>
          left
          simp at h1
          rw [h2, h1]
          rfl
        | succ j => exact Or.inr ⟨j, v, h1, h2⟩
theorem sl_at {g : SG_} {lsA : Array Slot} {n i : Nat} {ls : List (Option SV_)} {v : SV_} (h : lv_has lsA n (sl_v g 0 ls)) (hv : ls[i]? = some (some v)) : lsA[i]? = some (.val (sv_v g v)) := by
  have h1 := h.2.2 (i, sv_v g v) (sl_mem.mpr ⟨i, v, hv, by simp⟩)
  exact h1
def ss_C (i : Nat) : String := if i = 0 then "NodBets$Kinds" else "NodBets$Asks"
def ss_N (i : Nat) : String := if i = 0 then "ABOVE" else if i = 1 then "SIZE_BODIES" else "MARK_BODIES"
/-- what holds of the machine's tables and of what lies outside the world -/
def sg_K (g : SG_) (U : State) : Prop := va_K (sg_D g) vwCl (sg_t g) U ∧ (∀ i j, i < 83 → j < 83 → sg_a g i = sg_a g j → i = j) ∧ (∀ i, i < 83 → sg_B g ≤ sg_a g i) ∧ sg_B g ≤ U.heap.size ∧
  (∀ i, i < 3 → va_Z (ss_C i) (ss_N i) "[I" (.ref (sg_x g i)) (sg_A g) U U.heap) ∧ (∀ i, i < 4 → va_T .int (sg_x g i) (sg_X g i).1 (fun j => .int (Int32.ofInt ((sg_X g i).2 j))) (sg_A g) U U.heap) ∧ (∀ i, i < 4 → (sg_X g i).1 < 2147483648 ∧ ∀ j, sr_32 ((sg_X g i).2 j))
theorem sg_K.moved {g : SG_} {u U : State} (hvm : u.vm.Alike U.vm) (hz : u.heap.size ≤ U.heap.size) (hh : ∀ q : Nat, q < u.heap.size → ¬ sg_A g q → U.heap[q]? = u.heap[q]?) (h : sg_K g u) : sg_K g U := by
  obtain ⟨h1, h2, h3, h4, h5, h6, h7⟩ := h
  exact ⟨va_K.moved hvm h1, h2, h3, Nat.le_trans h4 hz, fun i hi => ((h5 i hi).moved hvm).kept hh, fun i hi => ((h6 i hi).moved hvm).kept hh, h7⟩
theorem sg_Dw {g : SG_} {U : State} (hK : sg_K g U) (h : SH_) : va_D (sg_A g) (sw_l g h) := by
  have key : ∀ (i : Nat) (p : Nat × va_E), (sw_l g h)[i]? = some p → i < 83 ∧ p.1 = sg_a g i := by
    intro i p hp
    unfold sw_l at hp
    rw [List.getElem?_map] at hp
    by_cases hi : i < 83
    · rw [List.getElem?_range hi] at hp
      cases hp
      exact ⟨hi, rfl⟩
    · rw [List.getElem?_eq_none (by simpa using hi)] at hp
      cases hp
  refine ⟨fun i j p q hp hq e => ?_, fun k q hq => ?_⟩
  · obtain ⟨a1, a2⟩ := key i p hp
    obtain ⟨b1, b2⟩ := key j q hq
    exact hK.2.1 i j a1 b1 (by rw [← a2, ← b2, e])
  · obtain ⟨a1, a2⟩ := key k q hq
    show sg_B g ≤ q.1
    rw [a2]
    exact hK.2.2.1 k a1
/-- a frame's surroundings -/
def sc_x (g : SG_) (d : Nat) (M : MD_) (p : Program) (R : Room) (s : State) (m : MethodId) (args : Array Value) (c : Code) (cells slots : Nat) : Prop :=
  p.tables.exec = Jvm.exec ∧ c.code = M.2.1 ∧ c.maxLocals = M.2.2.1 ∧ s.vm.findClass M.1.cls = some m.cls ∧ (∀ w ∈ lw_tbl, w.before args s = true) ∧ sg_K g s ∧ d ≤ R.frames ∧ 64 * d ≤ R.locals ∧ cells ≤ R.cells ∧ slots ≤ R.slots
/-- which return instruction stands there: rt 0 none, 1 int, 2 boolean, 3 long, 4 a reference -/
def sc_t (M : MD_) (pc : Nat) : Option SV_ → Prop
  | none => M.2.2.2.2 = 0 ∧ decode M.2.1 pc = .ok (.return_, 1)
  | some (.inl x) => decode M.2.1 pc = .ok (.ireturn, 1) ∧ (M.2.2.2.2 = 1 ∨ (M.2.2.2.2 = 2 ∧ (x = 0 ∨ x = 1)))
  | some (.inr (.inl _)) => M.2.2.2.2 = 3 ∧ decode M.2.1 pc = .ok (.lreturn, 1)
  | some (.inr (.inr _)) => M.2.2.2.2 = 4 ∧ decode M.2.1 pc = .ok (.areturn, 1)
def so_ok (r : Option SV_) : Prop := ∀ v, r = some v → sv_ok v
def sc_r (g : SG_) (M : MD_) (Post : Option SV_ → SH_ → Prop) (p : Program) (e : Env) (R : Room) (s : State) (m : MethodId) (args : Array Value) (below : List Frame) (meth : Method) (c : Code) (cells slots : Nat) (QQ : State → Prop) : Prop :=
  ∀ (pc : Nat) (lsA : Array Slot) (H : Heap) (locs : List Loc) (r : Option SV_) (h : SH_), Post r h → so_ok r → sh_ok h → va_P (sg_D g) vwCl (sw_l g h) H → va_S (sg_A g) s.heap H locs → sc_t M pc r → W p (sg_l g) e R s m args below meth c H locs cells slots QQ (F0 m pc lsA (r.toList.map (sv_v g)))
/-- from this frame the method returns, and Post holds of its answer and of the heap then -/
def V_ (g : SG_) (d : Nat) (M : MD_) (pc : Nat) (ls : List (Option SV_)) (st : List SV_) (h : SH_) (Post : Option SV_ → SH_ → Prop) : Prop :=
  ∀ (p : Program) (e : Env) (R : Room) (s : State) (m : MethodId) (args : Array Value) (below : List Frame) (meth : Method) (c : Code) (cells slots : Nat) (QQ : State → Prop),
    sc_x g d M p R s m args c cells slots → sc_r g M Post p e R s m args below meth c cells slots QQ →
    ∀ (H : Heap) (locs : List Loc) (lsA : Array Slot), sl_ok ls → sv_oks st → sh_ok h → va_P (sg_D g) vwCl (sw_l g h) H → va_S (sg_A g) s.heap H locs → lv_has lsA M.2.2.1 (sl_v g 0 ls) →
      W p (sg_l g) e R s m args below meth c H locs cells slots QQ (F0 m pc lsA (st.map (sv_v g)))
section VR_
variable {g : SG_} {d : Nat} {M : MD_} {pc q : Nat} {ls : List (Option SV_)} {st : List SV_} {h : SH_} {Post : Option SV_ → SH_ → Prop}
/-- what is known of the values that a frame has -/
theorem V_know (k : sl_ok ls → sv_oks st → sh_ok h → V_ g d M pc ls st h Post) : V_ g d M pc ls st h Post := by
  intro p e R s m args below meth c cells slots QQ C hr H locs lsA oL oS oH hP hS hl
  exact k oL oS oH p e R s m args below meth c cells slots QQ C hr H locs lsA oL oS oH hP hS hl
theorem V_pure {st2 : List SV_} (ok : sv_oks st → sv_oks st2)
    (hw : sv_oks st → ∀ (p : Program) (e : Env) (R : Room) (s : State) (m : MethodId) (args : Array Value) (below : List Frame) (meth : Method) (c : Code) (H : Heap) (locs : List Loc) (cells slots : Nat) (QQ : State → Prop) (lsA : Array Slot), p.tables.exec = Jvm.exec → c.code = M.2.1 → W p (sg_l g) e R s m args below meth c H locs cells slots QQ (F0 m q lsA (st2.map (sv_v g))) → W p (sg_l g) e R s m args below meth c H locs cells slots QQ (F0 m pc lsA (st.map (sv_v g))))
    (k : V_ g d M q ls st2 h Post) : V_ g d M pc ls st h Post := by
  intro p e R s m args below meth c cells slots QQ C hr H locs lsA oL oS oH hP hS hl
  exact hw oS p e R s m args below meth c H locs cells slots QQ lsA C.1 C.2.1 (k p e R s m args below meth c cells slots QQ C hr H locs lsA oL (ok oS) oH hP hS hl)
theorem so_1 {v : SV_} (hv : sv_ok v) (hs : sv_oks st) : sv_oks (v :: st) := fun w hw => (List.mem_cons.mp hw).elim (fun e => e ▸ hv) (hs w)
theorem so_t {v : SV_} (hs : sv_oks (v :: st)) : sv_oks st := fun w hw => hs w (List.mem_cons_of_mem _ hw)
theorem so_h {v : SV_} (hs : sv_oks (v :: st)) : sv_ok v := hs v List.mem_cons_self
theorem so_i {n : Int} (hn : sr_32 n) (hs : sv_oks st) : sv_oks (sv_i n :: st) := so_1 (v := sv_i n) hn hs
theorem so_l {n : Int} (hn : sr_64 n) (hs : sv_oks st) : sv_oks (sv_l n :: st) := so_1 (v := sv_l n) hn hs
theorem so_hi {n : Int} (hs : sv_oks (sv_i n :: st)) : sr_32 n := so_h hs
theorem so_hl {n : Int} (hs : sv_oks (sv_l n :: st)) : sr_64 n := so_h hs
/-- a value's words -/
def sv_c : SV_ → Nat
  | .inl _ => 1
  | .inr (.inl _) => 2
  | .inr (.inr _) => 1
theorem sv_ce (v : SV_) : (sv_v g v).category = sv_c v := by
  obtain x | x | ⟨⟨c, n⟩, k⟩ := v <;> rfl
theorem sv_c1 {v : SV_} {n : Nat} (h : sv_c v = n) : (sv_v g v).category = n := by rw [sv_ce, h]
def sb_i2b (x : Int) : Int := (Int32.ofInt x).toInt8.toInt32.toInt
def sb_i2s (x : Int) : Int := (Int32.ofInt x).toInt16.toInt32.toInt
theorem sr_46 {x : Int} (h : sr_32 x) : sr_64 x := ⟨by have := h.1; omega, by have := h.2; omega⟩
theorem sj_t {x : Int} (h : sr_64 x) : (Int64.ofInt x).toInt = x := sw_64i h
theorem si_64 {x : Int} (h : sr_32 x) : (Int32.ofInt x).toInt64 = Int64.ofInt x := by
  rw [← Int64.toInt_inj, sj_t (sr_46 h), Int32.toInt_toInt64, si_t h]
theorem si_46 {x : Int} (h : sr_64 x) (h2 : sr_32 x) : (Int64.ofInt x).toInt32 = Int32.ofInt x := by
  rw [← Int32.toInt_inj, Int64.toInt_toInt32, sj_t h, Int32.toInt_ofInt]
theorem sj_tdr {x y : Int} (hx : sr_64 x) (h : 0 < y) : sr_64 (x.tdiv y) := by
  unfold sr_64 at *
  by_cases h0 : 0 ≤ x
  · rw [Int.tdiv_eq_ediv_of_nonneg h0]
    have h1 := Int.ediv_nonneg h0 (Int.le_of_lt h)
    have h2 := Int.ediv_le_self y h0
    omega
  · have e : x.tdiv y = -((-x) / y) := by
      rw [← Int.tdiv_eq_ediv_of_nonneg (by omega), Int.neg_tdiv, Int.neg_neg]
    rw [e]
    have h1 := Int.ediv_nonneg (a := -x) (by omega) (Int.le_of_lt h)
    have h2 := Int.ediv_le_self (a := -x) y (by omega)
    omega
theorem sj_div {x y : Int} (hx : sr_64 x) (hy : sr_64 y) (h : 0 < y) : Int64.ofInt (x.tdiv y) = Int64.ofInt x / Int64.ofInt y := by
  rw [← Int64.toInt_inj, Int64.toInt_div_of_ne_right _ _ (fun e => by
    have e2 := congrArg Int64.toInt e
    rw [sj_t hy] at e2
    have e3 : (-1 : Int64).toInt = -1 := by decide
    omega), sj_t hx, sj_t hy, sj_t (sj_tdr hx h)]
theorem sj_ne {y : Int} (hy : sr_64 y) (h : 0 < y) : ¬ Int64.ofInt y = 0 := fun e => by
  have e2 := congrArg Int64.toInt e
  rw [sj_t hy] at e2
  have e3 : (0 : Int64).toInt = 0 := by decide
  omega
theorem vr_iconst {n : Int} (hd : decode M.2.1 pc = .ok (.iconst n, 1)) (hq : pc + 1 = q) (hn : sr_32 n) (k : V_ g d M q ls (sv_i n :: st) h Post) : V_ g d M pc ls (st) h Post := by
  subst hq
  exact V_pure (st2 := sv_i n :: st) (fun oS => so_i hn oS) (fun _ p e R s m args below meth c H locs cells slots QQ lsA hx hb w => lv_iconst hx hb hd rfl w) k
theorem vr_bipush {n : Int} (hd : decode M.2.1 pc = .ok (.bipush n, 2)) (hq : pc + 2 = q) (hn : sr_32 n) (hv : (Int8.ofInt n).toInt32 = Int32.ofInt n) (k : V_ g d M q ls (sv_i n :: st) h Post) : V_ g d M pc ls (st) h Post := by
  subst hq
  exact V_pure (st2 := sv_i n :: st) (fun oS => so_i hn oS) (fun _ p e R s m args below meth c H locs cells slots QQ lsA hx hb w => lv_bipush hx hb hd hv w) k
theorem vr_sipush {n : Int} (hd : decode M.2.1 pc = .ok (.sipush n, 3)) (hq : pc + 3 = q) (hn : sr_32 n) (hv : (Int16.ofInt n).toInt32 = Int32.ofInt n) (k : V_ g d M q ls (sv_i n :: st) h Post) : V_ g d M pc ls (st) h Post := by
  subst hq
  exact V_pure (st2 := sv_i n :: st) (fun oS => so_i hn oS) (fun _ p e R s m args below meth c H locs cells slots QQ lsA hx hb w => lv_sipush hx hb hd hv w) k
theorem vr_lconst {n : Fin 2} (hd : decode M.2.1 pc = .ok (.lconst n, 1)) (hq : pc + 1 = q) (k : V_ g d M q ls (sv_l ((n : Nat) : Int) :: st) h Post) : V_ g d M pc ls (st) h Post := by
  subst hq
  exact V_pure (st2 := sv_l ((n : Nat) : Int) :: st) (fun oS => so_l ⟨by have := n.isLt; omega, by have := n.isLt; omega⟩ oS) (fun _ p e R s m args below meth c H locs cells slots QQ lsA hx hb w => lv_lconst hx hb hd Int64.ofInt_eq_ofNat.symm w) k
theorem vr_iadd {x y : Int} (hd : decode M.2.1 pc = .ok (.iadd, 1)) (hq : pc + 1 = q) (k : V_ g d M q ls (sv_i (sw_32 (x + y)) :: st) h Post) : V_ g d M pc ls (sv_i y :: sv_i x :: st) h Post := by
  subst hq
  exact V_pure (st2 := sv_i (sw_32 (x + y)) :: st) (fun oS => so_i (sr_32w _) (so_t (so_t oS))) (fun _ p e R s m args below meth c H locs cells slots QQ lsA hx hb w => lv_iadd hx hb hd (by simpa [sv_v, sw_32o, Int32.ofInt_add] using w)) k
theorem vr_iaddN {x y : Int} (hd : decode M.2.1 pc = .ok (.iadd, 1)) (hq : pc + 1 = q) (hr : sr_32 (x + y)) (k : V_ g d M q ls (sv_i (x + y) :: st) h Post) : V_ g d M pc ls (sv_i y :: sv_i x :: st) h Post := by
  subst hq
  exact V_pure (st2 := sv_i (x + y) :: st) (fun oS => so_i hr (so_t (so_t oS))) (fun _ p e R s m args below meth c H locs cells slots QQ lsA hx hb w => lv_iadd hx hb hd (by simpa [sv_v, Int32.ofInt_add] using w)) k
theorem vr_isub {x y : Int} (hd : decode M.2.1 pc = .ok (.isub, 1)) (hq : pc + 1 = q) (k : V_ g d M q ls (sv_i (sw_32 (x - y)) :: st) h Post) : V_ g d M pc ls (sv_i y :: sv_i x :: st) h Post := by
  subst hq
  exact V_pure (st2 := sv_i (sw_32 (x - y)) :: st) (fun oS => so_i (sr_32w _) (so_t (so_t oS))) (fun _ p e R s m args below meth c H locs cells slots QQ lsA hx hb w => lv_isub hx hb hd (by simpa [sv_v, sw_32o, Int32.ofInt_sub] using w)) k
theorem vr_isubN {x y : Int} (hd : decode M.2.1 pc = .ok (.isub, 1)) (hq : pc + 1 = q) (hr : sr_32 (x - y)) (k : V_ g d M q ls (sv_i (x - y) :: st) h Post) : V_ g d M pc ls (sv_i y :: sv_i x :: st) h Post := by
  subst hq
  exact V_pure (st2 := sv_i (x - y) :: st) (fun oS => so_i hr (so_t (so_t oS))) (fun _ p e R s m args below meth c H locs cells slots QQ lsA hx hb w => lv_isub hx hb hd (by simpa [sv_v, Int32.ofInt_sub] using w)) k
theorem vr_imul {x y : Int} (hd : decode M.2.1 pc = .ok (.imul, 1)) (hq : pc + 1 = q) (k : V_ g d M q ls (sv_i (sw_32 (x * y)) :: st) h Post) : V_ g d M pc ls (sv_i y :: sv_i x :: st) h Post := by
  subst hq
  exact V_pure (st2 := sv_i (sw_32 (x * y)) :: st) (fun oS => so_i (sr_32w _) (so_t (so_t oS))) (fun _ p e R s m args below meth c H locs cells slots QQ lsA hx hb w => lv_imul hx hb hd (by simpa [sv_v, sw_32o, Int32.ofInt_mul] using w)) k
theorem vr_imulN {x y : Int} (hd : decode M.2.1 pc = .ok (.imul, 1)) (hq : pc + 1 = q) (hr : sr_32 (x * y)) (k : V_ g d M q ls (sv_i (x * y) :: st) h Post) : V_ g d M pc ls (sv_i y :: sv_i x :: st) h Post := by
  subst hq
  exact V_pure (st2 := sv_i (x * y) :: st) (fun oS => so_i hr (so_t (so_t oS))) (fun _ p e R s m args below meth c H locs cells slots QQ lsA hx hb w => lv_imul hx hb hd (by simpa [sv_v, Int32.ofInt_mul] using w)) k
theorem vr_ineg {x : Int} (hd : decode M.2.1 pc = .ok (.ineg, 1)) (hq : pc + 1 = q) (hr : sr_32 (-x)) (k : V_ g d M q ls (sv_i (-x) :: st) h Post) : V_ g d M pc ls (sv_i x :: st) h Post := by
  subst hq
  exact V_pure (st2 := sv_i (-x) :: st) (fun oS => so_i hr (so_t oS)) (fun _ p e R s m args below meth c H locs cells slots QQ lsA hx hb w => lv_ineg hx hb hd (by simpa [sv_v, Int32.ofInt_neg] using w)) k
def sb_iand (x y : Int) : Int := (Int32.ofInt x &&& Int32.ofInt y).toInt
theorem vr_iand {x y : Int} (hd : decode M.2.1 pc = .ok (.iand, 1)) (hq : pc + 1 = q) (k : V_ g d M q ls (sv_i (sb_iand x y) :: st) h Post) : V_ g d M pc ls (sv_i y :: sv_i x :: st) h Post := by
  subst hq
  exact V_pure (st2 := sv_i (sb_iand x y) :: st) (fun oS => so_i (sr_32t _) (so_t (so_t oS))) (fun _ p e R s m args below meth c H locs cells slots QQ lsA hx hb w => lv_iand hx hb hd (by simpa [sv_v, sb_iand, Int32.ofInt_toInt] using w)) k
def sb_ior (x y : Int) : Int := (Int32.ofInt x ||| Int32.ofInt y).toInt
theorem vr_ior {x y : Int} (hd : decode M.2.1 pc = .ok (.ior, 1)) (hq : pc + 1 = q) (k : V_ g d M q ls (sv_i (sb_ior x y) :: st) h Post) : V_ g d M pc ls (sv_i y :: sv_i x :: st) h Post := by
  subst hq
  exact V_pure (st2 := sv_i (sb_ior x y) :: st) (fun oS => so_i (sr_32t _) (so_t (so_t oS))) (fun _ p e R s m args below meth c H locs cells slots QQ lsA hx hb w => lv_ior hx hb hd (by simpa [sv_v, sb_ior, Int32.ofInt_toInt] using w)) k
def sb_ixor (x y : Int) : Int := (Int32.ofInt x ^^^ Int32.ofInt y).toInt
theorem vr_ixor {x y : Int} (hd : decode M.2.1 pc = .ok (.ixor, 1)) (hq : pc + 1 = q) (k : V_ g d M q ls (sv_i (sb_ixor x y) :: st) h Post) : V_ g d M pc ls (sv_i y :: sv_i x :: st) h Post := by
  subst hq
  exact V_pure (st2 := sv_i (sb_ixor x y) :: st) (fun oS => so_i (sr_32t _) (so_t (so_t oS))) (fun _ p e R s m args below meth c H locs cells slots QQ lsA hx hb w => lv_ixor hx hb hd (by simpa [sv_v, sb_ixor, Int32.ofInt_toInt] using w)) k
def sb_ishl (x y : Int) : Int := (Int32.ofInt x <<< (Int32.ofInt y &&& 31)).toInt
theorem vr_ishl {x y : Int} (hd : decode M.2.1 pc = .ok (.ishl, 1)) (hq : pc + 1 = q) (k : V_ g d M q ls (sv_i (sb_ishl x y) :: st) h Post) : V_ g d M pc ls (sv_i y :: sv_i x :: st) h Post := by
  subst hq
  exact V_pure (st2 := sv_i (sb_ishl x y) :: st) (fun oS => so_i (sr_32t _) (so_t (so_t oS))) (fun _ p e R s m args below meth c H locs cells slots QQ lsA hx hb w => lv_ishl hx hb hd (by simpa [sv_v, sb_ishl, Int32.ofInt_toInt] using w)) k
def sb_ishr (x y : Int) : Int := (Int32.ofInt x >>> (Int32.ofInt y &&& 31)).toInt
theorem vr_ishr {x y : Int} (hd : decode M.2.1 pc = .ok (.ishr, 1)) (hq : pc + 1 = q) (k : V_ g d M q ls (sv_i (sb_ishr x y) :: st) h Post) : V_ g d M pc ls (sv_i y :: sv_i x :: st) h Post := by
  subst hq
  exact V_pure (st2 := sv_i (sb_ishr x y) :: st) (fun oS => so_i (sr_32t _) (so_t (so_t oS))) (fun _ p e R s m args below meth c H locs cells slots QQ lsA hx hb w => lv_ishr hx hb hd (by simpa [sv_v, sb_ishr, Int32.ofInt_toInt] using w)) k
def sb_iushr (x y : Int) : Int := ((Int32.ofInt x).toUInt32 >>> ((Int32.ofInt y).toUInt32 &&& Int32.toUInt32 31)).toInt32.toInt
theorem vr_iushr {x y : Int} (hd : decode M.2.1 pc = .ok (.iushr, 1)) (hq : pc + 1 = q) (k : V_ g d M q ls (sv_i (sb_iushr x y) :: st) h Post) : V_ g d M pc ls (sv_i y :: sv_i x :: st) h Post := by
  subst hq
  exact V_pure (st2 := sv_i (sb_iushr x y) :: st) (fun oS => so_i (sr_32t _) (so_t (so_t oS))) (fun _ p e R s m args below meth c H locs cells slots QQ lsA hx hb w => lv_iushr hx hb hd (Int32.ofInt_toInt _).symm w) k
theorem si_tdr {x y : Int} (hx : sr_32 x) (h : 0 < y) : sr_32 (x.tdiv y) := by
  unfold sr_32 at *
  by_cases h0 : 0 ≤ x
  · rw [Int.tdiv_eq_ediv_of_nonneg h0]
    have h1 := Int.ediv_nonneg h0 (Int.le_of_lt h)
    have h2 := Int.ediv_le_self y h0
    omega
  · have e : x.tdiv y = -((-x) / y) := by
      rw [← Int.tdiv_eq_ediv_of_nonneg (by omega), Int.neg_tdiv, Int.neg_neg]
    rw [e]
    have h1 := Int.ediv_nonneg (a := -x) (by omega) (Int.le_of_lt h)
    have h2 := Int.ediv_le_self (a := -x) y (by omega)
    omega
theorem si_div {x y : Int} (hx : sr_32 x) (hy : sr_32 y) (h : 0 < y) : Int32.ofInt (x.tdiv y) = Int32.ofInt x / Int32.ofInt y := by
  rw [← Int32.toInt_inj, Int32.toInt_div_of_ne_right _ _ (fun e => by
    have e2 := congrArg Int32.toInt e
    rw [si_t hy] at e2
    have e3 : (-1 : Int32).toInt = -1 := by decide
    omega), si_t hx, si_t hy, si_t (si_tdr hx h)]
theorem si_ne {y : Int} (hy : sr_32 y) (h : 0 < y) : ¬ Int32.ofInt y = 0 := fun e => by
  have e2 := congrArg Int32.toInt e
  rw [si_t hy] at e2
  have e3 : (0 : Int32).toInt = 0 := by decide
  omega
theorem vr_idiv {x y : Int} (hd : decode M.2.1 pc = .ok (.idiv, 1)) (hq : pc + 1 = q) (hy : 0 < y) (k : V_ g d M q ls (sv_i (x.tdiv y) :: st) h Post) : V_ g d M pc ls (sv_i y :: sv_i x :: st) h Post := by
  subst hq
  exact V_pure (st2 := sv_i (x.tdiv y) :: st) (fun oS => so_i (si_tdr (so_hi (so_t oS)) hy) (so_t (so_t oS))) (fun oS p e R s m args below meth c H locs cells slots QQ lsA hx hb w => lv_idiv hx hb hd (si_ne (so_hi oS) hy) (by rw [← si_div (so_hi (so_t oS)) (so_hi oS) hy]; exact w)) k
theorem vr_irem {x y : Int} (hd : decode M.2.1 pc = .ok (.irem, 1)) (hq : pc + 1 = q) (hy : 0 < y) (hr : sr_32 x → sr_32 y → sr_32 (x - x.tdiv y * y)) (k : V_ g d M q ls (sv_i (x - x.tdiv y * y) :: st) h Post) : V_ g d M pc ls (sv_i y :: sv_i x :: st) h Post := by
  subst hq
  exact V_pure (st2 := sv_i (x - x.tdiv y * y) :: st) (fun oS => so_i (hr (so_hi (so_t oS)) (so_hi oS)) (so_t (so_t oS))) (fun oS p e R s m args below meth c H locs cells slots QQ lsA hx hb w => lv_irem hx hb hd (si_ne (so_hi oS) hy) (by rw [← si_div (so_hi (so_t oS)) (so_hi oS) hy, ← Int32.ofInt_mul, ← Int32.ofInt_sub]; exact w)) k
theorem vr_dup {v : SV_} (hd : decode M.2.1 pc = .ok (.dup, 1)) (hq : pc + 1 = q) (hv : sv_c v = 1) (k : V_ g d M q ls (v :: v :: st) h Post) : V_ g d M pc ls (v :: st) h Post := by
  subst hq
  exact V_pure (st2 := v :: v :: st) (fun oS => so_1 (so_h oS) oS) (fun _ p e R s m args below meth c H locs cells slots QQ lsA hx hb w => lv_dup hx hb hd (sv_c1 hv) w) k
theorem vr_pop {v : SV_} (hd : decode M.2.1 pc = .ok (.pop, 1)) (hq : pc + 1 = q) (hv : sv_c v = 1) (k : V_ g d M q ls (st) h Post) : V_ g d M pc ls (v :: st) h Post := by
  subst hq
  exact V_pure (st2 := st) (fun oS => so_t oS) (fun _ p e R s m args below meth c H locs cells slots QQ lsA hx hb w => lv_pop hx hb hd (sv_c1 hv) w) k
theorem vr_dup2 {v u : SV_} (hd : decode M.2.1 pc = .ok (.dup2, 1)) (hq : pc + 1 = q) (hv : sv_c v = 1) (hu : sv_c u = 1) (k : V_ g d M q ls (v :: u :: v :: u :: st) h Post) : V_ g d M pc ls (v :: u :: st) h Post := by
  subst hq
  exact V_pure (st2 := v :: u :: v :: u :: st) (fun oS => so_1 (so_h oS) (so_1 (so_h (so_t oS)) oS)) (fun _ p e R s m args below meth c H locs cells slots QQ lsA hx hb w => lv_dup2_11 hx hb hd (sv_c1 hv) (sv_c1 hu) w) k
theorem vr_i2b {x : Int} (hd : decode M.2.1 pc = .ok (.i2b, 1)) (hq : pc + 1 = q) (k : V_ g d M q ls (sv_i (sb_i2b x) :: st) h Post) : V_ g d M pc ls (sv_i x :: st) h Post := by
  subst hq
  exact V_pure (st2 := sv_i (sb_i2b x) :: st) (fun oS => so_i (sr_32t _) (so_t oS)) (fun _ p e R s m args below meth c H locs cells slots QQ lsA hx hb w => lv_i2b hx hb hd (Int32.ofInt_toInt _).symm w) k
theorem vr_i2s {x : Int} (hd : decode M.2.1 pc = .ok (.i2s, 1)) (hq : pc + 1 = q) (k : V_ g d M q ls (sv_i (sb_i2s x) :: st) h Post) : V_ g d M pc ls (sv_i x :: st) h Post := by
  subst hq
  exact V_pure (st2 := sv_i (sb_i2s x) :: st) (fun oS => so_i (sr_32t _) (so_t oS)) (fun _ p e R s m args below meth c H locs cells slots QQ lsA hx hb w => lv_i2s hx hb hd (Int32.ofInt_toInt _).symm w) k
theorem vr_i2l {x : Int} (hd : decode M.2.1 pc = .ok (.i2l, 1)) (hq : pc + 1 = q) (k : V_ g d M q ls (sv_l x :: st) h Post) : V_ g d M pc ls (sv_i x :: st) h Post := by
  subst hq
  exact V_pure (st2 := sv_l x :: st) (fun oS => so_l (sr_46 (so_hi oS)) (so_t oS)) (fun oS p e R s m args below meth c H locs cells slots QQ lsA hx hb w => lv_i2l hx hb hd (si_64 (so_hi oS)) w) k
theorem vr_l2i {x : Int} (hd : decode M.2.1 pc = .ok (.l2i, 1)) (hq : pc + 1 = q) (hr : sr_32 x) (k : V_ g d M q ls (sv_i x :: st) h Post) : V_ g d M pc ls (sv_l x :: st) h Post := by
  subst hq
  exact V_pure (st2 := sv_i x :: st) (fun oS => so_i hr (so_t oS)) (fun oS p e R s m args below meth c H locs cells slots QQ lsA hx hb w => lv_l2i hx hb hd (si_46 (so_hl oS) hr) w) k
theorem vr_ladd {x y : Int} (hd : decode M.2.1 pc = .ok (.ladd, 1)) (hq : pc + 1 = q) (hr : sr_64 (x + y)) (k : V_ g d M q ls (sv_l (x + y) :: st) h Post) : V_ g d M pc ls (sv_l y :: sv_l x :: st) h Post := by
  subst hq
  exact V_pure (st2 := sv_l (x + y) :: st) (fun oS => so_l hr (so_t (so_t oS))) (fun _ p e R s m args below meth c H locs cells slots QQ lsA hx hb w => lv_ladd hx hb hd (by simpa [sv_v, Int64.ofInt_add] using w)) k
theorem vr_lmul {x y : Int} (hd : decode M.2.1 pc = .ok (.lmul, 1)) (hq : pc + 1 = q) (hr : sr_64 (x * y)) (k : V_ g d M q ls (sv_l (x * y) :: st) h Post) : V_ g d M pc ls (sv_l y :: sv_l x :: st) h Post := by
  subst hq
  exact V_pure (st2 := sv_l (x * y) :: st) (fun oS => so_l hr (so_t (so_t oS))) (fun _ p e R s m args below meth c H locs cells slots QQ lsA hx hb w => lv_lmul hx hb hd (by simpa [sv_v, Int64.ofInt_mul] using w)) k
theorem vr_ldiv {x y : Int} (hd : decode M.2.1 pc = .ok (.ldiv, 1)) (hq : pc + 1 = q) (hy : 0 < y) (k : V_ g d M q ls (sv_l (x.tdiv y) :: st) h Post) : V_ g d M pc ls (sv_l y :: sv_l x :: st) h Post := by
  subst hq
  exact V_pure (st2 := sv_l (x.tdiv y) :: st) (fun oS => so_l (sj_tdr (so_hl (so_t oS)) hy) (so_t (so_t oS))) (fun oS p e R s m args below meth c H locs cells slots QQ lsA hx hb w => lv_ldiv hx hb hd (sj_ne (so_hl oS) hy) (by rw [← sj_div (so_hl (so_t oS)) (so_hl oS) hy]; exact w)) k
theorem vr_lrem {x y : Int} (hd : decode M.2.1 pc = .ok (.lrem, 1)) (hq : pc + 1 = q) (hy : 0 < y) (hr : sr_64 x → sr_64 y → sr_64 (x - x.tdiv y * y)) (k : V_ g d M q ls (sv_l (x - x.tdiv y * y) :: st) h Post) : V_ g d M pc ls (sv_l y :: sv_l x :: st) h Post := by
  subst hq
  exact V_pure (st2 := sv_l (x - x.tdiv y * y) :: st) (fun oS => so_l (hr (so_hl (so_t oS)) (so_hl oS)) (so_t (so_t oS))) (fun oS p e R s m args below meth c H locs cells slots QQ lsA hx hb w => lv_lrem hx hb hd (sj_ne (so_hl oS) hy) (by rw [← sj_div (so_hl (so_t oS)) (so_hl oS) hy, ← Int64.ofInt_mul, ← Int64.ofInt_sub]; exact w)) k
theorem vr_pc {q2 : Nat} (hq : q2 = pc) (k : V_ g d M q2 ls st h Post) : V_ g d M pc ls st h Post := hq ▸ k
end VR_
end
section
section VB_
variable {g : SG_} {d : Nat} {M : MD_} {pc q : Nat} {ls : List (Option SV_)} {st : List SV_} {h : SH_} {Post : Option SV_ → SH_ → Prop}
theorem si_0 : (0 : Int32) = Int32.ofInt 0 := by decide
theorem vr_if_eq {x off : Int} {t : Nat} (hd : decode M.2.1 pc = .ok (.ifCond .eq off, 3)) (ht : (pc : Int) + off = (t : Int)) (hq : pc + 3 = q) (kt : x = 0 → V_ g d M t ls st h Post) (kf : ¬ x = 0 → V_ g d M q ls st h Post) : V_ g d M pc ls (sv_i x :: st) h Post := by
  subst hq
  intro p e R s m args below meth c cells slots QQ C hr H locs lsA oL oS oH hP hS hl
  exact lv_if_eq C.1 C.2.1 hd ht (fun z => kt ((si_eq (so_hi oS) sr_320).mp (by rw [si_0] at z; exact z)) p e R s m args below meth c cells slots QQ C hr H locs lsA oL (so_t oS) oH hP hS hl) (fun z => kf ((not_congr (si_eq (so_hi oS) sr_320)).mp (by rw [si_0] at z; exact z)) p e R s m args below meth c cells slots QQ C hr H locs lsA oL (so_t oS) oH hP hS hl)
theorem vr_if_ne {x off : Int} {t : Nat} (hd : decode M.2.1 pc = .ok (.ifCond .ne off, 3)) (ht : (pc : Int) + off = (t : Int)) (hq : pc + 3 = q) (kt : ¬ x = 0 → V_ g d M t ls st h Post) (kf : x = 0 → V_ g d M q ls st h Post) : V_ g d M pc ls (sv_i x :: st) h Post := by
  subst hq
  intro p e R s m args below meth c cells slots QQ C hr H locs lsA oL oS oH hP hS hl
  exact lv_if_ne C.1 C.2.1 hd ht (fun z => kt ((not_congr (si_eq (so_hi oS) sr_320)).mp (by rw [si_0] at z; exact z)) p e R s m args below meth c cells slots QQ C hr H locs lsA oL (so_t oS) oH hP hS hl) (fun z => kf ((si_eq (so_hi oS) sr_320).mp (by rw [si_0] at z; exact z)) p e R s m args below meth c cells slots QQ C hr H locs lsA oL (so_t oS) oH hP hS hl)
theorem vr_if_lt {x off : Int} {t : Nat} (hd : decode M.2.1 pc = .ok (.ifCond .lt off, 3)) (ht : (pc : Int) + off = (t : Int)) (hq : pc + 3 = q) (kt : x < 0 → V_ g d M t ls st h Post) (kf : ¬ x < 0 → V_ g d M q ls st h Post) : V_ g d M pc ls (sv_i x :: st) h Post := by
  subst hq
  intro p e R s m args below meth c cells slots QQ C hr H locs lsA oL oS oH hP hS hl
  exact lv_if_lt C.1 C.2.1 hd ht (fun z => kt ((si_lt (so_hi oS) sr_320).mp (by rw [si_0] at z; exact z)) p e R s m args below meth c cells slots QQ C hr H locs lsA oL (so_t oS) oH hP hS hl) (fun z => kf ((not_congr (si_lt (so_hi oS) sr_320)).mp (by rw [si_0] at z; exact z)) p e R s m args below meth c cells slots QQ C hr H locs lsA oL (so_t oS) oH hP hS hl)
theorem vr_if_ge {x off : Int} {t : Nat} (hd : decode M.2.1 pc = .ok (.ifCond .ge off, 3)) (ht : (pc : Int) + off = (t : Int)) (hq : pc + 3 = q) (kt : 0 ≤ x → V_ g d M t ls st h Post) (kf : ¬ 0 ≤ x → V_ g d M q ls st h Post) : V_ g d M pc ls (sv_i x :: st) h Post := by
  subst hq
  intro p e R s m args below meth c cells slots QQ C hr H locs lsA oL oS oH hP hS hl
  exact lv_if_ge C.1 C.2.1 hd ht (fun z => kt ((si_le sr_320 (so_hi oS)).mp (by rw [si_0] at z; exact z)) p e R s m args below meth c cells slots QQ C hr H locs lsA oL (so_t oS) oH hP hS hl) (fun z => kf ((not_congr (si_le sr_320 (so_hi oS))).mp (by rw [si_0] at z; exact z)) p e R s m args below meth c cells slots QQ C hr H locs lsA oL (so_t oS) oH hP hS hl)
theorem vr_if_gt {x off : Int} {t : Nat} (hd : decode M.2.1 pc = .ok (.ifCond .gt off, 3)) (ht : (pc : Int) + off = (t : Int)) (hq : pc + 3 = q) (kt : 0 < x → V_ g d M t ls st h Post) (kf : ¬ 0 < x → V_ g d M q ls st h Post) : V_ g d M pc ls (sv_i x :: st) h Post := by
  subst hq
  intro p e R s m args below meth c cells slots QQ C hr H locs lsA oL oS oH hP hS hl
  exact lv_if_gt C.1 C.2.1 hd ht (fun z => kt ((si_lt sr_320 (so_hi oS)).mp (by rw [si_0] at z; exact z)) p e R s m args below meth c cells slots QQ C hr H locs lsA oL (so_t oS) oH hP hS hl) (fun z => kf ((not_congr (si_lt sr_320 (so_hi oS))).mp (by rw [si_0] at z; exact z)) p e R s m args below meth c cells slots QQ C hr H locs lsA oL (so_t oS) oH hP hS hl)
theorem vr_if_le {x off : Int} {t : Nat} (hd : decode M.2.1 pc = .ok (.ifCond .le off, 3)) (ht : (pc : Int) + off = (t : Int)) (hq : pc + 3 = q) (kt : x ≤ 0 → V_ g d M t ls st h Post) (kf : ¬ x ≤ 0 → V_ g d M q ls st h Post) : V_ g d M pc ls (sv_i x :: st) h Post := by
  subst hq
  intro p e R s m args below meth c cells slots QQ C hr H locs lsA oL oS oH hP hS hl
  exact lv_if_le C.1 C.2.1 hd ht (fun z => kt ((si_le (so_hi oS) sr_320).mp (by rw [si_0] at z; exact z)) p e R s m args below meth c cells slots QQ C hr H locs lsA oL (so_t oS) oH hP hS hl) (fun z => kf ((not_congr (si_le (so_hi oS) sr_320)).mp (by rw [si_0] at z; exact z)) p e R s m args below meth c cells slots QQ C hr H locs lsA oL (so_t oS) oH hP hS hl)
theorem vr_ic_eq {x y off : Int} {t : Nat} (hd : decode M.2.1 pc = .ok (.if_icmp .eq off, 3)) (ht : (pc : Int) + off = (t : Int)) (hq : pc + 3 = q) (kt : x = y → V_ g d M t ls st h Post) (kf : ¬ x = y → V_ g d M q ls st h Post) : V_ g d M pc ls (sv_i y :: sv_i x :: st) h Post := by
  subst hq
  intro p e R s m args below meth c cells slots QQ C hr H locs lsA oL oS oH hP hS hl
  exact lv_icmp_eq C.1 C.2.1 hd ht (fun z => kt ((si_eq (so_hi (so_t oS)) (so_hi oS)).mp z) p e R s m args below meth c cells slots QQ C hr H locs lsA oL (so_t (so_t oS)) oH hP hS hl) (fun z => kf ((not_congr (si_eq (so_hi (so_t oS)) (so_hi oS))).mp z) p e R s m args below meth c cells slots QQ C hr H locs lsA oL (so_t (so_t oS)) oH hP hS hl)
theorem vr_ic_ne {x y off : Int} {t : Nat} (hd : decode M.2.1 pc = .ok (.if_icmp .ne off, 3)) (ht : (pc : Int) + off = (t : Int)) (hq : pc + 3 = q) (kt : ¬ x = y → V_ g d M t ls st h Post) (kf : x = y → V_ g d M q ls st h Post) : V_ g d M pc ls (sv_i y :: sv_i x :: st) h Post := by
  subst hq
  intro p e R s m args below meth c cells slots QQ C hr H locs lsA oL oS oH hP hS hl
  exact lv_icmp_ne C.1 C.2.1 hd ht (fun z => kt ((not_congr (si_eq (so_hi (so_t oS)) (so_hi oS))).mp z) p e R s m args below meth c cells slots QQ C hr H locs lsA oL (so_t (so_t oS)) oH hP hS hl) (fun z => kf ((si_eq (so_hi (so_t oS)) (so_hi oS)).mp z) p e R s m args below meth c cells slots QQ C hr H locs lsA oL (so_t (so_t oS)) oH hP hS hl)
theorem vr_ic_lt {x y off : Int} {t : Nat} (hd : decode M.2.1 pc = .ok (.if_icmp .lt off, 3)) (ht : (pc : Int) + off = (t : Int)) (hq : pc + 3 = q) (kt : x < y → V_ g d M t ls st h Post) (kf : ¬ x < y → V_ g d M q ls st h Post) : V_ g d M pc ls (sv_i y :: sv_i x :: st) h Post := by
  subst hq
  intro p e R s m args below meth c cells slots QQ C hr H locs lsA oL oS oH hP hS hl
  exact lv_icmp_lt C.1 C.2.1 hd ht (fun z => kt ((si_lt (so_hi (so_t oS)) (so_hi oS)).mp z) p e R s m args below meth c cells slots QQ C hr H locs lsA oL (so_t (so_t oS)) oH hP hS hl) (fun z => kf ((not_congr (si_lt (so_hi (so_t oS)) (so_hi oS))).mp z) p e R s m args below meth c cells slots QQ C hr H locs lsA oL (so_t (so_t oS)) oH hP hS hl)
theorem vr_ic_ge {x y off : Int} {t : Nat} (hd : decode M.2.1 pc = .ok (.if_icmp .ge off, 3)) (ht : (pc : Int) + off = (t : Int)) (hq : pc + 3 = q) (kt : y ≤ x → V_ g d M t ls st h Post) (kf : ¬ y ≤ x → V_ g d M q ls st h Post) : V_ g d M pc ls (sv_i y :: sv_i x :: st) h Post := by
  subst hq
  intro p e R s m args below meth c cells slots QQ C hr H locs lsA oL oS oH hP hS hl
  exact lv_icmp_ge C.1 C.2.1 hd ht (fun z => kt ((si_le (so_hi oS) (so_hi (so_t oS))).mp z) p e R s m args below meth c cells slots QQ C hr H locs lsA oL (so_t (so_t oS)) oH hP hS hl) (fun z => kf ((not_congr (si_le (so_hi oS) (so_hi (so_t oS)))).mp z) p e R s m args below meth c cells slots QQ C hr H locs lsA oL (so_t (so_t oS)) oH hP hS hl)
theorem vr_ic_gt {x y off : Int} {t : Nat} (hd : decode M.2.1 pc = .ok (.if_icmp .gt off, 3)) (ht : (pc : Int) + off = (t : Int)) (hq : pc + 3 = q) (kt : y < x → V_ g d M t ls st h Post) (kf : ¬ y < x → V_ g d M q ls st h Post) : V_ g d M pc ls (sv_i y :: sv_i x :: st) h Post := by
  subst hq
  intro p e R s m args below meth c cells slots QQ C hr H locs lsA oL oS oH hP hS hl
  exact lv_icmp_gt C.1 C.2.1 hd ht (fun z => kt ((si_lt (so_hi oS) (so_hi (so_t oS))).mp z) p e R s m args below meth c cells slots QQ C hr H locs lsA oL (so_t (so_t oS)) oH hP hS hl) (fun z => kf ((not_congr (si_lt (so_hi oS) (so_hi (so_t oS)))).mp z) p e R s m args below meth c cells slots QQ C hr H locs lsA oL (so_t (so_t oS)) oH hP hS hl)
theorem vr_ic_le {x y off : Int} {t : Nat} (hd : decode M.2.1 pc = .ok (.if_icmp .le off, 3)) (ht : (pc : Int) + off = (t : Int)) (hq : pc + 3 = q) (kt : x ≤ y → V_ g d M t ls st h Post) (kf : ¬ x ≤ y → V_ g d M q ls st h Post) : V_ g d M pc ls (sv_i y :: sv_i x :: st) h Post := by
  subst hq
  intro p e R s m args below meth c cells slots QQ C hr H locs lsA oL oS oH hP hS hl
  exact lv_icmp_le C.1 C.2.1 hd ht (fun z => kt ((si_le (so_hi (so_t oS)) (so_hi oS)).mp z) p e R s m args below meth c cells slots QQ C hr H locs lsA oL (so_t (so_t oS)) oH hP hS hl) (fun z => kf ((not_congr (si_le (so_hi (so_t oS)) (so_hi oS))).mp z) p e R s m args below meth c cells slots QQ C hr H locs lsA oL (so_t (so_t oS)) oH hP hS hl)
theorem vr_goto {off : Int} (hd : decode M.2.1 pc = .ok (.goto off, 3)) (ht : (pc : Int) + off = (q : Int)) (k : V_ g d M q ls st h Post) : V_ g d M pc ls st h Post :=
  V_pure id (fun _ p e R s m args below meth c H locs cells slots QQ lsA hx hb w => lv_goto hx hb hd ht w) k
theorem vr_tsO {dflt lo hi : Int} {offs : Array Int} {len : Nat} {x : Int} (hd : decode M.2.1 pc = .ok (.tableswitch dflt lo hi offs, len)) (hx0 : x < lo ∨ hi < x) (ht : (pc : Int) + dflt = (q : Int)) (k : V_ g d M q ls st h Post) : V_ g d M pc ls (sv_i x :: st) h Post :=
  V_pure (st2 := st) (fun oS => so_t oS) (fun oS p e R s m args below meth c H locs cells slots QQ lsA hx hb w => lv_tableOut hx hb hd (by rw [si_t (so_hi oS)]; exact hx0) ht w) k
theorem vr_tsI {dflt lo hi : Int} {offs : Array Int} {len : Nat} {x off : Int} (hd : decode M.2.1 pc = .ok (.tableswitch dflt lo hi offs, len)) (h1 : ¬ x < lo) (h2 : ¬ hi < x) (ho : offs[(x - lo).toNat]? = some off) (ht : (pc : Int) + off = (q : Int)) (k : V_ g d M q ls st h Post) : V_ g d M pc ls (sv_i x :: st) h Post :=
  V_pure (st2 := st) (fun oS => so_t oS) (fun oS p e R s m args below meth c H locs cells slots QQ lsA hx hb w => lv_tableIn hx hb hd (by rw [si_t (so_hi oS)]; exact h1) (by rw [si_t (so_hi oS)]; exact h2) (by rw [si_t (so_hi oS)]; exact ho) ht w) k
theorem vr_lsw {dflt : Int} {ps : Array (Int × Int)} {len : Nat} {x off : Int} (hd : decode M.2.1 pc = .ok (.lookupswitch dflt ps, len)) (hp : (ps.toList.zip (ps.toList.drop 1)).all (fun (a, next) => a.1 < next.1) = true) (ho : Op.lookupswitch.offset ps.toList dflt x = off) (ht : (pc : Int) + off = (q : Int)) (k : V_ g d M q ls st h Post) : V_ g d M pc ls (sv_i x :: st) h Post :=
  V_pure (st2 := st) (fun oS => so_t oS) (fun oS p e R s m args below meth c H locs cells slots QQ lsA hx hb w => lv_lookup hx hb hd hp (by rw [si_t (so_hi oS)]; exact ho) ht w) k
/-! locals -/
theorem sl_in {i : Nat} {v : SV_} (o : sl_ok ls) (hl : ls[i]? = some (some v)) : sv_ok v := o v (List.mem_of_getElem? hl)
theorem vr_iload_n {j : Fin 4} {x : Int} (hd : decode M.2.1 pc = .ok (.iload_n j, 1)) (hq : pc + 1 = q) (hv : ls[(j : Nat)]? = some (some (sv_i x))) (k : V_ g d M q ls (sv_i x :: st) h Post) : V_ g d M pc ls st h Post := by
  subst hq
  intro p e R s m args below meth c cells slots QQ C hr H locs lsA oL oS oH hP hS hl
  exact lv_iload_n C.1 C.2.1 hd rfl (sl_at hl hv) (k p e R s m args below meth c cells slots QQ C hr H locs lsA oL (so_1 (sl_in oL hv) oS) oH hP hS hl)
theorem vr_iload {j : Nat} {x : Int} (hd : decode M.2.1 pc = .ok (.iload j, 2)) (hq : pc + 2 = q) (hv : ls[j]? = some (some (sv_i x))) (k : V_ g d M q ls (sv_i x :: st) h Post) : V_ g d M pc ls st h Post := by
  subst hq
  intro p e R s m args below meth c cells slots QQ C hr H locs lsA oL oS oH hP hS hl
  exact lv_iload C.1 C.2.1 hd (sl_at hl hv) (k p e R s m args below meth c cells slots QQ C hr H locs lsA oL (so_1 (sl_in oL hv) oS) oH hP hS hl)
theorem vr_lload_n {j : Fin 4} {x : Int} (hd : decode M.2.1 pc = .ok (.lload_n j, 1)) (hq : pc + 1 = q) (hv : ls[(j : Nat)]? = some (some (sv_l x))) (k : V_ g d M q ls (sv_l x :: st) h Post) : V_ g d M pc ls st h Post := by
  subst hq
  intro p e R s m args below meth c cells slots QQ C hr H locs lsA oL oS oH hP hS hl
  exact lv_lload_n C.1 C.2.1 hd rfl (sl_at hl hv) (k p e R s m args below meth c cells slots QQ C hr H locs lsA oL (so_1 (sl_in oL hv) oS) oH hP hS hl)
theorem vr_lload {j : Nat} {x : Int} (hd : decode M.2.1 pc = .ok (.lload j, 2)) (hq : pc + 2 = q) (hv : ls[j]? = some (some (sv_l x))) (k : V_ g d M q ls (sv_l x :: st) h Post) : V_ g d M pc ls st h Post := by
  subst hq
  intro p e R s m args below meth c cells slots QQ C hr H locs lsA oL oS oH hP hS hl
  exact lv_lload C.1 C.2.1 hd (sl_at hl hv) (k p e R s m args below meth c cells slots QQ C hr H locs lsA oL (so_1 (sl_in oL hv) oS) oH hP hS hl)
theorem vr_aload_n {j : Fin 4} {a n : Nat} {x : Int} (hd : decode M.2.1 pc = .ok (.aload_n j, 1)) (hq : pc + 1 = q) (hv : ls[(j : Nat)]? = some (some (sv_r a n x))) (k : V_ g d M q ls (sv_r a n x :: st) h Post) : V_ g d M pc ls st h Post := by
  subst hq
  intro p e R s m args below meth c cells slots QQ C hr H locs lsA oL oS oH hP hS hl
  exact lv_aload_n C.1 C.2.1 hd rfl (sl_at hl hv) (k p e R s m args below meth c cells slots QQ C hr H locs lsA oL (so_1 (sl_in oL hv) oS) oH hP hS hl)
theorem vr_aload {j a n : Nat} {x : Int} (hd : decode M.2.1 pc = .ok (.aload j, 2)) (hq : pc + 2 = q) (hv : ls[j]? = some (some (sv_r a n x))) (k : V_ g d M q ls (sv_r a n x :: st) h Post) : V_ g d M pc ls st h Post := by
  subst hq
  intro p e R s m args below meth c cells slots QQ C hr H locs lsA oL oS oH hP hS hl
  exact lv_aload C.1 C.2.1 hd (sl_at hl hv) (k p e R s m args below meth c cells slots QQ C hr H locs lsA oL (so_1 (sl_in oL hv) oS) oH hP hS hl)
def sl_nl (ls : List (Option SV_)) : Nat → Bool
  | 0 => true
  | i + 1 => match ls[i]? with
    | some (some (.inr (.inl _))) => false
    | _ => true
theorem sl_nlc {i j : Nat} {v : SV_} (hn : sl_nl ls i = true) (hj : j + 1 = i) (hv : ls[j]? = some (some v)) : sv_c v = 1 := by
  subst hj
  simp only [sl_nl, hv] at hn
  obtain x | x | x := v
  · rfl
  · simp at hn
  · rfl
theorem sl_oks {i : Nat} {v : SV_} (o : sl_ok ls) (hv : sv_ok v) : sl_ok (ls.set i (some v)) := fun w hw => by
  rcases List.mem_or_eq_of_mem_set hw with h1 | h1
  · exact o w h1
  · cases h1; exact hv
theorem sl_st1 {lsA : Array Slot} {n i : Nat} {v : SV_} (hn : sl_nl ls i = true) (hl : lv_has lsA n ((i, sv_v g v) :: (sl_v g 0 ls).filter (fun q => !(q.1 == i) && !(q.1 + 1 == i && q.2.category == 2)))) : lv_has lsA n (sl_v g 0 (ls.set i (some v))) := by
  refine ⟨hl.1, hl.2.1, fun q hq => hl.2.2 q ?_⟩
  obtain ⟨j, w, h1, h2⟩ := sl_mem.mp hq
  by_cases hj : i = j
  · subst hj
    have hlt : i < (ls.set i (some v)).length := (List.getElem?_eq_some_iff.mp h1).1
    rw [List.length_set] at hlt
    rw [List.getElem?_set_self hlt] at h1
    cases h1
    rw [h2]
    simp
  · rw [List.getElem?_set_ne hj] at h1
    refine List.mem_cons_of_mem _ (List.mem_filter.mpr ⟨sl_mem.mpr ⟨j, w, h1, h2⟩, ?_⟩)
    rw [h2]
    simp only [Nat.zero_add, Bool.and_eq_true, Bool.not_eq_true', beq_eq_false_iff_ne, ne_eq, Bool.and_eq_false_iff]
    refine ⟨fun e => hj e.symm, ?_⟩
    by_cases h3 : j + 1 = i
    · right
      rw [sv_ce, sl_nlc hn h3 h1]
      decide
    · exact Or.inl h3
theorem sl_st2 {lsA : Array Slot} {n i : Nat} {v : SV_} (hn : sl_nl ls i = true) (hl : lv_has lsA n ((i, sv_v g v) :: (sl_v g 0 ls).filter (fun q => !(q.1 == i) && (!(q.1 == i + 1) && !(q.1 + 1 == i && q.2.category == 2))))) : lv_has lsA n (sl_v g 0 ((ls.set (i + 1) none).set i (some v))) := by
  refine ⟨hl.1, hl.2.1, fun q hq => hl.2.2 q ?_⟩
  obtain ⟨j, w, h1, h2⟩ := sl_mem.mp hq
  by_cases hj : i = j
  · subst hj
    have hlt : i < ((ls.set (i + 1) none).set i (some v)).length := (List.getElem?_eq_some_iff.mp h1).1
    rw [List.length_set] at hlt
    rw [List.getElem?_set_self hlt] at h1
    cases h1
    rw [h2]
    simp
  · rw [List.getElem?_set_ne hj] at h1
    by_cases hj1 : i + 1 = j
    · subst hj1
      have hlt : i + 1 < (ls.set (i + 1) none).length := (List.getElem?_eq_some_iff.mp h1).1
      rw [List.length_set] at hlt
      rw [List.getElem?_set_self hlt] at h1
      cases h1
    rw [List.getElem?_set_ne hj1] at h1
    refine List.mem_cons_of_mem _ (List.mem_filter.mpr ⟨sl_mem.mpr ⟨j, w, h1, h2⟩, ?_⟩)
    rw [h2]
    simp only [Nat.zero_add, Bool.and_eq_true, Bool.not_eq_true', beq_eq_false_iff_ne, ne_eq, Bool.and_eq_false_iff]
    refine ⟨fun e => hj e.symm, fun e => hj1 e.symm, ?_⟩
    by_cases h3 : j + 1 = i
    · right
      rw [sv_ce, sl_nlc hn h3 h1]
      decide
    · exact Or.inl h3
theorem vr_istore_n {j : Fin 4} {i : Nat} {x : Int} {ls2 : List (Option SV_)} (hd : decode M.2.1 pc = .ok (.istore_n j, 1)) (hq : pc + 1 = q) (hi : (j : Nat) = i) (hn : i < M.2.2.1) (hc : sl_nl ls i = true) (h2 : ls.set i (some (sv_i x)) = ls2) (k : V_ g d M q ls2 st h Post) : V_ g d M pc ls (sv_i x :: st) h Post := by
  subst hq
  subst h2
  intro p e R s m args below meth c cells slots QQ C hr H locs lsA oL oS oH hP hS hl
  exact lv_istore_n C.1 C.2.1 hd hi hl hn rfl (fun ls' hl' => k p e R s m args below meth c cells slots QQ C hr H locs ls' (sl_oks oL (so_h oS)) (so_t oS) oH hP hS (sl_st1 (v := sv_i x) hc hl'))
theorem vr_istore {i : Nat} {x : Int} {ls2 : List (Option SV_)} (hd : decode M.2.1 pc = .ok (.istore i, 2)) (hq : pc + 2 = q) (hn : i < M.2.2.1) (hc : sl_nl ls i = true) (h2 : ls.set i (some (sv_i x)) = ls2) (k : V_ g d M q ls2 st h Post) : V_ g d M pc ls (sv_i x :: st) h Post := by
  subst hq
  subst h2
  intro p e R s m args below meth c cells slots QQ C hr H locs lsA oL oS oH hP hS hl
  exact lv_istore C.1 C.2.1 hd hl hn rfl (fun ls' hl' => k p e R s m args below meth c cells slots QQ C hr H locs ls' (sl_oks oL (so_h oS)) (so_t oS) oH hP hS (sl_st1 (v := sv_i x) hc hl'))
theorem vr_astore_n {j : Fin 4} {i a b : Nat} {x : Int} {ls2 : List (Option SV_)} (hd : decode M.2.1 pc = .ok (.astore_n j, 1)) (hq : pc + 1 = q) (hi : (j : Nat) = i) (hn : i < M.2.2.1) (hc : sl_nl ls i = true) (h2 : ls.set i (some (sv_r a b x)) = ls2) (k : V_ g d M q ls2 st h Post) : V_ g d M pc ls (sv_r a b x :: st) h Post := by
  subst hq
  subst h2
  intro p e R s m args below meth c cells slots QQ C hr H locs lsA oL oS oH hP hS hl
  exact lv_astore_n C.1 C.2.1 hd hi hl hn rfl (fun ls' hl' => k p e R s m args below meth c cells slots QQ C hr H locs ls' (sl_oks oL (so_h oS)) (so_t oS) oH hP hS (sl_st1 (v := sv_r a b x) hc hl'))
theorem vr_astore {i a b : Nat} {x : Int} {ls2 : List (Option SV_)} (hd : decode M.2.1 pc = .ok (.astore i, 2)) (hq : pc + 2 = q) (hn : i < M.2.2.1) (hc : sl_nl ls i = true) (h2 : ls.set i (some (sv_r a b x)) = ls2) (k : V_ g d M q ls2 st h Post) : V_ g d M pc ls (sv_r a b x :: st) h Post := by
  subst hq
  subst h2
  intro p e R s m args below meth c cells slots QQ C hr H locs lsA oL oS oH hP hS hl
  exact lv_astore C.1 C.2.1 hd hl hn rfl (fun ls' hl' => k p e R s m args below meth c cells slots QQ C hr H locs ls' (sl_oks oL (so_h oS)) (so_t oS) oH hP hS (sl_st1 (v := sv_r a b x) hc hl'))
theorem vr_lstore {i : Nat} {x : Int} {ls2 : List (Option SV_)} (hd : decode M.2.1 pc = .ok (.lstore i, 2)) (hq : pc + 2 = q) (hn : i + 1 < M.2.2.1) (hc : sl_nl ls i = true) (h2 : (ls.set (i + 1) none).set i (some (sv_l x)) = ls2) (k : V_ g d M q ls2 st h Post) : V_ g d M pc ls (sv_l x :: st) h Post := by
  subst hq
  subst h2
  intro p e R s m args below meth c cells slots QQ C hr H locs lsA oL oS oH hP hS hl
  refine lv_lstore C.1 C.2.1 hd hl hn rfl (fun ls' hl' => k p e R s m args below meth c cells slots QQ C hr H locs ls' (sl_oks (fun w hw => ?_) (so_h oS)) (so_t oS) oH hP hS (sl_st2 (v := sv_l x) hc hl'))
  rcases List.mem_or_eq_of_mem_set hw with h1 | h1
  · exact oL w h1
  · cases h1
theorem vr_iinc {i : Nat} {n x : Int} {ls2 : List (Option SV_)} (hd : decode M.2.1 pc = .ok (.iinc i n, 3)) (hq : pc + 3 = q) (hv : ls[i]? = some (some (sv_i x))) (hr : sr_32 (x + n)) (hn : i < M.2.2.1) (hc : sl_nl ls i = true) (h2 : ls.set i (some (sv_i (x + n))) = ls2) (k : V_ g d M q ls2 st h Post) : V_ g d M pc ls st h Post := by
  subst hq
  subst h2
  intro p e R s m args below meth c cells slots QQ C hr2 H locs lsA oL oS oH hP hS hl
  obtain ⟨j, hj⟩ := List.getElem?_of_mem (sl_mem (g := g) (i := 0).mpr ⟨i, _, hv, rfl⟩)
  rw [Nat.zero_add] at hj
  exact lv_iinc (v := Int32.ofInt (x + n)) C.1 C.2.1 hd hl hj (Int32.ofInt_add _ _).symm hn rfl (fun ls' hl' => k p e R s m args below meth c cells slots QQ C hr2 H locs ls' (sl_oks (v := sv_i (x + n)) oL hr) oS oH hP hS (sl_st1 (v := sv_i (x + n)) hc hl'))
theorem vr_lcmp {x y : Int} (hd : decode M.2.1 pc = .ok (.lcmp, 1)) (hq : pc + 1 = q) (k : V_ g d M q ls (sv_i (if y < x then 1 else if x = y then 0 else -1) :: st) h Post) : V_ g d M pc ls (sv_l y :: sv_l x :: st) h Post := by
  subst hq
  refine V_pure (st2 := sv_i (if y < x then 1 else if x = y then 0 else -1) :: st) (fun oS => so_i ?_ (so_t (so_t oS))) (fun oS p e R s m args below meth c H locs cells slots QQ lsA hx hb w => W.lcmp hx hb hd ?_) k
  · split
    · exact ⟨by decide, by decide⟩
    · split
      · exact ⟨by decide, by decide⟩
      · exact ⟨by decide, by decide⟩
  · have hxx := so_hl (so_t oS)
    have hyy := so_hl oS
    have e : lg_cmp (Int64.ofInt x) (Int64.ofInt y) = Int32.ofInt (if y < x then 1 else if x = y then 0 else -1) := by
      have h1 : Int64.ofInt y < Int64.ofInt x ↔ y < x := by rw [Int64.lt_iff_toInt_lt, sj_t hxx, sj_t hyy]
      have h2 : Int64.ofInt x = Int64.ofInt y ↔ x = y := by rw [← Int64.toInt_inj, sj_t hxx, sj_t hyy]
      unfold lg_cmp
      simp only [gt_iff_lt, h1, h2]
      split
      · rfl
      · split
        · rfl
        · rfl
    rw [e]
    exact w
end VB_
end
section
section VH_
variable {g : SG_} {d : Nat} {M : MD_} {pc q : Nat} {ls : List (Option SV_)} {st : List SV_} {h : SH_} {Post : Option SV_ → SH_ → Prop}
theorem so_rk {c n : Nat} {k : Int} (hs : sv_oks (sv_r c n k :: st)) (hc : c ≠ 5) : 0 ≤ k ∧ sl_y[k.toNat]? = some (c, n) := by
  rcases (so_h hs : (c = 5 ∧ n < 4) ∨ (c ≠ 5 ∧ 0 ≤ k ∧ sl_y[k.toNat]? = some (c, n))) with h1 | h1
  · exact absurd h1.1 hc
  · exact h1.2
theorem so_rx {n : Nat} {k : Int} (hs : sv_oks (sv_r 5 n k :: st)) : n < 4 := by
  rcases (so_h hs : (5 = 5 ∧ n < 4) ∨ (5 ≠ 5 ∧ 0 ≤ k ∧ sl_y[k.toNat]? = some (5, n))) with h1 | h1
  · exact h1.2
  · exact absurd rfl h1.1
theorem so_rm {c n : Nat} {k : Int} (hc : c ≠ 5) (h0 : 0 ≤ k) (hk : sl_y[k.toNat]? = some (c, n)) : sv_ok (sv_r c n k) := Or.inr ⟨hc, h0, hk⟩
theorem sv_vr {c n : Nat} {k : Int} (hc : c ≠ 5) : sv_v g (sv_r c n k) = .ref (sg_a g k.toNat) := by
  show Value.ref (if c = 5 then sg_x g n else sg_a g k.toNat) = _
  rw [if_neg hc]
/-- a field's link, by the class's number and the field's -/
def sf_ok (own : String) (idx c j : Nat) : Prop := ∃ (C : String) (T : u_T) (N : Nat), vwCl[c]? = some (C, T, N) ∧ (∀ w ∈ u_ws C T N, w ∈ lw_tbl) ∧ j < N ∧ (sf_c c).length = N ∧ Cond.fieldLink own idx (T j).1 (T j).2.1 (T j).2.2.1 ∈ lw_tbl
def sf_okp (own : String) (idx c j : Nat) : Prop := ∃ (C : String) (T : u_T) (N : Nat) (ty : Nat → FieldType), vwCl[c]? = some (C, T, N) ∧ (∀ w ∈ u_ws C T N, w ∈ lw_tbl) ∧ j < N ∧ (sf_c c).length = N ∧ Cond.fieldLink own idx (T j).1 (T j).2.1 (T j).2.2.1 ∈ lw_tbl ∧ (∀ k, k < N → parseFieldDescriptor (T k).2.2.1 = some (ty k)) ∧ (∀ a, a < N → ∀ b, b < N → a ≠ b → (T a).2.1 ≠ (T b).2.1) ∧ (T j).2.2.2 = false ∧ ty j = .int
theorem V_get {idx c j : Nat} {k : Int} (hd : decode M.2.1 pc = .ok (.getfield idx, 3)) (hq : pc + 3 = q) (hf : sf_ok M.1.cls idx c j) (hv : sh_ok h → 0 ≤ k → sl_y[k.toNat]? = some (4, c) → sv_ok (sf_v c k j h)) (kk : V_ g d M q ls (sf_v c k j h :: st) h Post) : V_ g d M pc ls (sv_r 4 c k :: st) h Post := by
  subst hq
  intro p e R s m args below meth cd cells slots QQ C hr H locs lsA oL oS oH hP hS hl
  obtain ⟨hx, hb, hml, hown, hts, hK, -⟩ := id C
  obtain ⟨k0, k1⟩ := so_rk oS (by decide)
  obtain ⟨Cn, T, N, f1, f2, f3, f4, f5⟩ := hf
  have hg := sw_get (g := g) (h := h) k0 k1
  have hr0 : List.map (sv_v g) (sv_r 4 c k :: st) = .ref (sg_a g k.toNat) :: List.map (sv_v g) st := by rw [List.map_cons, sv_vr (by decide)]
  rw [hr0]
  refine va_get (D := sg_D g) (ci := c) (v := sv_v g (sf_v c k j h)) (C := Cn) (T := T) (N := N) hx hb hts f2 hown hK.1 hP k.toNat hg f1 j f3 (hts _ f5) (fun _ z => z) ?_ hd ?_
  · rw [List.getElem?_map, List.getElem?_range (by rw [f4]; exact f3)]
    rfl
  · exact kk p e R s m args below meth cd cells slots QQ C hr H locs lsA oL (so_1 (hv oH k0 k1) (so_t oS)) oH hP hS hl
theorem vr_getI {idx c j : Nat} {k : Int} (hd : decode M.2.1 pc = .ok (.getfield idx, 3)) (hq : pc + 3 = q) (hf : sf_ok M.1.cls idx c j) (ht : (sf_c c).getD j none = none) (kk : V_ g d M q ls (sv_i (h k (j : Int)) :: st) h Post) : V_ g d M pc ls (sv_r 4 c k :: st) h Post := by
  have e : sf_v c k j h = sv_i (h k (j : Int)) := by unfold sf_v; rw [ht]
  refine V_get hd hq hf (fun oH _ _ => ?_) ?_
  · rw [e]; exact oH k j
  · rw [e]; exact kk
theorem vr_getR {idx c j a b : Nat} {k o : Int} (hd : decode M.2.1 pc = .ok (.getfield idx, 3)) (hq : pc + 3 = q) (hf : sf_ok M.1.cls idx c j) (ht : (sf_c c).getD j none = some ((a, b), true, o)) (hy : ∀ i : Nat, i < 83 → sl_y[i]? = some (4, c) → a ≠ 5 ∧ 0 ≤ (i : Int) + o ∧ sl_y[((i : Int) + o).toNat]? = some (a, b)) (kk : V_ g d M q ls (sv_r a b (k + o) :: st) h Post) : V_ g d M pc ls (sv_r 4 c k :: st) h Post := by
  have e : sf_v c k j h = sv_r a b (k + o) := by unfold sf_v; rw [ht]
  refine V_get hd hq hf (fun oH k0 k1 => ?_) ?_
  · rw [e]
    have h1 := (List.getElem?_eq_some_iff.mp k1).1
    rw [sw_len] at h1
    obtain ⟨y1, y2, y3⟩ := hy k.toNat h1 k1
    rw [Int.toNat_of_nonneg k0] at y2 y3
    exact so_rm y1 y2 y3
  · rw [e]; exact kk
theorem vr_getA {idx c j a b : Nat} {k o : Int} (hd : decode M.2.1 pc = .ok (.getfield idx, 3)) (hq : pc + 3 = q) (hf : sf_ok M.1.cls idx c j) (ht : (sf_c c).getD j none = some ((a, b), false, o)) (hy : a ≠ 5 ∧ 0 ≤ o ∧ sl_y[o.toNat]? = some (a, b)) (kk : V_ g d M q ls (sv_r a b o :: st) h Post) : V_ g d M pc ls (sv_r 4 c k :: st) h Post := by
  have e : sf_v c k j h = sv_r a b o := by unfold sf_v; rw [ht]
  refine V_get hd hq hf (fun oH k0 k1 => ?_) ?_
  · rw [e]; exact so_rm hy.1 hy.2.1 hy.2.2
  · rw [e]; exact kk
theorem sh_oks {k j x : Int} (o : sh_ok h) (hx : sr_32 x) : sh_ok (hs_ h k j x) := fun a b => by
  unfold hs_
  split
  · exact hx
  · exact o a b
theorem vr_put {idx c j : Nat} {k x : Int} (hd : decode M.2.1 pc = .ok (.putfield idx, 3)) (hq : pc + 3 = q) (hf : sf_okp M.1.cls idx c j) (ht : (sf_c c).getD j none = none) (kk : V_ g d M q ls st (hs_ h k (j : Int) x) Post) : V_ g d M pc ls (sv_i x :: sv_r 4 c k :: st) h Post := by
  subst hq
  intro p e R s m args below meth cd cells slots QQ C hr H locs lsA oL oS oH hP hS hl
  obtain ⟨hx, hb, hml, hown, hts, hK, -⟩ := id C
  obtain ⟨k0, k1⟩ := so_rk (so_t oS) (by decide)
  obtain ⟨Cn, T, N, ty, f1, f2, f3, f4, f5, f6, f7, f8, f9⟩ := hf
  have hg := sw_get (g := g) (h := h) k0 k1
  have hr0 : List.map (sv_v g) (sv_i x :: sv_r 4 c k :: st) = .int (Int32.ofInt x) :: .ref (sg_a g k.toNat) :: List.map (sv_v g) st := by rw [List.map_cons, List.map_cons, sv_vr (by decide)]; rfl
  rw [hr0]
  refine va_put (D := sg_D g) (ci := c) (v := .int (Int32.ofInt x)) (ty := .int) (C := Cn) (T := T) (N := N) hx hb hts f2 ty f6 f7 hown hK.1 hP (sg_Dw hK h) hS k.toNat hg f1 j f3 (hts _ f5) (fun _ z => z) f8 (by rw [f6 j f3, f9]) rfl rfl (by rw [List.length_map, List.length_range, f4]; exact f3) hd (fun H1 locs1 hP1 hD1 hS1 => ?_)
  have hE : (.inr (c, ((List.range (sf_c c).length).map (fun j => sv_v g (sf_v c k j h))).set j (.int (Int32.ofInt x))) : va_E) = sw_e g (4, c) k (hs_ h k (j : Int) x) := by
    show _ = Sum.inr (c, (List.range (sf_c c).length).map (fun j2 => sv_v g (sf_v c k j2 (hs_ h k (j : Int) x))))
    congr 2
    apply List.ext_getElem?
    intro i
    by_cases hi : j = i
    · subst hi
      rw [List.getElem?_set_self (by rw [List.length_map, List.length_range, f4]; exact f3), List.getElem?_map, List.getElem?_range (by rw [f4]; exact f3)]
      have e2 : sf_v c k j (hs_ h k (j : Int) x) = sv_i x := by
        unfold sf_v
        rw [ht, hs_e]
      show some _ = some (sv_v g (sf_v c k j (hs_ h k (j : Int) x)))
      rw [e2]
      rfl
    · rw [List.getElem?_set_ne hi, List.getElem?_map, List.getElem?_map]
      by_cases hl2 : i < (sf_c c).length
      · rw [List.getElem?_range hl2]
        have e2 : sf_v c k i (hs_ h k (j : Int) x) = sf_v c k i h := by
          unfold sf_v
          rw [hs_n (fun z => hi (by have := z.2; omega))]
        show some (sv_v g (sf_v c k i h)) = some (sv_v g (sf_v c k i (hs_ h k (j : Int) x)))
        rw [e2]
      · rw [List.getElem?_eq_none (by simpa using hl2)]
        rfl
  rw [sw_set k0 k1 (fun a ha => hs_k ha) hE] at hP1
  exact kk p e R s m args below meth cd cells slots QQ C hr H1 locs1 lsA oL (so_t (so_t oS)) (sh_oks oH (so_hi oS)) hP1 hS1 hl
theorem vr_iald {n : Nat} {k i : Int} (hd : decode M.2.1 pc = .ok (.iaload, 1)) (hq : pc + 1 = q) (hi : 0 ≤ i ∧ i < n) (kk : V_ g d M q ls (sv_i (h k i) :: st) h Post) : V_ g d M pc ls (sv_i i :: sv_r 0 n k :: st) h Post := by
  subst hq
  intro p e R s m args below meth cd cells slots QQ C hr H locs lsA oL oS oH hP hS hl
  obtain ⟨hx, hb, hml, hown, hts, hK, -⟩ := id C
  obtain ⟨k0, k1⟩ := so_rk (so_t oS) (by decide)
  have hr0 : List.map (sv_v g) (sv_i i :: sv_r 0 n k :: st) = .int (Int32.ofInt i) :: .ref (sg_a g k.toNat) :: List.map (sv_v g) st := by rw [List.map_cons, List.map_cons, sv_vr (by decide)]; rfl
  rw [hr0]
  refine va_iald (D := sg_D g) (cl := vwCl) hx hb hK.1 hP k.toNat 0 (sw_get k0 k1) rfl (si_in (so_hi oS) hi.1 hi.2) hd ?_
  rw [si_cl (so_hi oS), Int.toNat_of_nonneg hi.1]
  exact kk p e R s m args below meth cd cells slots QQ C hr H locs lsA oL (so_i (oH k i) (so_t (so_t oS))) oH hP hS hl
theorem vr_bald {n : Nat} {k i : Int} (hd : decode M.2.1 pc = .ok (.baload, 1)) (hq : pc + 1 = q) (hi : 0 ≤ i ∧ i < n) (kk : V_ g d M q ls (sv_i (h k i) :: st) h Post) : V_ g d M pc ls (sv_i i :: sv_r 1 n k :: st) h Post := by
  subst hq
  intro p e R s m args below meth cd cells slots QQ C hr H locs lsA oL oS oH hP hS hl
  obtain ⟨hx, hb, hml, hown, hts, hK, -⟩ := id C
  obtain ⟨k0, k1⟩ := so_rk (so_t oS) (by decide)
  have hr0 : List.map (sv_v g) (sv_i i :: sv_r 1 n k :: st) = .int (Int32.ofInt i) :: .ref (sg_a g k.toNat) :: List.map (sv_v g) st := by rw [List.map_cons, List.map_cons, sv_vr (by decide)]; rfl
  rw [hr0]
  refine va_zald (D := sg_D g) (cl := vwCl) hx hb hK.1 hP k.toNat 1 (sw_get k0 k1) rfl (si_in (so_hi oS) hi.1 hi.2) hd ?_
  rw [si_cl (so_hi oS), Int.toNat_of_nonneg hi.1]
  exact kk p e R s m args below meth cd cells slots QQ C hr H locs lsA oL (so_i (oH k i) (so_t (so_t oS))) oH hP hS hl
theorem sw_up {k i x : Int} {n : Nat} (h0 : 0 ≤ i) : upd (fun j : Nat => Int32.ofInt (h k (j : Int))) i.toNat (Int32.ofInt x) = fun j : Nat => Int32.ofInt (hs_ h k i x k (j : Int)) := by
  funext j
  unfold upd hs_
  by_cases hj : j = i.toNat
  · rw [if_pos hj, if_pos ⟨rfl, by omega⟩]
  · rw [if_neg hj, if_neg (fun z => hj (by omega))]
theorem vr_iast {n : Nat} {k i x : Int} (hd : decode M.2.1 pc = .ok (.iastore, 1)) (hq : pc + 1 = q) (hi : 0 ≤ i ∧ i < n) (kk : V_ g d M q ls st (hs_ h k i x) Post) : V_ g d M pc ls (sv_i x :: sv_i i :: sv_r 0 n k :: st) h Post := by
  subst hq
  intro p e R s m args below meth cd cells slots QQ C hr H locs lsA oL oS oH hP hS hl
  obtain ⟨hx, hb, hml, hown, hts, hK, -⟩ := id C
  obtain ⟨k0, k1⟩ := so_rk (so_t (so_t oS)) (by decide)
  have hr0 : List.map (sv_v g) (sv_i x :: sv_i i :: sv_r 0 n k :: st) = .int (Int32.ofInt x) :: .int (Int32.ofInt i) :: .ref (sg_a g k.toNat) :: List.map (sv_v g) st := by rw [List.map_cons, List.map_cons, List.map_cons, sv_vr (by decide)]; rfl
  rw [hr0]
  refine va_iast (D := sg_D g) (cl := vwCl) hx hb hK.1 hP (sg_Dw hK h) hS k.toNat 0 (sw_get k0 k1) rfl (si_in (so_hi (so_t oS)) hi.1 hi.2) hd (fun H1 locs1 hP1 hD1 hS1 => ?_)
  rw [si_cl (so_hi (so_t oS)), sw_up (n := n) hi.1, sw_set k0 k1 (fun a ha => hs_k ha) (E := .inl (sg_I g, n, .inl (fun j : Nat => Int32.ofInt (hs_ h k i x k (j : Int))))) rfl] at hP1
  exact kk p e R s m args below meth cd cells slots QQ C hr H1 locs1 lsA oL (so_t (so_t (so_t oS))) (sh_oks oH (so_hi oS)) hP1 hS1 hl
theorem si_bool {x : Int} (hx : x = 0 ∨ x = 1) : vp_nar .boolean (Int32.ofInt x) = Int32.ofInt x := by
  rcases hx with rfl | rfl <;> decide
theorem vr_bast {n : Nat} {k i x : Int} (hd : decode M.2.1 pc = .ok (.bastore, 1)) (hq : pc + 1 = q) (hi : 0 ≤ i ∧ i < n) (hx01 : x = 0 ∨ x = 1) (kk : V_ g d M q ls st (hs_ h k i x) Post) : V_ g d M pc ls (sv_i x :: sv_i i :: sv_r 1 n k :: st) h Post := by
  subst hq
  intro p e R s m args below meth cd cells slots QQ C hr H locs lsA oL oS oH hP hS hl
  obtain ⟨hx, hb, hml, hown, hts, hK, -⟩ := id C
  obtain ⟨k0, k1⟩ := so_rk (so_t (so_t oS)) (by decide)
  have hr0 : List.map (sv_v g) (sv_i x :: sv_i i :: sv_r 1 n k :: st) = .int (Int32.ofInt x) :: .int (Int32.ofInt i) :: .ref (sg_a g k.toNat) :: List.map (sv_v g) st := by rw [List.map_cons, List.map_cons, List.map_cons, sv_vr (by decide)]; rfl
  rw [hr0]
  refine va_zast (D := sg_D g) (cl := vwCl) hx hb hK.1 hP (sg_Dw hK h) hS k.toNat 1 (sw_get k0 k1) rfl (si_in (so_hi (so_t oS)) hi.1 hi.2) hd (fun H1 locs1 hP1 hD1 hS1 => ?_)
  rw [si_cl (so_hi (so_t oS)), si_bool hx01, sw_up (n := n) hi.1, sw_set k0 k1 (fun a ha => hs_k ha) (E := .inl (sg_Z g, n, .inl (fun j : Nat => Int32.ofInt (hs_ h k i x k (j : Int))))) rfl] at hP1
  exact kk p e R s m args below meth cd cells slots QQ C hr H1 locs1 lsA oL (so_t (so_t (so_t oS))) (sh_oks oH (so_hi oS)) hP1 hS1 hl
theorem vr_alen {n : Nat} {k : Int} (hd : decode M.2.1 pc = .ok (.arraylength, 1)) (hq : pc + 1 = q) (hn : n < 2147483648) (kk : V_ g d M q ls (sv_i (n : Int) :: st) h Post) : V_ g d M pc ls (sv_r 0 n k :: st) h Post := by
  subst hq
  intro p e R s m args below meth cd cells slots QQ C hr H locs lsA oL oS oH hP hS hl
  obtain ⟨hx, hb, hml, hown, hts, hK, -⟩ := id C
  obtain ⟨k0, k1⟩ := so_rk oS (by decide)
  have hr0 : List.map (sv_v g) (sv_r 0 n k :: st) = .ref (sg_a g k.toNat) :: List.map (sv_v g) st := by rw [List.map_cons, sv_vr (by decide)]
  rw [hr0]
  refine va_alen (D := sg_D g) (cl := vwCl) (v := Int32.ofInt (n : Int)) hx hb hK.1 hP k.toNat 0 (sw_get k0 k1) rfl Int32.ofInt_eq_ofNat.symm hd ?_
  exact kk p e R s m args below meth cd cells slots QQ C hr H locs lsA oL (so_i ⟨by omega, by omega⟩ (so_t oS)) oH hP hS hl
theorem vr_xald {n : Nat} {k i : Int} (hd : decode M.2.1 pc = .ok (.iaload, 1)) (hq : pc + 1 = q) (hi : 0 ≤ i ∧ i < (sg_X g n).1) (kk : V_ g d M q ls (sv_i ((sg_X g n).2 i.toNat) :: st) h Post) : V_ g d M pc ls (sv_i i :: sv_r 5 n k :: st) h Post := by
  subst hq
  intro p e R s m args below meth cd cells slots QQ C hr H locs lsA oL oS oH hP hS hl
  obtain ⟨hx, hb, hml, hown, hts, hK, -⟩ := id C
  have hn := so_rx (so_t oS)
  refine va_ti (t := sg_x g n) hx hb (hK.2.2.2.2.2.1 n hn) hS (si_in (so_hi oS) hi.1 hi.2) (v := .int (Int32.ofInt ((sg_X g n).2 i.toNat))) (by rw [si_cl (so_hi oS)]) hd ?_
  exact kk p e R s m args below meth cd cells slots QQ C hr H locs lsA oL (so_i ((hK.2.2.2.2.2.2 n hn).2 _) (so_t (so_t oS))) oH hP hS hl
theorem vr_xlen {n : Nat} {k : Int} (hd : decode M.2.1 pc = .ok (.arraylength, 1)) (hq : pc + 1 = q) (kk : V_ g d M q ls (sv_i ((sg_X g n).1 : Int) :: st) h Post) : V_ g d M pc ls (sv_r 5 n k :: st) h Post := by
  subst hq
  intro p e R s m args below meth cd cells slots QQ C hr H locs lsA oL oS oH hP hS hl
  obtain ⟨hx, hb, hml, hown, hts, hK, -⟩ := id C
  have hn := so_rx oS
  have hb2 := (hK.2.2.2.2.2.2 n hn).1
  refine va_tlen (t := sg_x g n) hx hb (hK.2.2.2.2.2.1 n hn) hS (v := Int32.ofInt ((sg_X g n).1 : Int)) Int32.ofInt_eq_ofNat.symm hd ?_
  exact kk p e R s m args below meth cd cells slots QQ C hr H locs lsA oL (so_i ⟨by omega, by omega⟩ (so_t oS)) oH hP hS hl
theorem vr_aaM {k i : Int} (hd : decode M.2.1 pc = .ok (.aaload, 1)) (hq : pc + 1 = q) (hi : 0 ≤ i ∧ i < 7) (kk : V_ g d M q ls (sv_r 4 3 (52 + 2 * i) :: st) h Post) : V_ g d M pc ls (sv_i i :: sv_r 2 7 k :: st) h Post := by
  subst hq
  intro p e R s m args below meth cd cells slots QQ C hr H locs lsA oL oS oH hP hS hl
  obtain ⟨hx, hb, hml, hown, hts, hK, -⟩ := id C
  obtain ⟨k0, k1⟩ := so_rk (so_t oS) (by decide)
  have hr0 : List.map (sv_v g) (sv_i i :: sv_r 2 7 k :: st) = .int (Int32.ofInt i) :: .ref (sg_a g k.toNat) :: List.map (sv_v g) st := by rw [List.map_cons, List.map_cons, sv_vr (by decide)]; rfl
  rw [hr0]
  refine va_aldq (D := sg_D g) (cl := vwCl) hx hb hK.1 hP k.toNat 2 (sw_get k0 k1) rfl (si_in (so_hi oS) hi.1 hi.2) hd ?_
  have e1 : (va_rf (some (sg_a g (52 + 2 * (Int32.ofInt i).toNatClampNeg)))) = sv_v g (sv_r 4 3 (52 + 2 * i)) := by
    rw [si_cl (so_hi oS), sv_vr (by decide)]
    show Value.ref _ = Value.ref _
    congr 2
    omega
  have hok : sv_ok (sv_r 4 3 (52 + 2 * i)) := by
    refine so_rm (by decide) (by omega) ?_
    rcases (by omega : i = 0 ∨ i = 1 ∨ i = 2 ∨ i = 3 ∨ i = 4 ∨ i = 5 ∨ i = 6) with rfl | rfl | rfl | rfl | rfl | rfl | rfl <;> rfl
  have kk2 := kk p e R s m args below meth cd cells slots QQ C hr H locs lsA oL (so_1 hok (so_t (so_t oS))) oH hP hS hl
  rw [List.map_cons, ← e1] at kk2
  exact kk2
theorem vr_aaT {k i : Int} (hd : decode M.2.1 pc = .ok (.aaload, 1)) (hq : pc + 1 = q) (hi : 0 ≤ i ∧ i < 2) (kk : V_ g d M q ls (sv_r 4 6 (23 + 8 * i) :: st) h Post) : V_ g d M pc ls (sv_i i :: sv_r 3 2 k :: st) h Post := by
  subst hq
  intro p e R s m args below meth cd cells slots QQ C hr H locs lsA oL oS oH hP hS hl
  obtain ⟨hx, hb, hml, hown, hts, hK, -⟩ := id C
  obtain ⟨k0, k1⟩ := so_rk (so_t oS) (by decide)
  have hr0 : List.map (sv_v g) (sv_i i :: sv_r 3 2 k :: st) = .int (Int32.ofInt i) :: .ref (sg_a g k.toNat) :: List.map (sv_v g) st := by rw [List.map_cons, List.map_cons, sv_vr (by decide)]; rfl
  rw [hr0]
  refine va_aldq (D := sg_D g) (cl := vwCl) hx hb hK.1 hP k.toNat 3 (sw_get k0 k1) rfl (si_in (so_hi oS) hi.1 hi.2) hd ?_
  have e1 : (va_rf (some (sg_a g (23 + 8 * (Int32.ofInt i).toNatClampNeg)))) = sv_v g (sv_r 4 6 (23 + 8 * i)) := by
    rw [si_cl (so_hi oS), sv_vr (by decide)]
    show Value.ref _ = Value.ref _
    congr 2
    omega
  have hok : sv_ok (sv_r 4 6 (23 + 8 * i)) := by
    refine so_rm (by decide) (by omega) ?_
    rcases (by omega : i = 0 ∨ i = 1) with rfl | rfl <;> rfl
  have kk2 := kk p e R s m args below meth cd cells slots QQ C hr H locs lsA oL (so_1 hok (so_t (so_t oS))) oH hP hS hl
  rw [List.map_cons, ← e1] at kk2
  exact kk2
theorem vr_gets {idx i : Nat} (hd : decode M.2.1 pc = .ok (.getstatic idx, 3)) (hq : pc + 3 = q) (hi : i < 3) (hw : Cond.fieldLink M.1.cls idx (ss_C i) (ss_N i) "[I" ∈ lw_tbl) (kk : V_ g d M q ls (sv_r 5 i 0 :: st) h Post) : V_ g d M pc ls st h Post := by
  subst hq
  intro p e R s m args below meth cd cells slots QQ C hr H locs lsA oL oS oH hP hS hl
  obtain ⟨hx, hb, hml, hown, hts, hK, -⟩ := id C
  refine va_gets hx hb (hK.2.2.2.2.1 i hi) hS hown (hts _ hw) (fun _ z => z) hd ?_
  exact kk p e R s m args below meth cd cells slots QQ C hr H locs lsA oL (so_1 (Or.inl ⟨rfl, by omega⟩) oS) oH hP hS hl
theorem vr_ldc {idx : Nat} {x : Int} (hd : decode M.2.1 pc = .ok (.ldc idx, 2)) (hq : pc + 2 = q) (hx0 : sr_32 x) (hw : Cond.constant M.1.cls idx (Int32.ofInt x) ∈ lw_tbl) (kk : V_ g d M q ls (sv_i x :: st) h Post) : V_ g d M pc ls st h Post := by
  subst hq
  intro p e R s m args below meth cd cells slots QQ C hr H locs lsA oL oS oH hP hS hl
  obtain ⟨hx, hb, hml, hown, hts, hK, -⟩ := id C
  exact lv_ldc hx hb hown (hts _ hw) hd (kk p e R s m args below meth cd cells slots QQ C hr H locs lsA oL (so_i hx0 oS) oH hP hS hl)
theorem vr_ldcw {idx : Nat} {x : Int} (hd : decode M.2.1 pc = .ok (.ldc_w idx, 3)) (hq : pc + 3 = q) (hx0 : sr_32 x) (hw : Cond.constant M.1.cls idx (Int32.ofInt x) ∈ lw_tbl) (kk : V_ g d M q ls (sv_i x :: st) h Post) : V_ g d M pc ls st h Post := by
  subst hq
  intro p e R s m args below meth cd cells slots QQ C hr H locs lsA oL oS oH hP hS hl
  obtain ⟨hx, hb, hml, hown, hts, hK, -⟩ := id C
  exact lv_ldcw hx hb hown (hts _ hw) hd (kk p e R s m args below meth cd cells slots QQ C hr H locs lsA oL (so_i hx0 oS) oH hP hS hl)
theorem vr_ldc2 {idx : Nat} {x : Int} (hd : decode M.2.1 pc = .ok (.ldc2_w idx, 3)) (hq : pc + 3 = q) (hx0 : sr_64 x) (hw : Cond.constantLong M.1.cls idx (Int64.ofInt x) ∈ lw_tbl) (kk : V_ g d M q ls (sv_l x :: st) h Post) : V_ g d M pc ls st h Post := by
  subst hq
  intro p e R s m args below meth cd cells slots QQ C hr H locs lsA oL oS oH hP hS hl
  obtain ⟨hx, hb, hml, hown, hts, hK, -⟩ := id C
  exact lv_ldc2 hx hb hown (hts _ hw) hd (kk p e R s m args below meth cd cells slots QQ C hr H locs lsA oL (so_l hx0 oS) oH hP hS hl)
end VH_
end
section
def sm_w (Y : MD_) : List Cond := Cond.code Y.1 Y.2.1 Y.2.2.1 Y.2.2.2.1 :: lw_tbl
def sm_r (d : Nat) : Room := { frames := d, cells := 0, slots := 0, locals := 64 * d }
def sm_P (g : SG_) (as : List SV_) (h : SH_) : Array Value → State → Prop := va_Pc (as.map (sv_v g)) (fun U => va_P (sg_D g) vwCl (sw_l g h) U.heap ∧ sg_K g U)
def sm_Q (g : SG_) (Post : Option SV_ → SH_ → Prop) : Array Value → State → Outcome → State → Prop := fun _ st oc t => (∃ (r : Option SV_) (h : SH_), oc = .returned (r.map (sv_v g)) ∧ Post r h ∧ so_ok r ∧ sh_ok h ∧ va_P (sg_D g) vwCl (sw_l g h) t.heap) ∧ va_F (sg_A g) st t
/-- a method's contract, d frames deep at most -/
def Ctr_ (g : SG_) (d : Nat) (Y : MD_) (as : List SV_) (h : SH_) (Post : Option SV_ → SH_ → Prop) : Prop := sv_oks as → sh_ok h → Met (sg_l g) Y.1 (sm_w Y) (sm_r d) (sm_P g as h) (sm_Q g Post) 0 0 (sg_A g)
def so_p : Option SV_ → List SV_ → List SV_
  | some v, l => v :: l
  | none, l => l
def sm_V (own : String) (idx : Nat) (Y : MD_) (c n : Nat) : Prop := GoodIn lw_tbl (wsV own idx Y.1.cls Y.1 (sm_w Y)) ∧ Y.1.cls ≠ "java/lang/invoke/MethodHandle" ∧ Y.1.cls ≠ "java/lang/invoke/VarHandle" ∧ (parseMethodDescriptor Y.1.desc).map (fun d => d.parameters.length) = some n ∧ Y.2.2.1 ≤ 45 ∧ ∃ T N, vwCl[c]? = some (Y.1.cls, T, N)
def sm_S (own : String) (idx : Nat) (Y : MD_) (n : Nat) : Prop := GoodIn lw_tbl (va_wsS own idx Y.1 (sm_w Y)) ∧ Y.1.cls ≠ "java/lang/invoke/MethodHandle" ∧ Y.1.cls ≠ "java/lang/invoke/VarHandle" ∧ (parseMethodDescriptor Y.1.desc).map (fun d => d.parameters.length) = some n ∧ Y.2.2.1 ≤ 45
section VC_
variable {g : SG_} {d : Nat} {M : MD_} {pc q : Nat} {ls : List (Option SV_)} {st : List SV_} {h : SH_} {Post : Option SV_ → SH_ → Prop}
theorem so_pv (r : Option SV_) (l : List SV_) : (so_p r l).map (sv_v g) = (r.map (sv_v g)).toList ++ l.map (sv_v g) := by
  cases r <;> rfl
theorem so_po {r : Option SV_} {l : List SV_} (hr : so_ok r) (hl : sv_oks l) : sv_oks (so_p r l) := by
  cases r with
  | none => exact hl
  | some v => exact so_1 (hr v rfl) hl
theorem sm_blind (as : List SV_) : FrameBlind (sm_P g as h) := fun a U f mk q => ⟨q.1, q.2.1, sg_K.moved (u := U) (U := U.calling f mk a) (Vm.Alike.refl U.vm) (Nat.le_refl _) (fun _ _ _ => rfl) q.2.2⟩
theorem sm_cat (l : List SV_) : ((l.map (sv_v g)).map fun v => v.category).sum = (l.map sv_c).sum := by
  congr 1
  rw [List.map_map]
  apply List.map_congr_left
  intro v _
  exact sv_ce v
/-- behind a call -/
theorem V_back {rest : List SV_} {avs : Array Value} {p : Program} {e : Env} {R : Room} {s : State} {m : MethodId} {args : Array Value} {below : List Frame} {meth : Method} {cd : Code} {cells slots : Nat} {QQ : State → Prop} {H : Heap} {locs : List Loc} {lsA : Array Slot} {st0 : List Value} {d2 : Nat}
    (C : sc_x g d2 M p R s m args cd cells slots) (hr : sc_r g M Post p e R s m args below meth cd cells slots QQ) (oL : sl_ok ls) (oR : sv_oks rest) (hS : va_S (sg_A g) s.heap H locs) (hl : lv_has lsA M.2.2.1 (sl_v g 0 ls))
    (hrun : va_Run p (sg_l g) e R s m args below meth cd H locs cells slots 0 0 (F0 m pc lsA st0) (rest.map (sv_v g)) (sm_Q g (fun r h' => V_ g d2 M (pc + 3) ls (so_p r rest) h' Post) avs) (sg_A g)) : W p (sg_l g) e R s m args below meth cd H locs cells slots QQ (F0 m pc lsA st0) := by
  intro T hT X
  obtain ⟨v, st₀, t, T', L, h0, X', hL, e1, e2, ⟨⟨r, h', hv, hpost, hok, hok2, hP'⟩, hF⟩, stp⟩ := hrun T hT X
  have hv' : v = r.map (sv_v g) := by injection hv
  subst hv'
  unfold va_F at hF
  rw [h0] at hF
  obtain ⟨t2, a1, b1⟩ := hpost p e R s m args below meth cd cells slots QQ C hr T'.heap (locs ++ L) lsA oL (so_po hok oR) hok2 (by rw [e1]; exact hP')
    ⟨Nat.le_trans hS.1 (by rw [e1]; exact hF.1), fun q h1 h2 => by rw [e1, hF.2 q (Nat.lt_of_lt_of_le h1 hS.1) h2]; exact hS.2.1 q h1 h2, fun q hq => by
      rcases List.mem_append.mp hq with z | z
      · exact hS.2.2 q z
      · exact hL q z⟩ hl T' rfl X'
  rw [so_pv] at a1
  exact ⟨t2, stp t2 a1, b1⟩
theorem V_iv {Y : MD_} {idx c n : Nat} {k : Int} {as rest : List SV_} (hd : decode M.2.1 pc = .ok (.invokevirtual idx, 3)) (hq : pc + 3 = q) (hc : sm_V M.1.cls idx Y c n) (hn : as.length = n) (hst : st = as.reverse ++ sv_r 4 c k :: rest) (hW : (rest.map sv_c).sum ≤ 8) (hC : Ctr_ g d Y (sv_r 4 c k :: as) h (fun r h' => V_ g (d + 1) M q ls (so_p r rest) h' Post)) : V_ g (d + 1) M pc ls st h Post := by
  subst hq
  subst hst
  intro p e R s m args below meth cd cells slots QQ C hr H locs lsA oL oS oH hP hS hl
  obtain ⟨hx, hb, hml, hown, hts, hK, hR1, hR2, hR3, hR4⟩ := id C
  obtain ⟨c1, c2, c3, c4, c5, T, N, c6⟩ := hc
  have oR : sv_oks (sv_r 4 c k :: rest) := fun v hv => oS v (List.mem_append_right _ hv)
  have oA : sv_oks as := fun v hv => oS v (List.mem_append_left _ (List.mem_reverse.mpr hv))
  obtain ⟨k0, k1⟩ := so_rk oR (by decide)
  have hM := hC (so_1 (so_h oR) oA) oH
  have hr0 : List.map (sv_v g) (as.reverse ++ sv_r 4 c k :: rest) = (as.map (sv_v g)).reverse ++ .ref (sg_a g k.toNat) :: rest.map (sv_v g) := by rw [List.map_append, List.map_cons, List.map_reverse, sv_vr (by decide)]
  have ha0 : (Value.ref (sg_a g k.toNat) :: as.map (sv_v g)).toArray = ((sv_r 4 c k :: as).map (sv_v g)).toArray := by rw [List.map_cons, sv_vr (by decide)]
  rw [hr0]
  exact V_back C hr oL (so_t oR) hS hl (va_runV (C := Y.1.cls) (As := as.map (sv_v g)) (b := sg_a g k.toNat) ⟨hx, hb, hml, hown, hts⟩ hM (cwV n hts c1 rfl rfl rfl ⟨rfl, c2, c3, c4⟩ ⟨hR1, by show 8 + (Y.2.2.1 + 11) + 64 * d ≤ R.locals; omega⟩)
    ⟨sm_blind _, va_recv hK.1 hP c6 (sw_get k0 k1), fun U hU hW => ⟨ha0, by rw [hU]; exact hP, sg_K.moved hW.alike (by rw [hU]; exact hS.1) (by rw [hU]; exact hS.2.1) hK⟩⟩ rfl (by rw [List.length_map]; exact hn) hl.1 rfl (lv_room (by rw [sm_cat]; exact hW)) hd ⟨hR3, hR4⟩)
theorem V_is {Y : MD_} {idx n : Nat} {as rest : List SV_} (hd : decode M.2.1 pc = .ok (.invokestatic idx, 3)) (hq : pc + 3 = q) (hc : sm_S M.1.cls idx Y n) (hn : as.length = n) (hst : st = as.reverse ++ rest) (hW : (rest.map sv_c).sum ≤ 8) (hC : Ctr_ g d Y as h (fun r h' => V_ g (d + 1) M q ls (so_p r rest) h' Post)) : V_ g (d + 1) M pc ls st h Post := by
  subst hq
  subst hst
  intro p e R s m args below meth cd cells slots QQ C hr H locs lsA oL oS oH hP hS hl
  obtain ⟨hx, hb, hml, hown, hts, hK, hR1, hR2, hR3, hR4⟩ := id C
  obtain ⟨c1, c2, c3, c4, c5⟩ := hc
  have oR : sv_oks rest := fun v hv => oS v (List.mem_append_right _ hv)
  have oA : sv_oks as := fun v hv => oS v (List.mem_append_left _ (List.mem_reverse.mpr hv))
  have hM := hC oA oH
  have hr0 : List.map (sv_v g) (as.reverse ++ rest) = (as.map (sv_v g)).reverse ++ rest.map (sv_v g) := by rw [List.map_append, List.map_reverse]
  rw [hr0]
  exact V_back C hr oL oR hS hl (va_runS (As := as.map (sv_v g)) ⟨hx, hb, hml, hown, hts⟩ hM (va_cwS n hts c1 rfl rfl rfl ⟨c2, c3, c4⟩ ⟨hR1, by show 8 + (Y.2.2.1 + 11) + 64 * d ≤ R.locals; omega⟩)
    ⟨sm_blind _, fun U hU hW => ⟨rfl, by rw [hU]; exact hP, sg_K.moved hW.alike (by rw [hU]; exact hS.1) (by rw [hU]; exact hS.2.1) hK⟩⟩ rfl (by rw [List.length_map]; exact hn) hl.1 rfl (lv_room (by rw [sm_cat]; exact hW)) hd ⟨hR3, hR4⟩)
/-! returns -/
theorem vr_iret {x : Int} (hd : decode M.2.1 pc = .ok (.ireturn, 1)) (ht : M.2.2.2.2 = 1) (hp : Post (some (sv_i x)) h) : V_ g d M pc ls [sv_i x] h Post := by
  intro p e R s m args below meth c cells slots QQ C hr H locs lsA oL oS oH hP hS hl
  exact hr pc lsA H locs (some (sv_i x)) h hp (fun v hv => by cases hv; exact so_h oS) oH hP hS ⟨hd, Or.inl ht⟩
theorem vr_zret {x : Int} (hd : decode M.2.1 pc = .ok (.ireturn, 1)) (ht : M.2.2.2.2 = 2) (hx : x = 0 ∨ x = 1) (hp : Post (some (sv_i x)) h) : V_ g d M pc ls [sv_i x] h Post := by
  intro p e R s m args below meth c cells slots QQ C hr H locs lsA oL oS oH hP hS hl
  exact hr pc lsA H locs (some (sv_i x)) h hp (fun v hv => by cases hv; exact so_h oS) oH hP hS ⟨hd, Or.inr ⟨ht, hx⟩⟩
theorem vr_vret (hd : decode M.2.1 pc = .ok (.return_, 1)) (ht : M.2.2.2.2 = 0) (hp : Post none h) : V_ g d M pc ls [] h Post := by
  intro p e R s m args below meth c cells slots QQ C hr H locs lsA oL oS oH hP hS hl
  exact hr pc lsA H locs none h hp (fun v hv => by cases hv) oH hP hS ⟨ht, hd⟩
theorem vr_lret {x : Int} (hd : decode M.2.1 pc = .ok (.lreturn, 1)) (ht : M.2.2.2.2 = 3) (hp : Post (some (sv_l x)) h) : V_ g d M pc ls [sv_l x] h Post := by
  intro p e R s m args below meth c cells slots QQ C hr H locs lsA oL oS oH hP hS hl
  exact hr pc lsA H locs (some (sv_l x)) h hp (fun v hv => by cases hv; exact so_h oS) oH hP hS ⟨ht, hd⟩
theorem vr_aret {a b : Nat} {x : Int} (hd : decode M.2.1 pc = .ok (.areturn, 1)) (ht : M.2.2.2.2 = 4) (hp : Post (some (sv_r a b x)) h) : V_ g d M pc ls [sv_r a b x] h Post := by
  intro p e R s m args below meth c cells slots QQ C hr H locs lsA oL oS oH hP hS hl
  exact hr pc lsA H locs (some (sv_r a b x)) h hp (fun v hv => by cases hv; exact so_h oS) oH hP hS ⟨ht, hd⟩
/-! a contract out of its body's walk -/
def sm_t (Y : MD_) : Prop := (Y.2.2.2.2 = 0 ∧ Y.2.2.2.1 = none) ∨ (Y.2.2.2.2 = 1 ∧ Y.2.2.2.1 = some .int) ∨ (Y.2.2.2.2 = 2 ∧ Y.2.2.2.1 = some .boolean) ∨ (Y.2.2.2.2 = 3 ∧ Y.2.2.2.1 = some .long) ∨ (Y.2.2.2.2 = 4 ∧ ∃ n, Y.2.2.2.1 = some (.object n))
def sl_e (n : Nat) (as : List SV_) : List (Option SV_) := as.map some ++ List.replicate (n - as.length) none
theorem lg_len1 {as : List SV_} (h1 : ∀ v ∈ as, sv_c v = 1) : (lg_sl (as.map (sv_v g))).length = as.length := by
  induction as with
  | nil => rfl
  | cons v l ih =>
    have e : lg_sl ((v :: l).map (sv_v g)) = .val (sv_v g v) :: lg_sl (l.map (sv_v g)) := by
      simp only [lg_sl, List.map_cons, List.flatMap_cons, sv_ce, h1 v List.mem_cons_self]
      rfl
    rw [e, List.length_cons, ih (fun w hw => h1 w (List.mem_cons_of_mem _ hw)), List.length_cons]
theorem lv_args1 : ∀ {as : List SV_} (i : Nat), (∀ v ∈ as, sv_c v = 1) → lv_args i (as.map (sv_v g)) = sl_v g i (as.map some) := by
  intro as
  induction as with
  | nil => intro i _; rfl
  | cons v l ih =>
    intro i h1
    show (i, sv_v g v) :: lv_args (if (sv_v g v).category = 2 then i + 2 else i + 1) (l.map (sv_v g)) = (i, sv_v g v) :: sl_v g (i + 1) (l.map some)
    rw [sv_ce, h1 v List.mem_cons_self, if_neg (by decide), ih (i + 1) (fun w hw => h1 w (List.mem_cons_of_mem _ hw))]
theorem sl_vapp (l : List (Option SV_)) (n i : Nat) : sl_v g i (l ++ List.replicate n none) = sl_v g i l := by
  induction l generalizing i with
  | nil =>
    rw [List.nil_append]
    induction n generalizing i with
    | zero => rfl
    | succ n ih => exact ih (i + 1)
  | cons a l ih =>
    cases a with
    | none => exact ih (i + 1)
    | some v =>
      show (i, sv_v g v) :: sl_v g (i + 1) (l ++ List.replicate n none) = (i, sv_v g v) :: sl_v g (i + 1) l
      rw [ih (i + 1)]
theorem V_mk {Y : MD_} {as : List SV_} (hy : plainName Y.1.cls = true) (hrt : sm_t Y) (hlen : as.length ≤ Y.2.2.1) (h1 : ∀ v ∈ as, sv_c v = 1) (k : V_ g d Y 0 (sl_e Y.2.2.1 as) [] h Post) : Ctr_ g d Y as h Post := by
  intro oA oH
  refine Met.ofW (cc := Y.2.1) (maxL := Y.2.2.1) (ret := Y.2.2.2.1) hy rfl ?_
  intro p e s m args below meth c s₁ B hml hv
  obtain ⟨hav, hP, hK⟩ := hv
  have hts := atoms_spec (ws := sm_w Y) B.pre
  have hown : s.vm.findClass Y.1.cls = some m.cls := findClass_of_methodNamed B.named
  have hlocks := B.notSynchronized
  have hret := B.returns
  have hx := B.exec
  have hb := B.bytes
  have C : sc_x g d Y p (headSpec (sm_w Y) (sm_r d)).room s m args c 0 0 := ⟨B.exec, B.bytes, hml, hown, fun w hw => hts w (List.mem_cons_of_mem _ hw), hK, Nat.le_refl _, Nat.le_refl _, Nat.zero_le _, Nat.zero_le _⟩
  have hl := lv_entry (as.map (sv_v g)) (n := Y.2.2.1) (by rw [lg_len1 h1]; exact hlen)
  subst hav
  rw [lg_entry_eq]
  generalize (lg_sl (as.map (sv_v g)) ++ List.replicate (Y.2.2.1 - (lg_sl (as.map (sv_v g))).length) Slot.unset).toArray = lsA at hl ⊢
  rw [lv_args1 0 h1, ← sl_vapp (as.map some) (Y.2.2.1 - as.length) 0] at hl
  refine k p e _ s m _ below meth c 0 0 _ C ?_ s.heap [] lsA ?_ (fun v hv => by cases hv) oH hP va_S.rf hl
  · intro pc lsA H locs r h' hpost hok hok2 hP' hS ht
    have hq : ∀ t : State, t.heap = H → s.WarmedH t.vm → sm_Q g Post (as.map (sv_v g)).toArray s (.returned (r.map (sv_v g))) t := fun t ht hW => ⟨⟨r, h', rfl, hpost, hok, hok2, by rw [ht]; exact hP'⟩, hS.F ht⟩
    match r, ht with
    | none, ht =>
      have hr0 : meth.sig.returnType = none := by
        rcases hrt with z | z | z | z | z
        · rw [hret, z.2]
        all_goals exact absurd (ht.1.symm.trans z.1) (by decide)
      exact W.vret hx hb hr0 hq hS.2.2 ht.2
    | some (.inl x), ht =>
      rcases ht.2 with hh | ⟨hh, hx01⟩
      · have hr0 : meth.sig.returnType = some .int := by
          rcases hrt with z | z | z | z | z
          · exact absurd (hh.symm.trans z.1) (by decide)
          · rw [hret, z.2]
          all_goals exact absurd (hh.symm.trans z.1) (by decide)
        exact W.iret hx hb hr0 hq hS.2.2 ht.1
      · have hr0 : meth.sig.returnType = some .boolean := by
          rcases hrt with z | z | z | z | z
          · exact absurd (hh.symm.trans z.1) (by decide)
          · exact absurd (hh.symm.trans z.1) (by decide)
          · rw [hret, z.2]
          all_goals exact absurd (hh.symm.trans z.1) (by decide)
        exact W.zret hx hb hr0 (by rcases hx01 with rfl | rfl <;> decide) hq hS.2.2 ht.1
    | some (.inr (.inl x)), ht =>
      have hr0 : meth.sig.returnType = some .long := by
        rcases hrt with z | z | z | z | z
        · exact absurd (ht.1.symm.trans z.1) (by decide)
        · exact absurd (ht.1.symm.trans z.1) (by decide)
        · exact absurd (ht.1.symm.trans z.1) (by decide)
        · rw [hret, z.2]
        · exact absurd (ht.1.symm.trans z.1) (by decide)
      exact W.lret hx hb hr0 hq hS.2.2 ht.2
    | some (.inr (.inr ((a, b), x))), ht =>
      have hr0 : ∃ n, meth.sig.returnType = some (.object n) := by
        rcases hrt with z | z | z | z | z
        · exact absurd (ht.1.symm.trans z.1) (by decide)
        · exact absurd (ht.1.symm.trans z.1) (by decide)
        · exact absurd (ht.1.symm.trans z.1) (by decide)
        · exact absurd (ht.1.symm.trans z.1) (by decide)
        · obtain ⟨n, hn⟩ := z.2
          exact ⟨n, by rw [hret, hn]⟩
      obtain ⟨n, hr0⟩ := hr0
      exact W.aret hx hb hr0 (Or.inl ⟨n, rfl⟩) (Or.inr ⟨_, rfl⟩) hq hS.2.2 ht.2
  · intro v hv
    unfold sl_e at hv
    rcases List.mem_append.mp hv with z | z
    · obtain ⟨w2, hw2, e2⟩ := List.mem_map.mp z
      have e3 : w2 = v := Option.some.inj e2
      exact e3 ▸ oA w2 hw2
    · exact absurd (List.eq_of_mem_replicate z) (by simp)
/-- weaker ends -/
theorem Ctr_imp {Y : MD_} {as : List SV_} {Post2 : Option SV_ → SH_ → Prop} (k : Ctr_ g d Y as h Post) (hi : ∀ r h', Post r h' → Post2 r h') : Ctr_ g d Y as h Post2 := by
  intro oA oH p e ha hc hk s m args below hf hap hp hK
  obtain ⟨n, o, h1, h2, h3, ⟨⟨r, h', q1, q2, q3⟩, q4⟩, q5⟩ := k oA oH p e ha hc hk s m args below hf hap hp hK
  exact ⟨n, o, h1, h2, h3, ⟨⟨r, h', q1, hi r h' q2, q3⟩, q4⟩, q5⟩
end VC_
end
