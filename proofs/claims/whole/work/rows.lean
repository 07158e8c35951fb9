section
-- ===== PART A: goes FIRST, ahead of the names: the tables' words, and 'selects' of the private methods out of them =====
/-- a private method of a class that the tables say can be made, by its rows of tables_1 -/
def lw_okq (q : MethodName × Nat) : Prop := (q.1.cls ≠ "java/lang/invoke/MethodHandle" ∧ q.1.cls ≠ "java/lang/invoke/VarHandle") ∧ Cond.instantiable q.1.cls q.2 ∈ tables_1 ∧ Cond.privateMethod q.1 ∈ tables_1 ∧ Cond.instanceMethod q.1 ∈ tables_1
theorem lw_p0 : lw_okq (⟨"NodBets", "found", "(I)I"⟩, 9) := ⟨⟨by decide +kernel, by decide +kernel⟩, List.mem_of_getElem? (i := 15) (by decide +kernel), List.mem_of_getElem? (i := 267) (by decide +kernel), List.mem_of_getElem? (i := 268) (by decide +kernel)⟩
theorem lw_p1 : lw_okq (⟨"NodBets", "unfound", "(I)I"⟩, 9) := ⟨⟨by decide +kernel, by decide +kernel⟩, List.mem_of_getElem? (i := 15) (by decide +kernel), List.mem_of_getElem? (i := 276) (by decide +kernel), List.mem_of_getElem? (i := 277) (by decide +kernel)⟩
theorem lw_p2 : lw_okq (⟨"NodBets$Reader", "readLaw", "(LNodBets$Town;)Z"⟩, 4) := ⟨⟨by decide +kernel, by decide +kernel⟩, List.mem_of_getElem? (i := 40) (by decide +kernel), List.mem_of_getElem? (i := 343) (by decide +kernel), List.mem_of_getElem? (i := 344) (by decide +kernel)⟩
theorem lw_p3 : lw_okq (⟨"NodBets$Reader", "passed", "(I)Z"⟩, 4) := ⟨⟨by decide +kernel, by decide +kernel⟩, List.mem_of_getElem? (i := 40) (by decide +kernel), List.mem_of_getElem? (i := 347) (by decide +kernel), List.mem_of_getElem? (i := 348) (by decide +kernel)⟩
theorem lw_p4 : lw_okq (⟨"NodBets$Reader", "here", "()I"⟩, 4) := ⟨⟨by decide +kernel, by decide +kernel⟩, List.mem_of_getElem? (i := 40) (by decide +kernel), List.mem_of_getElem? (i := 351) (by decide +kernel), List.mem_of_getElem? (i := 352) (by decide +kernel)⟩
theorem lw_p5 : lw_okq (⟨"NodBets$Reader", "byteAt", "(I)I"⟩, 4) := ⟨⟨by decide +kernel, by decide +kernel⟩, List.mem_of_getElem? (i := 40) (by decide +kernel), List.mem_of_getElem? (i := 355) (by decide +kernel), List.mem_of_getElem? (i := 356) (by decide +kernel)⟩
theorem lw_p6 : lw_okq (⟨"NodBets$Reader", "refuse", "(I)Z"⟩, 4) := ⟨⟨by decide +kernel, by decide +kernel⟩, List.mem_of_getElem? (i := 40) (by decide +kernel), List.mem_of_getElem? (i := 359) (by decide +kernel), List.mem_of_getElem? (i := 360) (by decide +kernel)⟩
theorem lw_p7 : lw_okq (⟨"NodBets$Reader", "readNumber", "(II)I"⟩, 4) := ⟨⟨by decide +kernel, by decide +kernel⟩, List.mem_of_getElem? (i := 40) (by decide +kernel), List.mem_of_getElem? (i := 363) (by decide +kernel), List.mem_of_getElem? (i := 364) (by decide +kernel)⟩
theorem lw_p8 : lw_okq (⟨"NodBets$Reader", "readLies", "(LNodBets$Town;)Z"⟩, 4) := ⟨⟨by decide +kernel, by decide +kernel⟩, List.mem_of_getElem? (i := 40) (by decide +kernel), List.mem_of_getElem? (i := 374) (by decide +kernel), List.mem_of_getElem? (i := 375) (by decide +kernel)⟩
theorem lw_p9 : lw_okq (⟨"NodBets$Reader", "readStrangers", "(LNodBets$Town;)Z"⟩, 4) := ⟨⟨by decide +kernel, by decide +kernel⟩, List.mem_of_getElem? (i := 40) (by decide +kernel), List.mem_of_getElem? (i := 385) (by decide +kernel), List.mem_of_getElem? (i := 386) (by decide +kernel)⟩
theorem lw_p10 : lw_okq (⟨"NodBets$Mind", "undoubtedNeed", "(III)I"⟩, 4) := ⟨⟨by decide +kernel, by decide +kernel⟩, List.mem_of_getElem? (i := 162) (by decide +kernel), List.mem_of_getElem? (i := 464) (by decide +kernel), List.mem_of_getElem? (i := 465) (by decide +kernel)⟩
theorem lw_p11 : lw_okq (⟨"NodBets$Foresight", "seekOrderFrom", "(III)V"⟩, 9) := ⟨⟨by decide +kernel, by decide +kernel⟩, List.mem_of_getElem? (i := 155) (by decide +kernel), List.mem_of_getElem? (i := 559) (by decide +kernel), List.mem_of_getElem? (i := 560) (by decide +kernel)⟩
theorem lw_p12 : lw_okq (⟨"NodBets$Foresight", "keepBest", "(II)V"⟩, 9) := ⟨⟨by decide +kernel, by decide +kernel⟩, List.mem_of_getElem? (i := 155) (by decide +kernel), List.mem_of_getElem? (i := 564) (by decide +kernel), List.mem_of_getElem? (i := 565) (by decide +kernel)⟩
theorem lw_p13 : lw_okq (⟨"NodBets$Foresight", "tryNext", "(II)Z"⟩, 9) := ⟨⟨by decide +kernel, by decide +kernel⟩, List.mem_of_getElem? (i := 155) (by decide +kernel), List.mem_of_getElem? (i := 568) (by decide +kernel), List.mem_of_getElem? (i := 569) (by decide +kernel)⟩
theorem lw_p14 : lw_okq (⟨"NodBets$Foresight", "comesInFrom", "(IIII)Z"⟩, 9) := ⟨⟨by decide +kernel, by decide +kernel⟩, List.mem_of_getElem? (i := 155) (by decide +kernel), List.mem_of_getElem? (i := 594) (by decide +kernel), List.mem_of_getElem? (i := 595) (by decide +kernel)⟩
theorem lw_p15 : lw_okq (⟨"NodBets$Foresight", "deadFrom", "(III)I"⟩, 9) := ⟨⟨by decide +kernel, by decide +kernel⟩, List.mem_of_getElem? (i := 155) (by decide +kernel), List.mem_of_getElem? (i := 611) (by decide +kernel), List.mem_of_getElem? (i := 612) (by decide +kernel)⟩
def lw_privs_1 : List (MethodName × Nat) := [(⟨"NodBets", "found", "(I)I"⟩, 9), (⟨"NodBets", "unfound", "(I)I"⟩, 9), (⟨"NodBets$Reader", "readLaw", "(LNodBets$Town;)Z"⟩, 4), (⟨"NodBets$Reader", "passed", "(I)Z"⟩, 4), (⟨"NodBets$Reader", "here", "()I"⟩, 4), (⟨"NodBets$Reader", "byteAt", "(I)I"⟩, 4), (⟨"NodBets$Reader", "refuse", "(I)Z"⟩, 4), (⟨"NodBets$Reader", "readNumber", "(II)I"⟩, 4), (⟨"NodBets$Reader", "readLies", "(LNodBets$Town;)Z"⟩, 4), (⟨"NodBets$Reader", "readStrangers", "(LNodBets$Town;)Z"⟩, 4), (⟨"NodBets$Mind", "undoubtedNeed", "(III)I"⟩, 4), (⟨"NodBets$Foresight", "seekOrderFrom", "(III)V"⟩, 9), (⟨"NodBets$Foresight", "keepBest", "(II)V"⟩, 9), (⟨"NodBets$Foresight", "tryNext", "(II)Z"⟩, 9), (⟨"NodBets$Foresight", "comesInFrom", "(IIII)Z"⟩, 9), (⟨"NodBets$Foresight", "deadFrom", "(III)I"⟩, 9)]
theorem lw_r1 : ∀ q ∈ lw_privs_1, lw_okq q := List.forall_mem_cons.mpr ⟨lw_p0, List.forall_mem_cons.mpr ⟨lw_p1, List.forall_mem_cons.mpr ⟨lw_p2, List.forall_mem_cons.mpr ⟨lw_p3, List.forall_mem_cons.mpr ⟨lw_p4, List.forall_mem_cons.mpr ⟨lw_p5, List.forall_mem_cons.mpr ⟨lw_p6, List.forall_mem_cons.mpr ⟨lw_p7, List.forall_mem_cons.mpr ⟨lw_p8, List.forall_mem_cons.mpr ⟨lw_p9, List.forall_mem_cons.mpr ⟨lw_p10, List.forall_mem_cons.mpr ⟨lw_p11, List.forall_mem_cons.mpr ⟨lw_p12, List.forall_mem_cons.mpr ⟨lw_p13, List.forall_mem_cons.mpr ⟨lw_p14, List.forall_mem_cons.mpr ⟨lw_p15, fun _ h => absurd h List.not_mem_nil⟩⟩⟩⟩⟩⟩⟩⟩⟩⟩⟩⟩⟩⟩⟩⟩
theorem lw_p16 : lw_okq (⟨"NodBets$Foresight", "bringsIn", "(II)Z"⟩, 9) := ⟨⟨by decide +kernel, by decide +kernel⟩, List.mem_of_getElem? (i := 155) (by decide +kernel), List.mem_of_getElem? (i := 624) (by decide +kernel), List.mem_of_getElem? (i := 625) (by decide +kernel)⟩
theorem lw_p17 : lw_okq (⟨"NodBets", "takeTelling", "(III)I"⟩, 9) := ⟨⟨by decide +kernel, by decide +kernel⟩, List.mem_of_getElem? (i := 15) (by decide +kernel), List.mem_of_getElem? (i := 640) (by decide +kernel), List.mem_of_getElem? (i := 641) (by decide +kernel)⟩
theorem lw_p18 : lw_okq (⟨"NodBets$Foresight", "waysFrom", "(III)I"⟩, 9) := ⟨⟨by decide +kernel, by decide +kernel⟩, List.mem_of_getElem? (i := 155) (by decide +kernel), List.mem_of_getElem? (i := 677) (by decide +kernel), List.mem_of_getElem? (i := 678) (by decide +kernel)⟩
theorem lw_p19 : lw_okq (⟨"NodBets$Asks", "sizeOf", "(II)I"⟩, 3) := ⟨⟨by decide +kernel, by decide +kernel⟩, List.mem_of_getElem? (i := 212) (by decide +kernel), List.mem_of_getElem? (i := 727) (by decide +kernel), List.mem_of_getElem? (i := 728) (by decide +kernel)⟩
theorem lw_p20 : lw_okq (⟨"NodBets$Asks", "run", "(III)I"⟩, 3) := ⟨⟨by decide +kernel, by decide +kernel⟩, List.mem_of_getElem? (i := 212) (by decide +kernel), List.mem_of_getElem? (i := 737) (by decide +kernel), List.mem_of_getElem? (i := 738) (by decide +kernel)⟩
theorem lw_p21 : lw_okq (⟨"NodBets$Asks", "leaveTrace", "(I)V"⟩, 3) := ⟨⟨by decide +kernel, by decide +kernel⟩, List.mem_of_getElem? (i := 212) (by decide +kernel), List.mem_of_getElem? (i := 741) (by decide +kernel), List.mem_of_getElem? (i := 742) (by decide +kernel)⟩
theorem lw_p22 : lw_okq (⟨"NodBets$Asks", "markOf", "(II)I"⟩, 3) := ⟨⟨by decide +kernel, by decide +kernel⟩, List.mem_of_getElem? (i := 212) (by decide +kernel), List.mem_of_getElem? (i := 745) (by decide +kernel), List.mem_of_getElem? (i := 746) (by decide +kernel)⟩
theorem lw_p23 : lw_okq (⟨"NodBetsModel", "found", "(I)I"⟩, 28) := ⟨⟨by decide +kernel, by decide +kernel⟩, List.mem_of_getElem? (i := 777) (by decide +kernel), List.mem_of_getElem? (i := 881) (by decide +kernel), List.mem_of_getElem? (i := 882) (by decide +kernel)⟩
theorem lw_p24 : lw_okq (⟨"NodBetsModel", "well", "(I)I"⟩, 28) := ⟨⟨by decide +kernel, by decide +kernel⟩, List.mem_of_getElem? (i := 777) (by decide +kernel), List.mem_of_getElem? (i := 886) (by decide +kernel), List.mem_of_getElem? (i := 887) (by decide +kernel)⟩
theorem lw_p25 : lw_okq (⟨"NodBetsModel", "isMissing", "(I)Z"⟩, 28) := ⟨⟨by decide +kernel, by decide +kernel⟩, List.mem_of_getElem? (i := 777) (by decide +kernel), List.mem_of_getElem? (i := 894) (by decide +kernel), List.mem_of_getElem? (i := 895) (by decide +kernel)⟩
theorem lw_p26 : lw_okq (⟨"NodBetsModel", "isPart", "(III)Z"⟩, 28) := ⟨⟨by decide +kernel, by decide +kernel⟩, List.mem_of_getElem? (i := 777) (by decide +kernel), List.mem_of_getElem? (i := 905) (by decide +kernel), List.mem_of_getElem? (i := 906) (by decide +kernel)⟩
theorem lw_p27 : lw_okq (⟨"NodBetsModel", "advances", "()V"⟩, 28) := ⟨⟨by decide +kernel, by decide +kernel⟩, List.mem_of_getElem? (i := 777) (by decide +kernel), List.mem_of_getElem? (i := 922) (by decide +kernel), List.mem_of_getElem? (i := 923) (by decide +kernel)⟩
theorem lw_p28 : lw_okq (⟨"NodBetsModel", "byteAt", "(I)I"⟩, 28) := ⟨⟨by decide +kernel, by decide +kernel⟩, List.mem_of_getElem? (i := 777) (by decide +kernel), List.mem_of_getElem? (i := 926) (by decide +kernel), List.mem_of_getElem? (i := 927) (by decide +kernel)⟩
theorem lw_p29 : lw_okq (⟨"NodBetsModel", "takes", "(ZI)I"⟩, 28) := ⟨⟨by decide +kernel, by decide +kernel⟩, List.mem_of_getElem? (i := 777) (by decide +kernel), List.mem_of_getElem? (i := 930) (by decide +kernel), List.mem_of_getElem? (i := 931) (by decide +kernel)⟩
theorem lw_p30 : lw_okq (⟨"NodBetsModel", "isWell", "()Z"⟩, 28) := ⟨⟨by decide +kernel, by decide +kernel⟩, List.mem_of_getElem? (i := 777) (by decide +kernel), List.mem_of_getElem? (i := 934) (by decide +kernel), List.mem_of_getElem? (i := 935) (by decide +kernel)⟩
theorem lw_p31 : lw_okq (⟨"NodBetsModel", "figure", "(II)I"⟩, 28) := ⟨⟨by decide +kernel, by decide +kernel⟩, List.mem_of_getElem? (i := 777) (by decide +kernel), List.mem_of_getElem? (i := 938) (by decide +kernel), List.mem_of_getElem? (i := 939) (by decide +kernel)⟩
def lw_privs_2 : List (MethodName × Nat) := [(⟨"NodBets$Foresight", "bringsIn", "(II)Z"⟩, 9), (⟨"NodBets", "takeTelling", "(III)I"⟩, 9), (⟨"NodBets$Foresight", "waysFrom", "(III)I"⟩, 9), (⟨"NodBets$Asks", "sizeOf", "(II)I"⟩, 3), (⟨"NodBets$Asks", "run", "(III)I"⟩, 3), (⟨"NodBets$Asks", "leaveTrace", "(I)V"⟩, 3), (⟨"NodBets$Asks", "markOf", "(II)I"⟩, 3), (⟨"NodBetsModel", "found", "(I)I"⟩, 28), (⟨"NodBetsModel", "well", "(I)I"⟩, 28), (⟨"NodBetsModel", "isMissing", "(I)Z"⟩, 28), (⟨"NodBetsModel", "isPart", "(III)Z"⟩, 28), (⟨"NodBetsModel", "advances", "()V"⟩, 28), (⟨"NodBetsModel", "byteAt", "(I)I"⟩, 28), (⟨"NodBetsModel", "takes", "(ZI)I"⟩, 28), (⟨"NodBetsModel", "isWell", "()Z"⟩, 28), (⟨"NodBetsModel", "figure", "(II)I"⟩, 28)]
theorem lw_r2 : ∀ q ∈ lw_privs_2, lw_okq q := List.forall_mem_cons.mpr ⟨lw_p16, List.forall_mem_cons.mpr ⟨lw_p17, List.forall_mem_cons.mpr ⟨lw_p18, List.forall_mem_cons.mpr ⟨lw_p19, List.forall_mem_cons.mpr ⟨lw_p20, List.forall_mem_cons.mpr ⟨lw_p21, List.forall_mem_cons.mpr ⟨lw_p22, List.forall_mem_cons.mpr ⟨lw_p23, List.forall_mem_cons.mpr ⟨lw_p24, List.forall_mem_cons.mpr ⟨lw_p25, List.forall_mem_cons.mpr ⟨lw_p26, List.forall_mem_cons.mpr ⟨lw_p27, List.forall_mem_cons.mpr ⟨lw_p28, List.forall_mem_cons.mpr ⟨lw_p29, List.forall_mem_cons.mpr ⟨lw_p30, List.forall_mem_cons.mpr ⟨lw_p31, fun _ h => absurd h List.not_mem_nil⟩⟩⟩⟩⟩⟩⟩⟩⟩⟩⟩⟩⟩⟩⟩⟩
theorem lw_p32 : lw_okq (⟨"NodBetsModel", "readsLie", "()V"⟩, 28) := ⟨⟨by decide +kernel, by decide +kernel⟩, List.mem_of_getElem? (i := 777) (by decide +kernel), List.mem_of_getElem? (i := 945) (by decide +kernel), List.mem_of_getElem? (i := 946) (by decide +kernel)⟩
theorem lw_p33 : lw_okq (⟨"NodBetsModel", "next", "(II)I"⟩, 28) := ⟨⟨by decide +kernel, by decide +kernel⟩, List.mem_of_getElem? (i := 777) (by decide +kernel), List.mem_of_getElem? (i := 949) (by decide +kernel), List.mem_of_getElem? (i := 950) (by decide +kernel)⟩
theorem lw_p34 : lw_okq (⟨"NodBetsModel", "readsStranger", "()V"⟩, 28) := ⟨⟨by decide +kernel, by decide +kernel⟩, List.mem_of_getElem? (i := 777) (by decide +kernel), List.mem_of_getElem? (i := 953) (by decide +kernel), List.mem_of_getElem? (i := 954) (by decide +kernel)⟩
theorem lw_p35 : lw_okq (⟨"NodBetsModel", "isStranger", "(I)Z"⟩, 28) := ⟨⟨by decide +kernel, by decide +kernel⟩, List.mem_of_getElem? (i := 777) (by decide +kernel), List.mem_of_getElem? (i := 969) (by decide +kernel), List.mem_of_getElem? (i := 970) (by decide +kernel)⟩
theorem lw_p36 : lw_okq (⟨"NodBetsModel", "isLie", "(I)Z"⟩, 28) := ⟨⟨by decide +kernel, by decide +kernel⟩, List.mem_of_getElem? (i := 777) (by decide +kernel), List.mem_of_getElem? (i := 973) (by decide +kernel), List.mem_of_getElem? (i := 974) (by decide +kernel)⟩
theorem lw_p37 : lw_okq (⟨"NodBetsModel", "wasTold", "(II)Z"⟩, 28) := ⟨⟨by decide +kernel, by decide +kernel⟩, List.mem_of_getElem? (i := 777) (by decide +kernel), List.mem_of_getElem? (i := 977) (by decide +kernel), List.mem_of_getElem? (i := 978) (by decide +kernel)⟩
theorem lw_p38 : lw_okq (⟨"NodBetsModel", "notes", "()V"⟩, 28) := ⟨⟨by decide +kernel, by decide +kernel⟩, List.mem_of_getElem? (i := 777) (by decide +kernel), List.mem_of_getElem? (i := 985) (by decide +kernel), List.mem_of_getElem? (i := 986) (by decide +kernel)⟩
theorem lw_p39 : lw_okq (⟨"NodBetsModel", "tries", "(I)V"⟩, 28) := ⟨⟨by decide +kernel, by decide +kernel⟩, List.mem_of_getElem? (i := 777) (by decide +kernel), List.mem_of_getElem? (i := 989) (by decide +kernel), List.mem_of_getElem? (i := 990) (by decide +kernel)⟩
theorem lw_p40 : lw_okq (⟨"NodBetsModel", "wouldNod", "(I)Z"⟩, 28) := ⟨⟨by decide +kernel, by decide +kernel⟩, List.mem_of_getElem? (i := 777) (by decide +kernel), List.mem_of_getElem? (i := 996) (by decide +kernel), List.mem_of_getElem? (i := 997) (by decide +kernel)⟩
theorem lw_p41 : lw_okq (⟨"NodBetsModel", "needs", "(I)I"⟩, 28) := ⟨⟨by decide +kernel, by decide +kernel⟩, List.mem_of_getElem? (i := 777) (by decide +kernel), List.mem_of_getElem? (i := 1000) (by decide +kernel), List.mem_of_getElem? (i := 1001) (by decide +kernel)⟩
theorem lw_p42 : lw_okq (⟨"NodBetsModel", "hears", "(IZ)V"⟩, 28) := ⟨⟨by decide +kernel, by decide +kernel⟩, List.mem_of_getElem? (i := 777) (by decide +kernel), List.mem_of_getElem? (i := 1004) (by decide +kernel), List.mem_of_getElem? (i := 1005) (by decide +kernel)⟩
theorem lw_p43 : lw_okq (⟨"NodBetsModel", "strangersWith", "(II)I"⟩, 28) := ⟨⟨by decide +kernel, by decide +kernel⟩, List.mem_of_getElem? (i := 777) (by decide +kernel), List.mem_of_getElem? (i := 1024) (by decide +kernel), List.mem_of_getElem? (i := 1025) (by decide +kernel)⟩
theorem lw_p44 : lw_okq (⟨"NodBetsModel", "noddedAt", "(I)I"⟩, 28) := ⟨⟨by decide +kernel, by decide +kernel⟩, List.mem_of_getElem? (i := 777) (by decide +kernel), List.mem_of_getElem? (i := 1028) (by decide +kernel), List.mem_of_getElem? (i := 1029) (by decide +kernel)⟩
theorem lw_p45 : lw_okq (⟨"NodBetsModel", "untold", "(I)I"⟩, 28) := ⟨⟨by decide +kernel, by decide +kernel⟩, List.mem_of_getElem? (i := 777) (by decide +kernel), List.mem_of_getElem? (i := 1044) (by decide +kernel), List.mem_of_getElem? (i := 1045) (by decide +kernel)⟩
theorem lw_p46 : lw_okq (⟨"NodBetsModel", "fills", "(IIII)V"⟩, 28) := ⟨⟨by decide +kernel, by decide +kernel⟩, List.mem_of_getElem? (i := 777) (by decide +kernel), List.mem_of_getElem? (i := 1052) (by decide +kernel), List.mem_of_getElem? (i := 1053) (by decide +kernel)⟩
theorem lw_p47 : lw_okq (⟨"NodBetsModel", "nodsAt", "(II)I"⟩, 28) := ⟨⟨by decide +kernel, by decide +kernel⟩, List.mem_of_getElem? (i := 777) (by decide +kernel), List.mem_of_getElem? (i := 1056) (by decide +kernel), List.mem_of_getElem? (i := 1057) (by decide +kernel)⟩
def lw_privs_3 : List (MethodName × Nat) := [(⟨"NodBetsModel", "readsLie", "()V"⟩, 28), (⟨"NodBetsModel", "next", "(II)I"⟩, 28), (⟨"NodBetsModel", "readsStranger", "()V"⟩, 28), (⟨"NodBetsModel", "isStranger", "(I)Z"⟩, 28), (⟨"NodBetsModel", "isLie", "(I)Z"⟩, 28), (⟨"NodBetsModel", "wasTold", "(II)Z"⟩, 28), (⟨"NodBetsModel", "notes", "()V"⟩, 28), (⟨"NodBetsModel", "tries", "(I)V"⟩, 28), (⟨"NodBetsModel", "wouldNod", "(I)Z"⟩, 28), (⟨"NodBetsModel", "needs", "(I)I"⟩, 28), (⟨"NodBetsModel", "hears", "(IZ)V"⟩, 28), (⟨"NodBetsModel", "strangersWith", "(II)I"⟩, 28), (⟨"NodBetsModel", "noddedAt", "(I)I"⟩, 28), (⟨"NodBetsModel", "untold", "(I)I"⟩, 28), (⟨"NodBetsModel", "fills", "(IIII)V"⟩, 28), (⟨"NodBetsModel", "nodsAt", "(II)I"⟩, 28)]
theorem lw_r3 : ∀ q ∈ lw_privs_3, lw_okq q := List.forall_mem_cons.mpr ⟨lw_p32, List.forall_mem_cons.mpr ⟨lw_p33, List.forall_mem_cons.mpr ⟨lw_p34, List.forall_mem_cons.mpr ⟨lw_p35, List.forall_mem_cons.mpr ⟨lw_p36, List.forall_mem_cons.mpr ⟨lw_p37, List.forall_mem_cons.mpr ⟨lw_p38, List.forall_mem_cons.mpr ⟨lw_p39, List.forall_mem_cons.mpr ⟨lw_p40, List.forall_mem_cons.mpr ⟨lw_p41, List.forall_mem_cons.mpr ⟨lw_p42, List.forall_mem_cons.mpr ⟨lw_p43, List.forall_mem_cons.mpr ⟨lw_p44, List.forall_mem_cons.mpr ⟨lw_p45, List.forall_mem_cons.mpr ⟨lw_p46, List.forall_mem_cons.mpr ⟨lw_p47, fun _ h => absurd h List.not_mem_nil⟩⟩⟩⟩⟩⟩⟩⟩⟩⟩⟩⟩⟩⟩⟩⟩
theorem lw_p48 : lw_okq (⟨"NodBetsModel", "goesOn", "(II)Z"⟩, 28) := ⟨⟨by decide +kernel, by decide +kernel⟩, List.mem_of_getElem? (i := 777) (by decide +kernel), List.mem_of_getElem? (i := 1060) (by decide +kernel), List.mem_of_getElem? (i := 1061) (by decide +kernel)⟩
theorem lw_p49 : lw_okq (⟨"NodBetsModel", "aheadOf", "(II)I"⟩, 28) := ⟨⟨by decide +kernel, by decide +kernel⟩, List.mem_of_getElem? (i := 777) (by decide +kernel), List.mem_of_getElem? (i := 1068) (by decide +kernel), List.mem_of_getElem? (i := 1069) (by decide +kernel)⟩
theorem lw_p50 : lw_okq (⟨"NodBetsModel", "helps", "(III)Z"⟩, 28) := ⟨⟨by decide +kernel, by decide +kernel⟩, List.mem_of_getElem? (i := 777) (by decide +kernel), List.mem_of_getElem? (i := 1080) (by decide +kernel), List.mem_of_getElem? (i := 1081) (by decide +kernel)⟩
theorem lw_p51 : lw_okq (⟨"NodBetsModel", "wrongIn", "(III)I"⟩, 28) := ⟨⟨by decide +kernel, by decide +kernel⟩, List.mem_of_getElem? (i := 777) (by decide +kernel), List.mem_of_getElem? (i := 1092) (by decide +kernel), List.mem_of_getElem? (i := 1093) (by decide +kernel)⟩
theorem lw_p52 : lw_okq (⟨"NodBetsModel", "goesSo", "(II)Z"⟩, 28) := ⟨⟨by decide +kernel, by decide +kernel⟩, List.mem_of_getElem? (i := 777) (by decide +kernel), List.mem_of_getElem? (i := 1096) (by decide +kernel), List.mem_of_getElem? (i := 1097) (by decide +kernel)⟩
theorem lw_p53 : lw_okq (⟨"NodBetsModel", "isTown", "()Z"⟩, 28) := ⟨⟨by decide +kernel, by decide +kernel⟩, List.mem_of_getElem? (i := 777) (by decide +kernel), List.mem_of_getElem? (i := 1108) (by decide +kernel), List.mem_of_getElem? (i := 1109) (by decide +kernel)⟩
theorem lw_p54 : lw_okq (⟨"NodBetsModel", "goesBy", "(IIIII)J"⟩, 28) := ⟨⟨by decide +kernel, by decide +kernel⟩, List.mem_of_getElem? (i := 777) (by decide +kernel), List.mem_of_getElem? (i := 1117) (by decide +kernel), List.mem_of_getElem? (i := 1118) (by decide +kernel)⟩
theorem lw_p55 : lw_okq (⟨"NodBetsModel", "kindIn", "(I)I"⟩, 28) := ⟨⟨by decide +kernel, by decide +kernel⟩, List.mem_of_getElem? (i := 777) (by decide +kernel), List.mem_of_getElem? (i := 1133) (by decide +kernel), List.mem_of_getElem? (i := 1134) (by decide +kernel)⟩
theorem lw_p56 : lw_okq (⟨"NodBetsModel", "proofSize", "(I)I"⟩, 28) := ⟨⟨by decide +kernel, by decide +kernel⟩, List.mem_of_getElem? (i := 777) (by decide +kernel), List.mem_of_getElem? (i := 1145) (by decide +kernel), List.mem_of_getElem? (i := 1146) (by decide +kernel)⟩
theorem lw_p57 : lw_okq (⟨"NodBetsModel", "begins", "(I)V"⟩, 28) := ⟨⟨by decide +kernel, by decide +kernel⟩, List.mem_of_getElem? (i := 777) (by decide +kernel), List.mem_of_getElem? (i := 1149) (by decide +kernel), List.mem_of_getElem? (i := 1150) (by decide +kernel)⟩
theorem lw_p58 : lw_okq (⟨"NodBetsModel", "easySize", "(I)I"⟩, 28) := ⟨⟨by decide +kernel, by decide +kernel⟩, List.mem_of_getElem? (i := 777) (by decide +kernel), List.mem_of_getElem? (i := 1153) (by decide +kernel), List.mem_of_getElem? (i := 1154) (by decide +kernel)⟩
theorem lw_p59 : lw_okq (⟨"NodBetsModel", "easyMark", "(I)I"⟩, 28) := ⟨⟨by decide +kernel, by decide +kernel⟩, List.mem_of_getElem? (i := 777) (by decide +kernel), List.mem_of_getElem? (i := 1157) (by decide +kernel), List.mem_of_getElem? (i := 1158) (by decide +kernel)⟩
theorem lw_p60 : lw_okq (⟨"NodBetsModel", "proofMark", "(I)I"⟩, 28) := ⟨⟨by decide +kernel, by decide +kernel⟩, List.mem_of_getElem? (i := 777) (by decide +kernel), List.mem_of_getElem? (i := 1161) (by decide +kernel), List.mem_of_getElem? (i := 1162) (by decide +kernel)⟩
def lw_privs_4 : List (MethodName × Nat) := [(⟨"NodBetsModel", "goesOn", "(II)Z"⟩, 28), (⟨"NodBetsModel", "aheadOf", "(II)I"⟩, 28), (⟨"NodBetsModel", "helps", "(III)Z"⟩, 28), (⟨"NodBetsModel", "wrongIn", "(III)I"⟩, 28), (⟨"NodBetsModel", "goesSo", "(II)Z"⟩, 28), (⟨"NodBetsModel", "isTown", "()Z"⟩, 28), (⟨"NodBetsModel", "goesBy", "(IIIII)J"⟩, 28), (⟨"NodBetsModel", "kindIn", "(I)I"⟩, 28), (⟨"NodBetsModel", "proofSize", "(I)I"⟩, 28), (⟨"NodBetsModel", "begins", "(I)V"⟩, 28), (⟨"NodBetsModel", "easySize", "(I)I"⟩, 28), (⟨"NodBetsModel", "easyMark", "(I)I"⟩, 28), (⟨"NodBetsModel", "proofMark", "(I)I"⟩, 28)]
theorem lw_r4 : ∀ q ∈ lw_privs_4, lw_okq q := List.forall_mem_cons.mpr ⟨lw_p48, List.forall_mem_cons.mpr ⟨lw_p49, List.forall_mem_cons.mpr ⟨lw_p50, List.forall_mem_cons.mpr ⟨lw_p51, List.forall_mem_cons.mpr ⟨lw_p52, List.forall_mem_cons.mpr ⟨lw_p53, List.forall_mem_cons.mpr ⟨lw_p54, List.forall_mem_cons.mpr ⟨lw_p55, List.forall_mem_cons.mpr ⟨lw_p56, List.forall_mem_cons.mpr ⟨lw_p57, List.forall_mem_cons.mpr ⟨lw_p58, List.forall_mem_cons.mpr ⟨lw_p59, List.forall_mem_cons.mpr ⟨lw_p60, fun _ h => absurd h List.not_mem_nil⟩⟩⟩⟩⟩⟩⟩⟩⟩⟩⟩⟩⟩
def lw_privs : List (MethodName × Nat) := lw_privs_1 ++ (lw_privs_2 ++ (lw_privs_3 ++ (lw_privs_4)))
def lw_tbl : List Cond := k2_sels lw_privs ++ tables_1
theorem lw_privs_ok : ∀ q ∈ lw_privs, lw_okq q := by
  show ∀ q ∈ lw_privs_1 ++ (lw_privs_2 ++ (lw_privs_3 ++ (lw_privs_4))), lw_okq q
  exact List.forall_mem_append.mpr ⟨lw_r1, List.forall_mem_append.mpr ⟨lw_r2, List.forall_mem_append.mpr ⟨lw_r3, lw_r4⟩⟩⟩
def RX0 : String := "NodBets$Acts"
def TX0 : u_T := fun k => match k with
  | 0 => ("NodBets$Acts", "strangers", "[I", true)
  | 1 => ("NodBets$Acts", "trusts", "[I", true)
  | 2 => ("NodBets$Acts", "told", "[I", true)
  | 3 => ("NodBets$Acts", "nodded", "[I", true)
  | 4 => ("NodBets$Acts", "purses", "[I", true)
  | 5 => ("NodBets$Acts", "next", "I", false)
  | _ => ("NodBets$Acts", "kept", "I", false)
def tyX0 : Nat → FieldType := fun k => match k with
  | 0 => .array .int
  | 1 => .array .int
  | 2 => .array .int
  | 3 => .array .int
  | 4 => .array .int
  | 5 => .int
  | _ => .int
abbrev wsX00 : List Cond := u_ws RX0 TX0 7
theorem nmX0 : ∀ a, a < 7 → ∀ b, b < 7 → a ≠ b → (TX0 a).2.1 ≠ (TX0 b).2.1 := by decide +kernel
theorem tyX0_ok : ∀ k, k < 7 → parseFieldDescriptor (TX0 k).2.2.1 = some (tyX0 k) := by decide +kernel
abbrev cX0_init : ByteArray := prog_2_method_1_code
def yX0_init : MethodName := ⟨RX0, "<init>", "()V"⟩
abbrev cX0_kept : ByteArray := prog_2_method_2_code
def yX0_kept : MethodName := ⟨RX0, "kept", "()I"⟩
abbrev cX0_clear : ByteArray := prog_2_method_3_code
def yX0_clear : MethodName := ⟨RX0, "clear", "()V"⟩
abbrev cX0_keepAhead : ByteArray := prog_2_method_4_code
def yX0_keepAhead : MethodName := ⟨RX0, "keepAhead", "(LNodBets$Town;I)V"⟩
abbrev cX0_undoLatest : ByteArray := prog_2_method_5_code
def yX0_undoLatest : MethodName := ⟨RX0, "undoLatest", "(LNodBets$Town;)V"⟩
def RX1 : String := "NodBets$Asks"
def TX1 : u_T := fun k => match k with
  | 0 => ("NodBets$Asks", "town", "LNodBets$Town;", true)
  | 1 => ("NodBets$Asks", "traced", "[I", true)
  | _ => ("NodBets$Asks", "tracedLength", "I", false)
def tyX1 : Nat → FieldType := fun k => match k with
  | 0 => .object "NodBets$Town"
  | 1 => .array .int
  | _ => .int
abbrev wsX10 : List Cond := u_ws RX1 TX1 3
theorem nmX1 : ∀ a, a < 3 → ∀ b, b < 3 → a ≠ b → (TX1 a).2.1 ≠ (TX1 b).2.1 := by decide +kernel
theorem tyX1_ok : ∀ k, k < 3 → parseFieldDescriptor (TX1 k).2.2.1 = some (tyX1 k) := by decide +kernel
abbrev cX1_init : ByteArray := prog_3_method_1_code
def yX1_init : MethodName := ⟨RX1, "<init>", "(LNodBets$Town;)V"⟩
abbrev cX1_answer : ByteArray := prog_3_method_2_code
def yX1_answer : MethodName := ⟨RX1, "answer", "(II)I"⟩
abbrev cX1_traceAt : ByteArray := prog_3_method_3_code
def yX1_traceAt : MethodName := ⟨RX1, "traceAt", "(I)I"⟩
abbrev cX1_sizeOf : ByteArray := prog_3_method_4_code
def yX1_sizeOf : MethodName := ⟨RX1, "sizeOf", "(II)I"⟩
abbrev cX1_markOf : ByteArray := prog_3_method_5_code
def yX1_markOf : MethodName := ⟨RX1, "markOf", "(II)I"⟩
abbrev cX1_nearestBody : ByteArray := prog_3_method_6_code
def yX1_nearestBody : MethodName := ⟨RX1, "nearestBody", "([II)I"⟩
abbrev cX1_run : ByteArray := prog_3_method_7_code
def yX1_run : MethodName := ⟨RX1, "run", "(III)I"⟩
abbrev cX1_leaveTrace : ByteArray := prog_3_method_8_code
def yX1_leaveTrace : MethodName := ⟨RX1, "leaveTrace", "(I)V"⟩
def RX2 : String := "NodBets$Foresight"
def TX2 : u_T := fun k => match k with
  | 0 => ("NodBets$Foresight", "town", "LNodBets$Town;", true)
  | 1 => ("NodBets$Foresight", "minds", "[LNodBets$Mind;", true)
  | 2 => ("NodBets$Foresight", "path", "[I", true)
  | 3 => ("NodBets$Foresight", "best", "[I", true)
  | 4 => ("NodBets$Foresight", "bestLength", "I", false)
  | 5 => ("NodBets$Foresight", "bestNodded", "I", false)
  | 6 => ("NodBets$Foresight", "tellingLies", "[I", true)
  | 7 => ("NodBets$Foresight", "tellingNods", "[I", true)
  | _ => ("NodBets$Foresight", "tellingLength", "I", false)
def tyX2 : Nat → FieldType := fun k => match k with
  | 0 => .object "NodBets$Town"
  | 1 => .array (.object "NodBets$Mind")
  | 2 => .array .int
  | 3 => .array .int
  | 4 => .int
  | 5 => .int
  | 6 => .array .int
  | 7 => .array .int
  | _ => .int
abbrev wsX20 : List Cond := u_ws RX2 TX2 9
theorem nmX2 : ∀ a, a < 9 → ∀ b, b < 9 → a ≠ b → (TX2 a).2.1 ≠ (TX2 b).2.1 := by decide +kernel
theorem tyX2_ok : ∀ k, k < 9 → parseFieldDescriptor (TX2 k).2.2.1 = some (tyX2 k) := by decide +kernel
abbrev cX2_init : ByteArray := prog_4_method_1_code
def yX2_init : MethodName := ⟨RX2, "<init>", "(LNodBets$Town;)V"⟩
abbrev cX2_mindOf : ByteArray := prog_4_method_2_code
def yX2_mindOf : MethodName := ⟨RX2, "mindOf", "(I)LNodBets$Mind;"⟩
abbrev cX2_nodsNow : ByteArray := prog_4_method_3_code
def yX2_nodsNow : MethodName := ⟨RX2, "nodsNow", "(I)I"⟩
abbrev cX2_seekOrder : ByteArray := prog_4_method_4_code
def yX2_seekOrder : MethodName := ⟨RX2, "seekOrder", "(II)V"⟩
abbrev cX2_bestNods : ByteArray := prog_4_method_5_code
def yX2_bestNods : MethodName := ⟨RX2, "bestNods", "()I"⟩
abbrev cX2_bestAt : ByteArray := prog_4_method_6_code
def yX2_bestAt : MethodName := ⟨RX2, "bestAt", "(I)I"⟩
abbrev cX2_seekOrderFrom : ByteArray := prog_4_method_7_code
def yX2_seekOrderFrom : MethodName := ⟨RX2, "seekOrderFrom", "(III)V"⟩
abbrev cX2_keepBest : ByteArray := prog_4_method_8_code
def yX2_keepBest : MethodName := ⟨RX2, "keepBest", "(II)V"⟩
abbrev cX2_tryNext : ByteArray := prog_4_method_9_code
def yX2_tryNext : MethodName := ⟨RX2, "tryNext", "(II)Z"⟩
abbrev cX2_fewestAhead : ByteArray := prog_4_method_10_code
def yX2_fewestAhead : MethodName := ⟨RX2, "fewestAhead", "(II)I"⟩
abbrev cX2_firstAhead : ByteArray := prog_4_method_11_code
def yX2_firstAhead : MethodName := ⟨RX2, "firstAhead", "()I"⟩
abbrev cX2_comesInFrom : ByteArray := prog_4_method_12_code
def yX2_comesInFrom : MethodName := ⟨RX2, "comesInFrom", "(IIII)Z"⟩
abbrev cX2_deadLies : ByteArray := prog_4_method_13_code
def yX2_deadLies : MethodName := ⟨RX2, "deadLies", "(I)I"⟩
abbrev cX2_deadFrom : ByteArray := prog_4_method_14_code
def yX2_deadFrom : MethodName := ⟨RX2, "deadFrom", "(III)I"⟩
abbrev cX2_helpEachOther : ByteArray := prog_4_method_15_code
def yX2_helpEachOther : MethodName := ⟨RX2, "helpEachOther", "(III)Z"⟩
abbrev cX2_bringsIn : ByteArray := prog_4_method_16_code
def yX2_bringsIn : MethodName := ⟨RX2, "bringsIn", "(II)Z"⟩
abbrev cX2_takeTelling : ByteArray := prog_4_method_17_code
def yX2_takeTelling : MethodName := ⟨RX2, "takeTelling", "(LNodBets$Rows;III)Z"⟩
abbrev cX2_goesSo : ByteArray := prog_4_method_18_code
def yX2_goesSo : MethodName := ⟨RX2, "goesSo", "(III)Z"⟩
abbrev cX2_waysToNod : ByteArray := prog_4_method_19_code
def yX2_waysToNod : MethodName := ⟨RX2, "waysToNod", "(III)I"⟩
abbrev cX2_waysInAll : ByteArray := prog_4_method_20_code
def yX2_waysInAll : MethodName := ⟨RX2, "waysInAll", "()I"⟩
abbrev cX2_waysFrom : ByteArray := prog_4_method_21_code
def yX2_waysFrom : MethodName := ⟨RX2, "waysFrom", "(III)I"⟩
def RX3 : String := "NodBets$Kinds"
def TX3 : u_T := fun k => match k with
  | _ => ("", "", "", false)
def tyX3 : Nat → FieldType := fun k => match k with
  | _ => .int
abbrev wsX30 : List Cond := u_ws RX3 TX3 0
theorem nmX3 : ∀ a, a < 0 → ∀ b, b < 0 → a ≠ b → (TX3 a).2.1 ≠ (TX3 b).2.1 := by decide +kernel
theorem tyX3_ok : ∀ k, k < 0 → parseFieldDescriptor (TX3 k).2.2.1 = some (tyX3 k) := by decide +kernel
abbrev cX3_isKind : ByteArray := prog_5_method_2_code
def yX3_isKind : MethodName := ⟨RX3, "isKind", "(I)Z"⟩
abbrev cX3_isOne : ByteArray := prog_5_method_3_code
def yX3_isOne : MethodName := ⟨RX3, "isOne", "(II)Z"⟩
abbrev cX3_above : ByteArray := prog_5_method_4_code
def yX3_above : MethodName := ⟨RX3, "above", "(I)I"⟩
abbrev cX3_ofLetter : ByteArray := prog_5_method_5_code
def yX3_ofLetter : MethodName := ⟨RX3, "ofLetter", "(I)I"⟩
def RX4 : String := "NodBets$Mind"
def TX4 : u_T := fun k => match k with
  | 0 => ("NodBets$Mind", "trust", "I", false)
  | 1 => ("NodBets$Mind", "doubts", "I", false)
  | 2 => ("NodBets$Mind", "toldSoFar", "I", false)
  | _ => ("NodBets$Mind", "nodsOfTopic", "[I", true)
def tyX4 : Nat → FieldType := fun k => match k with
  | 0 => .int
  | 1 => .int
  | 2 => .int
  | _ => .array .int
abbrev wsX40 : List Cond := u_ws RX4 TX4 4
theorem nmX4 : ∀ a, a < 4 → ∀ b, b < 4 → a ≠ b → (TX4 a).2.1 ≠ (TX4 b).2.1 := by decide +kernel
theorem tyX4_ok : ∀ k, k < 4 → parseFieldDescriptor (TX4 k).2.2.1 = some (tyX4 k) := by decide +kernel
abbrev cX4_init : ByteArray := prog_6_method_1_code
def yX4_init : MethodName := ⟨RX4, "<init>", "()V"⟩
abbrev cX4_enter : ByteArray := prog_6_method_2_code
def yX4_enter : MethodName := ⟨RX4, "enter", "(LNodBets$Town;I)V"⟩
abbrev cX4_become : ByteArray := prog_6_method_3_code
def yX4_become : MethodName := ⟨RX4, "become", "(LNodBets$Mind;)V"⟩
abbrev cX4_needOf : ByteArray := prog_6_method_4_code
def yX4_needOf : MethodName := ⟨RX4, "needOf", "(LNodBets$Town;I)I"⟩
abbrev cX4_wouldNod : ByteArray := prog_6_method_5_code
def yX4_wouldNod : MethodName := ⟨RX4, "wouldNod", "(LNodBets$Town;I)Z"⟩
abbrev cX4_hear : ByteArray := prog_6_method_6_code
def yX4_hear : MethodName := ⟨RX4, "hear", "(LNodBets$Town;I)Z"⟩
abbrev cX4_hearAs : ByteArray := prog_6_method_7_code
def yX4_hearAs : MethodName := ⟨RX4, "hearAs", "(LNodBets$Town;IZ)V"⟩
abbrev cX4_dine : ByteArray := prog_6_method_8_code
def yX4_dine : MethodName := ⟨RX4, "dine", "()V"⟩
abbrev cX4_undoubtedNeed : ByteArray := prog_6_method_9_code
def yX4_undoubtedNeed : MethodName := ⟨RX4, "undoubtedNeed", "(III)I"⟩
abbrev cX4_proofNeed : ByteArray := prog_6_method_10_code
def yX4_proofNeed : MethodName := ⟨RX4, "proofNeed", "(II)I"⟩
def RX5 : String := "NodBets$Reader"
def TX5 : u_T := fun k => match k with
  | 0 => ("NodBets$Reader", "tape", "[I", true)
  | 1 => ("NodBets$Reader", "bytes", "I", false)
  | 2 => ("NodBets$Reader", "at", "I", false)
  | _ => ("NodBets$Reader", "latest", "I", false)
def tyX5 : Nat → FieldType := fun k => match k with
  | 0 => .array .int
  | 1 => .int
  | 2 => .int
  | _ => .int
abbrev wsX50 : List Cond := u_ws RX5 TX5 4
theorem nmX5 : ∀ a, a < 4 → ∀ b, b < 4 → a ≠ b → (TX5 a).2.1 ≠ (TX5 b).2.1 := by decide +kernel
theorem tyX5_ok : ∀ k, k < 4 → parseFieldDescriptor (TX5 k).2.2.1 = some (tyX5 k) := by decide +kernel
abbrev cX5_init : ByteArray := prog_7_method_1_code
def yX5_init : MethodName := ⟨RX5, "<init>", "()V"⟩
abbrev cX5_isFull : ByteArray := prog_7_method_2_code
def yX5_isFull : MethodName := ⟨RX5, "isFull", "()Z"⟩
abbrev cX5_append : ByteArray := prog_7_method_3_code
def yX5_append : MethodName := ⟨RX5, "append", "(I)I"⟩
abbrev cX5_length : ByteArray := prog_7_method_4_code
def yX5_length : MethodName := ⟨RX5, "length", "()I"⟩
abbrev cX5_faultPlace : ByteArray := prog_7_method_5_code
def yX5_faultPlace : MethodName := ⟨RX5, "faultPlace", "()I"⟩
abbrev cX5_latestFault : ByteArray := prog_7_method_6_code
def yX5_latestFault : MethodName := ⟨RX5, "latestFault", "()I"⟩
abbrev cX5_readInto : ByteArray := prog_7_method_7_code
def yX5_readInto : MethodName := ⟨RX5, "readInto", "(LNodBets$Town;)Z"⟩
abbrev cX5_readLaw : ByteArray := prog_7_method_8_code
def yX5_readLaw : MethodName := ⟨RX5, "readLaw", "(LNodBets$Town;)Z"⟩
abbrev cX5_readLies : ByteArray := prog_7_method_9_code
def yX5_readLies : MethodName := ⟨RX5, "readLies", "(LNodBets$Town;)Z"⟩
abbrev cX5_readStrangers : ByteArray := prog_7_method_10_code
def yX5_readStrangers : MethodName := ⟨RX5, "readStrangers", "(LNodBets$Town;)Z"⟩
abbrev cX5_readNumber : ByteArray := prog_7_method_11_code
def yX5_readNumber : MethodName := ⟨RX5, "readNumber", "(II)I"⟩
abbrev cX5_passed : ByteArray := prog_7_method_12_code
def yX5_passed : MethodName := ⟨RX5, "passed", "(I)Z"⟩
abbrev cX5_refuse : ByteArray := prog_7_method_13_code
def yX5_refuse : MethodName := ⟨RX5, "refuse", "(I)Z"⟩
abbrev cX5_here : ByteArray := prog_7_method_14_code
def yX5_here : MethodName := ⟨RX5, "here", "()I"⟩
abbrev cX5_byteAt : ByteArray := prog_7_method_15_code
def yX5_byteAt : MethodName := ⟨RX5, "byteAt", "(I)I"⟩
abbrev cX5_isFigure : ByteArray := prog_7_method_16_code
def yX5_isFigure : MethodName := ⟨RX5, "isFigure", "(I)Z"⟩
def RX6 : String := "NodBets$Rows"
def TX6 : u_T := fun k => match k with
  | 0 => ("NodBets$Rows", "lanes", "[I", true)
  | 1 => ("NodBets$Rows", "lengths", "[I", true)
  | _ => ("NodBets$Rows", "items", "[I", true)
def tyX6 : Nat → FieldType := fun k => match k with
  | 0 => .array .int
  | 1 => .array .int
  | _ => .array .int
abbrev wsX60 : List Cond := u_ws RX6 TX6 3
theorem nmX6 : ∀ a, a < 3 → ∀ b, b < 3 → a ≠ b → (TX6 a).2.1 ≠ (TX6 b).2.1 := by decide +kernel
theorem tyX6_ok : ∀ k, k < 3 → parseFieldDescriptor (TX6 k).2.2.1 = some (tyX6 k) := by decide +kernel
abbrev cX6_init : ByteArray := prog_8_method_1_code
def yX6_init : MethodName := ⟨RX6, "<init>", "()V"⟩
abbrev cX6_isRow : ByteArray := prog_8_method_2_code
def yX6_isRow : MethodName := ⟨RX6, "isRow", "(I)Z"⟩
abbrev cX6_isLane : ByteArray := prog_8_method_3_code
def yX6_isLane : MethodName := ⟨RX6, "isLane", "(I)Z"⟩
abbrev cX6_isMissing : ByteArray := prog_8_method_4_code
def yX6_isMissing : MethodName := ⟨RX6, "isMissing", "(I)Z"⟩
abbrev cX6_laneOf : ByteArray := prog_8_method_5_code
def yX6_laneOf : MethodName := ⟨RX6, "laneOf", "(I)I"⟩
abbrev cX6_hasPlaces : ByteArray := prog_8_method_6_code
def yX6_hasPlaces : MethodName := ⟨RX6, "hasPlaces", "(III)Z"⟩
abbrev cX6_make : ByteArray := prog_8_method_7_code
def yX6_make : MethodName := ⟨RX6, "make", "(III)V"⟩
abbrev cX6_put : ByteArray := prog_8_method_8_code
def yX6_put : MethodName := ⟨RX6, "put", "(III)I"⟩
abbrev cX6_itemAt : ByteArray := prog_8_method_9_code
def yX6_itemAt : MethodName := ⟨RX6, "itemAt", "(II)I"⟩
abbrev cX6_move : ByteArray := prog_8_method_10_code
def yX6_move : MethodName := ⟨RX6, "move", "(IIIII)V"⟩
abbrev cX6_remove : ByteArray := prog_8_method_11_code
def yX6_remove : MethodName := ⟨RX6, "remove", "(I)I"⟩
abbrev cX6_present : ByteArray := prog_8_method_12_code
def yX6_present : MethodName := ⟨RX6, "present", "()I"⟩
abbrev cX6_cutToLane : ByteArray := prog_8_method_13_code
def yX6_cutToLane : MethodName := ⟨RX6, "cutToLane", "(II)I"⟩
def RX7 : String := "NodBets$Town"
def TX7 : u_T := fun k => match k with
  | 0 => ("NodBets$Town", "stake", "I", false)
  | 1 => ("NodBets$Town", "purse", "I", false)
  | 2 => ("NodBets$Town", "lies", "I", false)
  | 3 => ("NodBets$Town", "strangers", "I", false)
  | 4 => ("NodBets$Town", "kinds", "[I", true)
  | 5 => ("NodBets$Town", "weights", "[I", true)
  | 6 => ("NodBets$Town", "topics", "[I", true)
  | 7 => ("NodBets$Town", "trusts", "[I", true)
  | 8 => ("NodBets$Town", "doubts", "[I", true)
  | 9 => ("NodBets$Town", "told", "[I", true)
  | _ => ("NodBets$Town", "nodded", "[I", true)
def tyX7 : Nat → FieldType := fun k => match k with
  | 0 => .int
  | 1 => .int
  | 2 => .int
  | 3 => .int
  | 4 => .array .int
  | 5 => .array .int
  | 6 => .array .int
  | 7 => .array .int
  | 8 => .array .int
  | 9 => .array .int
  | _ => .array .int
abbrev wsX70 : List Cond := u_ws RX7 TX7 11
theorem nmX7 : ∀ a, a < 11 → ∀ b, b < 11 → a ≠ b → (TX7 a).2.1 ≠ (TX7 b).2.1 := by decide +kernel
theorem tyX7_ok : ∀ k, k < 11 → parseFieldDescriptor (TX7 k).2.2.1 = some (tyX7 k) := by decide +kernel
abbrev cX7_init : ByteArray := prog_9_method_1_code
def yX7_init : MethodName := ⟨RX7, "<init>", "()V"⟩
abbrev cX7_stands : ByteArray := prog_9_method_2_code
def yX7_stands : MethodName := ⟨RX7, "stands", "()Z"⟩
abbrev cX7_hasLie : ByteArray := prog_9_method_3_code
def yX7_hasLie : MethodName := ⟨RX7, "hasLie", "(I)Z"⟩
abbrev cX7_hasStranger : ByteArray := prog_9_method_4_code
def yX7_hasStranger : MethodName := ⟨RX7, "hasStranger", "(I)Z"⟩
abbrev cX7_isSetOfLies : ByteArray := prog_9_method_5_code
def yX7_isSetOfLies : MethodName := ⟨RX7, "isSetOfLies", "(I)Z"⟩
abbrev cX7_wasTold : ByteArray := prog_9_method_6_code
def yX7_wasTold : MethodName := ⟨RX7, "wasTold", "(II)Z"⟩
abbrev cX7_untold : ByteArray := prog_9_method_7_code
def yX7_untold : MethodName := ⟨RX7, "untold", "(I)I"⟩
abbrev cX7_strangersWith : ByteArray := prog_9_method_8_code
def yX7_strangersWith : MethodName := ⟨RX7, "strangersWith", "([II)I"⟩
abbrev cX7_begin : ByteArray := prog_9_method_9_code
def yX7_begin : MethodName := ⟨RX7, "begin", "(I)V"⟩
abbrev cX7_addLie : ByteArray := prog_9_method_10_code
def yX7_addLie : MethodName := ⟨RX7, "addLie", "(III)V"⟩
abbrev cX7_addStranger : ByteArray := prog_9_method_11_code
def yX7_addStranger : MethodName := ⟨RX7, "addStranger", "(II)V"⟩
abbrev cX7_become : ByteArray := prog_9_method_12_code
def yX7_become : MethodName := ⟨RX7, "become", "(LNodBets$Town;)V"⟩
abbrev cX7_noteTold : ByteArray := prog_9_method_13_code
def yX7_noteTold : MethodName := ⟨RX7, "noteTold", "(IIZI)V"⟩
abbrev cX7_noteSupper : ByteArray := prog_9_method_14_code
def yX7_noteSupper : MethodName := ⟨RX7, "noteSupper", "(II)V"⟩
abbrev cX7_noteForgotten : ByteArray := prog_9_method_15_code
def yX7_noteForgotten : MethodName := ⟨RX7, "noteForgotten", "(II)V"⟩
def RX8 : String := "NodBets"
def TX8 : u_T := fun k => match k with
  | 0 => ("NodBets", "rows", "LNodBets$Rows;", true)
  | 1 => ("NodBets", "reader", "LNodBets$Reader;", true)
  | 2 => ("NodBets", "current", "LNodBets$Town;", true)
  | 3 => ("NodBets", "draft", "LNodBets$Town;", true)
  | 4 => ("NodBets", "images", "[LNodBets$Town;", true)
  | 5 => ("NodBets", "acts", "LNodBets$Acts;", true)
  | 6 => ("NodBets", "foresight", "LNodBets$Foresight;", true)
  | 7 => ("NodBets", "asks", "LNodBets$Asks;", true)
  | _ => ("NodBets", "latestFinding", "I", false)
def tyX8 : Nat → FieldType := fun k => match k with
  | 0 => .object "NodBets$Rows"
  | 1 => .object "NodBets$Reader"
  | 2 => .object "NodBets$Town"
  | 3 => .object "NodBets$Town"
  | 4 => .array (.object "NodBets$Town")
  | 5 => .object "NodBets$Acts"
  | 6 => .object "NodBets$Foresight"
  | 7 => .object "NodBets$Asks"
  | _ => .int
abbrev wsX80 : List Cond := u_ws RX8 TX8 9
theorem nmX8 : ∀ a, a < 9 → ∀ b, b < 9 → a ≠ b → (TX8 a).2.1 ≠ (TX8 b).2.1 := by decide +kernel
theorem tyX8_ok : ∀ k, k < 9 → parseFieldDescriptor (TX8 k).2.2.1 = some (tyX8 k) := by decide +kernel
abbrev cX8_init : ByteArray := prog_1_method_1_code
def yX8_init : MethodName := ⟨RX8, "<init>", "()V"⟩
abbrev cX8_row : ByteArray := prog_1_method_2_code
def yX8_row : MethodName := ⟨RX8, "row", "(III)I"⟩
abbrev cX8_set : ByteArray := prog_1_method_3_code
def yX8_set : MethodName := ⟨RX8, "set", "(III)I"⟩
abbrev cX8_copy : ByteArray := prog_1_method_4_code
def yX8_copy : MethodName := ⟨RX8, "copy", "(IIIII)I"⟩
abbrev cX8_drop : ByteArray := prog_1_method_5_code
def yX8_drop : MethodName := ⟨RX8, "drop", "(I)I"⟩
abbrev cX8_feed : ByteArray := prog_1_method_6_code
def yX8_feed : MethodName := ⟨RX8, "feed", "(I)I"⟩
abbrev cX8_town : ByteArray := prog_1_method_7_code
def yX8_town : MethodName := ⟨RX8, "town", "()I"⟩
abbrev cX8_fault : ByteArray := prog_1_method_8_code
def yX8_fault : MethodName := ⟨RX8, "fault", "()I"⟩
abbrev cX8_tell : ByteArray := prog_1_method_9_code
def yX8_tell : MethodName := ⟨RX8, "tell", "(II)I"⟩
abbrev cX8_supper : ByteArray := prog_1_method_10_code
def yX8_supper : MethodName := ⟨RX8, "supper", "(I)I"⟩
abbrev cX8_forget : ByteArray := prog_1_method_11_code
def yX8_forget : MethodName := ⟨RX8, "forget", "(II)I"⟩
abbrev cX8_undo : ByteArray := prog_1_method_12_code
def yX8_undo : MethodName := ⟨RX8, "undo", "()I"⟩
abbrev cX8_lie : ByteArray := prog_1_method_13_code
def yX8_lie : MethodName := ⟨RX8, "lie", "(II)I"⟩
abbrev cX8_stranger : ByteArray := prog_1_method_14_code
def yX8_stranger : MethodName := ⟨RX8, "stranger", "(II)I"⟩
abbrev cX8_need : ByteArray := prog_1_method_15_code
def yX8_need : MethodName := ⟨RX8, "need", "(II)I"⟩
abbrev cX8_nods : ByteArray := prog_1_method_16_code
def yX8_nods : MethodName := ⟨RX8, "nods", "(I)I"⟩
abbrev cX8_order : ByteArray := prog_1_method_17_code
def yX8_order : MethodName := ⟨RX8, "order", "(III)I"⟩
abbrev cX8_comesIn : ByteArray := prog_1_method_18_code
def yX8_comesIn : MethodName := ⟨RX8, "comesIn", "(III)I"⟩
abbrev cX8_dead : ByteArray := prog_1_method_19_code
def yX8_dead : MethodName := ⟨RX8, "dead", "(I)I"⟩
abbrev cX8_help : ByteArray := prog_1_method_20_code
def yX8_help : MethodName := ⟨RX8, "help", "(II)I"⟩
abbrev cX8_suppers : ByteArray := prog_1_method_21_code
def yX8_suppers : MethodName := ⟨RX8, "suppers", "(II)I"⟩
abbrev cX8_doubted : ByteArray := prog_1_method_22_code
def yX8_doubted : MethodName := ⟨RX8, "doubted", "(IIIII)I"⟩
abbrev cX8_trusted : ByteArray := prog_1_method_23_code
def yX8_trusted : MethodName := ⟨RX8, "trusted", "(IIII)I"⟩
abbrev cX8_who : ByteArray := prog_1_method_24_code
def yX8_who : MethodName := ⟨RX8, "who", "(III)I"⟩
abbrev cX8_odds : ByteArray := prog_1_method_25_code
def yX8_odds : MethodName := ⟨RX8, "odds", "(IIIIIII)I"⟩
abbrev cX8_image : ByteArray := prog_1_method_26_code
def yX8_image : MethodName := ⟨RX8, "image", "(I)I"⟩
abbrev cX8_restore : ByteArray := prog_1_method_27_code
def yX8_restore : MethodName := ⟨RX8, "restore", "(I)I"⟩
abbrev cX8_kind : ByteArray := prog_1_method_28_code
def yX8_kind : MethodName := ⟨RX8, "kind", "(I)I"⟩
abbrev cX8_as : ByteArray := prog_1_method_29_code
def yX8_as : MethodName := ⟨RX8, "as", "(II)I"⟩
abbrev cX8_ask : ByteArray := prog_1_method_30_code
def yX8_ask : MethodName := ⟨RX8, "ask", "(II)I"⟩
abbrev cX8_trace : ByteArray := prog_1_method_31_code
def yX8_trace : MethodName := ⟨RX8, "trace", "(I)I"⟩
abbrev cX8_count : ByteArray := prog_1_method_32_code
def yX8_count : MethodName := ⟨RX8, "count", "(I)I"⟩
abbrev cX8_status : ByteArray := prog_1_method_33_code
def yX8_status : MethodName := ⟨RX8, "status", "()I"⟩
abbrev cX8_found : ByteArray := prog_1_method_34_code
def yX8_found : MethodName := ⟨RX8, "found", "(I)I"⟩
abbrev cX8_unfound : ByteArray := prog_1_method_35_code
def yX8_unfound : MethodName := ⟨RX8, "unfound", "(I)I"⟩
abbrev cX8_isTelling : ByteArray := prog_1_method_36_code
def yX8_isTelling : MethodName := ⟨RX8, "isTelling", "(II)Z"⟩
abbrev cX8_takeTelling : ByteArray := prog_1_method_37_code
def yX8_takeTelling : MethodName := ⟨RX8, "takeTelling", "(III)I"⟩
abbrev cX8_commonDivisor : ByteArray := prog_1_method_38_code
def yX8_commonDivisor : MethodName := ⟨RX8, "commonDivisor", "(II)I"⟩
def RX9 : String := "NodBetsModel"
def TX9 : u_T := fun k => match k with
  | 0 => ("NodBetsModel", "lane", "[I", true)
  | 1 => ("NodBetsModel", "many", "[I", true)
  | 2 => ("NodBetsModel", "items", "[I", true)
  | 3 => ("NodBetsModel", "spare", "[I", true)
  | 4 => ("NodBetsModel", "status", "I", false)
  | 5 => ("NodBetsModel", "tape", "[I", true)
  | 6 => ("NodBetsModel", "taped", "I", false)
  | 7 => ("NodBetsModel", "faultKind", "I", false)
  | 8 => ("NodBetsModel", "faultPlace", "I", false)
  | 9 => ("NodBetsModel", "at", "I", false)
  | 10 => ("NodBetsModel", "start", "I", false)
  | 11 => ("NodBetsModel", "token", "I", false)
  | 12 => ("NodBetsModel", "value", "I", false)
  | 13 => ("NodBetsModel", "now", "[I", true)
  | 14 => ("NodBetsModel", "draft", "[I", true)
  | 15 => ("NodBetsModel", "past", "[I", true)
  | 16 => ("NodBetsModel", "acts", "I", false)
  | 17 => ("NodBetsModel", "images", "[I", true)
  | 18 => ("NodBetsModel", "kept", "[Z", true)
  | 19 => ("NodBetsModel", "trace", "[I", true)
  | 20 => ("NodBetsModel", "traced", "I", false)
  | 21 => ("NodBetsModel", "trust", "I", false)
  | 22 => ("NodBetsModel", "doubts", "I", false)
  | 23 => ("NodBetsModel", "heard", "I", false)
  | 24 => ("NodBetsModel", "nodded", "[I", true)
  | 25 => ("NodBetsModel", "row", "[I", true)
  | 26 => ("NodBetsModel", "best", "[I", true)
  | _ => ("NodBetsModel", "most", "I", false)
def tyX9 : Nat → FieldType := fun k => match k with
  | 0 => .array .int
  | 1 => .array .int
  | 2 => .array .int
  | 3 => .array .int
  | 4 => .int
  | 5 => .array .int
  | 6 => .int
  | 7 => .int
  | 8 => .int
  | 9 => .int
  | 10 => .int
  | 11 => .int
  | 12 => .int
  | 13 => .array .int
  | 14 => .array .int
  | 15 => .array .int
  | 16 => .int
  | 17 => .array .int
  | 18 => .array .boolean
  | 19 => .array .int
  | 20 => .int
  | 21 => .int
  | 22 => .int
  | 23 => .int
  | 24 => .array .int
  | 25 => .array .int
  | 26 => .array .int
  | _ => .int
abbrev wsX90 : List Cond := u_ws RX9 TX9 28
theorem nmX9 : ∀ a, a < 28 → ∀ b, b < 28 → a ≠ b → (TX9 a).2.1 ≠ (TX9 b).2.1 := by decide +kernel
theorem tyX9_ok : ∀ k, k < 28 → parseFieldDescriptor (TX9 k).2.2.1 = some (tyX9 k) := by decide +kernel
abbrev cX9_init : ByteArray := prog_11_method_1_code
def yX9_init : MethodName := ⟨RX9, "<init>", "()V"⟩
abbrev cX9_in : ByteArray := prog_11_method_3_code
def yX9_in : MethodName := ⟨RX9, "in", "(III)Z"⟩
abbrev cX9_has : ByteArray := prog_11_method_4_code
def yX9_has : MethodName := ⟨RX9, "has", "(II)Z"⟩
abbrev cX9_ones : ByteArray := prog_11_method_5_code
def yX9_ones : MethodName := ⟨RX9, "ones", "(I)I"⟩
abbrev cX9_found : ByteArray := prog_11_method_6_code
def yX9_found : MethodName := ⟨RX9, "found", "(I)I"⟩
abbrev cX9_well : ByteArray := prog_11_method_7_code
def yX9_well : MethodName := ⟨RX9, "well", "(I)I"⟩
abbrev cX9_copies : ByteArray := prog_11_method_8_code
def yX9_copies : MethodName := ⟨RX9, "copies", "([II[II)V"⟩
abbrev cX9_isRow : ByteArray := prog_11_method_9_code
def yX9_isRow : MethodName := ⟨RX9, "isRow", "(I)Z"⟩
abbrev cX9_isMissing : ByteArray := prog_11_method_10_code
def yX9_isMissing : MethodName := ⟨RX9, "isMissing", "(I)Z"⟩
abbrev cX9_cut : ByteArray := prog_11_method_11_code
def yX9_cut : MethodName := ⟨RX9, "cut", "(II)I"⟩
abbrev cX9_row : ByteArray := prog_11_method_12_code
def yX9_row : MethodName := ⟨RX9, "row", "(III)I"⟩
abbrev cX9_set : ByteArray := prog_11_method_13_code
def yX9_set : MethodName := ⟨RX9, "set", "(III)I"⟩
abbrev cX9_isPart : ByteArray := prog_11_method_14_code
def yX9_isPart : MethodName := ⟨RX9, "isPart", "(III)Z"⟩
abbrev cX9_copy : ByteArray := prog_11_method_15_code
def yX9_copy : MethodName := ⟨RX9, "copy", "(IIIII)I"⟩
abbrev cX9_drop : ByteArray := prog_11_method_16_code
def yX9_drop : MethodName := ⟨RX9, "drop", "(I)I"⟩
abbrev cX9_feed : ByteArray := prog_11_method_17_code
def yX9_feed : MethodName := ⟨RX9, "feed", "(I)I"⟩
abbrev cX9_byteAt : ByteArray := prog_11_method_18_code
def yX9_byteAt : MethodName := ⟨RX9, "byteAt", "(I)I"⟩
abbrev cX9_advances : ByteArray := prog_11_method_19_code
def yX9_advances : MethodName := ⟨RX9, "advances", "()V"⟩
abbrev cX9_isWell : ByteArray := prog_11_method_20_code
def yX9_isWell : MethodName := ⟨RX9, "isWell", "()Z"⟩
abbrev cX9_takes : ByteArray := prog_11_method_21_code
def yX9_takes : MethodName := ⟨RX9, "takes", "(ZI)I"⟩
abbrev cX9_figure : ByteArray := prog_11_method_22_code
def yX9_figure : MethodName := ⟨RX9, "figure", "(II)I"⟩
abbrev cX9_kindOf : ByteArray := prog_11_method_23_code
def yX9_kindOf : MethodName := ⟨RX9, "kindOf", "(I)I"⟩
abbrev cX9_next : ByteArray := prog_11_method_24_code
def yX9_next : MethodName := ⟨RX9, "next", "(II)I"⟩
abbrev cX9_readsLie : ByteArray := prog_11_method_25_code
def yX9_readsLie : MethodName := ⟨RX9, "readsLie", "()V"⟩
abbrev cX9_readsStranger : ByteArray := prog_11_method_26_code
def yX9_readsStranger : MethodName := ⟨RX9, "readsStranger", "()V"⟩
abbrev cX9_town : ByteArray := prog_11_method_27_code
def yX9_town : MethodName := ⟨RX9, "town", "()I"⟩
abbrev cX9_fault : ByteArray := prog_11_method_28_code
def yX9_fault : MethodName := ⟨RX9, "fault", "()I"⟩
abbrev cX9_isTown : ByteArray := prog_11_method_29_code
def yX9_isTown : MethodName := ⟨RX9, "isTown", "()Z"⟩
abbrev cX9_isLie : ByteArray := prog_11_method_30_code
def yX9_isLie : MethodName := ⟨RX9, "isLie", "(I)Z"⟩
abbrev cX9_isStranger : ByteArray := prog_11_method_31_code
def yX9_isStranger : MethodName := ⟨RX9, "isStranger", "(I)Z"⟩
abbrev cX9_tries : ByteArray := prog_11_method_32_code
def yX9_tries : MethodName := ⟨RX9, "tries", "(I)V"⟩
abbrev cX9_needs : ByteArray := prog_11_method_33_code
def yX9_needs : MethodName := ⟨RX9, "needs", "(I)I"⟩
abbrev cX9_wouldNod : ByteArray := prog_11_method_34_code
def yX9_wouldNod : MethodName := ⟨RX9, "wouldNod", "(I)Z"⟩
abbrev cX9_hears : ByteArray := prog_11_method_35_code
def yX9_hears : MethodName := ⟨RX9, "hears", "(IZ)V"⟩
abbrev cX9_notes : ByteArray := prog_11_method_36_code
def yX9_notes : MethodName := ⟨RX9, "notes", "()V"⟩
abbrev cX9_wasTold : ByteArray := prog_11_method_37_code
def yX9_wasTold : MethodName := ⟨RX9, "wasTold", "(II)Z"⟩
abbrev cX9_tell : ByteArray := prog_11_method_38_code
def yX9_tell : MethodName := ⟨RX9, "tell", "(II)I"⟩
abbrev cX9_supper : ByteArray := prog_11_method_39_code
def yX9_supper : MethodName := ⟨RX9, "supper", "(I)I"⟩
abbrev cX9_forget : ByteArray := prog_11_method_40_code
def yX9_forget : MethodName := ⟨RX9, "forget", "(II)I"⟩
abbrev cX9_undo : ByteArray := prog_11_method_41_code
def yX9_undo : MethodName := ⟨RX9, "undo", "()I"⟩
abbrev cX9_strangersWith : ByteArray := prog_11_method_42_code
def yX9_strangersWith : MethodName := ⟨RX9, "strangersWith", "(II)I"⟩
abbrev cX9_noddedAt : ByteArray := prog_11_method_43_code
def yX9_noddedAt : MethodName := ⟨RX9, "noddedAt", "(I)I"⟩
abbrev cX9_lie : ByteArray := prog_11_method_44_code
def yX9_lie : MethodName := ⟨RX9, "lie", "(II)I"⟩
abbrev cX9_stranger : ByteArray := prog_11_method_45_code
def yX9_stranger : MethodName := ⟨RX9, "stranger", "(II)I"⟩
abbrev cX9_need : ByteArray := prog_11_method_46_code
def yX9_need : MethodName := ⟨RX9, "need", "(II)I"⟩
abbrev cX9_untold : ByteArray := prog_11_method_47_code
def yX9_untold : MethodName := ⟨RX9, "untold", "(I)I"⟩
abbrev cX9_nods : ByteArray := prog_11_method_48_code
def yX9_nods : MethodName := ⟨RX9, "nods", "(I)I"⟩
abbrev cX9_nodsAt : ByteArray := prog_11_method_49_code
def yX9_nodsAt : MethodName := ⟨RX9, "nodsAt", "(II)I"⟩
abbrev cX9_goesOn : ByteArray := prog_11_method_50_code
def yX9_goesOn : MethodName := ⟨RX9, "goesOn", "(II)Z"⟩
abbrev cX9_fills : ByteArray := prog_11_method_51_code
def yX9_fills : MethodName := ⟨RX9, "fills", "(IIII)V"⟩
abbrev cX9_order : ByteArray := prog_11_method_52_code
def yX9_order : MethodName := ⟨RX9, "order", "(III)I"⟩
abbrev cX9_aheadOf : ByteArray := prog_11_method_53_code
def yX9_aheadOf : MethodName := ⟨RX9, "aheadOf", "(II)I"⟩
abbrev cX9_comesIn : ByteArray := prog_11_method_54_code
def yX9_comesIn : MethodName := ⟨RX9, "comesIn", "(III)I"⟩
abbrev cX9_dead : ByteArray := prog_11_method_55_code
def yX9_dead : MethodName := ⟨RX9, "dead", "(I)I"⟩
abbrev cX9_helps : ByteArray := prog_11_method_56_code
def yX9_helps : MethodName := ⟨RX9, "helps", "(III)Z"⟩
abbrev cX9_help : ByteArray := prog_11_method_57_code
def yX9_help : MethodName := ⟨RX9, "help", "(II)I"⟩
abbrev cX9_suppers : ByteArray := prog_11_method_58_code
def yX9_suppers : MethodName := ⟨RX9, "suppers", "(II)I"⟩
abbrev cX9_wrongIn : ByteArray := prog_11_method_59_code
def yX9_wrongIn : MethodName := ⟨RX9, "wrongIn", "(III)I"⟩
abbrev cX9_goesSo : ByteArray := prog_11_method_60_code
def yX9_goesSo : MethodName := ⟨RX9, "goesSo", "(II)Z"⟩
abbrev cX9_doubted : ByteArray := prog_11_method_61_code
def yX9_doubted : MethodName := ⟨RX9, "doubted", "(IIIII)I"⟩
abbrev cX9_trusted : ByteArray := prog_11_method_62_code
def yX9_trusted : MethodName := ⟨RX9, "trusted", "(IIII)I"⟩
abbrev cX9_who : ByteArray := prog_11_method_63_code
def yX9_who : MethodName := ⟨RX9, "who", "(III)I"⟩
abbrev cX9_goesBy : ByteArray := prog_11_method_64_code
def yX9_goesBy : MethodName := ⟨RX9, "goesBy", "(IIIII)J"⟩
abbrev cX9_odds : ByteArray := prog_11_method_65_code
def yX9_odds : MethodName := ⟨RX9, "odds", "(IIIIIII)I"⟩
abbrev cX9_image : ByteArray := prog_11_method_66_code
def yX9_image : MethodName := ⟨RX9, "image", "(I)I"⟩
abbrev cX9_restore : ByteArray := prog_11_method_67_code
def yX9_restore : MethodName := ⟨RX9, "restore", "(I)I"⟩
abbrev cX9_kindIn : ByteArray := prog_11_method_68_code
def yX9_kindIn : MethodName := ⟨RX9, "kindIn", "(I)I"⟩
abbrev cX9_kind : ByteArray := prog_11_method_69_code
def yX9_kind : MethodName := ⟨RX9, "kind", "(I)I"⟩
abbrev cX9_as : ByteArray := prog_11_method_70_code
def yX9_as : MethodName := ⟨RX9, "as", "(II)I"⟩
abbrev cX9_begins : ByteArray := prog_11_method_71_code
def yX9_begins : MethodName := ⟨RX9, "begins", "(I)V"⟩
abbrev cX9_easyMark : ByteArray := prog_11_method_72_code
def yX9_easyMark : MethodName := ⟨RX9, "easyMark", "(I)I"⟩
abbrev cX9_proofSize : ByteArray := prog_11_method_73_code
def yX9_proofSize : MethodName := ⟨RX9, "proofSize", "(I)I"⟩
abbrev cX9_easySize : ByteArray := prog_11_method_74_code
def yX9_easySize : MethodName := ⟨RX9, "easySize", "(I)I"⟩
abbrev cX9_proofMark : ByteArray := prog_11_method_75_code
def yX9_proofMark : MethodName := ⟨RX9, "proofMark", "(I)I"⟩
abbrev cX9_ask : ByteArray := prog_11_method_76_code
def yX9_ask : MethodName := ⟨RX9, "ask", "(II)I"⟩
abbrev cX9_trace : ByteArray := prog_11_method_77_code
def yX9_trace : MethodName := ⟨RX9, "trace", "(I)I"⟩
abbrev cX9_count : ByteArray := prog_11_method_78_code
def yX9_count : MethodName := ⟨RX9, "count", "(I)I"⟩
abbrev cX9_status : ByteArray := prog_11_method_79_code
def yX9_status : MethodName := ⟨RX9, "status", "()I"⟩
def RJ6 : String := "java/lang/Integer"
def TJ6 : u_T := fun k => match k with
  | _ => ("", "", "", false)
def tyJ6 : Nat → FieldType := fun k => match k with
  | _ => .int
abbrev wsJ60 : List Cond := u_ws RJ6 TJ6 0
theorem nmJ6 : ∀ a, a < 0 → ∀ b, b < 0 → a ≠ b → (TJ6 a).2.1 ≠ (TJ6 b).2.1 := by decide +kernel
theorem tyJ6_ok : ∀ k, k < 0 → parseFieldDescriptor (TJ6 k).2.2.1 = some (tyJ6 k) := by decide +kernel
abbrev cJ6_bitCount_0f7a4 : ByteArray := prog_12_method_49_code
def yJ6_bitCount_0f7a4 : MethodName := ⟨RJ6, "bitCount", "(I)I"⟩
def RJ9 : String := "java/lang/Math"
def TJ9 : u_T := fun k => match k with
  | _ => ("", "", "", false)
def tyJ9 : Nat → FieldType := fun k => match k with
  | _ => .int
abbrev wsJ90 : List Cond := u_ws RJ9 TJ9 0
theorem nmJ9 : ∀ a, a < 0 → ∀ b, b < 0 → a ≠ b → (TJ9 a).2.1 ≠ (TJ9 b).2.1 := by decide +kernel
theorem tyJ9_ok : ∀ k, k < 0 → parseFieldDescriptor (TJ9 k).2.2.1 = some (tyJ9 k) := by decide +kernel
abbrev cJ9_max_7cf53 : ByteArray := prog_13_method_65_code
def yJ9_max_7cf53 : MethodName := ⟨RJ9, "max", "(II)I"⟩
abbrev cJ9_min_7cf53 : ByteArray := prog_13_method_69_code
def yJ9_min_7cf53 : MethodName := ⟨RJ9, "min", "(II)I"⟩
def RJ10 : String := "java/lang/System"
def TJ10 : u_T := fun k => match k with
  | _ => ("", "", "", false)
def tyJ10 : Nat → FieldType := fun k => match k with
  | _ => .int
abbrev wsJ100 : List Cond := u_ws RJ10 TJ10 0
theorem nmJ10 : ∀ a, a < 0 → ∀ b, b < 0 → a ≠ b → (TJ10 a).2.1 ≠ (TJ10 b).2.1 := by decide +kernel
theorem tyJ10_ok : ∀ k, k < 0 → parseFieldDescriptor (TJ10 k).2.2.1 = some (tyJ10 k) := by decide +kernel
def RL : String := "NodBetsLaw"
abbrev cL_law : ByteArray := code
def yL_law : MethodName := ⟨RL, "law", "([I)Z"⟩
abbrev vwCl : List vw_C := [(RX0, TX0, 7), (RX1, TX1, 3), (RX2, TX2, 9), (RX4, TX4, 4), (RX5, TX5, 4), (RX6, TX6, 3), (RX7, TX7, 11), (RX8, TX8, 9), (RX9, TX9, 28)]
end
section
theorem dX0_init_0 : decode cX0_init 0 = .ok (.aload_n 0, 1) := by decide +kernel
theorem dX0_init_1 : decode cX0_init 1 = .ok (.invokespecial 1, 3) := by decide +kernel
theorem dX0_init_4 : decode cX0_init 4 = .ok (.aload_n 0, 1) := by decide +kernel
theorem dX0_init_5 : decode cX0_init 5 = .ok (.bipush 24, 2) := by decide +kernel
theorem dX0_init_7 : decode cX0_init 7 = .ok (.newarray .int, 2) := by decide +kernel
theorem dX0_init_9 : decode cX0_init 9 = .ok (.putfield 9, 3) := by decide +kernel
theorem dX0_init_12 : decode cX0_init 12 = .ok (.aload_n 0, 1) := by decide +kernel
theorem dX0_init_13 : decode cX0_init 13 = .ok (.bipush 24, 2) := by decide +kernel
theorem dX0_init_15 : decode cX0_init 15 = .ok (.newarray .int, 2) := by decide +kernel
theorem dX0_init_17 : decode cX0_init 17 = .ok (.putfield 13, 3) := by decide +kernel
theorem dX0_init_20 : decode cX0_init 20 = .ok (.aload_n 0, 1) := by decide +kernel
theorem dX0_init_21 : decode cX0_init 21 = .ok (.bipush 24, 2) := by decide +kernel
theorem dX0_init_23 : decode cX0_init 23 = .ok (.newarray .int, 2) := by decide +kernel
theorem dX0_init_25 : decode cX0_init 25 = .ok (.putfield 16, 3) := by decide +kernel
theorem dX0_init_28 : decode cX0_init 28 = .ok (.aload_n 0, 1) := by decide +kernel
theorem dX0_init_29 : decode cX0_init 29 = .ok (.bipush 24, 2) := by decide +kernel
theorem dX0_init_31 : decode cX0_init 31 = .ok (.newarray .int, 2) := by decide +kernel
theorem dX0_init_33 : decode cX0_init 33 = .ok (.putfield 19, 3) := by decide +kernel
theorem dX0_init_36 : decode cX0_init 36 = .ok (.aload_n 0, 1) := by decide +kernel
theorem dX0_init_37 : decode cX0_init 37 = .ok (.bipush 24, 2) := by decide +kernel
theorem dX0_init_39 : decode cX0_init 39 = .ok (.newarray .int, 2) := by decide +kernel
theorem dX0_init_41 : decode cX0_init 41 = .ok (.putfield 22, 3) := by decide +kernel
theorem dX0_init_44 : decode cX0_init 44 = .ok (.aload_n 0, 1) := by decide +kernel
theorem dX0_init_45 : decode cX0_init 45 = .ok (.iconst 0, 1) := by decide +kernel
theorem dX0_init_46 : decode cX0_init 46 = .ok (.putfield 25, 3) := by decide +kernel
theorem dX0_init_49 : decode cX0_init 49 = .ok (.aload_n 0, 1) := by decide +kernel
theorem dX0_init_50 : decode cX0_init 50 = .ok (.iconst 0, 1) := by decide +kernel
theorem dX0_init_51 : decode cX0_init 51 = .ok (.putfield 29, 3) := by decide +kernel
theorem dX0_init_54 : decode cX0_init 54 = .ok (.return_, 1) := by decide +kernel
theorem dX0_kept_0 : decode cX0_kept 0 = .ok (.aload_n 0, 1) := by decide +kernel
theorem dX0_kept_1 : decode cX0_kept 1 = .ok (.getfield 29, 3) := by decide +kernel
theorem dX0_kept_4 : decode cX0_kept 4 = .ok (.ireturn, 1) := by decide +kernel
theorem dX0_clear_0 : decode cX0_clear 0 = .ok (.aload_n 0, 1) := by decide +kernel
theorem dX0_clear_1 : decode cX0_clear 1 = .ok (.iconst 0, 1) := by decide +kernel
theorem dX0_clear_2 : decode cX0_clear 2 = .ok (.putfield 29, 3) := by decide +kernel
theorem dX0_clear_5 : decode cX0_clear 5 = .ok (.return_, 1) := by decide +kernel
theorem dX0_keepAhead_0 : decode cX0_keepAhead 0 = .ok (.aload_n 0, 1) := by decide +kernel
theorem dX0_keepAhead_1 : decode cX0_keepAhead 1 = .ok (.getfield 9, 3) := by decide +kernel
theorem dX0_keepAhead_4 : decode cX0_keepAhead 4 = .ok (.aload_n 0, 1) := by decide +kernel
theorem dX0_keepAhead_5 : decode cX0_keepAhead 5 = .ok (.getfield 25, 3) := by decide +kernel
theorem dX0_keepAhead_8 : decode cX0_keepAhead 8 = .ok (.iload_n 2, 1) := by decide +kernel
theorem dX0_keepAhead_9 : decode cX0_keepAhead 9 = .ok (.iastore, 1) := by decide +kernel
theorem dX0_keepAhead_10 : decode cX0_keepAhead 10 = .ok (.aload_n 0, 1) := by decide +kernel
theorem dX0_keepAhead_11 : decode cX0_keepAhead 11 = .ok (.getfield 13, 3) := by decide +kernel
theorem dX0_keepAhead_14 : decode cX0_keepAhead 14 = .ok (.aload_n 0, 1) := by decide +kernel
theorem dX0_keepAhead_15 : decode cX0_keepAhead 15 = .ok (.getfield 25, 3) := by decide +kernel
theorem dX0_keepAhead_18 : decode cX0_keepAhead 18 = .ok (.aload_n 1, 1) := by decide +kernel
theorem dX0_keepAhead_19 : decode cX0_keepAhead 19 = .ok (.getfield 32, 3) := by decide +kernel
theorem dX0_keepAhead_22 : decode cX0_keepAhead 22 = .ok (.iload_n 2, 1) := by decide +kernel
theorem dX0_keepAhead_23 : decode cX0_keepAhead 23 = .ok (.iaload, 1) := by decide +kernel
theorem dX0_keepAhead_24 : decode cX0_keepAhead 24 = .ok (.iastore, 1) := by decide +kernel
theorem dX0_keepAhead_25 : decode cX0_keepAhead 25 = .ok (.aload_n 0, 1) := by decide +kernel
theorem dX0_keepAhead_26 : decode cX0_keepAhead 26 = .ok (.getfield 16, 3) := by decide +kernel
theorem dX0_keepAhead_29 : decode cX0_keepAhead 29 = .ok (.aload_n 0, 1) := by decide +kernel
theorem dX0_keepAhead_30 : decode cX0_keepAhead 30 = .ok (.getfield 25, 3) := by decide +kernel
theorem dX0_keepAhead_33 : decode cX0_keepAhead 33 = .ok (.aload_n 1, 1) := by decide +kernel
theorem dX0_keepAhead_34 : decode cX0_keepAhead 34 = .ok (.getfield 35, 3) := by decide +kernel
theorem dX0_keepAhead_37 : decode cX0_keepAhead 37 = .ok (.iload_n 2, 1) := by decide +kernel
theorem dX0_keepAhead_38 : decode cX0_keepAhead 38 = .ok (.iaload, 1) := by decide +kernel
theorem dX0_keepAhead_39 : decode cX0_keepAhead 39 = .ok (.iastore, 1) := by decide +kernel
theorem dX0_keepAhead_40 : decode cX0_keepAhead 40 = .ok (.aload_n 0, 1) := by decide +kernel
theorem dX0_keepAhead_41 : decode cX0_keepAhead 41 = .ok (.getfield 19, 3) := by decide +kernel
theorem dX0_keepAhead_44 : decode cX0_keepAhead 44 = .ok (.aload_n 0, 1) := by decide +kernel
theorem dX0_keepAhead_45 : decode cX0_keepAhead 45 = .ok (.getfield 25, 3) := by decide +kernel
theorem dX0_keepAhead_48 : decode cX0_keepAhead 48 = .ok (.aload_n 1, 1) := by decide +kernel
theorem dX0_keepAhead_49 : decode cX0_keepAhead 49 = .ok (.getfield 36, 3) := by decide +kernel
theorem dX0_keepAhead_52 : decode cX0_keepAhead 52 = .ok (.iload_n 2, 1) := by decide +kernel
theorem dX0_keepAhead_53 : decode cX0_keepAhead 53 = .ok (.iaload, 1) := by decide +kernel
theorem dX0_keepAhead_54 : decode cX0_keepAhead 54 = .ok (.iastore, 1) := by decide +kernel
theorem dX0_keepAhead_55 : decode cX0_keepAhead 55 = .ok (.aload_n 0, 1) := by decide +kernel
theorem dX0_keepAhead_56 : decode cX0_keepAhead 56 = .ok (.getfield 22, 3) := by decide +kernel
theorem dX0_keepAhead_59 : decode cX0_keepAhead 59 = .ok (.aload_n 0, 1) := by decide +kernel
theorem dX0_keepAhead_60 : decode cX0_keepAhead 60 = .ok (.getfield 25, 3) := by decide +kernel
theorem dX0_keepAhead_63 : decode cX0_keepAhead 63 = .ok (.aload_n 1, 1) := by decide +kernel
theorem dX0_keepAhead_64 : decode cX0_keepAhead 64 = .ok (.getfield 37, 3) := by decide +kernel
theorem dX0_keepAhead_67 : decode cX0_keepAhead 67 = .ok (.iastore, 1) := by decide +kernel
theorem dX0_keepAhead_68 : decode cX0_keepAhead 68 = .ok (.aload_n 0, 1) := by decide +kernel
theorem dX0_keepAhead_69 : decode cX0_keepAhead 69 = .ok (.aload_n 0, 1) := by decide +kernel
theorem dX0_keepAhead_70 : decode cX0_keepAhead 70 = .ok (.getfield 25, 3) := by decide +kernel
theorem dX0_keepAhead_73 : decode cX0_keepAhead 73 = .ok (.iconst 1, 1) := by decide +kernel
theorem dX0_keepAhead_74 : decode cX0_keepAhead 74 = .ok (.iadd, 1) := by decide +kernel
theorem dX0_keepAhead_75 : decode cX0_keepAhead 75 = .ok (.bipush 24, 2) := by decide +kernel
theorem dX0_keepAhead_77 : decode cX0_keepAhead 77 = .ok (.if_icmp .ge 12, 3) := by decide +kernel
theorem dX0_keepAhead_80 : decode cX0_keepAhead 80 = .ok (.aload_n 0, 1) := by decide +kernel
theorem dX0_keepAhead_81 : decode cX0_keepAhead 81 = .ok (.getfield 25, 3) := by decide +kernel
theorem dX0_keepAhead_84 : decode cX0_keepAhead 84 = .ok (.iconst 1, 1) := by decide +kernel
theorem dX0_keepAhead_85 : decode cX0_keepAhead 85 = .ok (.iadd, 1) := by decide +kernel
theorem dX0_keepAhead_86 : decode cX0_keepAhead 86 = .ok (.goto 4, 3) := by decide +kernel
theorem dX0_keepAhead_89 : decode cX0_keepAhead 89 = .ok (.iconst 0, 1) := by decide +kernel
theorem dX0_keepAhead_90 : decode cX0_keepAhead 90 = .ok (.putfield 25, 3) := by decide +kernel
theorem dX0_keepAhead_93 : decode cX0_keepAhead 93 = .ok (.aload_n 0, 1) := by decide +kernel
theorem dX0_keepAhead_94 : decode cX0_keepAhead 94 = .ok (.aload_n 0, 1) := by decide +kernel
theorem dX0_keepAhead_95 : decode cX0_keepAhead 95 = .ok (.getfield 29, 3) := by decide +kernel
theorem dX0_keepAhead_98 : decode cX0_keepAhead 98 = .ok (.iconst 1, 1) := by decide +kernel
theorem dX0_keepAhead_99 : decode cX0_keepAhead 99 = .ok (.iadd, 1) := by decide +kernel
theorem dX0_keepAhead_100 : decode cX0_keepAhead 100 = .ok (.bipush 24, 2) := by decide +kernel
theorem dX0_keepAhead_102 : decode cX0_keepAhead 102 = .ok (.invokestatic 40, 3) := by decide +kernel
theorem dX0_keepAhead_105 : decode cX0_keepAhead 105 = .ok (.putfield 29, 3) := by decide +kernel
theorem dX0_keepAhead_108 : decode cX0_keepAhead 108 = .ok (.return_, 1) := by decide +kernel
theorem dX0_undoLatest_0 : decode cX0_undoLatest 0 = .ok (.aload_n 0, 1) := by decide +kernel
theorem dX0_undoLatest_1 : decode cX0_undoLatest 1 = .ok (.aload_n 0, 1) := by decide +kernel
theorem dX0_undoLatest_2 : decode cX0_undoLatest 2 = .ok (.getfield 25, 3) := by decide +kernel
theorem dX0_undoLatest_5 : decode cX0_undoLatest 5 = .ok (.ifCond .le 12, 3) := by decide +kernel
theorem dX0_undoLatest_8 : decode cX0_undoLatest 8 = .ok (.aload_n 0, 1) := by decide +kernel
theorem dX0_undoLatest_9 : decode cX0_undoLatest 9 = .ok (.getfield 25, 3) := by decide +kernel
theorem dX0_undoLatest_12 : decode cX0_undoLatest 12 = .ok (.iconst 1, 1) := by decide +kernel
theorem dX0_undoLatest_13 : decode cX0_undoLatest 13 = .ok (.isub, 1) := by decide +kernel
theorem dX0_undoLatest_14 : decode cX0_undoLatest 14 = .ok (.goto 5, 3) := by decide +kernel
theorem dX0_undoLatest_17 : decode cX0_undoLatest 17 = .ok (.bipush 23, 2) := by decide +kernel
theorem dX0_undoLatest_19 : decode cX0_undoLatest 19 = .ok (.putfield 25, 3) := by decide +kernel
theorem dX0_undoLatest_22 : decode cX0_undoLatest 22 = .ok (.aload_n 0, 1) := by decide +kernel
theorem dX0_undoLatest_23 : decode cX0_undoLatest 23 = .ok (.dup, 1) := by decide +kernel
theorem dX0_undoLatest_24 : decode cX0_undoLatest 24 = .ok (.getfield 29, 3) := by decide +kernel
theorem dX0_undoLatest_27 : decode cX0_undoLatest 27 = .ok (.iconst 1, 1) := by decide +kernel
theorem dX0_undoLatest_28 : decode cX0_undoLatest 28 = .ok (.isub, 1) := by decide +kernel
theorem dX0_undoLatest_29 : decode cX0_undoLatest 29 = .ok (.putfield 29, 3) := by decide +kernel
theorem dX0_undoLatest_32 : decode cX0_undoLatest 32 = .ok (.aload_n 0, 1) := by decide +kernel
theorem dX0_undoLatest_33 : decode cX0_undoLatest 33 = .ok (.getfield 9, 3) := by decide +kernel
theorem dX0_undoLatest_36 : decode cX0_undoLatest 36 = .ok (.aload_n 0, 1) := by decide +kernel
theorem dX0_undoLatest_37 : decode cX0_undoLatest 37 = .ok (.getfield 25, 3) := by decide +kernel
theorem dX0_undoLatest_40 : decode cX0_undoLatest 40 = .ok (.iaload, 1) := by decide +kernel
theorem dX0_undoLatest_41 : decode cX0_undoLatest 41 = .ok (.istore_n 2, 1) := by decide +kernel
theorem dX0_undoLatest_42 : decode cX0_undoLatest 42 = .ok (.aload_n 1, 1) := by decide +kernel
theorem dX0_undoLatest_43 : decode cX0_undoLatest 43 = .ok (.getfield 32, 3) := by decide +kernel
theorem dX0_undoLatest_46 : decode cX0_undoLatest 46 = .ok (.iload_n 2, 1) := by decide +kernel
theorem dX0_undoLatest_47 : decode cX0_undoLatest 47 = .ok (.aload_n 0, 1) := by decide +kernel
theorem dX0_undoLatest_48 : decode cX0_undoLatest 48 = .ok (.getfield 13, 3) := by decide +kernel
theorem dX0_undoLatest_51 : decode cX0_undoLatest 51 = .ok (.aload_n 0, 1) := by decide +kernel
theorem dX0_undoLatest_52 : decode cX0_undoLatest 52 = .ok (.getfield 25, 3) := by decide +kernel
theorem dX0_undoLatest_55 : decode cX0_undoLatest 55 = .ok (.iaload, 1) := by decide +kernel
theorem dX0_undoLatest_56 : decode cX0_undoLatest 56 = .ok (.iastore, 1) := by decide +kernel
theorem dX0_undoLatest_57 : decode cX0_undoLatest 57 = .ok (.aload_n 1, 1) := by decide +kernel
theorem dX0_undoLatest_58 : decode cX0_undoLatest 58 = .ok (.getfield 35, 3) := by decide +kernel
theorem dX0_undoLatest_61 : decode cX0_undoLatest 61 = .ok (.iload_n 2, 1) := by decide +kernel
theorem dX0_undoLatest_62 : decode cX0_undoLatest 62 = .ok (.aload_n 0, 1) := by decide +kernel
theorem dX0_undoLatest_63 : decode cX0_undoLatest 63 = .ok (.getfield 16, 3) := by decide +kernel
theorem dX0_undoLatest_66 : decode cX0_undoLatest 66 = .ok (.aload_n 0, 1) := by decide +kernel
theorem dX0_undoLatest_67 : decode cX0_undoLatest 67 = .ok (.getfield 25, 3) := by decide +kernel
theorem dX0_undoLatest_70 : decode cX0_undoLatest 70 = .ok (.iaload, 1) := by decide +kernel
theorem dX0_undoLatest_71 : decode cX0_undoLatest 71 = .ok (.iastore, 1) := by decide +kernel
theorem dX0_undoLatest_72 : decode cX0_undoLatest 72 = .ok (.aload_n 1, 1) := by decide +kernel
theorem dX0_undoLatest_73 : decode cX0_undoLatest 73 = .ok (.getfield 36, 3) := by decide +kernel
theorem dX0_undoLatest_76 : decode cX0_undoLatest 76 = .ok (.iload_n 2, 1) := by decide +kernel
theorem dX0_undoLatest_77 : decode cX0_undoLatest 77 = .ok (.aload_n 0, 1) := by decide +kernel
theorem dX0_undoLatest_78 : decode cX0_undoLatest 78 = .ok (.getfield 19, 3) := by decide +kernel
theorem dX0_undoLatest_81 : decode cX0_undoLatest 81 = .ok (.aload_n 0, 1) := by decide +kernel
theorem dX0_undoLatest_82 : decode cX0_undoLatest 82 = .ok (.getfield 25, 3) := by decide +kernel
theorem dX0_undoLatest_85 : decode cX0_undoLatest 85 = .ok (.iaload, 1) := by decide +kernel
theorem dX0_undoLatest_86 : decode cX0_undoLatest 86 = .ok (.iastore, 1) := by decide +kernel
theorem dX0_undoLatest_87 : decode cX0_undoLatest 87 = .ok (.aload_n 1, 1) := by decide +kernel
theorem dX0_undoLatest_88 : decode cX0_undoLatest 88 = .ok (.aload_n 0, 1) := by decide +kernel
theorem dX0_undoLatest_89 : decode cX0_undoLatest 89 = .ok (.getfield 22, 3) := by decide +kernel
theorem dX0_undoLatest_92 : decode cX0_undoLatest 92 = .ok (.aload_n 0, 1) := by decide +kernel
theorem dX0_undoLatest_93 : decode cX0_undoLatest 93 = .ok (.getfield 25, 3) := by decide +kernel
theorem dX0_undoLatest_96 : decode cX0_undoLatest 96 = .ok (.iaload, 1) := by decide +kernel
theorem dX0_undoLatest_97 : decode cX0_undoLatest 97 = .ok (.putfield 37, 3) := by decide +kernel
theorem dX0_undoLatest_100 : decode cX0_undoLatest 100 = .ok (.return_, 1) := by decide +kernel
theorem dX1_init_0 : decode cX1_init 0 = .ok (.aload_n 0, 1) := by decide +kernel
theorem dX1_init_1 : decode cX1_init 1 = .ok (.invokespecial 3, 3) := by decide +kernel
theorem dX1_init_4 : decode cX1_init 4 = .ok (.aload_n 0, 1) := by decide +kernel
theorem dX1_init_5 : decode cX1_init 5 = .ok (.bipush 16, 2) := by decide +kernel
theorem dX1_init_7 : decode cX1_init 7 = .ok (.newarray .int, 2) := by decide +kernel
theorem dX1_init_9 : decode cX1_init 9 = .ok (.putfield 11, 3) := by decide +kernel
theorem dX1_init_12 : decode cX1_init 12 = .ok (.aload_n 0, 1) := by decide +kernel
theorem dX1_init_13 : decode cX1_init 13 = .ok (.iconst 0, 1) := by decide +kernel
theorem dX1_init_14 : decode cX1_init 14 = .ok (.putfield 15, 3) := by decide +kernel
theorem dX1_init_17 : decode cX1_init 17 = .ok (.aload_n 0, 1) := by decide +kernel
theorem dX1_init_18 : decode cX1_init 18 = .ok (.aload_n 1, 1) := by decide +kernel
theorem dX1_init_19 : decode cX1_init 19 = .ok (.putfield 19, 3) := by decide +kernel
theorem dX1_init_22 : decode cX1_init 22 = .ok (.return_, 1) := by decide +kernel
theorem dX1_answer_0 : decode cX1_answer 0 = .ok (.aload_n 0, 1) := by decide +kernel
theorem dX1_answer_1 : decode cX1_answer 1 = .ok (.iconst 0, 1) := by decide +kernel
theorem dX1_answer_2 : decode cX1_answer 2 = .ok (.putfield 15, 3) := by decide +kernel
theorem dX1_answer_5 : decode cX1_answer 5 = .ok (.iload_n 2, 1) := by decide +kernel
theorem dX1_answer_6 : decode cX1_answer 6 = .ok (.ifCond .ne 12, 3) := by decide +kernel
theorem dX1_answer_9 : decode cX1_answer 9 = .ok (.aload_n 0, 1) := by decide +kernel
theorem dX1_answer_10 : decode cX1_answer 10 = .ok (.iload_n 1, 1) := by decide +kernel
theorem dX1_answer_11 : decode cX1_answer 11 = .ok (.iconst 0, 1) := by decide +kernel
theorem dX1_answer_12 : decode cX1_answer 12 = .ok (.invokevirtual 23, 3) := by decide +kernel
theorem dX1_answer_15 : decode cX1_answer 15 = .ok (.goto 9, 3) := by decide +kernel
theorem dX1_answer_18 : decode cX1_answer 18 = .ok (.aload_n 0, 1) := by decide +kernel
theorem dX1_answer_19 : decode cX1_answer 19 = .ok (.iload_n 1, 1) := by decide +kernel
theorem dX1_answer_20 : decode cX1_answer 20 = .ok (.iconst 0, 1) := by decide +kernel
theorem dX1_answer_21 : decode cX1_answer 21 = .ok (.invokevirtual 27, 3) := by decide +kernel
theorem dX1_answer_24 : decode cX1_answer 24 = .ok (.ireturn, 1) := by decide +kernel
theorem dX1_traceAt_0 : decode cX1_traceAt 0 = .ok (.iload_n 1, 1) := by decide +kernel
theorem dX1_traceAt_1 : decode cX1_traceAt 1 = .ok (.ifCond .lt 20, 3) := by decide +kernel
theorem dX1_traceAt_4 : decode cX1_traceAt 4 = .ok (.iload_n 1, 1) := by decide +kernel
theorem dX1_traceAt_5 : decode cX1_traceAt 5 = .ok (.aload_n 0, 1) := by decide +kernel
theorem dX1_traceAt_6 : decode cX1_traceAt 6 = .ok (.getfield 15, 3) := by decide +kernel
theorem dX1_traceAt_9 : decode cX1_traceAt 9 = .ok (.if_icmp .ge 12, 3) := by decide +kernel
theorem dX1_traceAt_12 : decode cX1_traceAt 12 = .ok (.aload_n 0, 1) := by decide +kernel
theorem dX1_traceAt_13 : decode cX1_traceAt 13 = .ok (.getfield 11, 3) := by decide +kernel
theorem dX1_traceAt_16 : decode cX1_traceAt 16 = .ok (.iload_n 1, 1) := by decide +kernel
theorem dX1_traceAt_17 : decode cX1_traceAt 17 = .ok (.iaload, 1) := by decide +kernel
theorem dX1_traceAt_18 : decode cX1_traceAt 18 = .ok (.goto 5, 3) := by decide +kernel
theorem dX1_traceAt_21 : decode cX1_traceAt 21 = .ok (.ldc 30, 2) := by decide +kernel
theorem dX1_traceAt_23 : decode cX1_traceAt 23 = .ok (.ireturn, 1) := by decide +kernel
theorem dX1_sizeOf_0 : decode cX1_sizeOf 0 = .ok (.aload_n 0, 1) := by decide +kernel
theorem dX1_sizeOf_1 : decode cX1_sizeOf 1 = .ok (.getstatic 31, 3) := by decide +kernel
theorem dX1_sizeOf_4 : decode cX1_sizeOf 4 = .ok (.aload_n 0, 1) := by decide +kernel
theorem dX1_sizeOf_5 : decode cX1_sizeOf 5 = .ok (.getfield 19, 3) := by decide +kernel
theorem dX1_sizeOf_8 : decode cX1_sizeOf 8 = .ok (.getfield 34, 3) := by decide +kernel
theorem dX1_sizeOf_11 : decode cX1_sizeOf 11 = .ok (.iload_n 1, 1) := by decide +kernel
theorem dX1_sizeOf_12 : decode cX1_sizeOf 12 = .ok (.iaload, 1) := by decide +kernel
theorem dX1_sizeOf_13 : decode cX1_sizeOf 13 = .ok (.invokestatic 39, 3) := by decide +kernel
theorem dX1_sizeOf_16 : decode cX1_sizeOf 16 = .ok (.iload_n 1, 1) := by decide +kernel
theorem dX1_sizeOf_17 : decode cX1_sizeOf 17 = .ok (.iload_n 2, 1) := by decide +kernel
theorem dX1_sizeOf_18 : decode cX1_sizeOf 18 = .ok (.invokevirtual 43, 3) := by decide +kernel
theorem dX1_sizeOf_21 : decode cX1_sizeOf 21 = .ok (.ireturn, 1) := by decide +kernel
theorem dX1_markOf_0 : decode cX1_markOf 0 = .ok (.aload_n 0, 1) := by decide +kernel
theorem dX1_markOf_1 : decode cX1_markOf 1 = .ok (.getstatic 47, 3) := by decide +kernel
theorem dX1_markOf_4 : decode cX1_markOf 4 = .ok (.aload_n 0, 1) := by decide +kernel
theorem dX1_markOf_5 : decode cX1_markOf 5 = .ok (.getfield 19, 3) := by decide +kernel
theorem dX1_markOf_8 : decode cX1_markOf 8 = .ok (.getfield 34, 3) := by decide +kernel
theorem dX1_markOf_11 : decode cX1_markOf 11 = .ok (.iload_n 1, 1) := by decide +kernel
theorem dX1_markOf_12 : decode cX1_markOf 12 = .ok (.iaload, 1) := by decide +kernel
theorem dX1_markOf_13 : decode cX1_markOf 13 = .ok (.invokestatic 39, 3) := by decide +kernel
theorem dX1_markOf_16 : decode cX1_markOf 16 = .ok (.iload_n 1, 1) := by decide +kernel
theorem dX1_markOf_17 : decode cX1_markOf 17 = .ok (.iload_n 2, 1) := by decide +kernel
theorem dX1_markOf_18 : decode cX1_markOf 18 = .ok (.invokevirtual 43, 3) := by decide +kernel
theorem dX1_markOf_21 : decode cX1_markOf 21 = .ok (.ireturn, 1) := by decide +kernel
theorem dX1_nearestBody_0 : decode cX1_nearestBody 0 = .ok (.iload_n 1, 1) := by decide +kernel
theorem dX1_nearestBody_1 : decode cX1_nearestBody 1 = .ok (.istore_n 2, 1) := by decide +kernel
theorem dX1_nearestBody_2 : decode cX1_nearestBody 2 = .ok (.iconst 0, 1) := by decide +kernel
theorem dX1_nearestBody_3 : decode cX1_nearestBody 3 = .ok (.istore_n 3, 1) := by decide +kernel
theorem dX1_nearestBody_4 : decode cX1_nearestBody 4 = .ok (.iload_n 3, 1) := by decide +kernel
theorem dX1_nearestBody_5 : decode cX1_nearestBody 5 = .ok (.bipush 6, 2) := by decide +kernel
theorem dX1_nearestBody_7 : decode cX1_nearestBody 7 = .ok (.if_icmp .ge 20, 3) := by decide +kernel
theorem dX1_nearestBody_10 : decode cX1_nearestBody 10 = .ok (.aload_n 0, 1) := by decide +kernel
theorem dX1_nearestBody_11 : decode cX1_nearestBody 11 = .ok (.iload_n 2, 1) := by decide +kernel
theorem dX1_nearestBody_12 : decode cX1_nearestBody 12 = .ok (.iaload, 1) := by decide +kernel
theorem dX1_nearestBody_13 : decode cX1_nearestBody 13 = .ok (.ifCond .ne 14, 3) := by decide +kernel
theorem dX1_nearestBody_16 : decode cX1_nearestBody 16 = .ok (.iload_n 2, 1) := by decide +kernel
theorem dX1_nearestBody_17 : decode cX1_nearestBody 17 = .ok (.invokestatic 52, 3) := by decide +kernel
theorem dX1_nearestBody_20 : decode cX1_nearestBody 20 = .ok (.istore_n 2, 1) := by decide +kernel
theorem dX1_nearestBody_21 : decode cX1_nearestBody 21 = .ok (.iinc 3 1, 3) := by decide +kernel
theorem dX1_nearestBody_24 : decode cX1_nearestBody 24 = .ok (.goto (-20), 3) := by decide +kernel
theorem dX1_nearestBody_27 : decode cX1_nearestBody 27 = .ok (.aload_n 0, 1) := by decide +kernel
theorem dX1_nearestBody_28 : decode cX1_nearestBody 28 = .ok (.iload_n 2, 1) := by decide +kernel
theorem dX1_nearestBody_29 : decode cX1_nearestBody 29 = .ok (.iaload, 1) := by decide +kernel
theorem dX1_nearestBody_30 : decode cX1_nearestBody 30 = .ok (.ireturn, 1) := by decide +kernel
theorem dX1_run_0 : decode cX1_run 0 = .ok (.iload_n 3, 1) := by decide +kernel
theorem dX1_run_1 : decode cX1_run 1 = .ok (.bipush 20, 2) := by decide +kernel
theorem dX1_run_3 : decode cX1_run 3 = .ok (.if_icmp .le 5, 3) := by decide +kernel
theorem dX1_run_6 : decode cX1_run 6 = .ok (.iconst 0, 1) := by decide +kernel
theorem dX1_run_7 : decode cX1_run 7 = .ok (.ireturn, 1) := by decide +kernel
theorem dX1_run_8 : decode cX1_run 8 = .ok (.aload_n 0, 1) := by decide +kernel
theorem dX1_run_9 : decode cX1_run 9 = .ok (.iload_n 1, 1) := by decide +kernel
theorem dX1_run_10 : decode cX1_run 10 = .ok (.invokevirtual 56, 3) := by decide +kernel
theorem dX1_run_13 : decode cX1_run 13 = .ok (.iload_n 3, 1) := by decide +kernel
theorem dX1_run_14 : decode cX1_run 14 = .ok (.iconst 1, 1) := by decide +kernel
theorem dX1_run_15 : decode cX1_run 15 = .ok (.iadd, 1) := by decide +kernel
theorem dX1_run_16 : decode cX1_run 16 = .ok (.istore 4, 2) := by decide +kernel
theorem dX1_run_18 : decode cX1_run 18 = .ok (.iload_n 1, 1) := by decide +kernel
theorem dX1_run_19 : decode cX1_run 19 = .ok (.tableswitch 209 10 24 #[73, 83, 101, 112, 125, 209, 209, 209, 209, 209, 137, 139, 165, 179, 197], 73) := by decide +kernel
theorem dX1_run_92 : decode cX1_run 92 = .ok (.aload_n 0, 1) := by decide +kernel
theorem dX1_run_93 : decode cX1_run 93 = .ok (.getfield 19, 3) := by decide +kernel
theorem dX1_run_96 : decode cX1_run 96 = .ok (.getfield 60, 3) := by decide +kernel
theorem dX1_run_99 : decode cX1_run 99 = .ok (.iload_n 2, 1) := by decide +kernel
theorem dX1_run_100 : decode cX1_run 100 = .ok (.iaload, 1) := by decide +kernel
theorem dX1_run_101 : decode cX1_run 101 = .ok (.ireturn, 1) := by decide +kernel
theorem dX1_run_102 : decode cX1_run 102 = .ok (.aload_n 0, 1) := by decide +kernel
theorem dX1_run_103 : decode cX1_run 103 = .ok (.bipush 10, 2) := by decide +kernel
theorem dX1_run_105 : decode cX1_run 105 = .ok (.iload_n 2, 1) := by decide +kernel
theorem dX1_run_106 : decode cX1_run 106 = .ok (.iload 4, 2) := by decide +kernel
theorem dX1_run_108 : decode cX1_run 108 = .ok (.invokevirtual 43, 3) := by decide +kernel
theorem dX1_run_111 : decode cX1_run 111 = .ok (.aload_n 0, 1) := by decide +kernel
theorem dX1_run_112 : decode cX1_run 112 = .ok (.iload_n 2, 1) := by decide +kernel
theorem dX1_run_113 : decode cX1_run 113 = .ok (.iload 4, 2) := by decide +kernel
theorem dX1_run_115 : decode cX1_run 115 = .ok (.invokevirtual 27, 3) := by decide +kernel
theorem dX1_run_118 : decode cX1_run 118 = .ok (.iadd, 1) := by decide +kernel
theorem dX1_run_119 : decode cX1_run 119 = .ok (.ireturn, 1) := by decide +kernel
theorem dX1_run_120 : decode cX1_run 120 = .ok (.aload_n 0, 1) := by decide +kernel
theorem dX1_run_121 : decode cX1_run 121 = .ok (.bipush 11, 2) := by decide +kernel
theorem dX1_run_123 : decode cX1_run 123 = .ok (.iload_n 2, 1) := by decide +kernel
theorem dX1_run_124 : decode cX1_run 124 = .ok (.iload 4, 2) := by decide +kernel
theorem dX1_run_126 : decode cX1_run 126 = .ok (.invokevirtual 43, 3) := by decide +kernel
theorem dX1_run_129 : decode cX1_run 129 = .ok (.ineg, 1) := by decide +kernel
theorem dX1_run_130 : decode cX1_run 130 = .ok (.ireturn, 1) := by decide +kernel
theorem dX1_run_131 : decode cX1_run 131 = .ok (.aload_n 0, 1) := by decide +kernel
theorem dX1_run_132 : decode cX1_run 132 = .ok (.bipush 10, 2) := by decide +kernel
theorem dX1_run_134 : decode cX1_run 134 = .ok (.iload_n 2, 1) := by decide +kernel
theorem dX1_run_135 : decode cX1_run 135 = .ok (.iload 4, 2) := by decide +kernel
theorem dX1_run_137 : decode cX1_run 137 = .ok (.invokevirtual 43, 3) := by decide +kernel
theorem dX1_run_140 : decode cX1_run 140 = .ok (.bipush 100, 2) := by decide +kernel
theorem dX1_run_142 : decode cX1_run 142 = .ok (.isub, 1) := by decide +kernel
theorem dX1_run_143 : decode cX1_run 143 = .ok (.ireturn, 1) := by decide +kernel
theorem dX1_run_144 : decode cX1_run 144 = .ok (.iconst 2, 1) := by decide +kernel
theorem dX1_run_145 : decode cX1_run 145 = .ok (.aload_n 0, 1) := by decide +kernel
theorem dX1_run_146 : decode cX1_run 146 = .ok (.bipush 13, 2) := by decide +kernel
theorem dX1_run_148 : decode cX1_run 148 = .ok (.iload_n 2, 1) := by decide +kernel
theorem dX1_run_149 : decode cX1_run 149 = .ok (.iload 4, 2) := by decide +kernel
theorem dX1_run_151 : decode cX1_run 151 = .ok (.invokevirtual 43, 3) := by decide +kernel
theorem dX1_run_154 : decode cX1_run 154 = .ok (.imul, 1) := by decide +kernel
theorem dX1_run_155 : decode cX1_run 155 = .ok (.ireturn, 1) := by decide +kernel
theorem dX1_run_156 : decode cX1_run 156 = .ok (.iload_n 2, 1) := by decide +kernel
theorem dX1_run_157 : decode cX1_run 157 = .ok (.ireturn, 1) := by decide +kernel
theorem dX1_run_158 : decode cX1_run 158 = .ok (.aload_n 0, 1) := by decide +kernel
theorem dX1_run_159 : decode cX1_run 159 = .ok (.bipush 20, 2) := by decide +kernel
theorem dX1_run_161 : decode cX1_run 161 = .ok (.iload_n 2, 1) := by decide +kernel
theorem dX1_run_162 : decode cX1_run 162 = .ok (.iload 4, 2) := by decide +kernel
theorem dX1_run_164 : decode cX1_run 164 = .ok (.invokevirtual 43, 3) := by decide +kernel
theorem dX1_run_167 : decode cX1_run 167 = .ok (.aload_n 0, 1) := by decide +kernel
theorem dX1_run_168 : decode cX1_run 168 = .ok (.getfield 19, 3) := by decide +kernel
theorem dX1_run_171 : decode cX1_run 171 = .ok (.aload_n 0, 1) := by decide +kernel
theorem dX1_run_172 : decode cX1_run 172 = .ok (.getfield 19, 3) := by decide +kernel
theorem dX1_run_175 : decode cX1_run 175 = .ok (.getfield 63, 3) := by decide +kernel
theorem dX1_run_178 : decode cX1_run 178 = .ok (.iload_n 2, 1) := by decide +kernel
theorem dX1_run_179 : decode cX1_run 179 = .ok (.invokevirtual 66, 3) := by decide +kernel
theorem dX1_run_182 : decode cX1_run 182 = .ok (.iadd, 1) := by decide +kernel
theorem dX1_run_183 : decode cX1_run 183 = .ok (.ireturn, 1) := by decide +kernel
theorem dX1_run_184 : decode cX1_run 184 = .ok (.aload_n 0, 1) := by decide +kernel
theorem dX1_run_185 : decode cX1_run 185 = .ok (.bipush 21, 2) := by decide +kernel
theorem dX1_run_187 : decode cX1_run 187 = .ok (.iload_n 2, 1) := by decide +kernel
theorem dX1_run_188 : decode cX1_run 188 = .ok (.iload 4, 2) := by decide +kernel
theorem dX1_run_190 : decode cX1_run 190 = .ok (.invokevirtual 43, 3) := by decide +kernel
theorem dX1_run_193 : decode cX1_run 193 = .ok (.sipush 1000, 3) := by decide +kernel
theorem dX1_run_196 : decode cX1_run 196 = .ok (.isub, 1) := by decide +kernel
theorem dX1_run_197 : decode cX1_run 197 = .ok (.ireturn, 1) := by decide +kernel
theorem dX1_run_198 : decode cX1_run 198 = .ok (.aload_n 0, 1) := by decide +kernel
theorem dX1_run_199 : decode cX1_run 199 = .ok (.bipush 20, 2) := by decide +kernel
theorem dX1_run_201 : decode cX1_run 201 = .ok (.iload_n 2, 1) := by decide +kernel
theorem dX1_run_202 : decode cX1_run 202 = .ok (.iload 4, 2) := by decide +kernel
theorem dX1_run_204 : decode cX1_run 204 = .ok (.invokevirtual 43, 3) := by decide +kernel
theorem dX1_run_207 : decode cX1_run 207 = .ok (.aload_n 0, 1) := by decide +kernel
theorem dX1_run_208 : decode cX1_run 208 = .ok (.iload_n 2, 1) := by decide +kernel
theorem dX1_run_209 : decode cX1_run 209 = .ok (.iload 4, 2) := by decide +kernel
theorem dX1_run_211 : decode cX1_run 211 = .ok (.invokevirtual 23, 3) := by decide +kernel
theorem dX1_run_214 : decode cX1_run 214 = .ok (.isub, 1) := by decide +kernel
theorem dX1_run_215 : decode cX1_run 215 = .ok (.ireturn, 1) := by decide +kernel
theorem dX1_run_216 : decode cX1_run 216 = .ok (.iconst 2, 1) := by decide +kernel
theorem dX1_run_217 : decode cX1_run 217 = .ok (.aload_n 0, 1) := by decide +kernel
theorem dX1_run_218 : decode cX1_run 218 = .ok (.bipush 21, 2) := by decide +kernel
theorem dX1_run_220 : decode cX1_run 220 = .ok (.iload_n 2, 1) := by decide +kernel
theorem dX1_run_221 : decode cX1_run 221 = .ok (.iload 4, 2) := by decide +kernel
theorem dX1_run_223 : decode cX1_run 223 = .ok (.invokevirtual 43, 3) := by decide +kernel
theorem dX1_run_226 : decode cX1_run 226 = .ok (.imul, 1) := by decide +kernel
theorem dX1_run_227 : decode cX1_run 227 = .ok (.ireturn, 1) := by decide +kernel
theorem dX1_run_228 : decode cX1_run 228 = .ok (.iconst 0, 1) := by decide +kernel
theorem dX1_run_229 : decode cX1_run 229 = .ok (.ireturn, 1) := by decide +kernel
theorem dX1_leaveTrace_0 : decode cX1_leaveTrace 0 = .ok (.aload_n 0, 1) := by decide +kernel
theorem dX1_leaveTrace_1 : decode cX1_leaveTrace 1 = .ok (.getfield 15, 3) := by decide +kernel
theorem dX1_leaveTrace_4 : decode cX1_leaveTrace 4 = .ok (.bipush 16, 2) := by decide +kernel
theorem dX1_leaveTrace_6 : decode cX1_leaveTrace 6 = .ok (.if_icmp .ge 23, 3) := by decide +kernel
theorem dX1_leaveTrace_9 : decode cX1_leaveTrace 9 = .ok (.aload_n 0, 1) := by decide +kernel
theorem dX1_leaveTrace_10 : decode cX1_leaveTrace 10 = .ok (.getfield 11, 3) := by decide +kernel
theorem dX1_leaveTrace_13 : decode cX1_leaveTrace 13 = .ok (.aload_n 0, 1) := by decide +kernel
theorem dX1_leaveTrace_14 : decode cX1_leaveTrace 14 = .ok (.getfield 15, 3) := by decide +kernel
theorem dX1_leaveTrace_17 : decode cX1_leaveTrace 17 = .ok (.iload_n 1, 1) := by decide +kernel
theorem dX1_leaveTrace_18 : decode cX1_leaveTrace 18 = .ok (.iastore, 1) := by decide +kernel
theorem dX1_leaveTrace_19 : decode cX1_leaveTrace 19 = .ok (.aload_n 0, 1) := by decide +kernel
theorem dX1_leaveTrace_20 : decode cX1_leaveTrace 20 = .ok (.dup, 1) := by decide +kernel
theorem dX1_leaveTrace_21 : decode cX1_leaveTrace 21 = .ok (.getfield 15, 3) := by decide +kernel
theorem dX1_leaveTrace_24 : decode cX1_leaveTrace 24 = .ok (.iconst 1, 1) := by decide +kernel
theorem dX1_leaveTrace_25 : decode cX1_leaveTrace 25 = .ok (.iadd, 1) := by decide +kernel
theorem dX1_leaveTrace_26 : decode cX1_leaveTrace 26 = .ok (.putfield 15, 3) := by decide +kernel
theorem dX1_leaveTrace_29 : decode cX1_leaveTrace 29 = .ok (.return_, 1) := by decide +kernel
theorem dX2_init_0 : decode cX2_init 0 = .ok (.aload_n 0, 1) := by decide +kernel
theorem dX2_init_1 : decode cX2_init 1 = .ok (.invokespecial 3, 3) := by decide +kernel
theorem dX2_init_4 : decode cX2_init 4 = .ok (.aload_n 0, 1) := by decide +kernel
theorem dX2_init_5 : decode cX2_init 5 = .ok (.bipush 7, 2) := by decide +kernel
theorem dX2_init_7 : decode cX2_init 7 = .ok (.anewarray 11, 3) := by decide +kernel
theorem dX2_init_10 : decode cX2_init 10 = .ok (.putfield 13, 3) := by decide +kernel
theorem dX2_init_13 : decode cX2_init 13 = .ok (.aload_n 0, 1) := by decide +kernel
theorem dX2_init_14 : decode cX2_init 14 = .ok (.bipush 6, 2) := by decide +kernel
theorem dX2_init_16 : decode cX2_init 16 = .ok (.newarray .int, 2) := by decide +kernel
theorem dX2_init_18 : decode cX2_init 18 = .ok (.putfield 17, 3) := by decide +kernel
theorem dX2_init_21 : decode cX2_init 21 = .ok (.aload_n 0, 1) := by decide +kernel
theorem dX2_init_22 : decode cX2_init 22 = .ok (.bipush 6, 2) := by decide +kernel
theorem dX2_init_24 : decode cX2_init 24 = .ok (.newarray .int, 2) := by decide +kernel
theorem dX2_init_26 : decode cX2_init 26 = .ok (.putfield 21, 3) := by decide +kernel
theorem dX2_init_29 : decode cX2_init 29 = .ok (.aload_n 0, 1) := by decide +kernel
theorem dX2_init_30 : decode cX2_init 30 = .ok (.iconst 0, 1) := by decide +kernel
theorem dX2_init_31 : decode cX2_init 31 = .ok (.putfield 24, 3) := by decide +kernel
theorem dX2_init_34 : decode cX2_init 34 = .ok (.aload_n 0, 1) := by decide +kernel
theorem dX2_init_35 : decode cX2_init 35 = .ok (.iconst 0, 1) := by decide +kernel
theorem dX2_init_36 : decode cX2_init 36 = .ok (.putfield 28, 3) := by decide +kernel
theorem dX2_init_39 : decode cX2_init 39 = .ok (.aload_n 0, 1) := by decide +kernel
theorem dX2_init_40 : decode cX2_init 40 = .ok (.bipush 6, 2) := by decide +kernel
theorem dX2_init_42 : decode cX2_init 42 = .ok (.newarray .int, 2) := by decide +kernel
theorem dX2_init_44 : decode cX2_init 44 = .ok (.putfield 31, 3) := by decide +kernel
theorem dX2_init_47 : decode cX2_init 47 = .ok (.aload_n 0, 1) := by decide +kernel
theorem dX2_init_48 : decode cX2_init 48 = .ok (.bipush 6, 2) := by decide +kernel
theorem dX2_init_50 : decode cX2_init 50 = .ok (.newarray .int, 2) := by decide +kernel
theorem dX2_init_52 : decode cX2_init 52 = .ok (.putfield 34, 3) := by decide +kernel
theorem dX2_init_55 : decode cX2_init 55 = .ok (.aload_n 0, 1) := by decide +kernel
theorem dX2_init_56 : decode cX2_init 56 = .ok (.iconst 0, 1) := by decide +kernel
theorem dX2_init_57 : decode cX2_init 57 = .ok (.putfield 37, 3) := by decide +kernel
theorem dX2_init_60 : decode cX2_init 60 = .ok (.aload_n 0, 1) := by decide +kernel
theorem dX2_init_61 : decode cX2_init 61 = .ok (.aload_n 1, 1) := by decide +kernel
theorem dX2_init_62 : decode cX2_init 62 = .ok (.putfield 40, 3) := by decide +kernel
theorem dX2_init_65 : decode cX2_init 65 = .ok (.iconst 0, 1) := by decide +kernel
theorem dX2_init_66 : decode cX2_init 66 = .ok (.istore_n 2, 1) := by decide +kernel
theorem dX2_init_67 : decode cX2_init 67 = .ok (.iload_n 2, 1) := by decide +kernel
theorem dX2_init_68 : decode cX2_init 68 = .ok (.bipush 6, 2) := by decide +kernel
theorem dX2_init_70 : decode cX2_init 70 = .ok (.if_icmp .gt 22, 3) := by decide +kernel
theorem dX2_init_73 : decode cX2_init 73 = .ok (.aload_n 0, 1) := by decide +kernel
theorem dX2_init_74 : decode cX2_init 74 = .ok (.getfield 13, 3) := by decide +kernel
theorem dX2_init_77 : decode cX2_init 77 = .ok (.iload_n 2, 1) := by decide +kernel
theorem dX2_init_78 : decode cX2_init 78 = .ok (.new 11, 3) := by decide +kernel
theorem dX2_init_81 : decode cX2_init 81 = .ok (.dup, 1) := by decide +kernel
theorem dX2_init_82 : decode cX2_init 82 = .ok (.invokespecial 44, 3) := by decide +kernel
theorem dX2_init_85 : decode cX2_init 85 = .ok (.aastore, 1) := by decide +kernel
theorem dX2_init_86 : decode cX2_init 86 = .ok (.iinc 2 1, 3) := by decide +kernel
theorem dX2_init_89 : decode cX2_init 89 = .ok (.goto (-22), 3) := by decide +kernel
theorem dX2_init_92 : decode cX2_init 92 = .ok (.return_, 1) := by decide +kernel
theorem dX2_mindOf_0 : decode cX2_mindOf 0 = .ok (.aload_n 0, 1) := by decide +kernel
theorem dX2_mindOf_1 : decode cX2_mindOf 1 = .ok (.getfield 13, 3) := by decide +kernel
theorem dX2_mindOf_4 : decode cX2_mindOf 4 = .ok (.iconst 0, 1) := by decide +kernel
theorem dX2_mindOf_5 : decode cX2_mindOf 5 = .ok (.aaload, 1) := by decide +kernel
theorem dX2_mindOf_6 : decode cX2_mindOf 6 = .ok (.aload_n 0, 1) := by decide +kernel
theorem dX2_mindOf_7 : decode cX2_mindOf 7 = .ok (.getfield 40, 3) := by decide +kernel
theorem dX2_mindOf_10 : decode cX2_mindOf 10 = .ok (.iload_n 1, 1) := by decide +kernel
theorem dX2_mindOf_11 : decode cX2_mindOf 11 = .ok (.invokevirtual 45, 3) := by decide +kernel
theorem dX2_mindOf_14 : decode cX2_mindOf 14 = .ok (.aload_n 0, 1) := by decide +kernel
theorem dX2_mindOf_15 : decode cX2_mindOf 15 = .ok (.getfield 13, 3) := by decide +kernel
theorem dX2_mindOf_18 : decode cX2_mindOf 18 = .ok (.iconst 0, 1) := by decide +kernel
theorem dX2_mindOf_19 : decode cX2_mindOf 19 = .ok (.aaload, 1) := by decide +kernel
theorem dX2_mindOf_20 : decode cX2_mindOf 20 = .ok (.areturn, 1) := by decide +kernel
theorem dX2_nodsNow_0 : decode cX2_nodsNow 0 = .ok (.aload_n 0, 1) := by decide +kernel
theorem dX2_nodsNow_1 : decode cX2_nodsNow 1 = .ok (.iload_n 1, 1) := by decide +kernel
theorem dX2_nodsNow_2 : decode cX2_nodsNow 2 = .ok (.invokevirtual 49, 3) := by decide +kernel
theorem dX2_nodsNow_5 : decode cX2_nodsNow 5 = .ok (.astore_n 2, 1) := by decide +kernel
theorem dX2_nodsNow_6 : decode cX2_nodsNow 6 = .ok (.aload_n 0, 1) := by decide +kernel
theorem dX2_nodsNow_7 : decode cX2_nodsNow 7 = .ok (.getfield 40, 3) := by decide +kernel
theorem dX2_nodsNow_10 : decode cX2_nodsNow 10 = .ok (.iload_n 1, 1) := by decide +kernel
theorem dX2_nodsNow_11 : decode cX2_nodsNow 11 = .ok (.invokevirtual 53, 3) := by decide +kernel
theorem dX2_nodsNow_14 : decode cX2_nodsNow 14 = .ok (.istore_n 3, 1) := by decide +kernel
theorem dX2_nodsNow_15 : decode cX2_nodsNow 15 = .ok (.iconst 0, 1) := by decide +kernel
theorem dX2_nodsNow_16 : decode cX2_nodsNow 16 = .ok (.istore 4, 2) := by decide +kernel
theorem dX2_nodsNow_18 : decode cX2_nodsNow 18 = .ok (.iconst 0, 1) := by decide +kernel
theorem dX2_nodsNow_19 : decode cX2_nodsNow 19 = .ok (.istore 5, 2) := by decide +kernel
theorem dX2_nodsNow_21 : decode cX2_nodsNow 21 = .ok (.iload 5, 2) := by decide +kernel
theorem dX2_nodsNow_23 : decode cX2_nodsNow 23 = .ok (.aload_n 0, 1) := by decide +kernel
theorem dX2_nodsNow_24 : decode cX2_nodsNow 24 = .ok (.getfield 40, 3) := by decide +kernel
theorem dX2_nodsNow_27 : decode cX2_nodsNow 27 = .ok (.getfield 59, 3) := by decide +kernel
theorem dX2_nodsNow_30 : decode cX2_nodsNow 30 = .ok (.if_icmp .ge 40, 3) := by decide +kernel
theorem dX2_nodsNow_33 : decode cX2_nodsNow 33 = .ok (.iload_n 3, 1) := by decide +kernel
theorem dX2_nodsNow_34 : decode cX2_nodsNow 34 = .ok (.iload 5, 2) := by decide +kernel
theorem dX2_nodsNow_36 : decode cX2_nodsNow 36 = .ok (.ishr, 1) := by decide +kernel
theorem dX2_nodsNow_37 : decode cX2_nodsNow 37 = .ok (.iconst 1, 1) := by decide +kernel
theorem dX2_nodsNow_38 : decode cX2_nodsNow 38 = .ok (.iand, 1) := by decide +kernel
theorem dX2_nodsNow_39 : decode cX2_nodsNow 39 = .ok (.ifCond .eq 25, 3) := by decide +kernel
theorem dX2_nodsNow_42 : decode cX2_nodsNow 42 = .ok (.aload_n 2, 1) := by decide +kernel
theorem dX2_nodsNow_43 : decode cX2_nodsNow 43 = .ok (.aload_n 0, 1) := by decide +kernel
theorem dX2_nodsNow_44 : decode cX2_nodsNow 44 = .ok (.getfield 40, 3) := by decide +kernel
theorem dX2_nodsNow_47 : decode cX2_nodsNow 47 = .ok (.iload 5, 2) := by decide +kernel
theorem dX2_nodsNow_49 : decode cX2_nodsNow 49 = .ok (.invokevirtual 62, 3) := by decide +kernel
theorem dX2_nodsNow_52 : decode cX2_nodsNow 52 = .ok (.ifCond .eq 12, 3) := by decide +kernel
theorem dX2_nodsNow_55 : decode cX2_nodsNow 55 = .ok (.iload 4, 2) := by decide +kernel
theorem dX2_nodsNow_57 : decode cX2_nodsNow 57 = .ok (.iconst 1, 1) := by decide +kernel
theorem dX2_nodsNow_58 : decode cX2_nodsNow 58 = .ok (.iload 5, 2) := by decide +kernel
theorem dX2_nodsNow_60 : decode cX2_nodsNow 60 = .ok (.ishl, 1) := by decide +kernel
theorem dX2_nodsNow_61 : decode cX2_nodsNow 61 = .ok (.ior, 1) := by decide +kernel
theorem dX2_nodsNow_62 : decode cX2_nodsNow 62 = .ok (.istore 4, 2) := by decide +kernel
theorem dX2_nodsNow_64 : decode cX2_nodsNow 64 = .ok (.iinc 5 1, 3) := by decide +kernel
theorem dX2_nodsNow_67 : decode cX2_nodsNow 67 = .ok (.goto (-46), 3) := by decide +kernel
theorem dX2_nodsNow_70 : decode cX2_nodsNow 70 = .ok (.iload 4, 2) := by decide +kernel
theorem dX2_nodsNow_72 : decode cX2_nodsNow 72 = .ok (.ireturn, 1) := by decide +kernel
theorem dX2_seekOrder_0 : decode cX2_seekOrder 0 = .ok (.aload_n 0, 1) := by decide +kernel
theorem dX2_seekOrder_1 : decode cX2_seekOrder 1 = .ok (.iload_n 1, 1) := by decide +kernel
theorem dX2_seekOrder_2 : decode cX2_seekOrder 2 = .ok (.invokevirtual 49, 3) := by decide +kernel
theorem dX2_seekOrder_5 : decode cX2_seekOrder 5 = .ok (.pop, 1) := by decide +kernel
theorem dX2_seekOrder_6 : decode cX2_seekOrder 6 = .ok (.aload_n 0, 1) := by decide +kernel
theorem dX2_seekOrder_7 : decode cX2_seekOrder 7 = .ok (.iconst 0, 1) := by decide +kernel
theorem dX2_seekOrder_8 : decode cX2_seekOrder 8 = .ok (.putfield 24, 3) := by decide +kernel
theorem dX2_seekOrder_11 : decode cX2_seekOrder 11 = .ok (.aload_n 0, 1) := by decide +kernel
theorem dX2_seekOrder_12 : decode cX2_seekOrder 12 = .ok (.iconst (-1), 1) := by decide +kernel
theorem dX2_seekOrder_13 : decode cX2_seekOrder 13 = .ok (.putfield 28, 3) := by decide +kernel
theorem dX2_seekOrder_16 : decode cX2_seekOrder 16 = .ok (.aload_n 0, 1) := by decide +kernel
theorem dX2_seekOrder_17 : decode cX2_seekOrder 17 = .ok (.iconst 0, 1) := by decide +kernel
theorem dX2_seekOrder_18 : decode cX2_seekOrder 18 = .ok (.iload_n 2, 1) := by decide +kernel
theorem dX2_seekOrder_19 : decode cX2_seekOrder 19 = .ok (.iconst 0, 1) := by decide +kernel
theorem dX2_seekOrder_20 : decode cX2_seekOrder 20 = .ok (.invokevirtual 66, 3) := by decide +kernel
theorem dX2_seekOrder_23 : decode cX2_seekOrder 23 = .ok (.return_, 1) := by decide +kernel
theorem dX2_bestNods_0 : decode cX2_bestNods 0 = .ok (.aload_n 0, 1) := by decide +kernel
theorem dX2_bestNods_1 : decode cX2_bestNods 1 = .ok (.getfield 28, 3) := by decide +kernel
theorem dX2_bestNods_4 : decode cX2_bestNods 4 = .ok (.ireturn, 1) := by decide +kernel
theorem dX2_bestAt_0 : decode cX2_bestAt 0 = .ok (.iload_n 1, 1) := by decide +kernel
theorem dX2_bestAt_1 : decode cX2_bestAt 1 = .ok (.ifCond .lt 20, 3) := by decide +kernel
theorem dX2_bestAt_4 : decode cX2_bestAt 4 = .ok (.iload_n 1, 1) := by decide +kernel
theorem dX2_bestAt_5 : decode cX2_bestAt 5 = .ok (.aload_n 0, 1) := by decide +kernel
theorem dX2_bestAt_6 : decode cX2_bestAt 6 = .ok (.getfield 24, 3) := by decide +kernel
theorem dX2_bestAt_9 : decode cX2_bestAt 9 = .ok (.if_icmp .ge 12, 3) := by decide +kernel
theorem dX2_bestAt_12 : decode cX2_bestAt 12 = .ok (.aload_n 0, 1) := by decide +kernel
theorem dX2_bestAt_13 : decode cX2_bestAt 13 = .ok (.getfield 21, 3) := by decide +kernel
theorem dX2_bestAt_16 : decode cX2_bestAt 16 = .ok (.iload_n 1, 1) := by decide +kernel
theorem dX2_bestAt_17 : decode cX2_bestAt 17 = .ok (.iaload, 1) := by decide +kernel
theorem dX2_bestAt_18 : decode cX2_bestAt 18 = .ok (.goto 5, 3) := by decide +kernel
theorem dX2_bestAt_21 : decode cX2_bestAt 21 = .ok (.ldc 70, 2) := by decide +kernel
theorem dX2_bestAt_23 : decode cX2_bestAt 23 = .ok (.ireturn, 1) := by decide +kernel
theorem dX2_seekOrderFrom_0 : decode cX2_seekOrderFrom 0 = .ok (.iload_n 3, 1) := by decide +kernel
theorem dX2_seekOrderFrom_1 : decode cX2_seekOrderFrom 1 = .ok (.iload_n 2, 1) := by decide +kernel
theorem dX2_seekOrderFrom_2 : decode cX2_seekOrderFrom 2 = .ok (.invokestatic 71, 3) := by decide +kernel
theorem dX2_seekOrderFrom_5 : decode cX2_seekOrderFrom 5 = .ok (.iadd, 1) := by decide +kernel
theorem dX2_seekOrderFrom_6 : decode cX2_seekOrderFrom 6 = .ok (.aload_n 0, 1) := by decide +kernel
theorem dX2_seekOrderFrom_7 : decode cX2_seekOrderFrom 7 = .ok (.getfield 28, 3) := by decide +kernel
theorem dX2_seekOrderFrom_10 : decode cX2_seekOrderFrom 10 = .ok (.if_icmp .gt 4, 3) := by decide +kernel
theorem dX2_seekOrderFrom_13 : decode cX2_seekOrderFrom 13 = .ok (.return_, 1) := by decide +kernel
theorem dX2_seekOrderFrom_14 : decode cX2_seekOrderFrom 14 = .ok (.iload_n 2, 1) := by decide +kernel
theorem dX2_seekOrderFrom_15 : decode cX2_seekOrderFrom 15 = .ok (.ifCond .eq 9, 3) := by decide +kernel
theorem dX2_seekOrderFrom_18 : decode cX2_seekOrderFrom 18 = .ok (.iload_n 1, 1) := by decide +kernel
theorem dX2_seekOrderFrom_19 : decode cX2_seekOrderFrom 19 = .ok (.bipush 6, 2) := by decide +kernel
theorem dX2_seekOrderFrom_21 : decode cX2_seekOrderFrom 21 = .ok (.if_icmp .lt 10, 3) := by decide +kernel
theorem dX2_seekOrderFrom_24 : decode cX2_seekOrderFrom 24 = .ok (.aload_n 0, 1) := by decide +kernel
theorem dX2_seekOrderFrom_25 : decode cX2_seekOrderFrom 25 = .ok (.iload_n 1, 1) := by decide +kernel
theorem dX2_seekOrderFrom_26 : decode cX2_seekOrderFrom 26 = .ok (.iload_n 3, 1) := by decide +kernel
theorem dX2_seekOrderFrom_27 : decode cX2_seekOrderFrom 27 = .ok (.invokevirtual 76, 3) := by decide +kernel
theorem dX2_seekOrderFrom_30 : decode cX2_seekOrderFrom 30 = .ok (.return_, 1) := by decide +kernel
theorem dX2_seekOrderFrom_31 : decode cX2_seekOrderFrom 31 = .ok (.iconst 0, 1) := by decide +kernel
theorem dX2_seekOrderFrom_32 : decode cX2_seekOrderFrom 32 = .ok (.istore 4, 2) := by decide +kernel
theorem dX2_seekOrderFrom_34 : decode cX2_seekOrderFrom 34 = .ok (.iload 4, 2) := by decide +kernel
theorem dX2_seekOrderFrom_36 : decode cX2_seekOrderFrom 36 = .ok (.aload_n 0, 1) := by decide +kernel
theorem dX2_seekOrderFrom_37 : decode cX2_seekOrderFrom 37 = .ok (.getfield 40, 3) := by decide +kernel
theorem dX2_seekOrderFrom_40 : decode cX2_seekOrderFrom 40 = .ok (.getfield 59, 3) := by decide +kernel
theorem dX2_seekOrderFrom_43 : decode cX2_seekOrderFrom 43 = .ok (.if_icmp .ge 54, 3) := by decide +kernel
theorem dX2_seekOrderFrom_46 : decode cX2_seekOrderFrom 46 = .ok (.iload_n 2, 1) := by decide +kernel
theorem dX2_seekOrderFrom_47 : decode cX2_seekOrderFrom 47 = .ok (.iload 4, 2) := by decide +kernel
theorem dX2_seekOrderFrom_49 : decode cX2_seekOrderFrom 49 = .ok (.ishr, 1) := by decide +kernel
theorem dX2_seekOrderFrom_50 : decode cX2_seekOrderFrom 50 = .ok (.iconst 1, 1) := by decide +kernel
theorem dX2_seekOrderFrom_51 : decode cX2_seekOrderFrom 51 = .ok (.iand, 1) := by decide +kernel
theorem dX2_seekOrderFrom_52 : decode cX2_seekOrderFrom 52 = .ok (.ifCond .eq 39, 3) := by decide +kernel
theorem dX2_seekOrderFrom_55 : decode cX2_seekOrderFrom 55 = .ok (.aload_n 0, 1) := by decide +kernel
theorem dX2_seekOrderFrom_56 : decode cX2_seekOrderFrom 56 = .ok (.iload_n 1, 1) := by decide +kernel
theorem dX2_seekOrderFrom_57 : decode cX2_seekOrderFrom 57 = .ok (.iload 4, 2) := by decide +kernel
theorem dX2_seekOrderFrom_59 : decode cX2_seekOrderFrom 59 = .ok (.invokevirtual 80, 3) := by decide +kernel
theorem dX2_seekOrderFrom_62 : decode cX2_seekOrderFrom 62 = .ok (.istore 5, 2) := by decide +kernel
theorem dX2_seekOrderFrom_64 : decode cX2_seekOrderFrom 64 = .ok (.aload_n 0, 1) := by decide +kernel
theorem dX2_seekOrderFrom_65 : decode cX2_seekOrderFrom 65 = .ok (.iload_n 1, 1) := by decide +kernel
theorem dX2_seekOrderFrom_66 : decode cX2_seekOrderFrom 66 = .ok (.iconst 1, 1) := by decide +kernel
theorem dX2_seekOrderFrom_67 : decode cX2_seekOrderFrom 67 = .ok (.iadd, 1) := by decide +kernel
theorem dX2_seekOrderFrom_68 : decode cX2_seekOrderFrom 68 = .ok (.iload_n 2, 1) := by decide +kernel
theorem dX2_seekOrderFrom_69 : decode cX2_seekOrderFrom 69 = .ok (.iconst 1, 1) := by decide +kernel
theorem dX2_seekOrderFrom_70 : decode cX2_seekOrderFrom 70 = .ok (.iload 4, 2) := by decide +kernel
theorem dX2_seekOrderFrom_72 : decode cX2_seekOrderFrom 72 = .ok (.ishl, 1) := by decide +kernel
theorem dX2_seekOrderFrom_73 : decode cX2_seekOrderFrom 73 = .ok (.iconst (-1), 1) := by decide +kernel
theorem dX2_seekOrderFrom_74 : decode cX2_seekOrderFrom 74 = .ok (.ixor, 1) := by decide +kernel
theorem dX2_seekOrderFrom_75 : decode cX2_seekOrderFrom 75 = .ok (.iand, 1) := by decide +kernel
theorem dX2_seekOrderFrom_76 : decode cX2_seekOrderFrom 76 = .ok (.iload 5, 2) := by decide +kernel
theorem dX2_seekOrderFrom_78 : decode cX2_seekOrderFrom 78 = .ok (.ifCond .eq 9, 3) := by decide +kernel
theorem dX2_seekOrderFrom_81 : decode cX2_seekOrderFrom 81 = .ok (.iload_n 3, 1) := by decide +kernel
theorem dX2_seekOrderFrom_82 : decode cX2_seekOrderFrom 82 = .ok (.iconst 1, 1) := by decide +kernel
theorem dX2_seekOrderFrom_83 : decode cX2_seekOrderFrom 83 = .ok (.iadd, 1) := by decide +kernel
theorem dX2_seekOrderFrom_84 : decode cX2_seekOrderFrom 84 = .ok (.goto 4, 3) := by decide +kernel
theorem dX2_seekOrderFrom_87 : decode cX2_seekOrderFrom 87 = .ok (.iload_n 3, 1) := by decide +kernel
theorem dX2_seekOrderFrom_88 : decode cX2_seekOrderFrom 88 = .ok (.invokevirtual 66, 3) := by decide +kernel
theorem dX2_seekOrderFrom_91 : decode cX2_seekOrderFrom 91 = .ok (.iinc 4 1, 3) := by decide +kernel
theorem dX2_seekOrderFrom_94 : decode cX2_seekOrderFrom 94 = .ok (.goto (-60), 3) := by decide +kernel
theorem dX2_seekOrderFrom_97 : decode cX2_seekOrderFrom 97 = .ok (.return_, 1) := by decide +kernel
theorem dX2_keepBest_0 : decode cX2_keepBest 0 = .ok (.aload_n 0, 1) := by decide +kernel
theorem dX2_keepBest_1 : decode cX2_keepBest 1 = .ok (.iload_n 1, 1) := by decide +kernel
theorem dX2_keepBest_2 : decode cX2_keepBest 2 = .ok (.putfield 24, 3) := by decide +kernel
theorem dX2_keepBest_5 : decode cX2_keepBest 5 = .ok (.aload_n 0, 1) := by decide +kernel
theorem dX2_keepBest_6 : decode cX2_keepBest 6 = .ok (.iload_n 2, 1) := by decide +kernel
theorem dX2_keepBest_7 : decode cX2_keepBest 7 = .ok (.putfield 28, 3) := by decide +kernel
theorem dX2_keepBest_10 : decode cX2_keepBest 10 = .ok (.iconst 0, 1) := by decide +kernel
theorem dX2_keepBest_11 : decode cX2_keepBest 11 = .ok (.istore_n 3, 1) := by decide +kernel
theorem dX2_keepBest_12 : decode cX2_keepBest 12 = .ok (.iload_n 3, 1) := by decide +kernel
theorem dX2_keepBest_13 : decode cX2_keepBest 13 = .ok (.iload_n 1, 1) := by decide +kernel
theorem dX2_keepBest_14 : decode cX2_keepBest 14 = .ok (.if_icmp .ge 21, 3) := by decide +kernel
theorem dX2_keepBest_17 : decode cX2_keepBest 17 = .ok (.aload_n 0, 1) := by decide +kernel
theorem dX2_keepBest_18 : decode cX2_keepBest 18 = .ok (.getfield 21, 3) := by decide +kernel
theorem dX2_keepBest_21 : decode cX2_keepBest 21 = .ok (.iload_n 3, 1) := by decide +kernel
theorem dX2_keepBest_22 : decode cX2_keepBest 22 = .ok (.aload_n 0, 1) := by decide +kernel
theorem dX2_keepBest_23 : decode cX2_keepBest 23 = .ok (.getfield 17, 3) := by decide +kernel
theorem dX2_keepBest_26 : decode cX2_keepBest 26 = .ok (.iload_n 3, 1) := by decide +kernel
theorem dX2_keepBest_27 : decode cX2_keepBest 27 = .ok (.iaload, 1) := by decide +kernel
theorem dX2_keepBest_28 : decode cX2_keepBest 28 = .ok (.iastore, 1) := by decide +kernel
theorem dX2_keepBest_29 : decode cX2_keepBest 29 = .ok (.iinc 3 1, 3) := by decide +kernel
theorem dX2_keepBest_32 : decode cX2_keepBest 32 = .ok (.goto (-20), 3) := by decide +kernel
theorem dX2_keepBest_35 : decode cX2_keepBest 35 = .ok (.return_, 1) := by decide +kernel
theorem dX2_tryNext_0 : decode cX2_tryNext 0 = .ok (.aload_n 0, 1) := by decide +kernel
theorem dX2_tryNext_1 : decode cX2_tryNext 1 = .ok (.getfield 17, 3) := by decide +kernel
theorem dX2_tryNext_4 : decode cX2_tryNext 4 = .ok (.iload_n 1, 1) := by decide +kernel
theorem dX2_tryNext_5 : decode cX2_tryNext 5 = .ok (.iload_n 2, 1) := by decide +kernel
theorem dX2_tryNext_6 : decode cX2_tryNext 6 = .ok (.iastore, 1) := by decide +kernel
theorem dX2_tryNext_7 : decode cX2_tryNext 7 = .ok (.aload_n 0, 1) := by decide +kernel
theorem dX2_tryNext_8 : decode cX2_tryNext 8 = .ok (.getfield 13, 3) := by decide +kernel
theorem dX2_tryNext_11 : decode cX2_tryNext 11 = .ok (.iload_n 1, 1) := by decide +kernel
theorem dX2_tryNext_12 : decode cX2_tryNext 12 = .ok (.iconst 1, 1) := by decide +kernel
theorem dX2_tryNext_13 : decode cX2_tryNext 13 = .ok (.iadd, 1) := by decide +kernel
theorem dX2_tryNext_14 : decode cX2_tryNext 14 = .ok (.aaload, 1) := by decide +kernel
theorem dX2_tryNext_15 : decode cX2_tryNext 15 = .ok (.aload_n 0, 1) := by decide +kernel
theorem dX2_tryNext_16 : decode cX2_tryNext 16 = .ok (.getfield 13, 3) := by decide +kernel
theorem dX2_tryNext_19 : decode cX2_tryNext 19 = .ok (.iload_n 1, 1) := by decide +kernel
theorem dX2_tryNext_20 : decode cX2_tryNext 20 = .ok (.aaload, 1) := by decide +kernel
theorem dX2_tryNext_21 : decode cX2_tryNext 21 = .ok (.invokevirtual 84, 3) := by decide +kernel
theorem dX2_tryNext_24 : decode cX2_tryNext 24 = .ok (.aload_n 0, 1) := by decide +kernel
theorem dX2_tryNext_25 : decode cX2_tryNext 25 = .ok (.getfield 13, 3) := by decide +kernel
theorem dX2_tryNext_28 : decode cX2_tryNext 28 = .ok (.iload_n 1, 1) := by decide +kernel
theorem dX2_tryNext_29 : decode cX2_tryNext 29 = .ok (.iconst 1, 1) := by decide +kernel
theorem dX2_tryNext_30 : decode cX2_tryNext 30 = .ok (.iadd, 1) := by decide +kernel
theorem dX2_tryNext_31 : decode cX2_tryNext 31 = .ok (.aaload, 1) := by decide +kernel
theorem dX2_tryNext_32 : decode cX2_tryNext 32 = .ok (.aload_n 0, 1) := by decide +kernel
theorem dX2_tryNext_33 : decode cX2_tryNext 33 = .ok (.getfield 40, 3) := by decide +kernel
theorem dX2_tryNext_36 : decode cX2_tryNext 36 = .ok (.iload_n 2, 1) := by decide +kernel
theorem dX2_tryNext_37 : decode cX2_tryNext 37 = .ok (.invokevirtual 88, 3) := by decide +kernel
theorem dX2_tryNext_40 : decode cX2_tryNext 40 = .ok (.ireturn, 1) := by decide +kernel
theorem dX2_fewestAhead_0 : decode cX2_fewestAhead 0 = .ok (.aload_n 0, 1) := by decide +kernel
theorem dX2_fewestAhead_1 : decode cX2_fewestAhead 1 = .ok (.iload_n 1, 1) := by decide +kernel
theorem dX2_fewestAhead_2 : decode cX2_fewestAhead 2 = .ok (.invokevirtual 49, 3) := by decide +kernel
theorem dX2_fewestAhead_5 : decode cX2_fewestAhead 5 = .ok (.pop, 1) := by decide +kernel
theorem dX2_fewestAhead_6 : decode cX2_fewestAhead 6 = .ok (.aload_n 0, 1) := by decide +kernel
theorem dX2_fewestAhead_7 : decode cX2_fewestAhead 7 = .ok (.getfield 40, 3) := by decide +kernel
theorem dX2_fewestAhead_10 : decode cX2_fewestAhead 10 = .ok (.iload_n 1, 1) := by decide +kernel
theorem dX2_fewestAhead_11 : decode cX2_fewestAhead 11 = .ok (.invokevirtual 53, 3) := by decide +kernel
theorem dX2_fewestAhead_14 : decode cX2_fewestAhead 14 = .ok (.iconst 1, 1) := by decide +kernel
theorem dX2_fewestAhead_15 : decode cX2_fewestAhead 15 = .ok (.iload_n 2, 1) := by decide +kernel
theorem dX2_fewestAhead_16 : decode cX2_fewestAhead 16 = .ok (.ishl, 1) := by decide +kernel
theorem dX2_fewestAhead_17 : decode cX2_fewestAhead 17 = .ok (.iconst (-1), 1) := by decide +kernel
theorem dX2_fewestAhead_18 : decode cX2_fewestAhead 18 = .ok (.ixor, 1) := by decide +kernel
theorem dX2_fewestAhead_19 : decode cX2_fewestAhead 19 = .ok (.iand, 1) := by decide +kernel
theorem dX2_fewestAhead_20 : decode cX2_fewestAhead 20 = .ok (.istore_n 3, 1) := by decide +kernel
theorem dX2_fewestAhead_21 : decode cX2_fewestAhead 21 = .ok (.iload_n 3, 1) := by decide +kernel
theorem dX2_fewestAhead_22 : decode cX2_fewestAhead 22 = .ok (.invokestatic 71, 3) := by decide +kernel
theorem dX2_fewestAhead_25 : decode cX2_fewestAhead 25 = .ok (.istore 4, 2) := by decide +kernel
theorem dX2_fewestAhead_27 : decode cX2_fewestAhead 27 = .ok (.iconst 0, 1) := by decide +kernel
theorem dX2_fewestAhead_28 : decode cX2_fewestAhead 28 = .ok (.istore 5, 2) := by decide +kernel
theorem dX2_fewestAhead_30 : decode cX2_fewestAhead 30 = .ok (.iload 5, 2) := by decide +kernel
theorem dX2_fewestAhead_32 : decode cX2_fewestAhead 32 = .ok (.iload 4, 2) := by decide +kernel
theorem dX2_fewestAhead_34 : decode cX2_fewestAhead 34 = .ok (.if_icmp .gt 24, 3) := by decide +kernel
theorem dX2_fewestAhead_37 : decode cX2_fewestAhead 37 = .ok (.aload_n 0, 1) := by decide +kernel
theorem dX2_fewestAhead_38 : decode cX2_fewestAhead 38 = .ok (.iconst 0, 1) := by decide +kernel
theorem dX2_fewestAhead_39 : decode cX2_fewestAhead 39 = .ok (.iload_n 3, 1) := by decide +kernel
theorem dX2_fewestAhead_40 : decode cX2_fewestAhead 40 = .ok (.iload_n 2, 1) := by decide +kernel
theorem dX2_fewestAhead_41 : decode cX2_fewestAhead 41 = .ok (.iload 5, 2) := by decide +kernel
theorem dX2_fewestAhead_43 : decode cX2_fewestAhead 43 = .ok (.invokevirtual 91, 3) := by decide +kernel
theorem dX2_fewestAhead_46 : decode cX2_fewestAhead 46 = .ok (.ifCond .eq 6, 3) := by decide +kernel
theorem dX2_fewestAhead_49 : decode cX2_fewestAhead 49 = .ok (.iload 5, 2) := by decide +kernel
theorem dX2_fewestAhead_51 : decode cX2_fewestAhead 51 = .ok (.ireturn, 1) := by decide +kernel
theorem dX2_fewestAhead_52 : decode cX2_fewestAhead 52 = .ok (.iinc 5 1, 3) := by decide +kernel
theorem dX2_fewestAhead_55 : decode cX2_fewestAhead 55 = .ok (.goto (-25), 3) := by decide +kernel
theorem dX2_fewestAhead_58 : decode cX2_fewestAhead 58 = .ok (.ldc 70, 2) := by decide +kernel
theorem dX2_fewestAhead_60 : decode cX2_fewestAhead 60 = .ok (.ireturn, 1) := by decide +kernel
theorem dX2_firstAhead_0 : decode cX2_firstAhead 0 = .ok (.aload_n 0, 1) := by decide +kernel
theorem dX2_firstAhead_1 : decode cX2_firstAhead 1 = .ok (.getfield 17, 3) := by decide +kernel
theorem dX2_firstAhead_4 : decode cX2_firstAhead 4 = .ok (.iconst 0, 1) := by decide +kernel
theorem dX2_firstAhead_5 : decode cX2_firstAhead 5 = .ok (.iaload, 1) := by decide +kernel
theorem dX2_firstAhead_6 : decode cX2_firstAhead 6 = .ok (.ireturn, 1) := by decide +kernel
theorem dX2_comesInFrom_0 : decode cX2_comesInFrom 0 = .ok (.iload_n 1, 1) := by decide +kernel
theorem dX2_comesInFrom_1 : decode cX2_comesInFrom 1 = .ok (.iload 4, 2) := by decide +kernel
theorem dX2_comesInFrom_3 : decode cX2_comesInFrom 3 = .ok (.if_icmp .ge 9, 3) := by decide +kernel
theorem dX2_comesInFrom_6 : decode cX2_comesInFrom 6 = .ok (.iload_n 1, 1) := by decide +kernel
theorem dX2_comesInFrom_7 : decode cX2_comesInFrom 7 = .ok (.bipush 6, 2) := by decide +kernel
theorem dX2_comesInFrom_9 : decode cX2_comesInFrom 9 = .ok (.if_icmp .lt 18, 3) := by decide +kernel
theorem dX2_comesInFrom_12 : decode cX2_comesInFrom 12 = .ok (.aload_n 0, 1) := by decide +kernel
theorem dX2_comesInFrom_13 : decode cX2_comesInFrom 13 = .ok (.getfield 13, 3) := by decide +kernel
theorem dX2_comesInFrom_16 : decode cX2_comesInFrom 16 = .ok (.iload_n 1, 1) := by decide +kernel
theorem dX2_comesInFrom_17 : decode cX2_comesInFrom 17 = .ok (.aaload, 1) := by decide +kernel
theorem dX2_comesInFrom_18 : decode cX2_comesInFrom 18 = .ok (.aload_n 0, 1) := by decide +kernel
theorem dX2_comesInFrom_19 : decode cX2_comesInFrom 19 = .ok (.getfield 40, 3) := by decide +kernel
theorem dX2_comesInFrom_22 : decode cX2_comesInFrom 22 = .ok (.iload_n 3, 1) := by decide +kernel
theorem dX2_comesInFrom_23 : decode cX2_comesInFrom 23 = .ok (.invokevirtual 62, 3) := by decide +kernel
theorem dX2_comesInFrom_26 : decode cX2_comesInFrom 26 = .ok (.ireturn, 1) := by decide +kernel
theorem dX2_comesInFrom_27 : decode cX2_comesInFrom 27 = .ok (.iconst 0, 1) := by decide +kernel
theorem dX2_comesInFrom_28 : decode cX2_comesInFrom 28 = .ok (.istore 5, 2) := by decide +kernel
theorem dX2_comesInFrom_30 : decode cX2_comesInFrom 30 = .ok (.iload 5, 2) := by decide +kernel
theorem dX2_comesInFrom_32 : decode cX2_comesInFrom 32 = .ok (.aload_n 0, 1) := by decide +kernel
theorem dX2_comesInFrom_33 : decode cX2_comesInFrom 33 = .ok (.getfield 40, 3) := by decide +kernel
theorem dX2_comesInFrom_36 : decode cX2_comesInFrom 36 = .ok (.getfield 59, 3) := by decide +kernel
theorem dX2_comesInFrom_39 : decode cX2_comesInFrom 39 = .ok (.if_icmp .ge 49, 3) := by decide +kernel
theorem dX2_comesInFrom_42 : decode cX2_comesInFrom 42 = .ok (.iload_n 2, 1) := by decide +kernel
theorem dX2_comesInFrom_43 : decode cX2_comesInFrom 43 = .ok (.iload 5, 2) := by decide +kernel
theorem dX2_comesInFrom_45 : decode cX2_comesInFrom 45 = .ok (.ishr, 1) := by decide +kernel
theorem dX2_comesInFrom_46 : decode cX2_comesInFrom 46 = .ok (.iconst 1, 1) := by decide +kernel
theorem dX2_comesInFrom_47 : decode cX2_comesInFrom 47 = .ok (.iand, 1) := by decide +kernel
theorem dX2_comesInFrom_48 : decode cX2_comesInFrom 48 = .ok (.ifCond .eq 34, 3) := by decide +kernel
theorem dX2_comesInFrom_51 : decode cX2_comesInFrom 51 = .ok (.aload_n 0, 1) := by decide +kernel
theorem dX2_comesInFrom_52 : decode cX2_comesInFrom 52 = .ok (.iload_n 1, 1) := by decide +kernel
theorem dX2_comesInFrom_53 : decode cX2_comesInFrom 53 = .ok (.iload 5, 2) := by decide +kernel
theorem dX2_comesInFrom_55 : decode cX2_comesInFrom 55 = .ok (.invokevirtual 80, 3) := by decide +kernel
theorem dX2_comesInFrom_58 : decode cX2_comesInFrom 58 = .ok (.pop, 1) := by decide +kernel
theorem dX2_comesInFrom_59 : decode cX2_comesInFrom 59 = .ok (.aload_n 0, 1) := by decide +kernel
theorem dX2_comesInFrom_60 : decode cX2_comesInFrom 60 = .ok (.iload_n 1, 1) := by decide +kernel
theorem dX2_comesInFrom_61 : decode cX2_comesInFrom 61 = .ok (.iconst 1, 1) := by decide +kernel
theorem dX2_comesInFrom_62 : decode cX2_comesInFrom 62 = .ok (.iadd, 1) := by decide +kernel
theorem dX2_comesInFrom_63 : decode cX2_comesInFrom 63 = .ok (.iload_n 2, 1) := by decide +kernel
theorem dX2_comesInFrom_64 : decode cX2_comesInFrom 64 = .ok (.iconst 1, 1) := by decide +kernel
theorem dX2_comesInFrom_65 : decode cX2_comesInFrom 65 = .ok (.iload 5, 2) := by decide +kernel
theorem dX2_comesInFrom_67 : decode cX2_comesInFrom 67 = .ok (.ishl, 1) := by decide +kernel
theorem dX2_comesInFrom_68 : decode cX2_comesInFrom 68 = .ok (.iconst (-1), 1) := by decide +kernel
theorem dX2_comesInFrom_69 : decode cX2_comesInFrom 69 = .ok (.ixor, 1) := by decide +kernel
theorem dX2_comesInFrom_70 : decode cX2_comesInFrom 70 = .ok (.iand, 1) := by decide +kernel
theorem dX2_comesInFrom_71 : decode cX2_comesInFrom 71 = .ok (.iload_n 3, 1) := by decide +kernel
theorem dX2_comesInFrom_72 : decode cX2_comesInFrom 72 = .ok (.iload 4, 2) := by decide +kernel
theorem dX2_comesInFrom_74 : decode cX2_comesInFrom 74 = .ok (.invokevirtual 91, 3) := by decide +kernel
theorem dX2_comesInFrom_77 : decode cX2_comesInFrom 77 = .ok (.ifCond .eq 5, 3) := by decide +kernel
theorem dX2_comesInFrom_80 : decode cX2_comesInFrom 80 = .ok (.iconst 1, 1) := by decide +kernel
theorem dX2_comesInFrom_81 : decode cX2_comesInFrom 81 = .ok (.ireturn, 1) := by decide +kernel
theorem dX2_comesInFrom_82 : decode cX2_comesInFrom 82 = .ok (.iinc 5 1, 3) := by decide +kernel
theorem dX2_comesInFrom_85 : decode cX2_comesInFrom 85 = .ok (.goto (-55), 3) := by decide +kernel
theorem dX2_comesInFrom_88 : decode cX2_comesInFrom 88 = .ok (.iconst 0, 1) := by decide +kernel
theorem dX2_comesInFrom_89 : decode cX2_comesInFrom 89 = .ok (.ireturn, 1) := by decide +kernel
theorem dX2_deadLies_0 : decode cX2_deadLies 0 = .ok (.aload_n 0, 1) := by decide +kernel
theorem dX2_deadLies_1 : decode cX2_deadLies 1 = .ok (.iload_n 1, 1) := by decide +kernel
theorem dX2_deadLies_2 : decode cX2_deadLies 2 = .ok (.invokevirtual 49, 3) := by decide +kernel
theorem dX2_deadLies_5 : decode cX2_deadLies 5 = .ok (.pop, 1) := by decide +kernel
theorem dX2_deadLies_6 : decode cX2_deadLies 6 = .ok (.aload_n 0, 1) := by decide +kernel
theorem dX2_deadLies_7 : decode cX2_deadLies 7 = .ok (.getfield 40, 3) := by decide +kernel
theorem dX2_deadLies_10 : decode cX2_deadLies 10 = .ok (.iload_n 1, 1) := by decide +kernel
theorem dX2_deadLies_11 : decode cX2_deadLies 11 = .ok (.invokevirtual 53, 3) := by decide +kernel
theorem dX2_deadLies_14 : decode cX2_deadLies 14 = .ok (.istore_n 2, 1) := by decide +kernel
theorem dX2_deadLies_15 : decode cX2_deadLies 15 = .ok (.aload_n 0, 1) := by decide +kernel
theorem dX2_deadLies_16 : decode cX2_deadLies 16 = .ok (.iconst 0, 1) := by decide +kernel
theorem dX2_deadLies_17 : decode cX2_deadLies 17 = .ok (.iload_n 2, 1) := by decide +kernel
theorem dX2_deadLies_18 : decode cX2_deadLies 18 = .ok (.iload_n 2, 1) := by decide +kernel
theorem dX2_deadLies_19 : decode cX2_deadLies 19 = .ok (.invokevirtual 95, 3) := by decide +kernel
theorem dX2_deadLies_22 : decode cX2_deadLies 22 = .ok (.ireturn, 1) := by decide +kernel
theorem dX2_deadFrom_0 : decode cX2_deadFrom 0 = .ok (.iload_n 3, 1) := by decide +kernel
theorem dX2_deadFrom_1 : decode cX2_deadFrom 1 = .ok (.istore 4, 2) := by decide +kernel
theorem dX2_deadFrom_3 : decode cX2_deadFrom 3 = .ok (.iload_n 1, 1) := by decide +kernel
theorem dX2_deadFrom_4 : decode cX2_deadFrom 4 = .ok (.bipush 6, 2) := by decide +kernel
theorem dX2_deadFrom_6 : decode cX2_deadFrom 6 = .ok (.if_icmp .lt 6, 3) := by decide +kernel
theorem dX2_deadFrom_9 : decode cX2_deadFrom 9 = .ok (.iload 4, 2) := by decide +kernel
theorem dX2_deadFrom_11 : decode cX2_deadFrom 11 = .ok (.ireturn, 1) := by decide +kernel
theorem dX2_deadFrom_12 : decode cX2_deadFrom 12 = .ok (.iconst 0, 1) := by decide +kernel
theorem dX2_deadFrom_13 : decode cX2_deadFrom 13 = .ok (.istore 5, 2) := by decide +kernel
theorem dX2_deadFrom_15 : decode cX2_deadFrom 15 = .ok (.iload 5, 2) := by decide +kernel
theorem dX2_deadFrom_17 : decode cX2_deadFrom 17 = .ok (.aload_n 0, 1) := by decide +kernel
theorem dX2_deadFrom_18 : decode cX2_deadFrom 18 = .ok (.getfield 40, 3) := by decide +kernel
theorem dX2_deadFrom_21 : decode cX2_deadFrom 21 = .ok (.getfield 59, 3) := by decide +kernel
theorem dX2_deadFrom_24 : decode cX2_deadFrom 24 = .ok (.if_icmp .ge 63, 3) := by decide +kernel
theorem dX2_deadFrom_27 : decode cX2_deadFrom 27 = .ok (.iload 4, 2) := by decide +kernel
theorem dX2_deadFrom_29 : decode cX2_deadFrom 29 = .ok (.ifCond .eq 58, 3) := by decide +kernel
theorem dX2_deadFrom_32 : decode cX2_deadFrom 32 = .ok (.iload_n 2, 1) := by decide +kernel
theorem dX2_deadFrom_33 : decode cX2_deadFrom 33 = .ok (.iload 5, 2) := by decide +kernel
theorem dX2_deadFrom_35 : decode cX2_deadFrom 35 = .ok (.ishr, 1) := by decide +kernel
theorem dX2_deadFrom_36 : decode cX2_deadFrom 36 = .ok (.iconst 1, 1) := by decide +kernel
theorem dX2_deadFrom_37 : decode cX2_deadFrom 37 = .ok (.iand, 1) := by decide +kernel
theorem dX2_deadFrom_38 : decode cX2_deadFrom 38 = .ok (.ifCond .eq 43, 3) := by decide +kernel
theorem dX2_deadFrom_41 : decode cX2_deadFrom 41 = .ok (.aload_n 0, 1) := by decide +kernel
theorem dX2_deadFrom_42 : decode cX2_deadFrom 42 = .ok (.iload_n 1, 1) := by decide +kernel
theorem dX2_deadFrom_43 : decode cX2_deadFrom 43 = .ok (.iload 5, 2) := by decide +kernel
theorem dX2_deadFrom_45 : decode cX2_deadFrom 45 = .ok (.invokevirtual 80, 3) := by decide +kernel
theorem dX2_deadFrom_48 : decode cX2_deadFrom 48 = .ok (.ifCond .eq 14, 3) := by decide +kernel
theorem dX2_deadFrom_51 : decode cX2_deadFrom 51 = .ok (.iload 4, 2) := by decide +kernel
theorem dX2_deadFrom_53 : decode cX2_deadFrom 53 = .ok (.iconst 1, 1) := by decide +kernel
theorem dX2_deadFrom_54 : decode cX2_deadFrom 54 = .ok (.iload 5, 2) := by decide +kernel
theorem dX2_deadFrom_56 : decode cX2_deadFrom 56 = .ok (.ishl, 1) := by decide +kernel
theorem dX2_deadFrom_57 : decode cX2_deadFrom 57 = .ok (.iconst (-1), 1) := by decide +kernel
theorem dX2_deadFrom_58 : decode cX2_deadFrom 58 = .ok (.ixor, 1) := by decide +kernel
theorem dX2_deadFrom_59 : decode cX2_deadFrom 59 = .ok (.iand, 1) := by decide +kernel
theorem dX2_deadFrom_60 : decode cX2_deadFrom 60 = .ok (.istore 4, 2) := by decide +kernel
theorem dX2_deadFrom_62 : decode cX2_deadFrom 62 = .ok (.aload_n 0, 1) := by decide +kernel
theorem dX2_deadFrom_63 : decode cX2_deadFrom 63 = .ok (.iload_n 1, 1) := by decide +kernel
theorem dX2_deadFrom_64 : decode cX2_deadFrom 64 = .ok (.iconst 1, 1) := by decide +kernel
theorem dX2_deadFrom_65 : decode cX2_deadFrom 65 = .ok (.iadd, 1) := by decide +kernel
theorem dX2_deadFrom_66 : decode cX2_deadFrom 66 = .ok (.iload_n 2, 1) := by decide +kernel
theorem dX2_deadFrom_67 : decode cX2_deadFrom 67 = .ok (.iconst 1, 1) := by decide +kernel
theorem dX2_deadFrom_68 : decode cX2_deadFrom 68 = .ok (.iload 5, 2) := by decide +kernel
theorem dX2_deadFrom_70 : decode cX2_deadFrom 70 = .ok (.ishl, 1) := by decide +kernel
theorem dX2_deadFrom_71 : decode cX2_deadFrom 71 = .ok (.iconst (-1), 1) := by decide +kernel
theorem dX2_deadFrom_72 : decode cX2_deadFrom 72 = .ok (.ixor, 1) := by decide +kernel
theorem dX2_deadFrom_73 : decode cX2_deadFrom 73 = .ok (.iand, 1) := by decide +kernel
theorem dX2_deadFrom_74 : decode cX2_deadFrom 74 = .ok (.iload 4, 2) := by decide +kernel
theorem dX2_deadFrom_76 : decode cX2_deadFrom 76 = .ok (.invokevirtual 95, 3) := by decide +kernel
theorem dX2_deadFrom_79 : decode cX2_deadFrom 79 = .ok (.istore 4, 2) := by decide +kernel
theorem dX2_deadFrom_81 : decode cX2_deadFrom 81 = .ok (.iinc 5 1, 3) := by decide +kernel
theorem dX2_deadFrom_84 : decode cX2_deadFrom 84 = .ok (.goto (-69), 3) := by decide +kernel
theorem dX2_deadFrom_87 : decode cX2_deadFrom 87 = .ok (.iload 4, 2) := by decide +kernel
theorem dX2_deadFrom_89 : decode cX2_deadFrom 89 = .ok (.ireturn, 1) := by decide +kernel
theorem dX2_helpEachOther_0 : decode cX2_helpEachOther 0 = .ok (.aload_n 0, 1) := by decide +kernel
theorem dX2_helpEachOther_1 : decode cX2_helpEachOther 1 = .ok (.getfield 40, 3) := by decide +kernel
theorem dX2_helpEachOther_4 : decode cX2_helpEachOther 4 = .ok (.iload_n 1, 1) := by decide +kernel
theorem dX2_helpEachOther_5 : decode cX2_helpEachOther 5 = .ok (.iload_n 2, 1) := by decide +kernel
theorem dX2_helpEachOther_6 : decode cX2_helpEachOther 6 = .ok (.invokevirtual 99, 3) := by decide +kernel
theorem dX2_helpEachOther_9 : decode cX2_helpEachOther 9 = .ok (.ifCond .ne 15, 3) := by decide +kernel
theorem dX2_helpEachOther_12 : decode cX2_helpEachOther 12 = .ok (.aload_n 0, 1) := by decide +kernel
theorem dX2_helpEachOther_13 : decode cX2_helpEachOther 13 = .ok (.getfield 40, 3) := by decide +kernel
theorem dX2_helpEachOther_16 : decode cX2_helpEachOther 16 = .ok (.iload_n 1, 1) := by decide +kernel
theorem dX2_helpEachOther_17 : decode cX2_helpEachOther 17 = .ok (.iload_n 3, 1) := by decide +kernel
theorem dX2_helpEachOther_18 : decode cX2_helpEachOther 18 = .ok (.invokevirtual 99, 3) := by decide +kernel
theorem dX2_helpEachOther_21 : decode cX2_helpEachOther 21 = .ok (.ifCond .eq 5, 3) := by decide +kernel
theorem dX2_helpEachOther_24 : decode cX2_helpEachOther 24 = .ok (.iconst 0, 1) := by decide +kernel
theorem dX2_helpEachOther_25 : decode cX2_helpEachOther 25 = .ok (.ireturn, 1) := by decide +kernel
theorem dX2_helpEachOther_26 : decode cX2_helpEachOther 26 = .ok (.aload_n 0, 1) := by decide +kernel
theorem dX2_helpEachOther_27 : decode cX2_helpEachOther 27 = .ok (.iload_n 1, 1) := by decide +kernel
theorem dX2_helpEachOther_28 : decode cX2_helpEachOther 28 = .ok (.invokevirtual 49, 3) := by decide +kernel
theorem dX2_helpEachOther_31 : decode cX2_helpEachOther 31 = .ok (.pop, 1) := by decide +kernel
theorem dX2_helpEachOther_32 : decode cX2_helpEachOther 32 = .ok (.aload_n 0, 1) := by decide +kernel
theorem dX2_helpEachOther_33 : decode cX2_helpEachOther 33 = .ok (.iload_n 2, 1) := by decide +kernel
theorem dX2_helpEachOther_34 : decode cX2_helpEachOther 34 = .ok (.iload_n 3, 1) := by decide +kernel
theorem dX2_helpEachOther_35 : decode cX2_helpEachOther 35 = .ok (.invokevirtual 102, 3) := by decide +kernel
theorem dX2_helpEachOther_38 : decode cX2_helpEachOther 38 = .ok (.ifCond .ne 12, 3) := by decide +kernel
theorem dX2_helpEachOther_41 : decode cX2_helpEachOther 41 = .ok (.aload_n 0, 1) := by decide +kernel
theorem dX2_helpEachOther_42 : decode cX2_helpEachOther 42 = .ok (.iload_n 3, 1) := by decide +kernel
theorem dX2_helpEachOther_43 : decode cX2_helpEachOther 43 = .ok (.iload_n 2, 1) := by decide +kernel
theorem dX2_helpEachOther_44 : decode cX2_helpEachOther 44 = .ok (.invokevirtual 102, 3) := by decide +kernel
theorem dX2_helpEachOther_47 : decode cX2_helpEachOther 47 = .ok (.ifCond .eq 7, 3) := by decide +kernel
theorem dX2_helpEachOther_50 : decode cX2_helpEachOther 50 = .ok (.iconst 1, 1) := by decide +kernel
theorem dX2_helpEachOther_51 : decode cX2_helpEachOther 51 = .ok (.goto 4, 3) := by decide +kernel
theorem dX2_helpEachOther_54 : decode cX2_helpEachOther 54 = .ok (.iconst 0, 1) := by decide +kernel
theorem dX2_helpEachOther_55 : decode cX2_helpEachOther 55 = .ok (.ireturn, 1) := by decide +kernel
theorem dX2_bringsIn_0 : decode cX2_bringsIn 0 = .ok (.aload_n 0, 1) := by decide +kernel
theorem dX2_bringsIn_1 : decode cX2_bringsIn 1 = .ok (.getfield 13, 3) := by decide +kernel
theorem dX2_bringsIn_4 : decode cX2_bringsIn 4 = .ok (.iconst 0, 1) := by decide +kernel
theorem dX2_bringsIn_5 : decode cX2_bringsIn 5 = .ok (.aaload, 1) := by decide +kernel
theorem dX2_bringsIn_6 : decode cX2_bringsIn 6 = .ok (.aload_n 0, 1) := by decide +kernel
theorem dX2_bringsIn_7 : decode cX2_bringsIn 7 = .ok (.getfield 40, 3) := by decide +kernel
theorem dX2_bringsIn_10 : decode cX2_bringsIn 10 = .ok (.iload_n 2, 1) := by decide +kernel
theorem dX2_bringsIn_11 : decode cX2_bringsIn 11 = .ok (.invokevirtual 62, 3) := by decide +kernel
theorem dX2_bringsIn_14 : decode cX2_bringsIn 14 = .ok (.ifCond .eq 5, 3) := by decide +kernel
theorem dX2_bringsIn_17 : decode cX2_bringsIn 17 = .ok (.iconst 0, 1) := by decide +kernel
theorem dX2_bringsIn_18 : decode cX2_bringsIn 18 = .ok (.ireturn, 1) := by decide +kernel
theorem dX2_bringsIn_19 : decode cX2_bringsIn 19 = .ok (.aload_n 0, 1) := by decide +kernel
theorem dX2_bringsIn_20 : decode cX2_bringsIn 20 = .ok (.iconst 0, 1) := by decide +kernel
theorem dX2_bringsIn_21 : decode cX2_bringsIn 21 = .ok (.iload_n 1, 1) := by decide +kernel
theorem dX2_bringsIn_22 : decode cX2_bringsIn 22 = .ok (.invokevirtual 80, 3) := by decide +kernel
theorem dX2_bringsIn_25 : decode cX2_bringsIn 25 = .ok (.pop, 1) := by decide +kernel
theorem dX2_bringsIn_26 : decode cX2_bringsIn 26 = .ok (.aload_n 0, 1) := by decide +kernel
theorem dX2_bringsIn_27 : decode cX2_bringsIn 27 = .ok (.getfield 13, 3) := by decide +kernel
theorem dX2_bringsIn_30 : decode cX2_bringsIn 30 = .ok (.iconst 1, 1) := by decide +kernel
theorem dX2_bringsIn_31 : decode cX2_bringsIn 31 = .ok (.aaload, 1) := by decide +kernel
theorem dX2_bringsIn_32 : decode cX2_bringsIn 32 = .ok (.aload_n 0, 1) := by decide +kernel
theorem dX2_bringsIn_33 : decode cX2_bringsIn 33 = .ok (.getfield 40, 3) := by decide +kernel
theorem dX2_bringsIn_36 : decode cX2_bringsIn 36 = .ok (.iload_n 2, 1) := by decide +kernel
theorem dX2_bringsIn_37 : decode cX2_bringsIn 37 = .ok (.invokevirtual 62, 3) := by decide +kernel
theorem dX2_bringsIn_40 : decode cX2_bringsIn 40 = .ok (.ireturn, 1) := by decide +kernel
theorem dX2_takeTelling_0 : decode cX2_takeTelling 0 = .ok (.iconst 0, 1) := by decide +kernel
theorem dX2_takeTelling_1 : decode cX2_takeTelling 1 = .ok (.istore 5, 2) := by decide +kernel
theorem dX2_takeTelling_3 : decode cX2_takeTelling 3 = .ok (.iload 5, 2) := by decide +kernel
theorem dX2_takeTelling_5 : decode cX2_takeTelling 5 = .ok (.iload 4, 2) := by decide +kernel
theorem dX2_takeTelling_7 : decode cX2_takeTelling 7 = .ok (.if_icmp .ge 65, 3) := by decide +kernel
theorem dX2_takeTelling_10 : decode cX2_takeTelling 10 = .ok (.aload_n 1, 1) := by decide +kernel
theorem dX2_takeTelling_11 : decode cX2_takeTelling 11 = .ok (.iload_n 2, 1) := by decide +kernel
theorem dX2_takeTelling_12 : decode cX2_takeTelling 12 = .ok (.iload_n 3, 1) := by decide +kernel
theorem dX2_takeTelling_13 : decode cX2_takeTelling 13 = .ok (.iconst 2, 1) := by decide +kernel
theorem dX2_takeTelling_14 : decode cX2_takeTelling 14 = .ok (.iload 5, 2) := by decide +kernel
theorem dX2_takeTelling_16 : decode cX2_takeTelling 16 = .ok (.imul, 1) := by decide +kernel
theorem dX2_takeTelling_17 : decode cX2_takeTelling 17 = .ok (.iadd, 1) := by decide +kernel
theorem dX2_takeTelling_18 : decode cX2_takeTelling 18 = .ok (.invokevirtual 105, 3) := by decide +kernel
theorem dX2_takeTelling_21 : decode cX2_takeTelling 21 = .ok (.istore 6, 2) := by decide +kernel
theorem dX2_takeTelling_23 : decode cX2_takeTelling 23 = .ok (.aload_n 0, 1) := by decide +kernel
theorem dX2_takeTelling_24 : decode cX2_takeTelling 24 = .ok (.getfield 40, 3) := by decide +kernel
theorem dX2_takeTelling_27 : decode cX2_takeTelling 27 = .ok (.iload 6, 2) := by decide +kernel
theorem dX2_takeTelling_29 : decode cX2_takeTelling 29 = .ok (.invokevirtual 111, 3) := by decide +kernel
theorem dX2_takeTelling_32 : decode cX2_takeTelling 32 = .ok (.ifCond .ne 5, 3) := by decide +kernel
theorem dX2_takeTelling_35 : decode cX2_takeTelling 35 = .ok (.iconst 0, 1) := by decide +kernel
theorem dX2_takeTelling_36 : decode cX2_takeTelling 36 = .ok (.ireturn, 1) := by decide +kernel
theorem dX2_takeTelling_37 : decode cX2_takeTelling 37 = .ok (.aload_n 0, 1) := by decide +kernel
theorem dX2_takeTelling_38 : decode cX2_takeTelling 38 = .ok (.getfield 31, 3) := by decide +kernel
theorem dX2_takeTelling_41 : decode cX2_takeTelling 41 = .ok (.iload 5, 2) := by decide +kernel
theorem dX2_takeTelling_43 : decode cX2_takeTelling 43 = .ok (.iload 6, 2) := by decide +kernel
theorem dX2_takeTelling_45 : decode cX2_takeTelling 45 = .ok (.iastore, 1) := by decide +kernel
theorem dX2_takeTelling_46 : decode cX2_takeTelling 46 = .ok (.aload_n 0, 1) := by decide +kernel
theorem dX2_takeTelling_47 : decode cX2_takeTelling 47 = .ok (.getfield 34, 3) := by decide +kernel
theorem dX2_takeTelling_50 : decode cX2_takeTelling 50 = .ok (.iload 5, 2) := by decide +kernel
theorem dX2_takeTelling_52 : decode cX2_takeTelling 52 = .ok (.aload_n 1, 1) := by decide +kernel
theorem dX2_takeTelling_53 : decode cX2_takeTelling 53 = .ok (.iload_n 2, 1) := by decide +kernel
theorem dX2_takeTelling_54 : decode cX2_takeTelling 54 = .ok (.iload_n 3, 1) := by decide +kernel
theorem dX2_takeTelling_55 : decode cX2_takeTelling 55 = .ok (.iconst 2, 1) := by decide +kernel
theorem dX2_takeTelling_56 : decode cX2_takeTelling 56 = .ok (.iload 5, 2) := by decide +kernel
theorem dX2_takeTelling_58 : decode cX2_takeTelling 58 = .ok (.imul, 1) := by decide +kernel
theorem dX2_takeTelling_59 : decode cX2_takeTelling 59 = .ok (.iadd, 1) := by decide +kernel
theorem dX2_takeTelling_60 : decode cX2_takeTelling 60 = .ok (.iconst 1, 1) := by decide +kernel
theorem dX2_takeTelling_61 : decode cX2_takeTelling 61 = .ok (.iadd, 1) := by decide +kernel
theorem dX2_takeTelling_62 : decode cX2_takeTelling 62 = .ok (.invokevirtual 105, 3) := by decide +kernel
theorem dX2_takeTelling_65 : decode cX2_takeTelling 65 = .ok (.iastore, 1) := by decide +kernel
theorem dX2_takeTelling_66 : decode cX2_takeTelling 66 = .ok (.iinc 5 1, 3) := by decide +kernel
theorem dX2_takeTelling_69 : decode cX2_takeTelling 69 = .ok (.goto (-66), 3) := by decide +kernel
theorem dX2_takeTelling_72 : decode cX2_takeTelling 72 = .ok (.aload_n 0, 1) := by decide +kernel
theorem dX2_takeTelling_73 : decode cX2_takeTelling 73 = .ok (.iload 4, 2) := by decide +kernel
theorem dX2_takeTelling_75 : decode cX2_takeTelling 75 = .ok (.putfield 37, 3) := by decide +kernel
theorem dX2_takeTelling_78 : decode cX2_takeTelling 78 = .ok (.iconst 1, 1) := by decide +kernel
theorem dX2_takeTelling_79 : decode cX2_takeTelling 79 = .ok (.ireturn, 1) := by decide +kernel
theorem dX2_goesSo_0 : decode cX2_goesSo 0 = .ok (.aload_n 0, 1) := by decide +kernel
theorem dX2_goesSo_1 : decode cX2_goesSo 1 = .ok (.iload_n 1, 1) := by decide +kernel
theorem dX2_goesSo_2 : decode cX2_goesSo 2 = .ok (.invokevirtual 49, 3) := by decide +kernel
theorem dX2_goesSo_5 : decode cX2_goesSo 5 = .ok (.astore 4, 2) := by decide +kernel
theorem dX2_goesSo_7 : decode cX2_goesSo 7 = .ok (.aload 4, 2) := by decide +kernel
theorem dX2_goesSo_9 : decode cX2_goesSo 9 = .ok (.iload_n 2, 1) := by decide +kernel
theorem dX2_goesSo_10 : decode cX2_goesSo 10 = .ok (.putfield 115, 3) := by decide +kernel
theorem dX2_goesSo_13 : decode cX2_goesSo 13 = .ok (.aload 4, 2) := by decide +kernel
theorem dX2_goesSo_15 : decode cX2_goesSo 15 = .ok (.iload_n 3, 1) := by decide +kernel
theorem dX2_goesSo_16 : decode cX2_goesSo 16 = .ok (.putfield 118, 3) := by decide +kernel
theorem dX2_goesSo_19 : decode cX2_goesSo 19 = .ok (.iconst 0, 1) := by decide +kernel
theorem dX2_goesSo_20 : decode cX2_goesSo 20 = .ok (.istore 5, 2) := by decide +kernel
theorem dX2_goesSo_22 : decode cX2_goesSo 22 = .ok (.iload 5, 2) := by decide +kernel
theorem dX2_goesSo_24 : decode cX2_goesSo 24 = .ok (.aload_n 0, 1) := by decide +kernel
theorem dX2_goesSo_25 : decode cX2_goesSo 25 = .ok (.getfield 37, 3) := by decide +kernel
theorem dX2_goesSo_28 : decode cX2_goesSo 28 = .ok (.if_icmp .ge 49, 3) := by decide +kernel
theorem dX2_goesSo_31 : decode cX2_goesSo 31 = .ok (.aload 4, 2) := by decide +kernel
theorem dX2_goesSo_33 : decode cX2_goesSo 33 = .ok (.aload_n 0, 1) := by decide +kernel
theorem dX2_goesSo_34 : decode cX2_goesSo 34 = .ok (.getfield 40, 3) := by decide +kernel
theorem dX2_goesSo_37 : decode cX2_goesSo 37 = .ok (.aload_n 0, 1) := by decide +kernel
theorem dX2_goesSo_38 : decode cX2_goesSo 38 = .ok (.getfield 31, 3) := by decide +kernel
theorem dX2_goesSo_41 : decode cX2_goesSo 41 = .ok (.iload 5, 2) := by decide +kernel
theorem dX2_goesSo_43 : decode cX2_goesSo 43 = .ok (.iaload, 1) := by decide +kernel
theorem dX2_goesSo_44 : decode cX2_goesSo 44 = .ok (.invokevirtual 88, 3) := by decide +kernel
theorem dX2_goesSo_47 : decode cX2_goesSo 47 = .ok (.ifCond .eq 7, 3) := by decide +kernel
theorem dX2_goesSo_50 : decode cX2_goesSo 50 = .ok (.iconst 1, 1) := by decide +kernel
theorem dX2_goesSo_51 : decode cX2_goesSo 51 = .ok (.goto 4, 3) := by decide +kernel
theorem dX2_goesSo_54 : decode cX2_goesSo 54 = .ok (.iconst 0, 1) := by decide +kernel
theorem dX2_goesSo_55 : decode cX2_goesSo 55 = .ok (.istore 6, 2) := by decide +kernel
theorem dX2_goesSo_57 : decode cX2_goesSo 57 = .ok (.iload 6, 2) := by decide +kernel
theorem dX2_goesSo_59 : decode cX2_goesSo 59 = .ok (.aload_n 0, 1) := by decide +kernel
theorem dX2_goesSo_60 : decode cX2_goesSo 60 = .ok (.getfield 34, 3) := by decide +kernel
theorem dX2_goesSo_63 : decode cX2_goesSo 63 = .ok (.iload 5, 2) := by decide +kernel
theorem dX2_goesSo_65 : decode cX2_goesSo 65 = .ok (.iaload, 1) := by decide +kernel
end
section
theorem dX2_goesSo_66 : decode cX2_goesSo 66 = .ok (.if_icmp .eq 5, 3) := by decide +kernel
theorem dX2_goesSo_69 : decode cX2_goesSo 69 = .ok (.iconst 0, 1) := by decide +kernel
theorem dX2_goesSo_70 : decode cX2_goesSo 70 = .ok (.ireturn, 1) := by decide +kernel
theorem dX2_goesSo_71 : decode cX2_goesSo 71 = .ok (.iinc 5 1, 3) := by decide +kernel
theorem dX2_goesSo_74 : decode cX2_goesSo 74 = .ok (.goto (-52), 3) := by decide +kernel
theorem dX2_goesSo_77 : decode cX2_goesSo 77 = .ok (.iconst 1, 1) := by decide +kernel
theorem dX2_goesSo_78 : decode cX2_goesSo 78 = .ok (.ireturn, 1) := by decide +kernel
theorem dX2_waysToNod_0 : decode cX2_waysToNod 0 = .ok (.aload_n 0, 1) := by decide +kernel
theorem dX2_waysToNod_1 : decode cX2_waysToNod 1 = .ok (.iload_n 1, 1) := by decide +kernel
theorem dX2_waysToNod_2 : decode cX2_waysToNod 2 = .ok (.invokevirtual 49, 3) := by decide +kernel
theorem dX2_waysToNod_5 : decode cX2_waysToNod 5 = .ok (.pop, 1) := by decide +kernel
theorem dX2_waysToNod_6 : decode cX2_waysToNod 6 = .ok (.aload_n 0, 1) := by decide +kernel
theorem dX2_waysToNod_7 : decode cX2_waysToNod 7 = .ok (.iconst 0, 1) := by decide +kernel
theorem dX2_waysToNod_8 : decode cX2_waysToNod 8 = .ok (.iload_n 2, 1) := by decide +kernel
theorem dX2_waysToNod_9 : decode cX2_waysToNod 9 = .ok (.iload_n 3, 1) := by decide +kernel
theorem dX2_waysToNod_10 : decode cX2_waysToNod 10 = .ok (.invokevirtual 121, 3) := by decide +kernel
theorem dX2_waysToNod_13 : decode cX2_waysToNod 13 = .ok (.ireturn, 1) := by decide +kernel
theorem dX2_waysInAll_0 : decode cX2_waysInAll 0 = .ok (.iconst 1, 1) := by decide +kernel
theorem dX2_waysInAll_1 : decode cX2_waysInAll 1 = .ok (.istore_n 1, 1) := by decide +kernel
theorem dX2_waysInAll_2 : decode cX2_waysInAll 2 = .ok (.iconst 0, 1) := by decide +kernel
theorem dX2_waysInAll_3 : decode cX2_waysInAll 3 = .ok (.istore_n 2, 1) := by decide +kernel
theorem dX2_waysInAll_4 : decode cX2_waysInAll 4 = .ok (.iload_n 2, 1) := by decide +kernel
theorem dX2_waysInAll_5 : decode cX2_waysInAll 5 = .ok (.aload_n 0, 1) := by decide +kernel
theorem dX2_waysInAll_6 : decode cX2_waysInAll 6 = .ok (.getfield 37, 3) := by decide +kernel
theorem dX2_waysInAll_9 : decode cX2_waysInAll 9 = .ok (.if_icmp .ge 14, 3) := by decide +kernel
theorem dX2_waysInAll_12 : decode cX2_waysInAll 12 = .ok (.iload_n 1, 1) := by decide +kernel
theorem dX2_waysInAll_13 : decode cX2_waysInAll 13 = .ok (.bipush 10, 2) := by decide +kernel
theorem dX2_waysInAll_15 : decode cX2_waysInAll 15 = .ok (.imul, 1) := by decide +kernel
theorem dX2_waysInAll_16 : decode cX2_waysInAll 16 = .ok (.istore_n 1, 1) := by decide +kernel
theorem dX2_waysInAll_17 : decode cX2_waysInAll 17 = .ok (.iinc 2 1, 3) := by decide +kernel
theorem dX2_waysInAll_20 : decode cX2_waysInAll 20 = .ok (.goto (-16), 3) := by decide +kernel
theorem dX2_waysInAll_23 : decode cX2_waysInAll 23 = .ok (.iload_n 1, 1) := by decide +kernel
theorem dX2_waysInAll_24 : decode cX2_waysInAll 24 = .ok (.ireturn, 1) := by decide +kernel
theorem dX2_waysFrom_0 : decode cX2_waysFrom 0 = .ok (.iload_n 1, 1) := by decide +kernel
theorem dX2_waysFrom_1 : decode cX2_waysFrom 1 = .ok (.aload_n 0, 1) := by decide +kernel
theorem dX2_waysFrom_2 : decode cX2_waysFrom 2 = .ok (.getfield 37, 3) := by decide +kernel
theorem dX2_waysFrom_5 : decode cX2_waysFrom 5 = .ok (.if_icmp .ge 9, 3) := by decide +kernel
theorem dX2_waysFrom_8 : decode cX2_waysFrom 8 = .ok (.iload_n 1, 1) := by decide +kernel
theorem dX2_waysFrom_9 : decode cX2_waysFrom 9 = .ok (.bipush 6, 2) := by decide +kernel
theorem dX2_waysFrom_11 : decode cX2_waysFrom 11 = .ok (.if_icmp .lt 13, 3) := by decide +kernel
theorem dX2_waysFrom_14 : decode cX2_waysFrom 14 = .ok (.iload_n 2, 1) := by decide +kernel
theorem dX2_waysFrom_15 : decode cX2_waysFrom 15 = .ok (.ifCond .gt 7, 3) := by decide +kernel
theorem dX2_waysFrom_18 : decode cX2_waysFrom 18 = .ok (.iconst 1, 1) := by decide +kernel
theorem dX2_waysFrom_19 : decode cX2_waysFrom 19 = .ok (.goto 4, 3) := by decide +kernel
theorem dX2_waysFrom_22 : decode cX2_waysFrom 22 = .ok (.iconst 0, 1) := by decide +kernel
theorem dX2_waysFrom_23 : decode cX2_waysFrom 23 = .ok (.ireturn, 1) := by decide +kernel
theorem dX2_waysFrom_24 : decode cX2_waysFrom 24 = .ok (.aload_n 0, 1) := by decide +kernel
theorem dX2_waysFrom_25 : decode cX2_waysFrom 25 = .ok (.getfield 31, 3) := by decide +kernel
theorem dX2_waysFrom_28 : decode cX2_waysFrom 28 = .ok (.iload_n 1, 1) := by decide +kernel
theorem dX2_waysFrom_29 : decode cX2_waysFrom 29 = .ok (.iaload, 1) := by decide +kernel
theorem dX2_waysFrom_30 : decode cX2_waysFrom 30 = .ok (.istore 4, 2) := by decide +kernel
theorem dX2_waysFrom_32 : decode cX2_waysFrom 32 = .ok (.aload_n 0, 1) := by decide +kernel
theorem dX2_waysFrom_33 : decode cX2_waysFrom 33 = .ok (.getfield 13, 3) := by decide +kernel
theorem dX2_waysFrom_36 : decode cX2_waysFrom 36 = .ok (.iload_n 1, 1) := by decide +kernel
theorem dX2_waysFrom_37 : decode cX2_waysFrom 37 = .ok (.aaload, 1) := by decide +kernel
theorem dX2_waysFrom_38 : decode cX2_waysFrom 38 = .ok (.aload_n 0, 1) := by decide +kernel
theorem dX2_waysFrom_39 : decode cX2_waysFrom 39 = .ok (.getfield 40, 3) := by decide +kernel
theorem dX2_waysFrom_42 : decode cX2_waysFrom 42 = .ok (.iload 4, 2) := by decide +kernel
theorem dX2_waysFrom_44 : decode cX2_waysFrom 44 = .ok (.invokevirtual 62, 3) := by decide +kernel
theorem dX2_waysFrom_47 : decode cX2_waysFrom 47 = .ok (.istore 5, 2) := by decide +kernel
theorem dX2_waysFrom_49 : decode cX2_waysFrom 49 = .ok (.aload_n 0, 1) := by decide +kernel
theorem dX2_waysFrom_50 : decode cX2_waysFrom 50 = .ok (.getfield 13, 3) := by decide +kernel
theorem dX2_waysFrom_53 : decode cX2_waysFrom 53 = .ok (.iload_n 1, 1) := by decide +kernel
theorem dX2_waysFrom_54 : decode cX2_waysFrom 54 = .ok (.iconst 1, 1) := by decide +kernel
theorem dX2_waysFrom_55 : decode cX2_waysFrom 55 = .ok (.iadd, 1) := by decide +kernel
theorem dX2_waysFrom_56 : decode cX2_waysFrom 56 = .ok (.aaload, 1) := by decide +kernel
theorem dX2_waysFrom_57 : decode cX2_waysFrom 57 = .ok (.aload_n 0, 1) := by decide +kernel
theorem dX2_waysFrom_58 : decode cX2_waysFrom 58 = .ok (.getfield 13, 3) := by decide +kernel
theorem dX2_waysFrom_61 : decode cX2_waysFrom 61 = .ok (.iload_n 1, 1) := by decide +kernel
theorem dX2_waysFrom_62 : decode cX2_waysFrom 62 = .ok (.aaload, 1) := by decide +kernel
theorem dX2_waysFrom_63 : decode cX2_waysFrom 63 = .ok (.invokevirtual 84, 3) := by decide +kernel
theorem dX2_waysFrom_66 : decode cX2_waysFrom 66 = .ok (.aload_n 0, 1) := by decide +kernel
theorem dX2_waysFrom_67 : decode cX2_waysFrom 67 = .ok (.getfield 13, 3) := by decide +kernel
theorem dX2_waysFrom_70 : decode cX2_waysFrom 70 = .ok (.iload_n 1, 1) := by decide +kernel
theorem dX2_waysFrom_71 : decode cX2_waysFrom 71 = .ok (.iconst 1, 1) := by decide +kernel
theorem dX2_waysFrom_72 : decode cX2_waysFrom 72 = .ok (.iadd, 1) := by decide +kernel
theorem dX2_waysFrom_73 : decode cX2_waysFrom 73 = .ok (.aaload, 1) := by decide +kernel
theorem dX2_waysFrom_74 : decode cX2_waysFrom 74 = .ok (.aload_n 0, 1) := by decide +kernel
theorem dX2_waysFrom_75 : decode cX2_waysFrom 75 = .ok (.getfield 40, 3) := by decide +kernel
theorem dX2_waysFrom_78 : decode cX2_waysFrom 78 = .ok (.iload 4, 2) := by decide +kernel
theorem dX2_waysFrom_80 : decode cX2_waysFrom 80 = .ok (.iconst 0, 1) := by decide +kernel
theorem dX2_waysFrom_81 : decode cX2_waysFrom 81 = .ok (.invokevirtual 124, 3) := by decide +kernel
theorem dX2_waysFrom_84 : decode cX2_waysFrom 84 = .ok (.aload_n 0, 1) := by decide +kernel
theorem dX2_waysFrom_85 : decode cX2_waysFrom 85 = .ok (.iload_n 1, 1) := by decide +kernel
theorem dX2_waysFrom_86 : decode cX2_waysFrom 86 = .ok (.iconst 1, 1) := by decide +kernel
theorem dX2_waysFrom_87 : decode cX2_waysFrom 87 = .ok (.iadd, 1) := by decide +kernel
theorem dX2_waysFrom_88 : decode cX2_waysFrom 88 = .ok (.iload_n 2, 1) := by decide +kernel
theorem dX2_waysFrom_89 : decode cX2_waysFrom 89 = .ok (.iload_n 3, 1) := by decide +kernel
theorem dX2_waysFrom_90 : decode cX2_waysFrom 90 = .ok (.invokevirtual 121, 3) := by decide +kernel
theorem dX2_waysFrom_93 : decode cX2_waysFrom 93 = .ok (.istore 6, 2) := by decide +kernel
theorem dX2_waysFrom_95 : decode cX2_waysFrom 95 = .ok (.iload 5, 2) := by decide +kernel
theorem dX2_waysFrom_97 : decode cX2_waysFrom 97 = .ok (.ifCond .ne 9, 3) := by decide +kernel
theorem dX2_waysFrom_100 : decode cX2_waysFrom 100 = .ok (.bipush 10, 2) := by decide +kernel
theorem dX2_waysFrom_102 : decode cX2_waysFrom 102 = .ok (.iload 6, 2) := by decide +kernel
theorem dX2_waysFrom_104 : decode cX2_waysFrom 104 = .ok (.imul, 1) := by decide +kernel
theorem dX2_waysFrom_105 : decode cX2_waysFrom 105 = .ok (.ireturn, 1) := by decide +kernel
theorem dX2_waysFrom_106 : decode cX2_waysFrom 106 = .ok (.aload_n 0, 1) := by decide +kernel
theorem dX2_waysFrom_107 : decode cX2_waysFrom 107 = .ok (.getfield 13, 3) := by decide +kernel
theorem dX2_waysFrom_110 : decode cX2_waysFrom 110 = .ok (.iload_n 1, 1) := by decide +kernel
theorem dX2_waysFrom_111 : decode cX2_waysFrom 111 = .ok (.iconst 1, 1) := by decide +kernel
theorem dX2_waysFrom_112 : decode cX2_waysFrom 112 = .ok (.iadd, 1) := by decide +kernel
theorem dX2_waysFrom_113 : decode cX2_waysFrom 113 = .ok (.aaload, 1) := by decide +kernel
theorem dX2_waysFrom_114 : decode cX2_waysFrom 114 = .ok (.aload_n 0, 1) := by decide +kernel
theorem dX2_waysFrom_115 : decode cX2_waysFrom 115 = .ok (.getfield 13, 3) := by decide +kernel
theorem dX2_waysFrom_118 : decode cX2_waysFrom 118 = .ok (.iload_n 1, 1) := by decide +kernel
theorem dX2_waysFrom_119 : decode cX2_waysFrom 119 = .ok (.aaload, 1) := by decide +kernel
theorem dX2_waysFrom_120 : decode cX2_waysFrom 120 = .ok (.invokevirtual 84, 3) := by decide +kernel
theorem dX2_waysFrom_123 : decode cX2_waysFrom 123 = .ok (.aload_n 0, 1) := by decide +kernel
theorem dX2_waysFrom_124 : decode cX2_waysFrom 124 = .ok (.getfield 13, 3) := by decide +kernel
theorem dX2_waysFrom_127 : decode cX2_waysFrom 127 = .ok (.iload_n 1, 1) := by decide +kernel
theorem dX2_waysFrom_128 : decode cX2_waysFrom 128 = .ok (.iconst 1, 1) := by decide +kernel
theorem dX2_waysFrom_129 : decode cX2_waysFrom 129 = .ok (.iadd, 1) := by decide +kernel
theorem dX2_waysFrom_130 : decode cX2_waysFrom 130 = .ok (.aaload, 1) := by decide +kernel
theorem dX2_waysFrom_131 : decode cX2_waysFrom 131 = .ok (.aload_n 0, 1) := by decide +kernel
theorem dX2_waysFrom_132 : decode cX2_waysFrom 132 = .ok (.getfield 40, 3) := by decide +kernel
theorem dX2_waysFrom_135 : decode cX2_waysFrom 135 = .ok (.iload 4, 2) := by decide +kernel
theorem dX2_waysFrom_137 : decode cX2_waysFrom 137 = .ok (.iconst 1, 1) := by decide +kernel
theorem dX2_waysFrom_138 : decode cX2_waysFrom 138 = .ok (.invokevirtual 124, 3) := by decide +kernel
theorem dX2_waysFrom_141 : decode cX2_waysFrom 141 = .ok (.iload_n 3, 1) := by decide +kernel
theorem dX2_waysFrom_142 : decode cX2_waysFrom 142 = .ok (.iload 6, 2) := by decide +kernel
theorem dX2_waysFrom_144 : decode cX2_waysFrom 144 = .ok (.imul, 1) := by decide +kernel
theorem dX2_waysFrom_145 : decode cX2_waysFrom 145 = .ok (.bipush 10, 2) := by decide +kernel
theorem dX2_waysFrom_147 : decode cX2_waysFrom 147 = .ok (.iload_n 3, 1) := by decide +kernel
theorem dX2_waysFrom_148 : decode cX2_waysFrom 148 = .ok (.isub, 1) := by decide +kernel
theorem dX2_waysFrom_149 : decode cX2_waysFrom 149 = .ok (.aload_n 0, 1) := by decide +kernel
theorem dX2_waysFrom_150 : decode cX2_waysFrom 150 = .ok (.iload_n 1, 1) := by decide +kernel
theorem dX2_waysFrom_151 : decode cX2_waysFrom 151 = .ok (.iconst 1, 1) := by decide +kernel
theorem dX2_waysFrom_152 : decode cX2_waysFrom 152 = .ok (.iadd, 1) := by decide +kernel
theorem dX2_waysFrom_153 : decode cX2_waysFrom 153 = .ok (.iload_n 2, 1) := by decide +kernel
theorem dX2_waysFrom_154 : decode cX2_waysFrom 154 = .ok (.iconst 1, 1) := by decide +kernel
theorem dX2_waysFrom_155 : decode cX2_waysFrom 155 = .ok (.isub, 1) := by decide +kernel
theorem dX2_waysFrom_156 : decode cX2_waysFrom 156 = .ok (.iload_n 3, 1) := by decide +kernel
theorem dX2_waysFrom_157 : decode cX2_waysFrom 157 = .ok (.invokevirtual 121, 3) := by decide +kernel
theorem dX2_waysFrom_160 : decode cX2_waysFrom 160 = .ok (.imul, 1) := by decide +kernel
theorem dX2_waysFrom_161 : decode cX2_waysFrom 161 = .ok (.iadd, 1) := by decide +kernel
theorem dX2_waysFrom_162 : decode cX2_waysFrom 162 = .ok (.ireturn, 1) := by decide +kernel
theorem dX3_isKind_0 : decode cX3_isKind 0 = .ok (.iload_n 0, 1) := by decide +kernel
theorem dX3_isKind_1 : decode cX3_isKind 1 = .ok (.ifCond .lt 13, 3) := by decide +kernel
theorem dX3_isKind_4 : decode cX3_isKind 4 = .ok (.iload_n 0, 1) := by decide +kernel
theorem dX3_isKind_5 : decode cX3_isKind 5 = .ok (.bipush 6, 2) := by decide +kernel
theorem dX3_isKind_7 : decode cX3_isKind 7 = .ok (.if_icmp .ge 7, 3) := by decide +kernel
theorem dX3_isKind_10 : decode cX3_isKind 10 = .ok (.iconst 1, 1) := by decide +kernel
theorem dX3_isKind_11 : decode cX3_isKind 11 = .ok (.goto 4, 3) := by decide +kernel
theorem dX3_isKind_14 : decode cX3_isKind 14 = .ok (.iconst 0, 1) := by decide +kernel
theorem dX3_isKind_15 : decode cX3_isKind 15 = .ok (.ireturn, 1) := by decide +kernel
theorem dX3_isOne_0 : decode cX3_isOne 0 = .ok (.iload_n 0, 1) := by decide +kernel
theorem dX3_isOne_1 : decode cX3_isOne 1 = .ok (.istore_n 2, 1) := by decide +kernel
theorem dX3_isOne_2 : decode cX3_isOne 2 = .ok (.iconst 0, 1) := by decide +kernel
theorem dX3_isOne_3 : decode cX3_isOne 3 = .ok (.istore_n 3, 1) := by decide +kernel
theorem dX3_isOne_4 : decode cX3_isOne 4 = .ok (.iload_n 3, 1) := by decide +kernel
theorem dX3_isOne_5 : decode cX3_isOne 5 = .ok (.bipush 6, 2) := by decide +kernel
theorem dX3_isOne_7 : decode cX3_isOne 7 = .ok (.if_icmp .ge 19, 3) := by decide +kernel
theorem dX3_isOne_10 : decode cX3_isOne 10 = .ok (.iload_n 2, 1) := by decide +kernel
theorem dX3_isOne_11 : decode cX3_isOne 11 = .ok (.iload_n 1, 1) := by decide +kernel
theorem dX3_isOne_12 : decode cX3_isOne 12 = .ok (.if_icmp .eq 14, 3) := by decide +kernel
theorem dX3_isOne_15 : decode cX3_isOne 15 = .ok (.iload_n 2, 1) := by decide +kernel
theorem dX3_isOne_16 : decode cX3_isOne 16 = .ok (.invokestatic 9, 3) := by decide +kernel
theorem dX3_isOne_19 : decode cX3_isOne 19 = .ok (.istore_n 2, 1) := by decide +kernel
theorem dX3_isOne_20 : decode cX3_isOne 20 = .ok (.iinc 3 1, 3) := by decide +kernel
theorem dX3_isOne_23 : decode cX3_isOne 23 = .ok (.goto (-19), 3) := by decide +kernel
theorem dX3_isOne_26 : decode cX3_isOne 26 = .ok (.iload_n 2, 1) := by decide +kernel
theorem dX3_isOne_27 : decode cX3_isOne 27 = .ok (.iload_n 1, 1) := by decide +kernel
theorem dX3_isOne_28 : decode cX3_isOne 28 = .ok (.if_icmp .ne 7, 3) := by decide +kernel
theorem dX3_isOne_31 : decode cX3_isOne 31 = .ok (.iconst 1, 1) := by decide +kernel
theorem dX3_isOne_32 : decode cX3_isOne 32 = .ok (.goto 4, 3) := by decide +kernel
theorem dX3_isOne_35 : decode cX3_isOne 35 = .ok (.iconst 0, 1) := by decide +kernel
theorem dX3_isOne_36 : decode cX3_isOne 36 = .ok (.ireturn, 1) := by decide +kernel
theorem dX3_above_0 : decode cX3_above 0 = .ok (.iload_n 0, 1) := by decide +kernel
theorem dX3_above_1 : decode cX3_above 1 = .ok (.invokestatic 13, 3) := by decide +kernel
theorem dX3_above_4 : decode cX3_above 4 = .ok (.ifCond .eq 11, 3) := by decide +kernel
theorem dX3_above_7 : decode cX3_above 7 = .ok (.getstatic 17, 3) := by decide +kernel
theorem dX3_above_10 : decode cX3_above 10 = .ok (.iload_n 0, 1) := by decide +kernel
theorem dX3_above_11 : decode cX3_above 11 = .ok (.iaload, 1) := by decide +kernel
theorem dX3_above_12 : decode cX3_above 12 = .ok (.goto 4, 3) := by decide +kernel
theorem dX3_above_15 : decode cX3_above 15 = .ok (.iconst 0, 1) := by decide +kernel
theorem dX3_above_16 : decode cX3_above 16 = .ok (.ireturn, 1) := by decide +kernel
theorem dX3_ofLetter_0 : decode cX3_ofLetter 0 = .ok (.iload_n 0, 1) := by decide +kernel
theorem dX3_ofLetter_1 : decode cX3_ofLetter 1 = .ok (.lookupswitch 61 #[(97, 53), (101, 51), (104, 55), (108, 59), (112, 57)], 51) := by decide +kernel
theorem dX3_ofLetter_52 : decode cX3_ofLetter 52 = .ok (.iconst 1, 1) := by decide +kernel
theorem dX3_ofLetter_53 : decode cX3_ofLetter 53 = .ok (.ireturn, 1) := by decide +kernel
theorem dX3_ofLetter_54 : decode cX3_ofLetter 54 = .ok (.iconst 2, 1) := by decide +kernel
theorem dX3_ofLetter_55 : decode cX3_ofLetter 55 = .ok (.ireturn, 1) := by decide +kernel
theorem dX3_ofLetter_56 : decode cX3_ofLetter 56 = .ok (.iconst 3, 1) := by decide +kernel
theorem dX3_ofLetter_57 : decode cX3_ofLetter 57 = .ok (.ireturn, 1) := by decide +kernel
theorem dX3_ofLetter_58 : decode cX3_ofLetter 58 = .ok (.iconst 4, 1) := by decide +kernel
theorem dX3_ofLetter_59 : decode cX3_ofLetter 59 = .ok (.ireturn, 1) := by decide +kernel
theorem dX3_ofLetter_60 : decode cX3_ofLetter 60 = .ok (.iconst 5, 1) := by decide +kernel
theorem dX3_ofLetter_61 : decode cX3_ofLetter 61 = .ok (.ireturn, 1) := by decide +kernel
theorem dX3_ofLetter_62 : decode cX3_ofLetter 62 = .ok (.iconst 0, 1) := by decide +kernel
theorem dX3_ofLetter_63 : decode cX3_ofLetter 63 = .ok (.ireturn, 1) := by decide +kernel
theorem dX4_init_0 : decode cX4_init 0 = .ok (.aload_n 0, 1) := by decide +kernel
theorem dX4_init_1 : decode cX4_init 1 = .ok (.invokespecial 1, 3) := by decide +kernel
theorem dX4_init_4 : decode cX4_init 4 = .ok (.aload_n 0, 1) := by decide +kernel
theorem dX4_init_5 : decode cX4_init 5 = .ok (.iconst 0, 1) := by decide +kernel
theorem dX4_init_6 : decode cX4_init 6 = .ok (.putfield 7, 3) := by decide +kernel
theorem dX4_init_9 : decode cX4_init 9 = .ok (.aload_n 0, 1) := by decide +kernel
theorem dX4_init_10 : decode cX4_init 10 = .ok (.iconst 0, 1) := by decide +kernel
theorem dX4_init_11 : decode cX4_init 11 = .ok (.putfield 13, 3) := by decide +kernel
theorem dX4_init_14 : decode cX4_init 14 = .ok (.aload_n 0, 1) := by decide +kernel
theorem dX4_init_15 : decode cX4_init 15 = .ok (.iconst 0, 1) := by decide +kernel
theorem dX4_init_16 : decode cX4_init 16 = .ok (.putfield 16, 3) := by decide +kernel
theorem dX4_init_19 : decode cX4_init 19 = .ok (.aload_n 0, 1) := by decide +kernel
theorem dX4_init_20 : decode cX4_init 20 = .ok (.iconst 4, 1) := by decide +kernel
theorem dX4_init_21 : decode cX4_init 21 = .ok (.newarray .int, 2) := by decide +kernel
theorem dX4_init_23 : decode cX4_init 23 = .ok (.putfield 21, 3) := by decide +kernel
theorem dX4_init_26 : decode cX4_init 26 = .ok (.return_, 1) := by decide +kernel
theorem dX4_enter_0 : decode cX4_enter 0 = .ok (.aload_n 0, 1) := by decide +kernel
theorem dX4_enter_1 : decode cX4_enter 1 = .ok (.aload_n 1, 1) := by decide +kernel
theorem dX4_enter_2 : decode cX4_enter 2 = .ok (.getfield 25, 3) := by decide +kernel
theorem dX4_enter_5 : decode cX4_enter 5 = .ok (.iload_n 2, 1) := by decide +kernel
theorem dX4_enter_6 : decode cX4_enter 6 = .ok (.iaload, 1) := by decide +kernel
theorem dX4_enter_7 : decode cX4_enter 7 = .ok (.putfield 7, 3) := by decide +kernel
theorem dX4_enter_10 : decode cX4_enter 10 = .ok (.aload_n 0, 1) := by decide +kernel
theorem dX4_enter_11 : decode cX4_enter 11 = .ok (.aload_n 1, 1) := by decide +kernel
theorem dX4_enter_12 : decode cX4_enter 12 = .ok (.getfield 28, 3) := by decide +kernel
theorem dX4_enter_15 : decode cX4_enter 15 = .ok (.iload_n 2, 1) := by decide +kernel
theorem dX4_enter_16 : decode cX4_enter 16 = .ok (.iaload, 1) := by decide +kernel
theorem dX4_enter_17 : decode cX4_enter 17 = .ok (.putfield 13, 3) := by decide +kernel
theorem dX4_enter_20 : decode cX4_enter 20 = .ok (.aload_n 0, 1) := by decide +kernel
theorem dX4_enter_21 : decode cX4_enter 21 = .ok (.aload_n 1, 1) := by decide +kernel
theorem dX4_enter_22 : decode cX4_enter 22 = .ok (.getfield 30, 3) := by decide +kernel
theorem dX4_enter_25 : decode cX4_enter 25 = .ok (.iload_n 2, 1) := by decide +kernel
theorem dX4_enter_26 : decode cX4_enter 26 = .ok (.iaload, 1) := by decide +kernel
theorem dX4_enter_27 : decode cX4_enter 27 = .ok (.invokestatic 33, 3) := by decide +kernel
theorem dX4_enter_30 : decode cX4_enter 30 = .ok (.putfield 16, 3) := by decide +kernel
theorem dX4_enter_33 : decode cX4_enter 33 = .ok (.iconst 0, 1) := by decide +kernel
theorem dX4_enter_34 : decode cX4_enter 34 = .ok (.istore_n 3, 1) := by decide +kernel
theorem dX4_enter_35 : decode cX4_enter 35 = .ok (.iload_n 3, 1) := by decide +kernel
theorem dX4_enter_36 : decode cX4_enter 36 = .ok (.iconst 4, 1) := by decide +kernel
theorem dX4_enter_37 : decode cX4_enter 37 = .ok (.if_icmp .ge 16, 3) := by decide +kernel
theorem dX4_enter_40 : decode cX4_enter 40 = .ok (.aload_n 0, 1) := by decide +kernel
theorem dX4_enter_41 : decode cX4_enter 41 = .ok (.getfield 21, 3) := by decide +kernel
theorem dX4_enter_44 : decode cX4_enter 44 = .ok (.iload_n 3, 1) := by decide +kernel
theorem dX4_enter_45 : decode cX4_enter 45 = .ok (.iconst 0, 1) := by decide +kernel
theorem dX4_enter_46 : decode cX4_enter 46 = .ok (.iastore, 1) := by decide +kernel
theorem dX4_enter_47 : decode cX4_enter 47 = .ok (.iinc 3 1, 3) := by decide +kernel
theorem dX4_enter_50 : decode cX4_enter 50 = .ok (.goto (-15), 3) := by decide +kernel
theorem dX4_enter_53 : decode cX4_enter 53 = .ok (.iconst 0, 1) := by decide +kernel
theorem dX4_enter_54 : decode cX4_enter 54 = .ok (.istore_n 3, 1) := by decide +kernel
theorem dX4_enter_55 : decode cX4_enter 55 = .ok (.iload_n 3, 1) := by decide +kernel
theorem dX4_enter_56 : decode cX4_enter 56 = .ok (.aload_n 1, 1) := by decide +kernel
theorem dX4_enter_57 : decode cX4_enter 57 = .ok (.getfield 39, 3) := by decide +kernel
theorem dX4_enter_60 : decode cX4_enter 60 = .ok (.if_icmp .ge 33, 3) := by decide +kernel
theorem dX4_enter_63 : decode cX4_enter 63 = .ok (.aload_n 0, 1) := by decide +kernel
theorem dX4_enter_64 : decode cX4_enter 64 = .ok (.getfield 21, 3) := by decide +kernel
theorem dX4_enter_67 : decode cX4_enter 67 = .ok (.aload_n 1, 1) := by decide +kernel
theorem dX4_enter_68 : decode cX4_enter 68 = .ok (.getfield 42, 3) := by decide +kernel
theorem dX4_enter_71 : decode cX4_enter 71 = .ok (.iload_n 3, 1) := by decide +kernel
theorem dX4_enter_72 : decode cX4_enter 72 = .ok (.iaload, 1) := by decide +kernel
theorem dX4_enter_73 : decode cX4_enter 73 = .ok (.dup2, 1) := by decide +kernel
theorem dX4_enter_74 : decode cX4_enter 74 = .ok (.iaload, 1) := by decide +kernel
theorem dX4_enter_75 : decode cX4_enter 75 = .ok (.aload_n 1, 1) := by decide +kernel
theorem dX4_enter_76 : decode cX4_enter 76 = .ok (.getfield 45, 3) := by decide +kernel
theorem dX4_enter_79 : decode cX4_enter 79 = .ok (.iload_n 2, 1) := by decide +kernel
theorem dX4_enter_80 : decode cX4_enter 80 = .ok (.iaload, 1) := by decide +kernel
theorem dX4_enter_81 : decode cX4_enter 81 = .ok (.iload_n 3, 1) := by decide +kernel
theorem dX4_enter_82 : decode cX4_enter 82 = .ok (.ishr, 1) := by decide +kernel
theorem dX4_enter_83 : decode cX4_enter 83 = .ok (.iconst 1, 1) := by decide +kernel
theorem dX4_enter_84 : decode cX4_enter 84 = .ok (.iand, 1) := by decide +kernel
theorem dX4_enter_85 : decode cX4_enter 85 = .ok (.iadd, 1) := by decide +kernel
theorem dX4_enter_86 : decode cX4_enter 86 = .ok (.iastore, 1) := by decide +kernel
theorem dX4_enter_87 : decode cX4_enter 87 = .ok (.iinc 3 1, 3) := by decide +kernel
theorem dX4_enter_90 : decode cX4_enter 90 = .ok (.goto (-35), 3) := by decide +kernel
theorem dX4_enter_93 : decode cX4_enter 93 = .ok (.return_, 1) := by decide +kernel
theorem dX4_become_0 : decode cX4_become 0 = .ok (.aload_n 0, 1) := by decide +kernel
theorem dX4_become_1 : decode cX4_become 1 = .ok (.aload_n 1, 1) := by decide +kernel
theorem dX4_become_2 : decode cX4_become 2 = .ok (.getfield 7, 3) := by decide +kernel
theorem dX4_become_5 : decode cX4_become 5 = .ok (.putfield 7, 3) := by decide +kernel
theorem dX4_become_8 : decode cX4_become 8 = .ok (.aload_n 0, 1) := by decide +kernel
theorem dX4_become_9 : decode cX4_become 9 = .ok (.aload_n 1, 1) := by decide +kernel
theorem dX4_become_10 : decode cX4_become 10 = .ok (.getfield 13, 3) := by decide +kernel
theorem dX4_become_13 : decode cX4_become 13 = .ok (.putfield 13, 3) := by decide +kernel
theorem dX4_become_16 : decode cX4_become 16 = .ok (.aload_n 0, 1) := by decide +kernel
theorem dX4_become_17 : decode cX4_become 17 = .ok (.aload_n 1, 1) := by decide +kernel
theorem dX4_become_18 : decode cX4_become 18 = .ok (.getfield 16, 3) := by decide +kernel
theorem dX4_become_21 : decode cX4_become 21 = .ok (.putfield 16, 3) := by decide +kernel
theorem dX4_become_24 : decode cX4_become 24 = .ok (.iconst 0, 1) := by decide +kernel
theorem dX4_become_25 : decode cX4_become 25 = .ok (.istore_n 2, 1) := by decide +kernel
theorem dX4_become_26 : decode cX4_become 26 = .ok (.iload_n 2, 1) := by decide +kernel
theorem dX4_become_27 : decode cX4_become 27 = .ok (.iconst 4, 1) := by decide +kernel
theorem dX4_become_28 : decode cX4_become 28 = .ok (.if_icmp .ge 21, 3) := by decide +kernel
theorem dX4_become_31 : decode cX4_become 31 = .ok (.aload_n 0, 1) := by decide +kernel
theorem dX4_become_32 : decode cX4_become 32 = .ok (.getfield 21, 3) := by decide +kernel
theorem dX4_become_35 : decode cX4_become 35 = .ok (.iload_n 2, 1) := by decide +kernel
theorem dX4_become_36 : decode cX4_become 36 = .ok (.aload_n 1, 1) := by decide +kernel
theorem dX4_become_37 : decode cX4_become 37 = .ok (.getfield 21, 3) := by decide +kernel
theorem dX4_become_40 : decode cX4_become 40 = .ok (.iload_n 2, 1) := by decide +kernel
theorem dX4_become_41 : decode cX4_become 41 = .ok (.iaload, 1) := by decide +kernel
theorem dX4_become_42 : decode cX4_become 42 = .ok (.iastore, 1) := by decide +kernel
theorem dX4_become_43 : decode cX4_become 43 = .ok (.iinc 2 1, 3) := by decide +kernel
theorem dX4_become_46 : decode cX4_become 46 = .ok (.goto (-20), 3) := by decide +kernel
theorem dX4_become_49 : decode cX4_become 49 = .ok (.return_, 1) := by decide +kernel
theorem dX4_needOf_0 : decode cX4_needOf 0 = .ok (.aload_n 1, 1) := by decide +kernel
theorem dX4_needOf_1 : decode cX4_needOf 1 = .ok (.getfield 42, 3) := by decide +kernel
theorem dX4_needOf_4 : decode cX4_needOf 4 = .ok (.iload_n 2, 1) := by decide +kernel
theorem dX4_needOf_5 : decode cX4_needOf 5 = .ok (.iaload, 1) := by decide +kernel
theorem dX4_needOf_6 : decode cX4_needOf 6 = .ok (.istore_n 3, 1) := by decide +kernel
theorem dX4_needOf_7 : decode cX4_needOf 7 = .ok (.aload_n 0, 1) := by decide +kernel
theorem dX4_needOf_8 : decode cX4_needOf 8 = .ok (.getfield 13, 3) := by decide +kernel
theorem dX4_needOf_11 : decode cX4_needOf 11 = .ok (.iload_n 3, 1) := by decide +kernel
theorem dX4_needOf_12 : decode cX4_needOf 12 = .ok (.ishr, 1) := by decide +kernel
theorem dX4_needOf_13 : decode cX4_needOf 13 = .ok (.iconst 1, 1) := by decide +kernel
theorem dX4_needOf_14 : decode cX4_needOf 14 = .ok (.iand, 1) := by decide +kernel
theorem dX4_needOf_15 : decode cX4_needOf 15 = .ok (.ifCond .eq 7, 3) := by decide +kernel
theorem dX4_needOf_18 : decode cX4_needOf 18 = .ok (.iconst 3, 1) := by decide +kernel
theorem dX4_needOf_19 : decode cX4_needOf 19 = .ok (.goto 4, 3) := by decide +kernel
theorem dX4_needOf_22 : decode cX4_needOf 22 = .ok (.iconst 0, 1) := by decide +kernel
theorem dX4_needOf_23 : decode cX4_needOf 23 = .ok (.istore 4, 2) := by decide +kernel
theorem dX4_needOf_25 : decode cX4_needOf 25 = .ok (.iload 4, 2) := by decide +kernel
theorem dX4_needOf_27 : decode cX4_needOf 27 = .ok (.aload_n 0, 1) := by decide +kernel
theorem dX4_needOf_28 : decode cX4_needOf 28 = .ok (.aload_n 1, 1) := by decide +kernel
theorem dX4_needOf_29 : decode cX4_needOf 29 = .ok (.getfield 48, 3) := by decide +kernel
theorem dX4_needOf_32 : decode cX4_needOf 32 = .ok (.iload_n 2, 1) := by decide +kernel
theorem dX4_needOf_33 : decode cX4_needOf 33 = .ok (.iaload, 1) := by decide +kernel
theorem dX4_needOf_34 : decode cX4_needOf 34 = .ok (.aload_n 1, 1) := by decide +kernel
theorem dX4_needOf_35 : decode cX4_needOf 35 = .ok (.getfield 51, 3) := by decide +kernel
theorem dX4_needOf_38 : decode cX4_needOf 38 = .ok (.iload_n 2, 1) := by decide +kernel
theorem dX4_needOf_39 : decode cX4_needOf 39 = .ok (.iaload, 1) := by decide +kernel
theorem dX4_needOf_40 : decode cX4_needOf 40 = .ok (.aload_n 0, 1) := by decide +kernel
theorem dX4_needOf_41 : decode cX4_needOf 41 = .ok (.getfield 21, 3) := by decide +kernel
theorem dX4_needOf_44 : decode cX4_needOf 44 = .ok (.iload_n 3, 1) := by decide +kernel
theorem dX4_needOf_45 : decode cX4_needOf 45 = .ok (.iaload, 1) := by decide +kernel
theorem dX4_needOf_46 : decode cX4_needOf 46 = .ok (.invokevirtual 54, 3) := by decide +kernel
theorem dX4_needOf_49 : decode cX4_needOf 49 = .ok (.iadd, 1) := by decide +kernel
theorem dX4_needOf_50 : decode cX4_needOf 50 = .ok (.ireturn, 1) := by decide +kernel
theorem dX4_wouldNod_0 : decode cX4_wouldNod 0 = .ok (.aload_n 0, 1) := by decide +kernel
theorem dX4_wouldNod_1 : decode cX4_wouldNod 1 = .ok (.getfield 7, 3) := by decide +kernel
theorem dX4_wouldNod_4 : decode cX4_wouldNod 4 = .ok (.aload_n 0, 1) := by decide +kernel
theorem dX4_wouldNod_5 : decode cX4_wouldNod 5 = .ok (.aload_n 1, 1) := by decide +kernel
theorem dX4_wouldNod_6 : decode cX4_wouldNod 6 = .ok (.iload_n 2, 1) := by decide +kernel
theorem dX4_wouldNod_7 : decode cX4_wouldNod 7 = .ok (.invokevirtual 58, 3) := by decide +kernel
theorem dX4_wouldNod_10 : decode cX4_wouldNod 10 = .ok (.if_icmp .lt 7, 3) := by decide +kernel
theorem dX4_wouldNod_13 : decode cX4_wouldNod 13 = .ok (.iconst 1, 1) := by decide +kernel
theorem dX4_wouldNod_14 : decode cX4_wouldNod 14 = .ok (.goto 4, 3) := by decide +kernel
theorem dX4_wouldNod_17 : decode cX4_wouldNod 17 = .ok (.iconst 0, 1) := by decide +kernel
theorem dX4_wouldNod_18 : decode cX4_wouldNod 18 = .ok (.ireturn, 1) := by decide +kernel
theorem dX4_hear_0 : decode cX4_hear 0 = .ok (.aload_n 0, 1) := by decide +kernel
theorem dX4_hear_1 : decode cX4_hear 1 = .ok (.aload_n 1, 1) := by decide +kernel
theorem dX4_hear_2 : decode cX4_hear 2 = .ok (.iload_n 2, 1) := by decide +kernel
theorem dX4_hear_3 : decode cX4_hear 3 = .ok (.invokevirtual 62, 3) := by decide +kernel
theorem dX4_hear_6 : decode cX4_hear 6 = .ok (.istore_n 3, 1) := by decide +kernel
theorem dX4_hear_7 : decode cX4_hear 7 = .ok (.aload_n 0, 1) := by decide +kernel
theorem dX4_hear_8 : decode cX4_hear 8 = .ok (.aload_n 1, 1) := by decide +kernel
theorem dX4_hear_9 : decode cX4_hear 9 = .ok (.iload_n 2, 1) := by decide +kernel
theorem dX4_hear_10 : decode cX4_hear 10 = .ok (.iload_n 3, 1) := by decide +kernel
theorem dX4_hear_11 : decode cX4_hear 11 = .ok (.invokevirtual 66, 3) := by decide +kernel
theorem dX4_hear_14 : decode cX4_hear 14 = .ok (.iload_n 3, 1) := by decide +kernel
theorem dX4_hear_15 : decode cX4_hear 15 = .ok (.ireturn, 1) := by decide +kernel
theorem dX4_hearAs_0 : decode cX4_hearAs 0 = .ok (.aload_n 0, 1) := by decide +kernel
theorem dX4_hearAs_1 : decode cX4_hearAs 1 = .ok (.dup, 1) := by decide +kernel
theorem dX4_hearAs_2 : decode cX4_hearAs 2 = .ok (.getfield 16, 3) := by decide +kernel
theorem dX4_hearAs_5 : decode cX4_hearAs 5 = .ok (.iconst 1, 1) := by decide +kernel
theorem dX4_hearAs_6 : decode cX4_hearAs 6 = .ok (.iadd, 1) := by decide +kernel
theorem dX4_hearAs_7 : decode cX4_hearAs 7 = .ok (.putfield 16, 3) := by decide +kernel
theorem dX4_hearAs_10 : decode cX4_hearAs 10 = .ok (.iload_n 3, 1) := by decide +kernel
theorem dX4_hearAs_11 : decode cX4_hearAs 11 = .ok (.ifCond .eq 36, 3) := by decide +kernel
theorem dX4_hearAs_14 : decode cX4_hearAs 14 = .ok (.aload_n 0, 1) := by decide +kernel
theorem dX4_hearAs_15 : decode cX4_hearAs 15 = .ok (.getfield 21, 3) := by decide +kernel
theorem dX4_hearAs_18 : decode cX4_hearAs 18 = .ok (.aload_n 1, 1) := by decide +kernel
theorem dX4_hearAs_19 : decode cX4_hearAs 19 = .ok (.getfield 42, 3) := by decide +kernel
theorem dX4_hearAs_22 : decode cX4_hearAs 22 = .ok (.iload_n 2, 1) := by decide +kernel
theorem dX4_hearAs_23 : decode cX4_hearAs 23 = .ok (.iaload, 1) := by decide +kernel
theorem dX4_hearAs_24 : decode cX4_hearAs 24 = .ok (.dup2, 1) := by decide +kernel
theorem dX4_hearAs_25 : decode cX4_hearAs 25 = .ok (.iaload, 1) := by decide +kernel
theorem dX4_hearAs_26 : decode cX4_hearAs 26 = .ok (.iconst 1, 1) := by decide +kernel
theorem dX4_hearAs_27 : decode cX4_hearAs 27 = .ok (.iadd, 1) := by decide +kernel
theorem dX4_hearAs_28 : decode cX4_hearAs 28 = .ok (.iastore, 1) := by decide +kernel
theorem dX4_hearAs_29 : decode cX4_hearAs 29 = .ok (.aload_n 0, 1) := by decide +kernel
theorem dX4_hearAs_30 : decode cX4_hearAs 30 = .ok (.aload_n 0, 1) := by decide +kernel
theorem dX4_hearAs_31 : decode cX4_hearAs 31 = .ok (.getfield 7, 3) := by decide +kernel
theorem dX4_hearAs_34 : decode cX4_hearAs 34 = .ok (.iconst 1, 1) := by decide +kernel
theorem dX4_hearAs_35 : decode cX4_hearAs 35 = .ok (.iadd, 1) := by decide +kernel
theorem dX4_hearAs_36 : decode cX4_hearAs 36 = .ok (.bipush 20, 2) := by decide +kernel
theorem dX4_hearAs_38 : decode cX4_hearAs 38 = .ok (.invokestatic 70, 3) := by decide +kernel
theorem dX4_hearAs_41 : decode cX4_hearAs 41 = .ok (.putfield 7, 3) := by decide +kernel
theorem dX4_hearAs_44 : decode cX4_hearAs 44 = .ok (.goto 26, 3) := by decide +kernel
theorem dX4_hearAs_47 : decode cX4_hearAs 47 = .ok (.aload_n 0, 1) := by decide +kernel
theorem dX4_hearAs_48 : decode cX4_hearAs 48 = .ok (.aload_n 0, 1) := by decide +kernel
theorem dX4_hearAs_49 : decode cX4_hearAs 49 = .ok (.getfield 7, 3) := by decide +kernel
theorem dX4_hearAs_52 : decode cX4_hearAs 52 = .ok (.aload_n 1, 1) := by decide +kernel
theorem dX4_hearAs_53 : decode cX4_hearAs 53 = .ok (.getfield 51, 3) := by decide +kernel
theorem dX4_hearAs_56 : decode cX4_hearAs 56 = .ok (.iload_n 2, 1) := by decide +kernel
theorem dX4_hearAs_57 : decode cX4_hearAs 57 = .ok (.iaload, 1) := by decide +kernel
theorem dX4_hearAs_58 : decode cX4_hearAs 58 = .ok (.iconst 4, 1) := by decide +kernel
theorem dX4_hearAs_59 : decode cX4_hearAs 59 = .ok (.idiv, 1) := by decide +kernel
theorem dX4_hearAs_60 : decode cX4_hearAs 60 = .ok (.isub, 1) := by decide +kernel
theorem dX4_hearAs_61 : decode cX4_hearAs 61 = .ok (.iconst 1, 1) := by decide +kernel
theorem dX4_hearAs_62 : decode cX4_hearAs 62 = .ok (.isub, 1) := by decide +kernel
theorem dX4_hearAs_63 : decode cX4_hearAs 63 = .ok (.iconst 0, 1) := by decide +kernel
theorem dX4_hearAs_64 : decode cX4_hearAs 64 = .ok (.invokestatic 76, 3) := by decide +kernel
theorem dX4_hearAs_67 : decode cX4_hearAs 67 = .ok (.putfield 7, 3) := by decide +kernel
theorem dX4_hearAs_70 : decode cX4_hearAs 70 = .ok (.return_, 1) := by decide +kernel
theorem dX4_dine_0 : decode cX4_dine 0 = .ok (.aload_n 0, 1) := by decide +kernel
theorem dX4_dine_1 : decode cX4_dine 1 = .ok (.aload_n 0, 1) := by decide +kernel
theorem dX4_dine_2 : decode cX4_dine 2 = .ok (.getfield 7, 3) := by decide +kernel
theorem dX4_dine_5 : decode cX4_dine 5 = .ok (.iconst 2, 1) := by decide +kernel
theorem dX4_dine_6 : decode cX4_dine 6 = .ok (.iadd, 1) := by decide +kernel
theorem dX4_dine_7 : decode cX4_dine 7 = .ok (.bipush 20, 2) := by decide +kernel
theorem dX4_dine_9 : decode cX4_dine 9 = .ok (.invokestatic 70, 3) := by decide +kernel
theorem dX4_dine_12 : decode cX4_dine 12 = .ok (.putfield 7, 3) := by decide +kernel
theorem dX4_dine_15 : decode cX4_dine 15 = .ok (.return_, 1) := by decide +kernel
theorem dX4_undoubtedNeed_0 : decode cX4_undoubtedNeed 0 = .ok (.iload_n 1, 1) := by decide +kernel
theorem dX4_undoubtedNeed_1 : decode cX4_undoubtedNeed 1 = .ok (.tableswitch 70 2 5 #[31, 35, 45, 51], 31) := by decide +kernel
theorem dX4_undoubtedNeed_32 : decode cX4_undoubtedNeed 32 = .ok (.iconst 2, 1) := by decide +kernel
theorem dX4_undoubtedNeed_33 : decode cX4_undoubtedNeed 33 = .ok (.iload_n 2, 1) := by decide +kernel
theorem dX4_undoubtedNeed_34 : decode cX4_undoubtedNeed 34 = .ok (.imul, 1) := by decide +kernel
theorem dX4_undoubtedNeed_35 : decode cX4_undoubtedNeed 35 = .ok (.ireturn, 1) := by decide +kernel
theorem dX4_undoubtedNeed_36 : decode cX4_undoubtedNeed 36 = .ok (.iload_n 2, 1) := by decide +kernel
theorem dX4_undoubtedNeed_37 : decode cX4_undoubtedNeed 37 = .ok (.iconst 2, 1) := by decide +kernel
theorem dX4_undoubtedNeed_38 : decode cX4_undoubtedNeed 38 = .ok (.iload_n 3, 1) := by decide +kernel
theorem dX4_undoubtedNeed_39 : decode cX4_undoubtedNeed 39 = .ok (.imul, 1) := by decide +kernel
theorem dX4_undoubtedNeed_40 : decode cX4_undoubtedNeed 40 = .ok (.isub, 1) := by decide +kernel
theorem dX4_undoubtedNeed_41 : decode cX4_undoubtedNeed 41 = .ok (.iconst 0, 1) := by decide +kernel
theorem dX4_undoubtedNeed_42 : decode cX4_undoubtedNeed 42 = .ok (.invokestatic 76, 3) := by decide +kernel
theorem dX4_undoubtedNeed_45 : decode cX4_undoubtedNeed 45 = .ok (.ireturn, 1) := by decide +kernel
theorem dX4_undoubtedNeed_46 : decode cX4_undoubtedNeed 46 = .ok (.iload_n 2, 1) := by decide +kernel
theorem dX4_undoubtedNeed_47 : decode cX4_undoubtedNeed 47 = .ok (.iload_n 3, 1) := by decide +kernel
theorem dX4_undoubtedNeed_48 : decode cX4_undoubtedNeed 48 = .ok (.invokestatic 79, 3) := by decide +kernel
theorem dX4_undoubtedNeed_51 : decode cX4_undoubtedNeed 51 = .ok (.ireturn, 1) := by decide +kernel
theorem dX4_undoubtedNeed_52 : decode cX4_undoubtedNeed 52 = .ok (.aload_n 0, 1) := by decide +kernel
theorem dX4_undoubtedNeed_53 : decode cX4_undoubtedNeed 53 = .ok (.getfield 16, 3) := by decide +kernel
theorem dX4_undoubtedNeed_56 : decode cX4_undoubtedNeed 56 = .ok (.iconst 2, 1) := by decide +kernel
theorem dX4_undoubtedNeed_57 : decode cX4_undoubtedNeed 57 = .ok (.if_icmp .ge 8, 3) := by decide +kernel
theorem dX4_undoubtedNeed_60 : decode cX4_undoubtedNeed 60 = .ok (.bipush 99, 2) := by decide +kernel
theorem dX4_undoubtedNeed_62 : decode cX4_undoubtedNeed 62 = .ok (.goto 8, 3) := by decide +kernel
theorem dX4_undoubtedNeed_65 : decode cX4_undoubtedNeed 65 = .ok (.iload_n 2, 1) := by decide +kernel
theorem dX4_undoubtedNeed_66 : decode cX4_undoubtedNeed 66 = .ok (.iload_n 3, 1) := by decide +kernel
theorem dX4_undoubtedNeed_67 : decode cX4_undoubtedNeed 67 = .ok (.invokestatic 79, 3) := by decide +kernel
theorem dX4_undoubtedNeed_70 : decode cX4_undoubtedNeed 70 = .ok (.ireturn, 1) := by decide +kernel
theorem dX4_undoubtedNeed_71 : decode cX4_undoubtedNeed 71 = .ok (.iload_n 2, 1) := by decide +kernel
theorem dX4_undoubtedNeed_72 : decode cX4_undoubtedNeed 72 = .ok (.ireturn, 1) := by decide +kernel
theorem dX4_proofNeed_0 : decode cX4_proofNeed 0 = .ok (.iload_n 1, 1) := by decide +kernel
theorem dX4_proofNeed_1 : decode cX4_proofNeed 1 = .ok (.ifCond .le 7, 3) := by decide +kernel
theorem dX4_proofNeed_4 : decode cX4_proofNeed 4 = .ok (.iconst 0, 1) := by decide +kernel
theorem dX4_proofNeed_5 : decode cX4_proofNeed 5 = .ok (.goto 7, 3) := by decide +kernel
theorem dX4_proofNeed_8 : decode cX4_proofNeed 8 = .ok (.bipush 20, 2) := by decide +kernel
theorem dX4_proofNeed_10 : decode cX4_proofNeed 10 = .ok (.iload_n 0, 1) := by decide +kernel
theorem dX4_proofNeed_11 : decode cX4_proofNeed 11 = .ok (.iadd, 1) := by decide +kernel
theorem dX4_proofNeed_12 : decode cX4_proofNeed 12 = .ok (.ireturn, 1) := by decide +kernel
theorem dX5_init_0 : decode cX5_init 0 = .ok (.aload_n 0, 1) := by decide +kernel
theorem dX5_init_1 : decode cX5_init 1 = .ok (.invokespecial 1, 3) := by decide +kernel
theorem dX5_init_4 : decode cX5_init 4 = .ok (.aload_n 0, 1) := by decide +kernel
theorem dX5_init_5 : decode cX5_init 5 = .ok (.bipush 120, 2) := by decide +kernel
theorem dX5_init_7 : decode cX5_init 7 = .ok (.newarray .int, 2) := by decide +kernel
theorem dX5_init_9 : decode cX5_init 9 = .ok (.putfield 9, 3) := by decide +kernel
theorem dX5_init_12 : decode cX5_init 12 = .ok (.aload_n 0, 1) := by decide +kernel
theorem dX5_init_13 : decode cX5_init 13 = .ok (.iconst 0, 1) := by decide +kernel
theorem dX5_init_14 : decode cX5_init 14 = .ok (.putfield 13, 3) := by decide +kernel
theorem dX5_init_17 : decode cX5_init 17 = .ok (.aload_n 0, 1) := by decide +kernel
theorem dX5_init_18 : decode cX5_init 18 = .ok (.iconst 0, 1) := by decide +kernel
theorem dX5_init_19 : decode cX5_init 19 = .ok (.putfield 17, 3) := by decide +kernel
theorem dX5_init_22 : decode cX5_init 22 = .ok (.aload_n 0, 1) := by decide +kernel
theorem dX5_init_23 : decode cX5_init 23 = .ok (.iconst 0, 1) := by decide +kernel
theorem dX5_init_24 : decode cX5_init 24 = .ok (.putfield 20, 3) := by decide +kernel
theorem dX5_init_27 : decode cX5_init 27 = .ok (.return_, 1) := by decide +kernel
theorem dX5_isFull_0 : decode cX5_isFull 0 = .ok (.aload_n 0, 1) := by decide +kernel
theorem dX5_isFull_1 : decode cX5_isFull 1 = .ok (.getfield 13, 3) := by decide +kernel
theorem dX5_isFull_4 : decode cX5_isFull 4 = .ok (.bipush 120, 2) := by decide +kernel
theorem dX5_isFull_6 : decode cX5_isFull 6 = .ok (.if_icmp .lt 7, 3) := by decide +kernel
theorem dX5_isFull_9 : decode cX5_isFull 9 = .ok (.iconst 1, 1) := by decide +kernel
theorem dX5_isFull_10 : decode cX5_isFull 10 = .ok (.goto 4, 3) := by decide +kernel
theorem dX5_isFull_13 : decode cX5_isFull 13 = .ok (.iconst 0, 1) := by decide +kernel
theorem dX5_isFull_14 : decode cX5_isFull 14 = .ok (.ireturn, 1) := by decide +kernel
theorem dX5_append_0 : decode cX5_append 0 = .ok (.aload_n 0, 1) := by decide +kernel
theorem dX5_append_1 : decode cX5_append 1 = .ok (.getfield 13, 3) := by decide +kernel
theorem dX5_append_4 : decode cX5_append 4 = .ok (.bipush 120, 2) := by decide +kernel
theorem dX5_append_6 : decode cX5_append 6 = .ok (.if_icmp .ge 23, 3) := by decide +kernel
theorem dX5_append_9 : decode cX5_append 9 = .ok (.aload_n 0, 1) := by decide +kernel
theorem dX5_append_10 : decode cX5_append 10 = .ok (.getfield 9, 3) := by decide +kernel
theorem dX5_append_13 : decode cX5_append 13 = .ok (.aload_n 0, 1) := by decide +kernel
theorem dX5_append_14 : decode cX5_append 14 = .ok (.getfield 13, 3) := by decide +kernel
theorem dX5_append_17 : decode cX5_append 17 = .ok (.iload_n 1, 1) := by decide +kernel
theorem dX5_append_18 : decode cX5_append 18 = .ok (.iastore, 1) := by decide +kernel
theorem dX5_append_19 : decode cX5_append 19 = .ok (.aload_n 0, 1) := by decide +kernel
theorem dX5_append_20 : decode cX5_append 20 = .ok (.dup, 1) := by decide +kernel
theorem dX5_append_21 : decode cX5_append 21 = .ok (.getfield 13, 3) := by decide +kernel
theorem dX5_append_24 : decode cX5_append 24 = .ok (.iconst 1, 1) := by decide +kernel
theorem dX5_append_25 : decode cX5_append 25 = .ok (.iadd, 1) := by decide +kernel
theorem dX5_append_26 : decode cX5_append 26 = .ok (.putfield 13, 3) := by decide +kernel
theorem dX5_append_29 : decode cX5_append 29 = .ok (.aload_n 0, 1) := by decide +kernel
theorem dX5_append_30 : decode cX5_append 30 = .ok (.getfield 13, 3) := by decide +kernel
theorem dX5_append_33 : decode cX5_append 33 = .ok (.ireturn, 1) := by decide +kernel
theorem dX5_length_0 : decode cX5_length 0 = .ok (.aload_n 0, 1) := by decide +kernel
theorem dX5_length_1 : decode cX5_length 1 = .ok (.getfield 13, 3) := by decide +kernel
theorem dX5_length_4 : decode cX5_length 4 = .ok (.ireturn, 1) := by decide +kernel
theorem dX5_faultPlace_0 : decode cX5_faultPlace 0 = .ok (.aload_n 0, 1) := by decide +kernel
theorem dX5_faultPlace_1 : decode cX5_faultPlace 1 = .ok (.getfield 17, 3) := by decide +kernel
theorem dX5_faultPlace_4 : decode cX5_faultPlace 4 = .ok (.ireturn, 1) := by decide +kernel
theorem dX5_latestFault_0 : decode cX5_latestFault 0 = .ok (.aload_n 0, 1) := by decide +kernel
theorem dX5_latestFault_1 : decode cX5_latestFault 1 = .ok (.getfield 20, 3) := by decide +kernel
theorem dX5_latestFault_4 : decode cX5_latestFault 4 = .ok (.ireturn, 1) := by decide +kernel
theorem dX5_readInto_0 : decode cX5_readInto 0 = .ok (.aload_n 0, 1) := by decide +kernel
theorem dX5_readInto_1 : decode cX5_readInto 1 = .ok (.iconst 0, 1) := by decide +kernel
theorem dX5_readInto_2 : decode cX5_readInto 2 = .ok (.putfield 17, 3) := by decide +kernel
theorem dX5_readInto_5 : decode cX5_readInto 5 = .ok (.aload_n 0, 1) := by decide +kernel
theorem dX5_readInto_6 : decode cX5_readInto 6 = .ok (.aload_n 1, 1) := by decide +kernel
theorem dX5_readInto_7 : decode cX5_readInto 7 = .ok (.invokevirtual 23, 3) := by decide +kernel
theorem dX5_readInto_10 : decode cX5_readInto 10 = .ok (.ifCond .eq 23, 3) := by decide +kernel
theorem dX5_readInto_13 : decode cX5_readInto 13 = .ok (.aload_n 0, 1) := by decide +kernel
theorem dX5_readInto_14 : decode cX5_readInto 14 = .ok (.aload_n 1, 1) := by decide +kernel
theorem dX5_readInto_15 : decode cX5_readInto 15 = .ok (.invokevirtual 27, 3) := by decide +kernel
theorem dX5_readInto_18 : decode cX5_readInto 18 = .ok (.ifCond .eq 15, 3) := by decide +kernel
theorem dX5_readInto_21 : decode cX5_readInto 21 = .ok (.aload_n 0, 1) := by decide +kernel
theorem dX5_readInto_22 : decode cX5_readInto 22 = .ok (.aload_n 1, 1) := by decide +kernel
theorem dX5_readInto_23 : decode cX5_readInto 23 = .ok (.invokevirtual 30, 3) := by decide +kernel
theorem dX5_readInto_26 : decode cX5_readInto 26 = .ok (.ifCond .eq 7, 3) := by decide +kernel
theorem dX5_readInto_29 : decode cX5_readInto 29 = .ok (.iconst 1, 1) := by decide +kernel
theorem dX5_readInto_30 : decode cX5_readInto 30 = .ok (.goto 4, 3) := by decide +kernel
theorem dX5_readInto_33 : decode cX5_readInto 33 = .ok (.iconst 0, 1) := by decide +kernel
theorem dX5_readInto_34 : decode cX5_readInto 34 = .ok (.istore_n 2, 1) := by decide +kernel
theorem dX5_readInto_35 : decode cX5_readInto 35 = .ok (.iload_n 2, 1) := by decide +kernel
theorem dX5_readInto_36 : decode cX5_readInto 36 = .ok (.ifCond .eq 20, 3) := by decide +kernel
theorem dX5_readInto_39 : decode cX5_readInto 39 = .ok (.aload_n 0, 1) := by decide +kernel
theorem dX5_readInto_40 : decode cX5_readInto 40 = .ok (.getfield 17, 3) := by decide +kernel
theorem dX5_readInto_43 : decode cX5_readInto 43 = .ok (.aload_n 0, 1) := by decide +kernel
theorem dX5_readInto_44 : decode cX5_readInto 44 = .ok (.getfield 13, 3) := by decide +kernel
theorem dX5_readInto_47 : decode cX5_readInto 47 = .ok (.if_icmp .ge 9, 3) := by decide +kernel
theorem dX5_readInto_50 : decode cX5_readInto 50 = .ok (.aload_n 0, 1) := by decide +kernel
theorem dX5_readInto_51 : decode cX5_readInto 51 = .ok (.iconst 1, 1) := by decide +kernel
theorem dX5_readInto_52 : decode cX5_readInto 52 = .ok (.invokevirtual 33, 3) := by decide +kernel
theorem dX5_readInto_55 : decode cX5_readInto 55 = .ok (.istore_n 2, 1) := by decide +kernel
theorem dX5_readInto_56 : decode cX5_readInto 56 = .ok (.aload_n 0, 1) := by decide +kernel
theorem dX5_readInto_57 : decode cX5_readInto 57 = .ok (.iconst 0, 1) := by decide +kernel
theorem dX5_readInto_58 : decode cX5_readInto 58 = .ok (.putfield 13, 3) := by decide +kernel
theorem dX5_readInto_61 : decode cX5_readInto 61 = .ok (.iload_n 2, 1) := by decide +kernel
theorem dX5_readInto_62 : decode cX5_readInto 62 = .ok (.ireturn, 1) := by decide +kernel
theorem dX5_readLaw_0 : decode cX5_readLaw 0 = .ok (.aload_n 0, 1) := by decide +kernel
theorem dX5_readLaw_1 : decode cX5_readLaw 1 = .ok (.bipush 116, 2) := by decide +kernel
theorem dX5_readLaw_3 : decode cX5_readLaw 3 = .ok (.invokevirtual 37, 3) := by decide +kernel
theorem dX5_readLaw_6 : decode cX5_readLaw 6 = .ok (.ifCond .ne 5, 3) := by decide +kernel
theorem dX5_readLaw_9 : decode cX5_readLaw 9 = .ok (.iconst 0, 1) := by decide +kernel
theorem dX5_readLaw_10 : decode cX5_readLaw 10 = .ok (.ireturn, 1) := by decide +kernel
theorem dX5_readLaw_11 : decode cX5_readLaw 11 = .ok (.aload_n 0, 1) := by decide +kernel
theorem dX5_readLaw_12 : decode cX5_readLaw 12 = .ok (.iconst 1, 1) := by decide +kernel
theorem dX5_readLaw_13 : decode cX5_readLaw 13 = .ok (.bipush 9, 2) := by decide +kernel
theorem dX5_readLaw_15 : decode cX5_readLaw 15 = .ok (.invokevirtual 40, 3) := by decide +kernel
theorem dX5_readLaw_18 : decode cX5_readLaw 18 = .ok (.istore_n 2, 1) := by decide +kernel
theorem dX5_readLaw_19 : decode cX5_readLaw 19 = .ok (.iload_n 2, 1) := by decide +kernel
theorem dX5_readLaw_20 : decode cX5_readLaw 20 = .ok (.iconst (-1), 1) := by decide +kernel
theorem dX5_readLaw_21 : decode cX5_readLaw 21 = .ok (.if_icmp .eq 12, 3) := by decide +kernel
theorem dX5_readLaw_24 : decode cX5_readLaw 24 = .ok (.aload_n 0, 1) := by decide +kernel
theorem dX5_readLaw_25 : decode cX5_readLaw 25 = .ok (.bipush 59, 2) := by decide +kernel
theorem dX5_readLaw_27 : decode cX5_readLaw 27 = .ok (.invokevirtual 37, 3) := by decide +kernel
theorem dX5_readLaw_30 : decode cX5_readLaw 30 = .ok (.ifCond .ne 5, 3) := by decide +kernel
theorem dX5_readLaw_33 : decode cX5_readLaw 33 = .ok (.iconst 0, 1) := by decide +kernel
theorem dX5_readLaw_34 : decode cX5_readLaw 34 = .ok (.ireturn, 1) := by decide +kernel
theorem dX5_readLaw_35 : decode cX5_readLaw 35 = .ok (.aload_n 1, 1) := by decide +kernel
theorem dX5_readLaw_36 : decode cX5_readLaw 36 = .ok (.iload_n 2, 1) := by decide +kernel
theorem dX5_readLaw_37 : decode cX5_readLaw 37 = .ok (.invokevirtual 44, 3) := by decide +kernel
theorem dX5_readLaw_40 : decode cX5_readLaw 40 = .ok (.iconst 1, 1) := by decide +kernel
theorem dX5_readLaw_41 : decode cX5_readLaw 41 = .ok (.ireturn, 1) := by decide +kernel
theorem dX5_readLies_0 : decode cX5_readLies 0 = .ok (.iconst 0, 1) := by decide +kernel
theorem dX5_readLies_1 : decode cX5_readLies 1 = .ok (.istore_n 2, 1) := by decide +kernel
theorem dX5_readLies_2 : decode cX5_readLies 2 = .ok (.iload_n 2, 1) := by decide +kernel
theorem dX5_readLies_3 : decode cX5_readLies 3 = .ok (.bipush 6, 2) := by decide +kernel
theorem dX5_readLies_5 : decode cX5_readLies 5 = .ok (.if_icmp .gt 105, 3) := by decide +kernel
theorem dX5_readLies_8 : decode cX5_readLies 8 = .ok (.aload_n 0, 1) := by decide +kernel
theorem dX5_readLies_9 : decode cX5_readLies 9 = .ok (.invokevirtual 50, 3) := by decide +kernel
theorem dX5_readLies_12 : decode cX5_readLies 12 = .ok (.invokestatic 54, 3) := by decide +kernel
theorem dX5_readLies_15 : decode cX5_readLies 15 = .ok (.istore_n 3, 1) := by decide +kernel
theorem dX5_readLies_16 : decode cX5_readLies 16 = .ok (.iload_n 3, 1) := by decide +kernel
theorem dX5_readLies_17 : decode cX5_readLies 17 = .ok (.ifCond .ne 5, 3) := by decide +kernel
theorem dX5_readLies_20 : decode cX5_readLies 20 = .ok (.iconst 1, 1) := by decide +kernel
theorem dX5_readLies_21 : decode cX5_readLies 21 = .ok (.ireturn, 1) := by decide +kernel
theorem dX5_readLies_22 : decode cX5_readLies 22 = .ok (.iload_n 2, 1) := by decide +kernel
theorem dX5_readLies_23 : decode cX5_readLies 23 = .ok (.bipush 6, 2) := by decide +kernel
theorem dX5_readLies_25 : decode cX5_readLies 25 = .ok (.if_icmp .ne 9, 3) := by decide +kernel
theorem dX5_readLies_28 : decode cX5_readLies 28 = .ok (.aload_n 0, 1) := by decide +kernel
theorem dX5_readLies_29 : decode cX5_readLies 29 = .ok (.iconst 3, 1) := by decide +kernel
theorem dX5_readLies_30 : decode cX5_readLies 30 = .ok (.invokevirtual 33, 3) := by decide +kernel
theorem dX5_readLies_33 : decode cX5_readLies 33 = .ok (.ireturn, 1) := by decide +kernel
theorem dX5_readLies_34 : decode cX5_readLies 34 = .ok (.aload_n 0, 1) := by decide +kernel
theorem dX5_readLies_35 : decode cX5_readLies 35 = .ok (.dup, 1) := by decide +kernel
theorem dX5_readLies_36 : decode cX5_readLies 36 = .ok (.getfield 17, 3) := by decide +kernel
theorem dX5_readLies_39 : decode cX5_readLies 39 = .ok (.iconst 1, 1) := by decide +kernel
theorem dX5_readLies_40 : decode cX5_readLies 40 = .ok (.iadd, 1) := by decide +kernel
theorem dX5_readLies_41 : decode cX5_readLies 41 = .ok (.putfield 17, 3) := by decide +kernel
theorem dX5_readLies_44 : decode cX5_readLies 44 = .ok (.aload_n 0, 1) := by decide +kernel
theorem dX5_readLies_45 : decode cX5_readLies 45 = .ok (.iconst 1, 1) := by decide +kernel
theorem dX5_readLies_46 : decode cX5_readLies 46 = .ok (.bipush 20, 2) := by decide +kernel
theorem dX5_readLies_48 : decode cX5_readLies 48 = .ok (.invokevirtual 40, 3) := by decide +kernel
theorem dX5_readLies_51 : decode cX5_readLies 51 = .ok (.istore 4, 2) := by decide +kernel
theorem dX5_readLies_53 : decode cX5_readLies 53 = .ok (.iload 4, 2) := by decide +kernel
theorem dX5_readLies_55 : decode cX5_readLies 55 = .ok (.iconst (-1), 1) := by decide +kernel
theorem dX5_readLies_56 : decode cX5_readLies 56 = .ok (.if_icmp .eq 12, 3) := by decide +kernel
theorem dX5_readLies_59 : decode cX5_readLies 59 = .ok (.aload_n 0, 1) := by decide +kernel
theorem dX5_readLies_60 : decode cX5_readLies 60 = .ok (.bipush 44, 2) := by decide +kernel
theorem dX5_readLies_62 : decode cX5_readLies 62 = .ok (.invokevirtual 37, 3) := by decide +kernel
theorem dX5_readLies_65 : decode cX5_readLies 65 = .ok (.ifCond .ne 5, 3) := by decide +kernel
theorem dX5_readLies_68 : decode cX5_readLies 68 = .ok (.iconst 0, 1) := by decide +kernel
theorem dX5_readLies_69 : decode cX5_readLies 69 = .ok (.ireturn, 1) := by decide +kernel
theorem dX5_readLies_70 : decode cX5_readLies 70 = .ok (.aload_n 0, 1) := by decide +kernel
theorem dX5_readLies_71 : decode cX5_readLies 71 = .ok (.iconst 0, 1) := by decide +kernel
theorem dX5_readLies_72 : decode cX5_readLies 72 = .ok (.iconst 3, 1) := by decide +kernel
theorem dX5_readLies_73 : decode cX5_readLies 73 = .ok (.invokevirtual 40, 3) := by decide +kernel
theorem dX5_readLies_76 : decode cX5_readLies 76 = .ok (.istore 5, 2) := by decide +kernel
theorem dX5_readLies_78 : decode cX5_readLies 78 = .ok (.iload 5, 2) := by decide +kernel
theorem dX5_readLies_80 : decode cX5_readLies 80 = .ok (.iconst (-1), 1) := by decide +kernel
theorem dX5_readLies_81 : decode cX5_readLies 81 = .ok (.if_icmp .eq 12, 3) := by decide +kernel
theorem dX5_readLies_84 : decode cX5_readLies 84 = .ok (.aload_n 0, 1) := by decide +kernel
theorem dX5_readLies_85 : decode cX5_readLies 85 = .ok (.bipush 59, 2) := by decide +kernel
theorem dX5_readLies_87 : decode cX5_readLies 87 = .ok (.invokevirtual 37, 3) := by decide +kernel
theorem dX5_readLies_90 : decode cX5_readLies 90 = .ok (.ifCond .ne 5, 3) := by decide +kernel
theorem dX5_readLies_93 : decode cX5_readLies 93 = .ok (.iconst 0, 1) := by decide +kernel
theorem dX5_readLies_94 : decode cX5_readLies 94 = .ok (.ireturn, 1) := by decide +kernel
theorem dX5_readLies_95 : decode cX5_readLies 95 = .ok (.aload_n 1, 1) := by decide +kernel
theorem dX5_readLies_96 : decode cX5_readLies 96 = .ok (.iload_n 3, 1) := by decide +kernel
theorem dX5_readLies_97 : decode cX5_readLies 97 = .ok (.iload 4, 2) := by decide +kernel
theorem dX5_readLies_99 : decode cX5_readLies 99 = .ok (.iload 5, 2) := by decide +kernel
theorem dX5_readLies_101 : decode cX5_readLies 101 = .ok (.invokevirtual 60, 3) := by decide +kernel
theorem dX5_readLies_104 : decode cX5_readLies 104 = .ok (.iinc 2 1, 3) := by decide +kernel
theorem dX5_readLies_107 : decode cX5_readLies 107 = .ok (.goto (-105), 3) := by decide +kernel
theorem dX5_readLies_110 : decode cX5_readLies 110 = .ok (.iconst 1, 1) := by decide +kernel
theorem dX5_readLies_111 : decode cX5_readLies 111 = .ok (.ireturn, 1) := by decide +kernel
theorem dX5_readStrangers_0 : decode cX5_readStrangers 0 = .ok (.iconst 0, 1) := by decide +kernel
theorem dX5_readStrangers_1 : decode cX5_readStrangers 1 = .ok (.istore_n 2, 1) := by decide +kernel
theorem dX5_readStrangers_2 : decode cX5_readStrangers 2 = .ok (.iload_n 2, 1) := by decide +kernel
theorem dX5_readStrangers_3 : decode cX5_readStrangers 3 = .ok (.iconst 4, 1) := by decide +kernel
theorem dX5_readStrangers_4 : decode cX5_readStrangers 4 = .ok (.if_icmp .gt 98, 3) := by decide +kernel
theorem dX5_readStrangers_7 : decode cX5_readStrangers 7 = .ok (.aload_n 0, 1) := by decide +kernel
theorem dX5_readStrangers_8 : decode cX5_readStrangers 8 = .ok (.invokevirtual 50, 3) := by decide +kernel
theorem dX5_readStrangers_11 : decode cX5_readStrangers 11 = .ok (.bipush 115, 2) := by decide +kernel
theorem dX5_readStrangers_13 : decode cX5_readStrangers 13 = .ok (.if_icmp .eq 5, 3) := by decide +kernel
theorem dX5_readStrangers_16 : decode cX5_readStrangers 16 = .ok (.iconst 1, 1) := by decide +kernel
theorem dX5_readStrangers_17 : decode cX5_readStrangers 17 = .ok (.ireturn, 1) := by decide +kernel
theorem dX5_readStrangers_18 : decode cX5_readStrangers 18 = .ok (.iload_n 2, 1) := by decide +kernel
theorem dX5_readStrangers_19 : decode cX5_readStrangers 19 = .ok (.iconst 4, 1) := by decide +kernel
theorem dX5_readStrangers_20 : decode cX5_readStrangers 20 = .ok (.if_icmp .ne 9, 3) := by decide +kernel
theorem dX5_readStrangers_23 : decode cX5_readStrangers 23 = .ok (.aload_n 0, 1) := by decide +kernel
theorem dX5_readStrangers_24 : decode cX5_readStrangers 24 = .ok (.iconst 3, 1) := by decide +kernel
theorem dX5_readStrangers_25 : decode cX5_readStrangers 25 = .ok (.invokevirtual 33, 3) := by decide +kernel
theorem dX5_readStrangers_28 : decode cX5_readStrangers 28 = .ok (.ireturn, 1) := by decide +kernel
theorem dX5_readStrangers_29 : decode cX5_readStrangers 29 = .ok (.aload_n 0, 1) := by decide +kernel
theorem dX5_readStrangers_30 : decode cX5_readStrangers 30 = .ok (.dup, 1) := by decide +kernel
theorem dX5_readStrangers_31 : decode cX5_readStrangers 31 = .ok (.getfield 17, 3) := by decide +kernel
theorem dX5_readStrangers_34 : decode cX5_readStrangers 34 = .ok (.iconst 1, 1) := by decide +kernel
theorem dX5_readStrangers_35 : decode cX5_readStrangers 35 = .ok (.iadd, 1) := by decide +kernel
theorem dX5_readStrangers_36 : decode cX5_readStrangers 36 = .ok (.putfield 17, 3) := by decide +kernel
theorem dX5_readStrangers_39 : decode cX5_readStrangers 39 = .ok (.aload_n 0, 1) := by decide +kernel
theorem dX5_readStrangers_40 : decode cX5_readStrangers 40 = .ok (.iconst 0, 1) := by decide +kernel
theorem dX5_readStrangers_41 : decode cX5_readStrangers 41 = .ok (.bipush 20, 2) := by decide +kernel
theorem dX5_readStrangers_43 : decode cX5_readStrangers 43 = .ok (.invokevirtual 40, 3) := by decide +kernel
theorem dX5_readStrangers_46 : decode cX5_readStrangers 46 = .ok (.istore_n 3, 1) := by decide +kernel
theorem dX5_readStrangers_47 : decode cX5_readStrangers 47 = .ok (.iload_n 3, 1) := by decide +kernel
theorem dX5_readStrangers_48 : decode cX5_readStrangers 48 = .ok (.iconst (-1), 1) := by decide +kernel
theorem dX5_readStrangers_49 : decode cX5_readStrangers 49 = .ok (.if_icmp .eq 12, 3) := by decide +kernel
theorem dX5_readStrangers_52 : decode cX5_readStrangers 52 = .ok (.aload_n 0, 1) := by decide +kernel
theorem dX5_readStrangers_53 : decode cX5_readStrangers 53 = .ok (.bipush 44, 2) := by decide +kernel
theorem dX5_readStrangers_55 : decode cX5_readStrangers 55 = .ok (.invokevirtual 37, 3) := by decide +kernel
theorem dX5_readStrangers_58 : decode cX5_readStrangers 58 = .ok (.ifCond .ne 5, 3) := by decide +kernel
theorem dX5_readStrangers_61 : decode cX5_readStrangers 61 = .ok (.iconst 0, 1) := by decide +kernel
theorem dX5_readStrangers_62 : decode cX5_readStrangers 62 = .ok (.ireturn, 1) := by decide +kernel
theorem dX5_readStrangers_63 : decode cX5_readStrangers 63 = .ok (.aload_n 0, 1) := by decide +kernel
theorem dX5_readStrangers_64 : decode cX5_readStrangers 64 = .ok (.iconst 0, 1) := by decide +kernel
theorem dX5_readStrangers_65 : decode cX5_readStrangers 65 = .ok (.bipush 15, 2) := by decide +kernel
theorem dX5_readStrangers_67 : decode cX5_readStrangers 67 = .ok (.invokevirtual 40, 3) := by decide +kernel
theorem dX5_readStrangers_70 : decode cX5_readStrangers 70 = .ok (.istore 4, 2) := by decide +kernel
theorem dX5_readStrangers_72 : decode cX5_readStrangers 72 = .ok (.iload 4, 2) := by decide +kernel
theorem dX5_readStrangers_74 : decode cX5_readStrangers 74 = .ok (.iconst (-1), 1) := by decide +kernel
theorem dX5_readStrangers_75 : decode cX5_readStrangers 75 = .ok (.if_icmp .eq 12, 3) := by decide +kernel
theorem dX5_readStrangers_78 : decode cX5_readStrangers 78 = .ok (.aload_n 0, 1) := by decide +kernel
theorem dX5_readStrangers_79 : decode cX5_readStrangers 79 = .ok (.bipush 59, 2) := by decide +kernel
theorem dX5_readStrangers_81 : decode cX5_readStrangers 81 = .ok (.invokevirtual 37, 3) := by decide +kernel
theorem dX5_readStrangers_84 : decode cX5_readStrangers 84 = .ok (.ifCond .ne 5, 3) := by decide +kernel
theorem dX5_readStrangers_87 : decode cX5_readStrangers 87 = .ok (.iconst 0, 1) := by decide +kernel
theorem dX5_readStrangers_88 : decode cX5_readStrangers 88 = .ok (.ireturn, 1) := by decide +kernel
theorem dX5_readStrangers_89 : decode cX5_readStrangers 89 = .ok (.aload_n 1, 1) := by decide +kernel
theorem dX5_readStrangers_90 : decode cX5_readStrangers 90 = .ok (.iload_n 3, 1) := by decide +kernel
theorem dX5_readStrangers_91 : decode cX5_readStrangers 91 = .ok (.iload 4, 2) := by decide +kernel
theorem dX5_readStrangers_93 : decode cX5_readStrangers 93 = .ok (.invokevirtual 64, 3) := by decide +kernel
theorem dX5_readStrangers_96 : decode cX5_readStrangers 96 = .ok (.iinc 2 1, 3) := by decide +kernel
theorem dX5_readStrangers_99 : decode cX5_readStrangers 99 = .ok (.goto (-97), 3) := by decide +kernel
theorem dX5_readStrangers_102 : decode cX5_readStrangers 102 = .ok (.iconst 1, 1) := by decide +kernel
theorem dX5_readStrangers_103 : decode cX5_readStrangers 103 = .ok (.ireturn, 1) := by decide +kernel
theorem dX5_readNumber_0 : decode cX5_readNumber 0 = .ok (.iconst 0, 1) := by decide +kernel
theorem dX5_readNumber_1 : decode cX5_readNumber 1 = .ok (.istore_n 3, 1) := by decide +kernel
theorem dX5_readNumber_2 : decode cX5_readNumber 2 = .ok (.iconst 0, 1) := by decide +kernel
theorem dX5_readNumber_3 : decode cX5_readNumber 3 = .ok (.istore 4, 2) := by decide +kernel
theorem dX5_readNumber_5 : decode cX5_readNumber 5 = .ok (.iload_n 3, 1) := by decide +kernel
theorem dX5_readNumber_6 : decode cX5_readNumber 6 = .ok (.iconst 3, 1) := by decide +kernel
theorem dX5_readNumber_7 : decode cX5_readNumber 7 = .ok (.if_icmp .ge 46, 3) := by decide +kernel
theorem dX5_readNumber_10 : decode cX5_readNumber 10 = .ok (.aload_n 0, 1) := by decide +kernel
theorem dX5_readNumber_11 : decode cX5_readNumber 11 = .ok (.aload_n 0, 1) := by decide +kernel
theorem dX5_readNumber_12 : decode cX5_readNumber 12 = .ok (.getfield 17, 3) := by decide +kernel
theorem dX5_readNumber_15 : decode cX5_readNumber 15 = .ok (.iload_n 3, 1) := by decide +kernel
theorem dX5_readNumber_16 : decode cX5_readNumber 16 = .ok (.iadd, 1) := by decide +kernel
theorem dX5_readNumber_17 : decode cX5_readNumber 17 = .ok (.invokevirtual 68, 3) := by decide +kernel
theorem dX5_readNumber_20 : decode cX5_readNumber 20 = .ok (.invokestatic 71, 3) := by decide +kernel
theorem dX5_readNumber_23 : decode cX5_readNumber 23 = .ok (.ifCond .eq 30, 3) := by decide +kernel
theorem dX5_readNumber_26 : decode cX5_readNumber 26 = .ok (.bipush 10, 2) := by decide +kernel
theorem dX5_readNumber_28 : decode cX5_readNumber 28 = .ok (.iload 4, 2) := by decide +kernel
theorem dX5_readNumber_30 : decode cX5_readNumber 30 = .ok (.imul, 1) := by decide +kernel
theorem dX5_readNumber_31 : decode cX5_readNumber 31 = .ok (.aload_n 0, 1) := by decide +kernel
theorem dX5_readNumber_32 : decode cX5_readNumber 32 = .ok (.aload_n 0, 1) := by decide +kernel
theorem dX5_readNumber_33 : decode cX5_readNumber 33 = .ok (.getfield 17, 3) := by decide +kernel
theorem dX5_readNumber_36 : decode cX5_readNumber 36 = .ok (.iload_n 3, 1) := by decide +kernel
theorem dX5_readNumber_37 : decode cX5_readNumber 37 = .ok (.iadd, 1) := by decide +kernel
theorem dX5_readNumber_38 : decode cX5_readNumber 38 = .ok (.invokevirtual 68, 3) := by decide +kernel
theorem dX5_readNumber_41 : decode cX5_readNumber 41 = .ok (.iadd, 1) := by decide +kernel
theorem dX5_readNumber_42 : decode cX5_readNumber 42 = .ok (.bipush 48, 2) := by decide +kernel
theorem dX5_readNumber_44 : decode cX5_readNumber 44 = .ok (.isub, 1) := by decide +kernel
theorem dX5_readNumber_45 : decode cX5_readNumber 45 = .ok (.istore 4, 2) := by decide +kernel
theorem dX5_readNumber_47 : decode cX5_readNumber 47 = .ok (.iinc 3 1, 3) := by decide +kernel
theorem dX5_readNumber_50 : decode cX5_readNumber 50 = .ok (.goto (-45), 3) := by decide +kernel
theorem dX5_readNumber_53 : decode cX5_readNumber 53 = .ok (.iload_n 3, 1) := by decide +kernel
theorem dX5_readNumber_54 : decode cX5_readNumber 54 = .ok (.iconst 1, 1) := by decide +kernel
theorem dX5_readNumber_55 : decode cX5_readNumber 55 = .ok (.if_icmp .lt 8, 3) := by decide +kernel
theorem dX5_readNumber_58 : decode cX5_readNumber 58 = .ok (.iload_n 3, 1) := by decide +kernel
theorem dX5_readNumber_59 : decode cX5_readNumber 59 = .ok (.iconst 2, 1) := by decide +kernel
theorem dX5_readNumber_60 : decode cX5_readNumber 60 = .ok (.if_icmp .le 11, 3) := by decide +kernel
theorem dX5_readNumber_63 : decode cX5_readNumber 63 = .ok (.aload_n 0, 1) := by decide +kernel
theorem dX5_readNumber_64 : decode cX5_readNumber 64 = .ok (.iconst 1, 1) := by decide +kernel
theorem dX5_readNumber_65 : decode cX5_readNumber 65 = .ok (.invokevirtual 33, 3) := by decide +kernel
theorem dX5_readNumber_68 : decode cX5_readNumber 68 = .ok (.pop, 1) := by decide +kernel
theorem dX5_readNumber_69 : decode cX5_readNumber 69 = .ok (.iconst (-1), 1) := by decide +kernel
theorem dX5_readNumber_70 : decode cX5_readNumber 70 = .ok (.ireturn, 1) := by decide +kernel
theorem dX5_readNumber_71 : decode cX5_readNumber 71 = .ok (.iload 4, 2) := by decide +kernel
theorem dX5_readNumber_73 : decode cX5_readNumber 73 = .ok (.iload_n 1, 1) := by decide +kernel
theorem dX5_readNumber_74 : decode cX5_readNumber 74 = .ok (.if_icmp .lt 9, 3) := by decide +kernel
theorem dX5_readNumber_77 : decode cX5_readNumber 77 = .ok (.iload 4, 2) := by decide +kernel
theorem dX5_readNumber_79 : decode cX5_readNumber 79 = .ok (.iload_n 2, 1) := by decide +kernel
theorem dX5_readNumber_80 : decode cX5_readNumber 80 = .ok (.if_icmp .le 11, 3) := by decide +kernel
theorem dX5_readNumber_83 : decode cX5_readNumber 83 = .ok (.aload_n 0, 1) := by decide +kernel
theorem dX5_readNumber_84 : decode cX5_readNumber 84 = .ok (.iconst 2, 1) := by decide +kernel
theorem dX5_readNumber_85 : decode cX5_readNumber 85 = .ok (.invokevirtual 33, 3) := by decide +kernel
theorem dX5_readNumber_88 : decode cX5_readNumber 88 = .ok (.pop, 1) := by decide +kernel
theorem dX5_readNumber_89 : decode cX5_readNumber 89 = .ok (.iconst (-1), 1) := by decide +kernel
theorem dX5_readNumber_90 : decode cX5_readNumber 90 = .ok (.ireturn, 1) := by decide +kernel
theorem dX5_readNumber_91 : decode cX5_readNumber 91 = .ok (.aload_n 0, 1) := by decide +kernel
theorem dX5_readNumber_92 : decode cX5_readNumber 92 = .ok (.dup, 1) := by decide +kernel
theorem dX5_readNumber_93 : decode cX5_readNumber 93 = .ok (.getfield 17, 3) := by decide +kernel
theorem dX5_readNumber_96 : decode cX5_readNumber 96 = .ok (.iload_n 3, 1) := by decide +kernel
theorem dX5_readNumber_97 : decode cX5_readNumber 97 = .ok (.iadd, 1) := by decide +kernel
theorem dX5_readNumber_98 : decode cX5_readNumber 98 = .ok (.putfield 17, 3) := by decide +kernel
theorem dX5_readNumber_101 : decode cX5_readNumber 101 = .ok (.iload 4, 2) := by decide +kernel
theorem dX5_readNumber_103 : decode cX5_readNumber 103 = .ok (.ireturn, 1) := by decide +kernel
theorem dX5_passed_0 : decode cX5_passed 0 = .ok (.aload_n 0, 1) := by decide +kernel
theorem dX5_passed_1 : decode cX5_passed 1 = .ok (.invokevirtual 50, 3) := by decide +kernel
theorem dX5_passed_4 : decode cX5_passed 4 = .ok (.iload_n 1, 1) := by decide +kernel
theorem dX5_passed_5 : decode cX5_passed 5 = .ok (.if_icmp .eq 9, 3) := by decide +kernel
theorem dX5_passed_8 : decode cX5_passed 8 = .ok (.aload_n 0, 1) := by decide +kernel
theorem dX5_passed_9 : decode cX5_passed 9 = .ok (.iconst 1, 1) := by decide +kernel
theorem dX5_passed_10 : decode cX5_passed 10 = .ok (.invokevirtual 33, 3) := by decide +kernel
theorem dX5_passed_13 : decode cX5_passed 13 = .ok (.ireturn, 1) := by decide +kernel
theorem dX5_passed_14 : decode cX5_passed 14 = .ok (.aload_n 0, 1) := by decide +kernel
theorem dX5_passed_15 : decode cX5_passed 15 = .ok (.dup, 1) := by decide +kernel
theorem dX5_passed_16 : decode cX5_passed 16 = .ok (.getfield 17, 3) := by decide +kernel
theorem dX5_passed_19 : decode cX5_passed 19 = .ok (.iconst 1, 1) := by decide +kernel
theorem dX5_passed_20 : decode cX5_passed 20 = .ok (.iadd, 1) := by decide +kernel
theorem dX5_passed_21 : decode cX5_passed 21 = .ok (.putfield 17, 3) := by decide +kernel
theorem dX5_passed_24 : decode cX5_passed 24 = .ok (.iconst 1, 1) := by decide +kernel
theorem dX5_passed_25 : decode cX5_passed 25 = .ok (.ireturn, 1) := by decide +kernel
theorem dX5_refuse_0 : decode cX5_refuse 0 = .ok (.aload_n 0, 1) := by decide +kernel
theorem dX5_refuse_1 : decode cX5_refuse 1 = .ok (.iload_n 1, 1) := by decide +kernel
theorem dX5_refuse_2 : decode cX5_refuse 2 = .ok (.putfield 20, 3) := by decide +kernel
theorem dX5_refuse_5 : decode cX5_refuse 5 = .ok (.iconst 0, 1) := by decide +kernel
theorem dX5_refuse_6 : decode cX5_refuse 6 = .ok (.ireturn, 1) := by decide +kernel
theorem dX5_here_0 : decode cX5_here 0 = .ok (.aload_n 0, 1) := by decide +kernel
theorem dX5_here_1 : decode cX5_here 1 = .ok (.aload_n 0, 1) := by decide +kernel
theorem dX5_here_2 : decode cX5_here 2 = .ok (.getfield 17, 3) := by decide +kernel
theorem dX5_here_5 : decode cX5_here 5 = .ok (.invokevirtual 68, 3) := by decide +kernel
theorem dX5_here_8 : decode cX5_here 8 = .ok (.ireturn, 1) := by decide +kernel
theorem dX5_byteAt_0 : decode cX5_byteAt 0 = .ok (.iload_n 1, 1) := by decide +kernel
theorem dX5_byteAt_1 : decode cX5_byteAt 1 = .ok (.ifCond .lt 20, 3) := by decide +kernel
theorem dX5_byteAt_4 : decode cX5_byteAt 4 = .ok (.iload_n 1, 1) := by decide +kernel
theorem dX5_byteAt_5 : decode cX5_byteAt 5 = .ok (.aload_n 0, 1) := by decide +kernel
theorem dX5_byteAt_6 : decode cX5_byteAt 6 = .ok (.getfield 13, 3) := by decide +kernel
theorem dX5_byteAt_9 : decode cX5_byteAt 9 = .ok (.if_icmp .ge 12, 3) := by decide +kernel
theorem dX5_byteAt_12 : decode cX5_byteAt 12 = .ok (.aload_n 0, 1) := by decide +kernel
theorem dX5_byteAt_13 : decode cX5_byteAt 13 = .ok (.getfield 9, 3) := by decide +kernel
theorem dX5_byteAt_16 : decode cX5_byteAt 16 = .ok (.iload_n 1, 1) := by decide +kernel
theorem dX5_byteAt_17 : decode cX5_byteAt 17 = .ok (.iaload, 1) := by decide +kernel
theorem dX5_byteAt_18 : decode cX5_byteAt 18 = .ok (.goto 4, 3) := by decide +kernel
theorem dX5_byteAt_21 : decode cX5_byteAt 21 = .ok (.iconst (-1), 1) := by decide +kernel
theorem dX5_byteAt_22 : decode cX5_byteAt 22 = .ok (.ireturn, 1) := by decide +kernel
theorem dX5_isFigure_0 : decode cX5_isFigure 0 = .ok (.iload_n 0, 1) := by decide +kernel
theorem dX5_isFigure_1 : decode cX5_isFigure 1 = .ok (.bipush 48, 2) := by decide +kernel
theorem dX5_isFigure_3 : decode cX5_isFigure 3 = .ok (.if_icmp .lt 13, 3) := by decide +kernel
theorem dX5_isFigure_6 : decode cX5_isFigure 6 = .ok (.iload_n 0, 1) := by decide +kernel
theorem dX5_isFigure_7 : decode cX5_isFigure 7 = .ok (.bipush 57, 2) := by decide +kernel
theorem dX5_isFigure_9 : decode cX5_isFigure 9 = .ok (.if_icmp .gt 7, 3) := by decide +kernel
theorem dX5_isFigure_12 : decode cX5_isFigure 12 = .ok (.iconst 1, 1) := by decide +kernel
theorem dX5_isFigure_13 : decode cX5_isFigure 13 = .ok (.goto 4, 3) := by decide +kernel
theorem dX5_isFigure_16 : decode cX5_isFigure 16 = .ok (.iconst 0, 1) := by decide +kernel
theorem dX5_isFigure_17 : decode cX5_isFigure 17 = .ok (.ireturn, 1) := by decide +kernel
theorem dX6_init_0 : decode cX6_init 0 = .ok (.aload_n 0, 1) := by decide +kernel
theorem dX6_init_1 : decode cX6_init 1 = .ok (.invokespecial 1, 3) := by decide +kernel
theorem dX6_init_4 : decode cX6_init 4 = .ok (.aload_n 0, 1) := by decide +kernel
theorem dX6_init_5 : decode cX6_init 5 = .ok (.bipush 8, 2) := by decide +kernel
theorem dX6_init_7 : decode cX6_init 7 = .ok (.newarray .int, 2) := by decide +kernel
theorem dX6_init_9 : decode cX6_init 9 = .ok (.putfield 9, 3) := by decide +kernel
theorem dX6_init_12 : decode cX6_init 12 = .ok (.aload_n 0, 1) := by decide +kernel
theorem dX6_init_13 : decode cX6_init 13 = .ok (.bipush 8, 2) := by decide +kernel
theorem dX6_init_15 : decode cX6_init 15 = .ok (.newarray .int, 2) := by decide +kernel
theorem dX6_init_17 : decode cX6_init 17 = .ok (.putfield 13, 3) := by decide +kernel
theorem dX6_init_20 : decode cX6_init 20 = .ok (.aload_n 0, 1) := by decide +kernel
theorem dX6_init_21 : decode cX6_init 21 = .ok (.sipush 320, 3) := by decide +kernel
theorem dX6_init_24 : decode cX6_init 24 = .ok (.newarray .int, 2) := by decide +kernel
theorem dX6_init_26 : decode cX6_init 26 = .ok (.putfield 16, 3) := by decide +kernel
theorem dX6_init_29 : decode cX6_init 29 = .ok (.iconst 0, 1) := by decide +kernel
theorem dX6_init_30 : decode cX6_init 30 = .ok (.istore_n 1, 1) := by decide +kernel
theorem dX6_init_31 : decode cX6_init 31 = .ok (.iload_n 1, 1) := by decide +kernel
theorem dX6_init_32 : decode cX6_init 32 = .ok (.bipush 8, 2) := by decide +kernel
theorem dX6_init_34 : decode cX6_init 34 = .ok (.if_icmp .ge 16, 3) := by decide +kernel
theorem dX6_init_37 : decode cX6_init 37 = .ok (.aload_n 0, 1) := by decide +kernel
theorem dX6_init_38 : decode cX6_init 38 = .ok (.getfield 9, 3) := by decide +kernel
theorem dX6_init_41 : decode cX6_init 41 = .ok (.iload_n 1, 1) := by decide +kernel
theorem dX6_init_42 : decode cX6_init 42 = .ok (.iconst (-1), 1) := by decide +kernel
theorem dX6_init_43 : decode cX6_init 43 = .ok (.iastore, 1) := by decide +kernel
theorem dX6_init_44 : decode cX6_init 44 = .ok (.iinc 1 1, 3) := by decide +kernel
theorem dX6_init_47 : decode cX6_init 47 = .ok (.goto (-16), 3) := by decide +kernel
theorem dX6_init_50 : decode cX6_init 50 = .ok (.return_, 1) := by decide +kernel
theorem dX6_isRow_0 : decode cX6_isRow 0 = .ok (.iload_n 0, 1) := by decide +kernel
theorem dX6_isRow_1 : decode cX6_isRow 1 = .ok (.ifCond .lt 13, 3) := by decide +kernel
theorem dX6_isRow_4 : decode cX6_isRow 4 = .ok (.iload_n 0, 1) := by decide +kernel
theorem dX6_isRow_5 : decode cX6_isRow 5 = .ok (.bipush 8, 2) := by decide +kernel
theorem dX6_isRow_7 : decode cX6_isRow 7 = .ok (.if_icmp .ge 7, 3) := by decide +kernel
theorem dX6_isRow_10 : decode cX6_isRow 10 = .ok (.iconst 1, 1) := by decide +kernel
theorem dX6_isRow_11 : decode cX6_isRow 11 = .ok (.goto 4, 3) := by decide +kernel
theorem dX6_isRow_14 : decode cX6_isRow 14 = .ok (.iconst 0, 1) := by decide +kernel
theorem dX6_isRow_15 : decode cX6_isRow 15 = .ok (.ireturn, 1) := by decide +kernel
theorem dX6_isLane_0 : decode cX6_isLane 0 = .ok (.iload_n 0, 1) := by decide +kernel
theorem dX6_isLane_1 : decode cX6_isLane 1 = .ok (.ifCond .lt 12, 3) := by decide +kernel
theorem dX6_isLane_4 : decode cX6_isLane 4 = .ok (.iload_n 0, 1) := by decide +kernel
theorem dX6_isLane_5 : decode cX6_isLane 5 = .ok (.iconst 2, 1) := by decide +kernel
theorem dX6_isLane_6 : decode cX6_isLane 6 = .ok (.if_icmp .gt 7, 3) := by decide +kernel
theorem dX6_isLane_9 : decode cX6_isLane 9 = .ok (.iconst 1, 1) := by decide +kernel
theorem dX6_isLane_10 : decode cX6_isLane 10 = .ok (.goto 4, 3) := by decide +kernel
theorem dX6_isLane_13 : decode cX6_isLane 13 = .ok (.iconst 0, 1) := by decide +kernel
theorem dX6_isLane_14 : decode cX6_isLane 14 = .ok (.ireturn, 1) := by decide +kernel
theorem dX6_isMissing_0 : decode cX6_isMissing 0 = .ok (.aload_n 0, 1) := by decide +kernel
theorem dX6_isMissing_1 : decode cX6_isMissing 1 = .ok (.getfield 9, 3) := by decide +kernel
theorem dX6_isMissing_4 : decode cX6_isMissing 4 = .ok (.iload_n 1, 1) := by decide +kernel
theorem dX6_isMissing_5 : decode cX6_isMissing 5 = .ok (.iaload, 1) := by decide +kernel
theorem dX6_isMissing_6 : decode cX6_isMissing 6 = .ok (.iconst (-1), 1) := by decide +kernel
theorem dX6_isMissing_7 : decode cX6_isMissing 7 = .ok (.if_icmp .ne 7, 3) := by decide +kernel
theorem dX6_isMissing_10 : decode cX6_isMissing 10 = .ok (.iconst 1, 1) := by decide +kernel
theorem dX6_isMissing_11 : decode cX6_isMissing 11 = .ok (.goto 4, 3) := by decide +kernel
theorem dX6_isMissing_14 : decode cX6_isMissing 14 = .ok (.iconst 0, 1) := by decide +kernel
theorem dX6_isMissing_15 : decode cX6_isMissing 15 = .ok (.ireturn, 1) := by decide +kernel
theorem dX6_laneOf_0 : decode cX6_laneOf 0 = .ok (.aload_n 0, 1) := by decide +kernel
theorem dX6_laneOf_1 : decode cX6_laneOf 1 = .ok (.getfield 9, 3) := by decide +kernel
theorem dX6_laneOf_4 : decode cX6_laneOf 4 = .ok (.iload_n 1, 1) := by decide +kernel
theorem dX6_laneOf_5 : decode cX6_laneOf 5 = .ok (.iaload, 1) := by decide +kernel
theorem dX6_laneOf_6 : decode cX6_laneOf 6 = .ok (.ireturn, 1) := by decide +kernel
theorem dX6_hasPlaces_0 : decode cX6_hasPlaces 0 = .ok (.iload_n 2, 1) := by decide +kernel
theorem dX6_hasPlaces_1 : decode cX6_hasPlaces 1 = .ok (.ifCond .lt 23, 3) := by decide +kernel
theorem dX6_hasPlaces_4 : decode cX6_hasPlaces 4 = .ok (.iload_n 3, 1) := by decide +kernel
theorem dX6_hasPlaces_5 : decode cX6_hasPlaces 5 = .ok (.ifCond .lt 19, 3) := by decide +kernel
theorem dX6_hasPlaces_8 : decode cX6_hasPlaces 8 = .ok (.iload_n 2, 1) := by decide +kernel
theorem dX6_hasPlaces_9 : decode cX6_hasPlaces 9 = .ok (.aload_n 0, 1) := by decide +kernel
theorem dX6_hasPlaces_10 : decode cX6_hasPlaces 10 = .ok (.getfield 13, 3) := by decide +kernel
theorem dX6_hasPlaces_13 : decode cX6_hasPlaces 13 = .ok (.iload_n 1, 1) := by decide +kernel
theorem dX6_hasPlaces_14 : decode cX6_hasPlaces 14 = .ok (.iaload, 1) := by decide +kernel
theorem dX6_hasPlaces_15 : decode cX6_hasPlaces 15 = .ok (.iload_n 3, 1) := by decide +kernel
theorem dX6_hasPlaces_16 : decode cX6_hasPlaces 16 = .ok (.isub, 1) := by decide +kernel
theorem dX6_hasPlaces_17 : decode cX6_hasPlaces 17 = .ok (.if_icmp .gt 7, 3) := by decide +kernel
theorem dX6_hasPlaces_20 : decode cX6_hasPlaces 20 = .ok (.iconst 1, 1) := by decide +kernel
theorem dX6_hasPlaces_21 : decode cX6_hasPlaces 21 = .ok (.goto 4, 3) := by decide +kernel
theorem dX6_hasPlaces_24 : decode cX6_hasPlaces 24 = .ok (.iconst 0, 1) := by decide +kernel
theorem dX6_hasPlaces_25 : decode cX6_hasPlaces 25 = .ok (.ireturn, 1) := by decide +kernel
theorem dX6_make_0 : decode cX6_make 0 = .ok (.aload_n 0, 1) := by decide +kernel
theorem dX6_make_1 : decode cX6_make 1 = .ok (.getfield 9, 3) := by decide +kernel
theorem dX6_make_4 : decode cX6_make 4 = .ok (.iload_n 1, 1) := by decide +kernel
theorem dX6_make_5 : decode cX6_make 5 = .ok (.iload_n 2, 1) := by decide +kernel
theorem dX6_make_6 : decode cX6_make 6 = .ok (.iastore, 1) := by decide +kernel
theorem dX6_make_7 : decode cX6_make 7 = .ok (.aload_n 0, 1) := by decide +kernel
theorem dX6_make_8 : decode cX6_make 8 = .ok (.getfield 13, 3) := by decide +kernel
theorem dX6_make_11 : decode cX6_make 11 = .ok (.iload_n 1, 1) := by decide +kernel
theorem dX6_make_12 : decode cX6_make 12 = .ok (.iload_n 3, 1) := by decide +kernel
theorem dX6_make_13 : decode cX6_make 13 = .ok (.iastore, 1) := by decide +kernel
theorem dX6_make_14 : decode cX6_make 14 = .ok (.iconst 0, 1) := by decide +kernel
theorem dX6_make_15 : decode cX6_make 15 = .ok (.istore 4, 2) := by decide +kernel
theorem dX6_make_17 : decode cX6_make 17 = .ok (.iload 4, 2) := by decide +kernel
theorem dX6_make_19 : decode cX6_make 19 = .ok (.iload_n 3, 1) := by decide +kernel
theorem dX6_make_20 : decode cX6_make 20 = .ok (.if_icmp .ge 22, 3) := by decide +kernel
theorem dX6_make_23 : decode cX6_make 23 = .ok (.aload_n 0, 1) := by decide +kernel
theorem dX6_make_24 : decode cX6_make 24 = .ok (.getfield 16, 3) := by decide +kernel
theorem dX6_make_27 : decode cX6_make 27 = .ok (.iload_n 1, 1) := by decide +kernel
theorem dX6_make_28 : decode cX6_make 28 = .ok (.bipush 40, 2) := by decide +kernel
theorem dX6_make_30 : decode cX6_make 30 = .ok (.imul, 1) := by decide +kernel
theorem dX6_make_31 : decode cX6_make 31 = .ok (.iload 4, 2) := by decide +kernel
theorem dX6_make_33 : decode cX6_make 33 = .ok (.iadd, 1) := by decide +kernel
theorem dX6_make_34 : decode cX6_make 34 = .ok (.iconst 0, 1) := by decide +kernel
theorem dX6_make_35 : decode cX6_make 35 = .ok (.iastore, 1) := by decide +kernel
theorem dX6_make_36 : decode cX6_make 36 = .ok (.iinc 4 1, 3) := by decide +kernel
theorem dX6_make_39 : decode cX6_make 39 = .ok (.goto (-22), 3) := by decide +kernel
theorem dX6_make_42 : decode cX6_make 42 = .ok (.return_, 1) := by decide +kernel
theorem dX6_put_0 : decode cX6_put 0 = .ok (.iload_n 3, 1) := by decide +kernel
theorem dX6_put_1 : decode cX6_put 1 = .ok (.aload_n 0, 1) := by decide +kernel
theorem dX6_put_2 : decode cX6_put 2 = .ok (.getfield 9, 3) := by decide +kernel
theorem dX6_put_5 : decode cX6_put 5 = .ok (.iload_n 1, 1) := by decide +kernel
theorem dX6_put_6 : decode cX6_put 6 = .ok (.iaload, 1) := by decide +kernel
theorem dX6_put_7 : decode cX6_put 7 = .ok (.invokestatic 19, 3) := by decide +kernel
theorem dX6_put_10 : decode cX6_put 10 = .ok (.istore 4, 2) := by decide +kernel
theorem dX6_put_12 : decode cX6_put 12 = .ok (.aload_n 0, 1) := by decide +kernel
theorem dX6_put_13 : decode cX6_put 13 = .ok (.getfield 16, 3) := by decide +kernel
theorem dX6_put_16 : decode cX6_put 16 = .ok (.iload_n 1, 1) := by decide +kernel
theorem dX6_put_17 : decode cX6_put 17 = .ok (.bipush 40, 2) := by decide +kernel
theorem dX6_put_19 : decode cX6_put 19 = .ok (.imul, 1) := by decide +kernel
end
section
theorem dX6_put_20 : decode cX6_put 20 = .ok (.iload_n 2, 1) := by decide +kernel
theorem dX6_put_21 : decode cX6_put 21 = .ok (.iadd, 1) := by decide +kernel
theorem dX6_put_22 : decode cX6_put 22 = .ok (.iload 4, 2) := by decide +kernel
theorem dX6_put_24 : decode cX6_put 24 = .ok (.iastore, 1) := by decide +kernel
theorem dX6_put_25 : decode cX6_put 25 = .ok (.iload 4, 2) := by decide +kernel
theorem dX6_put_27 : decode cX6_put 27 = .ok (.ireturn, 1) := by decide +kernel
theorem dX6_itemAt_0 : decode cX6_itemAt 0 = .ok (.aload_n 0, 1) := by decide +kernel
theorem dX6_itemAt_1 : decode cX6_itemAt 1 = .ok (.getfield 16, 3) := by decide +kernel
theorem dX6_itemAt_4 : decode cX6_itemAt 4 = .ok (.iload_n 1, 1) := by decide +kernel
theorem dX6_itemAt_5 : decode cX6_itemAt 5 = .ok (.bipush 40, 2) := by decide +kernel
theorem dX6_itemAt_7 : decode cX6_itemAt 7 = .ok (.imul, 1) := by decide +kernel
theorem dX6_itemAt_8 : decode cX6_itemAt 8 = .ok (.iload_n 2, 1) := by decide +kernel
theorem dX6_itemAt_9 : decode cX6_itemAt 9 = .ok (.iadd, 1) := by decide +kernel
theorem dX6_itemAt_10 : decode cX6_itemAt 10 = .ok (.iaload, 1) := by decide +kernel
theorem dX6_itemAt_11 : decode cX6_itemAt 11 = .ok (.ireturn, 1) := by decide +kernel
theorem dX6_move_0 : decode cX6_move 0 = .ok (.aload_n 0, 1) := by decide +kernel
theorem dX6_move_1 : decode cX6_move 1 = .ok (.getfield 16, 3) := by decide +kernel
theorem dX6_move_4 : decode cX6_move 4 = .ok (.iload_n 1, 1) := by decide +kernel
theorem dX6_move_5 : decode cX6_move 5 = .ok (.bipush 40, 2) := by decide +kernel
theorem dX6_move_7 : decode cX6_move 7 = .ok (.imul, 1) := by decide +kernel
theorem dX6_move_8 : decode cX6_move 8 = .ok (.iload_n 2, 1) := by decide +kernel
theorem dX6_move_9 : decode cX6_move 9 = .ok (.iadd, 1) := by decide +kernel
theorem dX6_move_10 : decode cX6_move 10 = .ok (.aload_n 0, 1) := by decide +kernel
theorem dX6_move_11 : decode cX6_move 11 = .ok (.getfield 16, 3) := by decide +kernel
theorem dX6_move_14 : decode cX6_move 14 = .ok (.iload_n 3, 1) := by decide +kernel
theorem dX6_move_15 : decode cX6_move 15 = .ok (.bipush 40, 2) := by decide +kernel
theorem dX6_move_17 : decode cX6_move 17 = .ok (.imul, 1) := by decide +kernel
theorem dX6_move_18 : decode cX6_move 18 = .ok (.iload 4, 2) := by decide +kernel
theorem dX6_move_20 : decode cX6_move 20 = .ok (.iadd, 1) := by decide +kernel
theorem dX6_move_21 : decode cX6_move 21 = .ok (.iload 5, 2) := by decide +kernel
theorem dX6_move_23 : decode cX6_move 23 = .ok (.invokestatic 23, 3) := by decide +kernel
theorem dX6_move_26 : decode cX6_move 26 = .ok (.return_, 1) := by decide +kernel
theorem dX6_remove_0 : decode cX6_remove 0 = .ok (.aload_n 0, 1) := by decide +kernel
theorem dX6_remove_1 : decode cX6_remove 1 = .ok (.getfield 13, 3) := by decide +kernel
theorem dX6_remove_4 : decode cX6_remove 4 = .ok (.iload_n 1, 1) := by decide +kernel
theorem dX6_remove_5 : decode cX6_remove 5 = .ok (.iaload, 1) := by decide +kernel
theorem dX6_remove_6 : decode cX6_remove 6 = .ok (.istore_n 2, 1) := by decide +kernel
theorem dX6_remove_7 : decode cX6_remove 7 = .ok (.aload_n 0, 1) := by decide +kernel
theorem dX6_remove_8 : decode cX6_remove 8 = .ok (.getfield 9, 3) := by decide +kernel
theorem dX6_remove_11 : decode cX6_remove 11 = .ok (.iload_n 1, 1) := by decide +kernel
theorem dX6_remove_12 : decode cX6_remove 12 = .ok (.iconst (-1), 1) := by decide +kernel
theorem dX6_remove_13 : decode cX6_remove 13 = .ok (.iastore, 1) := by decide +kernel
theorem dX6_remove_14 : decode cX6_remove 14 = .ok (.aload_n 0, 1) := by decide +kernel
theorem dX6_remove_15 : decode cX6_remove 15 = .ok (.getfield 13, 3) := by decide +kernel
theorem dX6_remove_18 : decode cX6_remove 18 = .ok (.iload_n 1, 1) := by decide +kernel
theorem dX6_remove_19 : decode cX6_remove 19 = .ok (.iconst 0, 1) := by decide +kernel
theorem dX6_remove_20 : decode cX6_remove 20 = .ok (.iastore, 1) := by decide +kernel
theorem dX6_remove_21 : decode cX6_remove 21 = .ok (.iload_n 2, 1) := by decide +kernel
theorem dX6_remove_22 : decode cX6_remove 22 = .ok (.ireturn, 1) := by decide +kernel
theorem dX6_present_0 : decode cX6_present 0 = .ok (.iconst 0, 1) := by decide +kernel
theorem dX6_present_1 : decode cX6_present 1 = .ok (.istore_n 1, 1) := by decide +kernel
theorem dX6_present_2 : decode cX6_present 2 = .ok (.iconst 0, 1) := by decide +kernel
theorem dX6_present_3 : decode cX6_present 3 = .ok (.istore_n 2, 1) := by decide +kernel
theorem dX6_present_4 : decode cX6_present 4 = .ok (.iload_n 2, 1) := by decide +kernel
theorem dX6_present_5 : decode cX6_present 5 = .ok (.bipush 8, 2) := by decide +kernel
theorem dX6_present_7 : decode cX6_present 7 = .ok (.if_icmp .ge 27, 3) := by decide +kernel
theorem dX6_present_10 : decode cX6_present 10 = .ok (.iload_n 1, 1) := by decide +kernel
theorem dX6_present_11 : decode cX6_present 11 = .ok (.aload_n 0, 1) := by decide +kernel
theorem dX6_present_12 : decode cX6_present 12 = .ok (.getfield 9, 3) := by decide +kernel
theorem dX6_present_15 : decode cX6_present 15 = .ok (.iload_n 2, 1) := by decide +kernel
theorem dX6_present_16 : decode cX6_present 16 = .ok (.iaload, 1) := by decide +kernel
theorem dX6_present_17 : decode cX6_present 17 = .ok (.iconst (-1), 1) := by decide +kernel
theorem dX6_present_18 : decode cX6_present 18 = .ok (.if_icmp .ne 7, 3) := by decide +kernel
theorem dX6_present_21 : decode cX6_present 21 = .ok (.iconst 0, 1) := by decide +kernel
theorem dX6_present_22 : decode cX6_present 22 = .ok (.goto 4, 3) := by decide +kernel
theorem dX6_present_25 : decode cX6_present 25 = .ok (.iconst 1, 1) := by decide +kernel
theorem dX6_present_26 : decode cX6_present 26 = .ok (.iadd, 1) := by decide +kernel
theorem dX6_present_27 : decode cX6_present 27 = .ok (.istore_n 1, 1) := by decide +kernel
theorem dX6_present_28 : decode cX6_present 28 = .ok (.iinc 2 1, 3) := by decide +kernel
theorem dX6_present_31 : decode cX6_present 31 = .ok (.goto (-27), 3) := by decide +kernel
theorem dX6_present_34 : decode cX6_present 34 = .ok (.iload_n 1, 1) := by decide +kernel
theorem dX6_present_35 : decode cX6_present 35 = .ok (.ireturn, 1) := by decide +kernel
theorem dX6_cutToLane_0 : decode cX6_cutToLane 0 = .ok (.iload_n 1, 1) := by decide +kernel
theorem dX6_cutToLane_1 : decode cX6_cutToLane 1 = .ok (.lookupswitch 33 #[(0, 27), (1, 30)], 27) := by decide +kernel
theorem dX6_cutToLane_28 : decode cX6_cutToLane 28 = .ok (.iload_n 0, 1) := by decide +kernel
theorem dX6_cutToLane_29 : decode cX6_cutToLane 29 = .ok (.i2b, 1) := by decide +kernel
theorem dX6_cutToLane_30 : decode cX6_cutToLane 30 = .ok (.ireturn, 1) := by decide +kernel
theorem dX6_cutToLane_31 : decode cX6_cutToLane 31 = .ok (.iload_n 0, 1) := by decide +kernel
theorem dX6_cutToLane_32 : decode cX6_cutToLane 32 = .ok (.i2s, 1) := by decide +kernel
theorem dX6_cutToLane_33 : decode cX6_cutToLane 33 = .ok (.ireturn, 1) := by decide +kernel
theorem dX6_cutToLane_34 : decode cX6_cutToLane 34 = .ok (.iload_n 0, 1) := by decide +kernel
theorem dX6_cutToLane_35 : decode cX6_cutToLane 35 = .ok (.ireturn, 1) := by decide +kernel
theorem dX7_init_0 : decode cX7_init 0 = .ok (.aload_n 0, 1) := by decide +kernel
theorem dX7_init_1 : decode cX7_init 1 = .ok (.invokespecial 1, 3) := by decide +kernel
theorem dX7_init_4 : decode cX7_init 4 = .ok (.aload_n 0, 1) := by decide +kernel
theorem dX7_init_5 : decode cX7_init 5 = .ok (.iconst 0, 1) := by decide +kernel
theorem dX7_init_6 : decode cX7_init 6 = .ok (.putfield 7, 3) := by decide +kernel
theorem dX7_init_9 : decode cX7_init 9 = .ok (.aload_n 0, 1) := by decide +kernel
theorem dX7_init_10 : decode cX7_init 10 = .ok (.iconst 0, 1) := by decide +kernel
theorem dX7_init_11 : decode cX7_init 11 = .ok (.putfield 13, 3) := by decide +kernel
theorem dX7_init_14 : decode cX7_init 14 = .ok (.aload_n 0, 1) := by decide +kernel
theorem dX7_init_15 : decode cX7_init 15 = .ok (.iconst 0, 1) := by decide +kernel
theorem dX7_init_16 : decode cX7_init 16 = .ok (.putfield 16, 3) := by decide +kernel
theorem dX7_init_19 : decode cX7_init 19 = .ok (.aload_n 0, 1) := by decide +kernel
theorem dX7_init_20 : decode cX7_init 20 = .ok (.iconst 0, 1) := by decide +kernel
theorem dX7_init_21 : decode cX7_init 21 = .ok (.putfield 19, 3) := by decide +kernel
theorem dX7_init_24 : decode cX7_init 24 = .ok (.aload_n 0, 1) := by decide +kernel
theorem dX7_init_25 : decode cX7_init 25 = .ok (.bipush 6, 2) := by decide +kernel
theorem dX7_init_27 : decode cX7_init 27 = .ok (.newarray .int, 2) := by decide +kernel
theorem dX7_init_29 : decode cX7_init 29 = .ok (.putfield 22, 3) := by decide +kernel
theorem dX7_init_32 : decode cX7_init 32 = .ok (.aload_n 0, 1) := by decide +kernel
theorem dX7_init_33 : decode cX7_init 33 = .ok (.bipush 6, 2) := by decide +kernel
theorem dX7_init_35 : decode cX7_init 35 = .ok (.newarray .int, 2) := by decide +kernel
theorem dX7_init_37 : decode cX7_init 37 = .ok (.putfield 26, 3) := by decide +kernel
theorem dX7_init_40 : decode cX7_init 40 = .ok (.aload_n 0, 1) := by decide +kernel
theorem dX7_init_41 : decode cX7_init 41 = .ok (.bipush 6, 2) := by decide +kernel
theorem dX7_init_43 : decode cX7_init 43 = .ok (.newarray .int, 2) := by decide +kernel
theorem dX7_init_45 : decode cX7_init 45 = .ok (.putfield 29, 3) := by decide +kernel
theorem dX7_init_48 : decode cX7_init 48 = .ok (.aload_n 0, 1) := by decide +kernel
theorem dX7_init_49 : decode cX7_init 49 = .ok (.iconst 4, 1) := by decide +kernel
theorem dX7_init_50 : decode cX7_init 50 = .ok (.newarray .int, 2) := by decide +kernel
theorem dX7_init_52 : decode cX7_init 52 = .ok (.putfield 32, 3) := by decide +kernel
theorem dX7_init_55 : decode cX7_init 55 = .ok (.aload_n 0, 1) := by decide +kernel
theorem dX7_init_56 : decode cX7_init 56 = .ok (.iconst 4, 1) := by decide +kernel
theorem dX7_init_57 : decode cX7_init 57 = .ok (.newarray .int, 2) := by decide +kernel
theorem dX7_init_59 : decode cX7_init 59 = .ok (.putfield 35, 3) := by decide +kernel
theorem dX7_init_62 : decode cX7_init 62 = .ok (.aload_n 0, 1) := by decide +kernel
theorem dX7_init_63 : decode cX7_init 63 = .ok (.iconst 4, 1) := by decide +kernel
theorem dX7_init_64 : decode cX7_init 64 = .ok (.newarray .int, 2) := by decide +kernel
theorem dX7_init_66 : decode cX7_init 66 = .ok (.putfield 38, 3) := by decide +kernel
theorem dX7_init_69 : decode cX7_init 69 = .ok (.aload_n 0, 1) := by decide +kernel
theorem dX7_init_70 : decode cX7_init 70 = .ok (.iconst 4, 1) := by decide +kernel
theorem dX7_init_71 : decode cX7_init 71 = .ok (.newarray .int, 2) := by decide +kernel
theorem dX7_init_73 : decode cX7_init 73 = .ok (.putfield 41, 3) := by decide +kernel
theorem dX7_init_76 : decode cX7_init 76 = .ok (.return_, 1) := by decide +kernel
theorem dX7_stands_0 : decode cX7_stands 0 = .ok (.aload_n 0, 1) := by decide +kernel
theorem dX7_stands_1 : decode cX7_stands 1 = .ok (.getfield 7, 3) := by decide +kernel
theorem dX7_stands_4 : decode cX7_stands 4 = .ok (.ifCond .le 7, 3) := by decide +kernel
theorem dX7_stands_7 : decode cX7_stands 7 = .ok (.iconst 1, 1) := by decide +kernel
theorem dX7_stands_8 : decode cX7_stands 8 = .ok (.goto 4, 3) := by decide +kernel
theorem dX7_stands_11 : decode cX7_stands 11 = .ok (.iconst 0, 1) := by decide +kernel
theorem dX7_stands_12 : decode cX7_stands 12 = .ok (.ireturn, 1) := by decide +kernel
theorem dX7_hasLie_0 : decode cX7_hasLie 0 = .ok (.iload_n 1, 1) := by decide +kernel
theorem dX7_hasLie_1 : decode cX7_hasLie 1 = .ok (.ifCond .lt 15, 3) := by decide +kernel
theorem dX7_hasLie_4 : decode cX7_hasLie 4 = .ok (.iload_n 1, 1) := by decide +kernel
theorem dX7_hasLie_5 : decode cX7_hasLie 5 = .ok (.aload_n 0, 1) := by decide +kernel
theorem dX7_hasLie_6 : decode cX7_hasLie 6 = .ok (.getfield 16, 3) := by decide +kernel
theorem dX7_hasLie_9 : decode cX7_hasLie 9 = .ok (.if_icmp .ge 7, 3) := by decide +kernel
theorem dX7_hasLie_12 : decode cX7_hasLie 12 = .ok (.iconst 1, 1) := by decide +kernel
theorem dX7_hasLie_13 : decode cX7_hasLie 13 = .ok (.goto 4, 3) := by decide +kernel
theorem dX7_hasLie_16 : decode cX7_hasLie 16 = .ok (.iconst 0, 1) := by decide +kernel
theorem dX7_hasLie_17 : decode cX7_hasLie 17 = .ok (.ireturn, 1) := by decide +kernel
theorem dX7_hasStranger_0 : decode cX7_hasStranger 0 = .ok (.iload_n 1, 1) := by decide +kernel
theorem dX7_hasStranger_1 : decode cX7_hasStranger 1 = .ok (.ifCond .lt 15, 3) := by decide +kernel
theorem dX7_hasStranger_4 : decode cX7_hasStranger 4 = .ok (.iload_n 1, 1) := by decide +kernel
theorem dX7_hasStranger_5 : decode cX7_hasStranger 5 = .ok (.aload_n 0, 1) := by decide +kernel
theorem dX7_hasStranger_6 : decode cX7_hasStranger 6 = .ok (.getfield 19, 3) := by decide +kernel
theorem dX7_hasStranger_9 : decode cX7_hasStranger 9 = .ok (.if_icmp .ge 7, 3) := by decide +kernel
theorem dX7_hasStranger_12 : decode cX7_hasStranger 12 = .ok (.iconst 1, 1) := by decide +kernel
theorem dX7_hasStranger_13 : decode cX7_hasStranger 13 = .ok (.goto 4, 3) := by decide +kernel
theorem dX7_hasStranger_16 : decode cX7_hasStranger 16 = .ok (.iconst 0, 1) := by decide +kernel
theorem dX7_hasStranger_17 : decode cX7_hasStranger 17 = .ok (.ireturn, 1) := by decide +kernel
theorem dX7_isSetOfLies_0 : decode cX7_isSetOfLies 0 = .ok (.iload_n 1, 1) := by decide +kernel
theorem dX7_isSetOfLies_1 : decode cX7_isSetOfLies 1 = .ok (.ifCond .lt 17, 3) := by decide +kernel
theorem dX7_isSetOfLies_4 : decode cX7_isSetOfLies 4 = .ok (.iload_n 1, 1) := by decide +kernel
theorem dX7_isSetOfLies_5 : decode cX7_isSetOfLies 5 = .ok (.iconst 1, 1) := by decide +kernel
theorem dX7_isSetOfLies_6 : decode cX7_isSetOfLies 6 = .ok (.aload_n 0, 1) := by decide +kernel
theorem dX7_isSetOfLies_7 : decode cX7_isSetOfLies 7 = .ok (.getfield 16, 3) := by decide +kernel
theorem dX7_isSetOfLies_10 : decode cX7_isSetOfLies 10 = .ok (.ishl, 1) := by decide +kernel
theorem dX7_isSetOfLies_11 : decode cX7_isSetOfLies 11 = .ok (.if_icmp .ge 7, 3) := by decide +kernel
theorem dX7_isSetOfLies_14 : decode cX7_isSetOfLies 14 = .ok (.iconst 1, 1) := by decide +kernel
theorem dX7_isSetOfLies_15 : decode cX7_isSetOfLies 15 = .ok (.goto 4, 3) := by decide +kernel
theorem dX7_isSetOfLies_18 : decode cX7_isSetOfLies 18 = .ok (.iconst 0, 1) := by decide +kernel
theorem dX7_isSetOfLies_19 : decode cX7_isSetOfLies 19 = .ok (.ireturn, 1) := by decide +kernel
theorem dX7_wasTold_0 : decode cX7_wasTold 0 = .ok (.aload_n 0, 1) := by decide +kernel
theorem dX7_wasTold_1 : decode cX7_wasTold 1 = .ok (.getfield 38, 3) := by decide +kernel
theorem dX7_wasTold_4 : decode cX7_wasTold 4 = .ok (.iload_n 1, 1) := by decide +kernel
theorem dX7_wasTold_5 : decode cX7_wasTold 5 = .ok (.iaload, 1) := by decide +kernel
theorem dX7_wasTold_6 : decode cX7_wasTold 6 = .ok (.iload_n 2, 1) := by decide +kernel
theorem dX7_wasTold_7 : decode cX7_wasTold 7 = .ok (.ishr, 1) := by decide +kernel
theorem dX7_wasTold_8 : decode cX7_wasTold 8 = .ok (.iconst 1, 1) := by decide +kernel
theorem dX7_wasTold_9 : decode cX7_wasTold 9 = .ok (.iand, 1) := by decide +kernel
theorem dX7_wasTold_10 : decode cX7_wasTold 10 = .ok (.ifCond .eq 7, 3) := by decide +kernel
theorem dX7_wasTold_13 : decode cX7_wasTold 13 = .ok (.iconst 1, 1) := by decide +kernel
theorem dX7_wasTold_14 : decode cX7_wasTold 14 = .ok (.goto 4, 3) := by decide +kernel
theorem dX7_wasTold_17 : decode cX7_wasTold 17 = .ok (.iconst 0, 1) := by decide +kernel
theorem dX7_wasTold_18 : decode cX7_wasTold 18 = .ok (.ireturn, 1) := by decide +kernel
theorem dX7_untold_0 : decode cX7_untold 0 = .ok (.iconst 1, 1) := by decide +kernel
theorem dX7_untold_1 : decode cX7_untold 1 = .ok (.aload_n 0, 1) := by decide +kernel
theorem dX7_untold_2 : decode cX7_untold 2 = .ok (.getfield 16, 3) := by decide +kernel
theorem dX7_untold_5 : decode cX7_untold 5 = .ok (.ishl, 1) := by decide +kernel
theorem dX7_untold_6 : decode cX7_untold 6 = .ok (.iconst 1, 1) := by decide +kernel
theorem dX7_untold_7 : decode cX7_untold 7 = .ok (.isub, 1) := by decide +kernel
theorem dX7_untold_8 : decode cX7_untold 8 = .ok (.aload_n 0, 1) := by decide +kernel
theorem dX7_untold_9 : decode cX7_untold 9 = .ok (.getfield 38, 3) := by decide +kernel
theorem dX7_untold_12 : decode cX7_untold 12 = .ok (.iload_n 1, 1) := by decide +kernel
theorem dX7_untold_13 : decode cX7_untold 13 = .ok (.iaload, 1) := by decide +kernel
theorem dX7_untold_14 : decode cX7_untold 14 = .ok (.iconst (-1), 1) := by decide +kernel
theorem dX7_untold_15 : decode cX7_untold 15 = .ok (.ixor, 1) := by decide +kernel
theorem dX7_untold_16 : decode cX7_untold 16 = .ok (.iand, 1) := by decide +kernel
theorem dX7_untold_17 : decode cX7_untold 17 = .ok (.ireturn, 1) := by decide +kernel
theorem dX7_strangersWith_0 : decode cX7_strangersWith 0 = .ok (.iconst 0, 1) := by decide +kernel
theorem dX7_strangersWith_1 : decode cX7_strangersWith 1 = .ok (.istore_n 3, 1) := by decide +kernel
theorem dX7_strangersWith_2 : decode cX7_strangersWith 2 = .ok (.iconst 0, 1) := by decide +kernel
theorem dX7_strangersWith_3 : decode cX7_strangersWith 3 = .ok (.istore 4, 2) := by decide +kernel
theorem dX7_strangersWith_5 : decode cX7_strangersWith 5 = .ok (.iload 4, 2) := by decide +kernel
theorem dX7_strangersWith_7 : decode cX7_strangersWith 7 = .ok (.aload_n 0, 1) := by decide +kernel
theorem dX7_strangersWith_8 : decode cX7_strangersWith 8 = .ok (.getfield 19, 3) := by decide +kernel
theorem dX7_strangersWith_11 : decode cX7_strangersWith 11 = .ok (.if_icmp .ge 27, 3) := by decide +kernel
theorem dX7_strangersWith_14 : decode cX7_strangersWith 14 = .ok (.iload 4, 2) := by decide +kernel
theorem dX7_strangersWith_16 : decode cX7_strangersWith 16 = .ok (.aload_n 1, 1) := by decide +kernel
theorem dX7_strangersWith_17 : decode cX7_strangersWith 17 = .ok (.arraylength, 1) := by decide +kernel
theorem dX7_strangersWith_18 : decode cX7_strangersWith 18 = .ok (.if_icmp .ge 20, 3) := by decide +kernel
theorem dX7_strangersWith_21 : decode cX7_strangersWith 21 = .ok (.iload_n 3, 1) := by decide +kernel
theorem dX7_strangersWith_22 : decode cX7_strangersWith 22 = .ok (.aload_n 1, 1) := by decide +kernel
theorem dX7_strangersWith_23 : decode cX7_strangersWith 23 = .ok (.iload 4, 2) := by decide +kernel
theorem dX7_strangersWith_25 : decode cX7_strangersWith 25 = .ok (.iaload, 1) := by decide +kernel
theorem dX7_strangersWith_26 : decode cX7_strangersWith 26 = .ok (.iload_n 2, 1) := by decide +kernel
theorem dX7_strangersWith_27 : decode cX7_strangersWith 27 = .ok (.ishr, 1) := by decide +kernel
theorem dX7_strangersWith_28 : decode cX7_strangersWith 28 = .ok (.iconst 1, 1) := by decide +kernel
theorem dX7_strangersWith_29 : decode cX7_strangersWith 29 = .ok (.iand, 1) := by decide +kernel
theorem dX7_strangersWith_30 : decode cX7_strangersWith 30 = .ok (.iadd, 1) := by decide +kernel
theorem dX7_strangersWith_31 : decode cX7_strangersWith 31 = .ok (.istore_n 3, 1) := by decide +kernel
theorem dX7_strangersWith_32 : decode cX7_strangersWith 32 = .ok (.iinc 4 1, 3) := by decide +kernel
theorem dX7_strangersWith_35 : decode cX7_strangersWith 35 = .ok (.goto (-30), 3) := by decide +kernel
theorem dX7_strangersWith_38 : decode cX7_strangersWith 38 = .ok (.iload_n 3, 1) := by decide +kernel
theorem dX7_strangersWith_39 : decode cX7_strangersWith 39 = .ok (.ireturn, 1) := by decide +kernel
theorem dX7_begin_0 : decode cX7_begin 0 = .ok (.aload_n 0, 1) := by decide +kernel
theorem dX7_begin_1 : decode cX7_begin 1 = .ok (.iload_n 1, 1) := by decide +kernel
theorem dX7_begin_2 : decode cX7_begin 2 = .ok (.putfield 7, 3) := by decide +kernel
theorem dX7_begin_5 : decode cX7_begin 5 = .ok (.aload_n 0, 1) := by decide +kernel
theorem dX7_begin_6 : decode cX7_begin 6 = .ok (.iconst 0, 1) := by decide +kernel
theorem dX7_begin_7 : decode cX7_begin 7 = .ok (.putfield 13, 3) := by decide +kernel
theorem dX7_begin_10 : decode cX7_begin 10 = .ok (.aload_n 0, 1) := by decide +kernel
theorem dX7_begin_11 : decode cX7_begin 11 = .ok (.iconst 0, 1) := by decide +kernel
theorem dX7_begin_12 : decode cX7_begin 12 = .ok (.putfield 16, 3) := by decide +kernel
theorem dX7_begin_15 : decode cX7_begin 15 = .ok (.aload_n 0, 1) := by decide +kernel
theorem dX7_begin_16 : decode cX7_begin 16 = .ok (.iconst 0, 1) := by decide +kernel
theorem dX7_begin_17 : decode cX7_begin 17 = .ok (.putfield 19, 3) := by decide +kernel
theorem dX7_begin_20 : decode cX7_begin 20 = .ok (.return_, 1) := by decide +kernel
theorem dX7_addLie_0 : decode cX7_addLie 0 = .ok (.aload_n 0, 1) := by decide +kernel
theorem dX7_addLie_1 : decode cX7_addLie 1 = .ok (.getfield 16, 3) := by decide +kernel
theorem dX7_addLie_4 : decode cX7_addLie 4 = .ok (.bipush 6, 2) := by decide +kernel
theorem dX7_addLie_6 : decode cX7_addLie 6 = .ok (.if_icmp .ge 43, 3) := by decide +kernel
theorem dX7_addLie_9 : decode cX7_addLie 9 = .ok (.aload_n 0, 1) := by decide +kernel
theorem dX7_addLie_10 : decode cX7_addLie 10 = .ok (.getfield 22, 3) := by decide +kernel
theorem dX7_addLie_13 : decode cX7_addLie 13 = .ok (.aload_n 0, 1) := by decide +kernel
theorem dX7_addLie_14 : decode cX7_addLie 14 = .ok (.getfield 16, 3) := by decide +kernel
theorem dX7_addLie_17 : decode cX7_addLie 17 = .ok (.iload_n 1, 1) := by decide +kernel
theorem dX7_addLie_18 : decode cX7_addLie 18 = .ok (.iastore, 1) := by decide +kernel
theorem dX7_addLie_19 : decode cX7_addLie 19 = .ok (.aload_n 0, 1) := by decide +kernel
theorem dX7_addLie_20 : decode cX7_addLie 20 = .ok (.getfield 26, 3) := by decide +kernel
theorem dX7_addLie_23 : decode cX7_addLie 23 = .ok (.aload_n 0, 1) := by decide +kernel
theorem dX7_addLie_24 : decode cX7_addLie 24 = .ok (.getfield 16, 3) := by decide +kernel
theorem dX7_addLie_27 : decode cX7_addLie 27 = .ok (.iload_n 2, 1) := by decide +kernel
theorem dX7_addLie_28 : decode cX7_addLie 28 = .ok (.iastore, 1) := by decide +kernel
theorem dX7_addLie_29 : decode cX7_addLie 29 = .ok (.aload_n 0, 1) := by decide +kernel
theorem dX7_addLie_30 : decode cX7_addLie 30 = .ok (.getfield 29, 3) := by decide +kernel
theorem dX7_addLie_33 : decode cX7_addLie 33 = .ok (.aload_n 0, 1) := by decide +kernel
theorem dX7_addLie_34 : decode cX7_addLie 34 = .ok (.getfield 16, 3) := by decide +kernel
theorem dX7_addLie_37 : decode cX7_addLie 37 = .ok (.iload_n 3, 1) := by decide +kernel
theorem dX7_addLie_38 : decode cX7_addLie 38 = .ok (.iastore, 1) := by decide +kernel
theorem dX7_addLie_39 : decode cX7_addLie 39 = .ok (.aload_n 0, 1) := by decide +kernel
theorem dX7_addLie_40 : decode cX7_addLie 40 = .ok (.dup, 1) := by decide +kernel
theorem dX7_addLie_41 : decode cX7_addLie 41 = .ok (.getfield 16, 3) := by decide +kernel
theorem dX7_addLie_44 : decode cX7_addLie 44 = .ok (.iconst 1, 1) := by decide +kernel
theorem dX7_addLie_45 : decode cX7_addLie 45 = .ok (.iadd, 1) := by decide +kernel
theorem dX7_addLie_46 : decode cX7_addLie 46 = .ok (.putfield 16, 3) := by decide +kernel
theorem dX7_addLie_49 : decode cX7_addLie 49 = .ok (.return_, 1) := by decide +kernel
theorem dX7_addStranger_0 : decode cX7_addStranger 0 = .ok (.aload_n 0, 1) := by decide +kernel
theorem dX7_addStranger_1 : decode cX7_addStranger 1 = .ok (.getfield 19, 3) := by decide +kernel
theorem dX7_addStranger_4 : decode cX7_addStranger 4 = .ok (.iconst 4, 1) := by decide +kernel
theorem dX7_addStranger_5 : decode cX7_addStranger 5 = .ok (.if_icmp .ge 53, 3) := by decide +kernel
theorem dX7_addStranger_8 : decode cX7_addStranger 8 = .ok (.aload_n 0, 1) := by decide +kernel
theorem dX7_addStranger_9 : decode cX7_addStranger 9 = .ok (.getfield 32, 3) := by decide +kernel
theorem dX7_addStranger_12 : decode cX7_addStranger 12 = .ok (.aload_n 0, 1) := by decide +kernel
theorem dX7_addStranger_13 : decode cX7_addStranger 13 = .ok (.getfield 19, 3) := by decide +kernel
theorem dX7_addStranger_16 : decode cX7_addStranger 16 = .ok (.iload_n 1, 1) := by decide +kernel
theorem dX7_addStranger_17 : decode cX7_addStranger 17 = .ok (.iastore, 1) := by decide +kernel
theorem dX7_addStranger_18 : decode cX7_addStranger 18 = .ok (.aload_n 0, 1) := by decide +kernel
theorem dX7_addStranger_19 : decode cX7_addStranger 19 = .ok (.getfield 35, 3) := by decide +kernel
theorem dX7_addStranger_22 : decode cX7_addStranger 22 = .ok (.aload_n 0, 1) := by decide +kernel
theorem dX7_addStranger_23 : decode cX7_addStranger 23 = .ok (.getfield 19, 3) := by decide +kernel
theorem dX7_addStranger_26 : decode cX7_addStranger 26 = .ok (.iload_n 2, 1) := by decide +kernel
theorem dX7_addStranger_27 : decode cX7_addStranger 27 = .ok (.iastore, 1) := by decide +kernel
theorem dX7_addStranger_28 : decode cX7_addStranger 28 = .ok (.aload_n 0, 1) := by decide +kernel
theorem dX7_addStranger_29 : decode cX7_addStranger 29 = .ok (.getfield 38, 3) := by decide +kernel
theorem dX7_addStranger_32 : decode cX7_addStranger 32 = .ok (.aload_n 0, 1) := by decide +kernel
theorem dX7_addStranger_33 : decode cX7_addStranger 33 = .ok (.getfield 19, 3) := by decide +kernel
theorem dX7_addStranger_36 : decode cX7_addStranger 36 = .ok (.iconst 0, 1) := by decide +kernel
theorem dX7_addStranger_37 : decode cX7_addStranger 37 = .ok (.iastore, 1) := by decide +kernel
theorem dX7_addStranger_38 : decode cX7_addStranger 38 = .ok (.aload_n 0, 1) := by decide +kernel
theorem dX7_addStranger_39 : decode cX7_addStranger 39 = .ok (.getfield 41, 3) := by decide +kernel
theorem dX7_addStranger_42 : decode cX7_addStranger 42 = .ok (.aload_n 0, 1) := by decide +kernel
theorem dX7_addStranger_43 : decode cX7_addStranger 43 = .ok (.getfield 19, 3) := by decide +kernel
theorem dX7_addStranger_46 : decode cX7_addStranger 46 = .ok (.iconst 0, 1) := by decide +kernel
theorem dX7_addStranger_47 : decode cX7_addStranger 47 = .ok (.iastore, 1) := by decide +kernel
theorem dX7_addStranger_48 : decode cX7_addStranger 48 = .ok (.aload_n 0, 1) := by decide +kernel
theorem dX7_addStranger_49 : decode cX7_addStranger 49 = .ok (.dup, 1) := by decide +kernel
theorem dX7_addStranger_50 : decode cX7_addStranger 50 = .ok (.getfield 19, 3) := by decide +kernel
theorem dX7_addStranger_53 : decode cX7_addStranger 53 = .ok (.iconst 1, 1) := by decide +kernel
theorem dX7_addStranger_54 : decode cX7_addStranger 54 = .ok (.iadd, 1) := by decide +kernel
theorem dX7_addStranger_55 : decode cX7_addStranger 55 = .ok (.putfield 19, 3) := by decide +kernel
theorem dX7_addStranger_58 : decode cX7_addStranger 58 = .ok (.return_, 1) := by decide +kernel
theorem dX7_become_0 : decode cX7_become 0 = .ok (.aload_n 0, 1) := by decide +kernel
theorem dX7_become_1 : decode cX7_become 1 = .ok (.aload_n 1, 1) := by decide +kernel
theorem dX7_become_2 : decode cX7_become 2 = .ok (.getfield 7, 3) := by decide +kernel
theorem dX7_become_5 : decode cX7_become 5 = .ok (.putfield 7, 3) := by decide +kernel
theorem dX7_become_8 : decode cX7_become 8 = .ok (.aload_n 0, 1) := by decide +kernel
theorem dX7_become_9 : decode cX7_become 9 = .ok (.aload_n 1, 1) := by decide +kernel
theorem dX7_become_10 : decode cX7_become 10 = .ok (.getfield 13, 3) := by decide +kernel
theorem dX7_become_13 : decode cX7_become 13 = .ok (.putfield 13, 3) := by decide +kernel
theorem dX7_become_16 : decode cX7_become 16 = .ok (.aload_n 0, 1) := by decide +kernel
theorem dX7_become_17 : decode cX7_become 17 = .ok (.aload_n 1, 1) := by decide +kernel
theorem dX7_become_18 : decode cX7_become 18 = .ok (.getfield 16, 3) := by decide +kernel
theorem dX7_become_21 : decode cX7_become 21 = .ok (.putfield 16, 3) := by decide +kernel
theorem dX7_become_24 : decode cX7_become 24 = .ok (.aload_n 0, 1) := by decide +kernel
theorem dX7_become_25 : decode cX7_become 25 = .ok (.aload_n 1, 1) := by decide +kernel
theorem dX7_become_26 : decode cX7_become 26 = .ok (.getfield 19, 3) := by decide +kernel
theorem dX7_become_29 : decode cX7_become 29 = .ok (.putfield 19, 3) := by decide +kernel
theorem dX7_become_32 : decode cX7_become 32 = .ok (.iconst 0, 1) := by decide +kernel
theorem dX7_become_33 : decode cX7_become 33 = .ok (.istore_n 2, 1) := by decide +kernel
theorem dX7_become_34 : decode cX7_become 34 = .ok (.iload_n 2, 1) := by decide +kernel
theorem dX7_become_35 : decode cX7_become 35 = .ok (.bipush 6, 2) := by decide +kernel
theorem dX7_become_37 : decode cX7_become 37 = .ok (.if_icmp .ge 45, 3) := by decide +kernel
theorem dX7_become_40 : decode cX7_become 40 = .ok (.aload_n 0, 1) := by decide +kernel
theorem dX7_become_41 : decode cX7_become 41 = .ok (.getfield 22, 3) := by decide +kernel
theorem dX7_become_44 : decode cX7_become 44 = .ok (.iload_n 2, 1) := by decide +kernel
theorem dX7_become_45 : decode cX7_become 45 = .ok (.aload_n 1, 1) := by decide +kernel
theorem dX7_become_46 : decode cX7_become 46 = .ok (.getfield 22, 3) := by decide +kernel
theorem dX7_become_49 : decode cX7_become 49 = .ok (.iload_n 2, 1) := by decide +kernel
theorem dX7_become_50 : decode cX7_become 50 = .ok (.iaload, 1) := by decide +kernel
theorem dX7_become_51 : decode cX7_become 51 = .ok (.iastore, 1) := by decide +kernel
theorem dX7_become_52 : decode cX7_become 52 = .ok (.aload_n 0, 1) := by decide +kernel
theorem dX7_become_53 : decode cX7_become 53 = .ok (.getfield 26, 3) := by decide +kernel
theorem dX7_become_56 : decode cX7_become 56 = .ok (.iload_n 2, 1) := by decide +kernel
theorem dX7_become_57 : decode cX7_become 57 = .ok (.aload_n 1, 1) := by decide +kernel
theorem dX7_become_58 : decode cX7_become 58 = .ok (.getfield 26, 3) := by decide +kernel
theorem dX7_become_61 : decode cX7_become 61 = .ok (.iload_n 2, 1) := by decide +kernel
theorem dX7_become_62 : decode cX7_become 62 = .ok (.iaload, 1) := by decide +kernel
theorem dX7_become_63 : decode cX7_become 63 = .ok (.iastore, 1) := by decide +kernel
theorem dX7_become_64 : decode cX7_become 64 = .ok (.aload_n 0, 1) := by decide +kernel
theorem dX7_become_65 : decode cX7_become 65 = .ok (.getfield 29, 3) := by decide +kernel
theorem dX7_become_68 : decode cX7_become 68 = .ok (.iload_n 2, 1) := by decide +kernel
theorem dX7_become_69 : decode cX7_become 69 = .ok (.aload_n 1, 1) := by decide +kernel
theorem dX7_become_70 : decode cX7_become 70 = .ok (.getfield 29, 3) := by decide +kernel
theorem dX7_become_73 : decode cX7_become 73 = .ok (.iload_n 2, 1) := by decide +kernel
theorem dX7_become_74 : decode cX7_become 74 = .ok (.iaload, 1) := by decide +kernel
theorem dX7_become_75 : decode cX7_become 75 = .ok (.iastore, 1) := by decide +kernel
theorem dX7_become_76 : decode cX7_become 76 = .ok (.iinc 2 1, 3) := by decide +kernel
theorem dX7_become_79 : decode cX7_become 79 = .ok (.goto (-45), 3) := by decide +kernel
theorem dX7_become_82 : decode cX7_become 82 = .ok (.iconst 0, 1) := by decide +kernel
theorem dX7_become_83 : decode cX7_become 83 = .ok (.istore_n 2, 1) := by decide +kernel
theorem dX7_become_84 : decode cX7_become 84 = .ok (.iload_n 2, 1) := by decide +kernel
theorem dX7_become_85 : decode cX7_become 85 = .ok (.iconst 4, 1) := by decide +kernel
theorem dX7_become_86 : decode cX7_become 86 = .ok (.if_icmp .ge 57, 3) := by decide +kernel
theorem dX7_become_89 : decode cX7_become 89 = .ok (.aload_n 0, 1) := by decide +kernel
theorem dX7_become_90 : decode cX7_become 90 = .ok (.getfield 32, 3) := by decide +kernel
theorem dX7_become_93 : decode cX7_become 93 = .ok (.iload_n 2, 1) := by decide +kernel
theorem dX7_become_94 : decode cX7_become 94 = .ok (.aload_n 1, 1) := by decide +kernel
theorem dX7_become_95 : decode cX7_become 95 = .ok (.getfield 32, 3) := by decide +kernel
theorem dX7_become_98 : decode cX7_become 98 = .ok (.iload_n 2, 1) := by decide +kernel
theorem dX7_become_99 : decode cX7_become 99 = .ok (.iaload, 1) := by decide +kernel
theorem dX7_become_100 : decode cX7_become 100 = .ok (.iastore, 1) := by decide +kernel
theorem dX7_become_101 : decode cX7_become 101 = .ok (.aload_n 0, 1) := by decide +kernel
theorem dX7_become_102 : decode cX7_become 102 = .ok (.getfield 35, 3) := by decide +kernel
theorem dX7_become_105 : decode cX7_become 105 = .ok (.iload_n 2, 1) := by decide +kernel
theorem dX7_become_106 : decode cX7_become 106 = .ok (.aload_n 1, 1) := by decide +kernel
theorem dX7_become_107 : decode cX7_become 107 = .ok (.getfield 35, 3) := by decide +kernel
theorem dX7_become_110 : decode cX7_become 110 = .ok (.iload_n 2, 1) := by decide +kernel
theorem dX7_become_111 : decode cX7_become 111 = .ok (.iaload, 1) := by decide +kernel
theorem dX7_become_112 : decode cX7_become 112 = .ok (.iastore, 1) := by decide +kernel
theorem dX7_become_113 : decode cX7_become 113 = .ok (.aload_n 0, 1) := by decide +kernel
theorem dX7_become_114 : decode cX7_become 114 = .ok (.getfield 38, 3) := by decide +kernel
theorem dX7_become_117 : decode cX7_become 117 = .ok (.iload_n 2, 1) := by decide +kernel
theorem dX7_become_118 : decode cX7_become 118 = .ok (.aload_n 1, 1) := by decide +kernel
theorem dX7_become_119 : decode cX7_become 119 = .ok (.getfield 38, 3) := by decide +kernel
theorem dX7_become_122 : decode cX7_become 122 = .ok (.iload_n 2, 1) := by decide +kernel
theorem dX7_become_123 : decode cX7_become 123 = .ok (.iaload, 1) := by decide +kernel
theorem dX7_become_124 : decode cX7_become 124 = .ok (.iastore, 1) := by decide +kernel
theorem dX7_become_125 : decode cX7_become 125 = .ok (.aload_n 0, 1) := by decide +kernel
theorem dX7_become_126 : decode cX7_become 126 = .ok (.getfield 41, 3) := by decide +kernel
theorem dX7_become_129 : decode cX7_become 129 = .ok (.iload_n 2, 1) := by decide +kernel
theorem dX7_become_130 : decode cX7_become 130 = .ok (.aload_n 1, 1) := by decide +kernel
theorem dX7_become_131 : decode cX7_become 131 = .ok (.getfield 41, 3) := by decide +kernel
theorem dX7_become_134 : decode cX7_become 134 = .ok (.iload_n 2, 1) := by decide +kernel
theorem dX7_become_135 : decode cX7_become 135 = .ok (.iaload, 1) := by decide +kernel
theorem dX7_become_136 : decode cX7_become 136 = .ok (.iastore, 1) := by decide +kernel
theorem dX7_become_137 : decode cX7_become 137 = .ok (.iinc 2 1, 3) := by decide +kernel
theorem dX7_become_140 : decode cX7_become 140 = .ok (.goto (-56), 3) := by decide +kernel
theorem dX7_become_143 : decode cX7_become 143 = .ok (.return_, 1) := by decide +kernel
theorem dX7_noteTold_0 : decode cX7_noteTold 0 = .ok (.aload_n 0, 1) := by decide +kernel
theorem dX7_noteTold_1 : decode cX7_noteTold 1 = .ok (.getfield 38, 3) := by decide +kernel
theorem dX7_noteTold_4 : decode cX7_noteTold 4 = .ok (.iload_n 1, 1) := by decide +kernel
theorem dX7_noteTold_5 : decode cX7_noteTold 5 = .ok (.dup2, 1) := by decide +kernel
theorem dX7_noteTold_6 : decode cX7_noteTold 6 = .ok (.iaload, 1) := by decide +kernel
theorem dX7_noteTold_7 : decode cX7_noteTold 7 = .ok (.iconst 1, 1) := by decide +kernel
theorem dX7_noteTold_8 : decode cX7_noteTold 8 = .ok (.iload_n 2, 1) := by decide +kernel
theorem dX7_noteTold_9 : decode cX7_noteTold 9 = .ok (.ishl, 1) := by decide +kernel
theorem dX7_noteTold_10 : decode cX7_noteTold 10 = .ok (.ior, 1) := by decide +kernel
theorem dX7_noteTold_11 : decode cX7_noteTold 11 = .ok (.iastore, 1) := by decide +kernel
theorem dX7_noteTold_12 : decode cX7_noteTold 12 = .ok (.iload_n 3, 1) := by decide +kernel
theorem dX7_noteTold_13 : decode cX7_noteTold 13 = .ok (.ifCond .eq 15, 3) := by decide +kernel
theorem dX7_noteTold_16 : decode cX7_noteTold 16 = .ok (.aload_n 0, 1) := by decide +kernel
theorem dX7_noteTold_17 : decode cX7_noteTold 17 = .ok (.getfield 41, 3) := by decide +kernel
theorem dX7_noteTold_20 : decode cX7_noteTold 20 = .ok (.iload_n 1, 1) := by decide +kernel
theorem dX7_noteTold_21 : decode cX7_noteTold 21 = .ok (.dup2, 1) := by decide +kernel
theorem dX7_noteTold_22 : decode cX7_noteTold 22 = .ok (.iaload, 1) := by decide +kernel
theorem dX7_noteTold_23 : decode cX7_noteTold 23 = .ok (.iconst 1, 1) := by decide +kernel
theorem dX7_noteTold_24 : decode cX7_noteTold 24 = .ok (.iload_n 2, 1) := by decide +kernel
theorem dX7_noteTold_25 : decode cX7_noteTold 25 = .ok (.ishl, 1) := by decide +kernel
theorem dX7_noteTold_26 : decode cX7_noteTold 26 = .ok (.ior, 1) := by decide +kernel
theorem dX7_noteTold_27 : decode cX7_noteTold 27 = .ok (.iastore, 1) := by decide +kernel
theorem dX7_noteTold_28 : decode cX7_noteTold 28 = .ok (.aload_n 0, 1) := by decide +kernel
theorem dX7_noteTold_29 : decode cX7_noteTold 29 = .ok (.dup, 1) := by decide +kernel
theorem dX7_noteTold_30 : decode cX7_noteTold 30 = .ok (.getfield 13, 3) := by decide +kernel
theorem dX7_noteTold_33 : decode cX7_noteTold 33 = .ok (.iload_n 3, 1) := by decide +kernel
theorem dX7_noteTold_34 : decode cX7_noteTold 34 = .ok (.ifCond .eq 10, 3) := by decide +kernel
theorem dX7_noteTold_37 : decode cX7_noteTold 37 = .ok (.aload_n 0, 1) := by decide +kernel
theorem dX7_noteTold_38 : decode cX7_noteTold 38 = .ok (.getfield 7, 3) := by decide +kernel
theorem dX7_noteTold_41 : decode cX7_noteTold 41 = .ok (.goto 8, 3) := by decide +kernel
theorem dX7_noteTold_44 : decode cX7_noteTold 44 = .ok (.aload_n 0, 1) := by decide +kernel
theorem dX7_noteTold_45 : decode cX7_noteTold 45 = .ok (.getfield 7, 3) := by decide +kernel
theorem dX7_noteTold_48 : decode cX7_noteTold 48 = .ok (.ineg, 1) := by decide +kernel
theorem dX7_noteTold_49 : decode cX7_noteTold 49 = .ok (.iadd, 1) := by decide +kernel
theorem dX7_noteTold_50 : decode cX7_noteTold 50 = .ok (.putfield 13, 3) := by decide +kernel
theorem dX7_noteTold_53 : decode cX7_noteTold 53 = .ok (.aload_n 0, 1) := by decide +kernel
theorem dX7_noteTold_54 : decode cX7_noteTold 54 = .ok (.getfield 32, 3) := by decide +kernel
theorem dX7_noteTold_57 : decode cX7_noteTold 57 = .ok (.iload_n 1, 1) := by decide +kernel
theorem dX7_noteTold_58 : decode cX7_noteTold 58 = .ok (.iload 4, 2) := by decide +kernel
theorem dX7_noteTold_60 : decode cX7_noteTold 60 = .ok (.iastore, 1) := by decide +kernel
theorem dX7_noteTold_61 : decode cX7_noteTold 61 = .ok (.return_, 1) := by decide +kernel
theorem dX7_noteSupper_0 : decode cX7_noteSupper 0 = .ok (.aload_n 0, 1) := by decide +kernel
theorem dX7_noteSupper_1 : decode cX7_noteSupper 1 = .ok (.dup, 1) := by decide +kernel
theorem dX7_noteSupper_2 : decode cX7_noteSupper 2 = .ok (.getfield 13, 3) := by decide +kernel
theorem dX7_noteSupper_5 : decode cX7_noteSupper 5 = .ok (.iconst 1, 1) := by decide +kernel
theorem dX7_noteSupper_6 : decode cX7_noteSupper 6 = .ok (.isub, 1) := by decide +kernel
theorem dX7_noteSupper_7 : decode cX7_noteSupper 7 = .ok (.putfield 13, 3) := by decide +kernel
theorem dX7_noteSupper_10 : decode cX7_noteSupper 10 = .ok (.aload_n 0, 1) := by decide +kernel
theorem dX7_noteSupper_11 : decode cX7_noteSupper 11 = .ok (.getfield 32, 3) := by decide +kernel
theorem dX7_noteSupper_14 : decode cX7_noteSupper 14 = .ok (.iload_n 1, 1) := by decide +kernel
theorem dX7_noteSupper_15 : decode cX7_noteSupper 15 = .ok (.iload_n 2, 1) := by decide +kernel
theorem dX7_noteSupper_16 : decode cX7_noteSupper 16 = .ok (.iastore, 1) := by decide +kernel
theorem dX7_noteSupper_17 : decode cX7_noteSupper 17 = .ok (.return_, 1) := by decide +kernel
theorem dX7_noteForgotten_0 : decode cX7_noteForgotten 0 = .ok (.aload_n 0, 1) := by decide +kernel
theorem dX7_noteForgotten_1 : decode cX7_noteForgotten 1 = .ok (.getfield 38, 3) := by decide +kernel
theorem dX7_noteForgotten_4 : decode cX7_noteForgotten 4 = .ok (.iload_n 1, 1) := by decide +kernel
theorem dX7_noteForgotten_5 : decode cX7_noteForgotten 5 = .ok (.dup2, 1) := by decide +kernel
theorem dX7_noteForgotten_6 : decode cX7_noteForgotten 6 = .ok (.iaload, 1) := by decide +kernel
theorem dX7_noteForgotten_7 : decode cX7_noteForgotten 7 = .ok (.iconst 1, 1) := by decide +kernel
theorem dX7_noteForgotten_8 : decode cX7_noteForgotten 8 = .ok (.iload_n 2, 1) := by decide +kernel
theorem dX7_noteForgotten_9 : decode cX7_noteForgotten 9 = .ok (.ishl, 1) := by decide +kernel
theorem dX7_noteForgotten_10 : decode cX7_noteForgotten 10 = .ok (.iconst (-1), 1) := by decide +kernel
theorem dX7_noteForgotten_11 : decode cX7_noteForgotten 11 = .ok (.ixor, 1) := by decide +kernel
theorem dX7_noteForgotten_12 : decode cX7_noteForgotten 12 = .ok (.iand, 1) := by decide +kernel
theorem dX7_noteForgotten_13 : decode cX7_noteForgotten 13 = .ok (.iastore, 1) := by decide +kernel
theorem dX7_noteForgotten_14 : decode cX7_noteForgotten 14 = .ok (.aload_n 0, 1) := by decide +kernel
theorem dX7_noteForgotten_15 : decode cX7_noteForgotten 15 = .ok (.getfield 41, 3) := by decide +kernel
theorem dX7_noteForgotten_18 : decode cX7_noteForgotten 18 = .ok (.iload_n 1, 1) := by decide +kernel
theorem dX7_noteForgotten_19 : decode cX7_noteForgotten 19 = .ok (.dup2, 1) := by decide +kernel
theorem dX7_noteForgotten_20 : decode cX7_noteForgotten 20 = .ok (.iaload, 1) := by decide +kernel
theorem dX7_noteForgotten_21 : decode cX7_noteForgotten 21 = .ok (.iconst 1, 1) := by decide +kernel
theorem dX7_noteForgotten_22 : decode cX7_noteForgotten 22 = .ok (.iload_n 2, 1) := by decide +kernel
theorem dX7_noteForgotten_23 : decode cX7_noteForgotten 23 = .ok (.ishl, 1) := by decide +kernel
theorem dX7_noteForgotten_24 : decode cX7_noteForgotten 24 = .ok (.iconst (-1), 1) := by decide +kernel
theorem dX7_noteForgotten_25 : decode cX7_noteForgotten 25 = .ok (.ixor, 1) := by decide +kernel
theorem dX7_noteForgotten_26 : decode cX7_noteForgotten 26 = .ok (.iand, 1) := by decide +kernel
theorem dX7_noteForgotten_27 : decode cX7_noteForgotten 27 = .ok (.iastore, 1) := by decide +kernel
theorem dX7_noteForgotten_28 : decode cX7_noteForgotten 28 = .ok (.return_, 1) := by decide +kernel
theorem dX8_init_0 : decode cX8_init 0 = .ok (.aload_n 0, 1) := by decide +kernel
theorem dX8_init_1 : decode cX8_init 1 = .ok (.invokespecial 1, 3) := by decide +kernel
theorem dX8_init_4 : decode cX8_init 4 = .ok (.aload_n 0, 1) := by decide +kernel
theorem dX8_init_5 : decode cX8_init 5 = .ok (.new 7, 3) := by decide +kernel
theorem dX8_init_8 : decode cX8_init 8 = .ok (.dup, 1) := by decide +kernel
theorem dX8_init_9 : decode cX8_init 9 = .ok (.invokespecial 9, 3) := by decide +kernel
theorem dX8_init_12 : decode cX8_init 12 = .ok (.putfield 10, 3) := by decide +kernel
theorem dX8_init_15 : decode cX8_init 15 = .ok (.aload_n 0, 1) := by decide +kernel
theorem dX8_init_16 : decode cX8_init 16 = .ok (.new 16, 3) := by decide +kernel
theorem dX8_init_19 : decode cX8_init 19 = .ok (.dup, 1) := by decide +kernel
theorem dX8_init_20 : decode cX8_init 20 = .ok (.invokespecial 18, 3) := by decide +kernel
theorem dX8_init_23 : decode cX8_init 23 = .ok (.putfield 19, 3) := by decide +kernel
theorem dX8_init_26 : decode cX8_init 26 = .ok (.aload_n 0, 1) := by decide +kernel
theorem dX8_init_27 : decode cX8_init 27 = .ok (.new 23, 3) := by decide +kernel
theorem dX8_init_30 : decode cX8_init 30 = .ok (.dup, 1) := by decide +kernel
theorem dX8_init_31 : decode cX8_init 31 = .ok (.invokespecial 25, 3) := by decide +kernel
theorem dX8_init_34 : decode cX8_init 34 = .ok (.putfield 26, 3) := by decide +kernel
theorem dX8_init_37 : decode cX8_init 37 = .ok (.aload_n 0, 1) := by decide +kernel
theorem dX8_init_38 : decode cX8_init 38 = .ok (.new 23, 3) := by decide +kernel
theorem dX8_init_41 : decode cX8_init 41 = .ok (.dup, 1) := by decide +kernel
theorem dX8_init_42 : decode cX8_init 42 = .ok (.invokespecial 25, 3) := by decide +kernel
theorem dX8_init_45 : decode cX8_init 45 = .ok (.putfield 30, 3) := by decide +kernel
theorem dX8_init_48 : decode cX8_init 48 = .ok (.aload_n 0, 1) := by decide +kernel
theorem dX8_init_49 : decode cX8_init 49 = .ok (.iconst 2, 1) := by decide +kernel
theorem dX8_init_50 : decode cX8_init 50 = .ok (.anewarray 23, 3) := by decide +kernel
theorem dX8_init_53 : decode cX8_init 53 = .ok (.putfield 33, 3) := by decide +kernel
theorem dX8_init_56 : decode cX8_init 56 = .ok (.aload_n 0, 1) := by decide +kernel
theorem dX8_init_57 : decode cX8_init 57 = .ok (.new 37, 3) := by decide +kernel
theorem dX8_init_60 : decode cX8_init 60 = .ok (.dup, 1) := by decide +kernel
theorem dX8_init_61 : decode cX8_init 61 = .ok (.invokespecial 39, 3) := by decide +kernel
theorem dX8_init_64 : decode cX8_init 64 = .ok (.putfield 40, 3) := by decide +kernel
theorem dX8_init_67 : decode cX8_init 67 = .ok (.aload_n 0, 1) := by decide +kernel
theorem dX8_init_68 : decode cX8_init 68 = .ok (.new 44, 3) := by decide +kernel
theorem dX8_init_71 : decode cX8_init 71 = .ok (.dup, 1) := by decide +kernel
theorem dX8_init_72 : decode cX8_init 72 = .ok (.aload_n 0, 1) := by decide +kernel
theorem dX8_init_73 : decode cX8_init 73 = .ok (.getfield 26, 3) := by decide +kernel
theorem dX8_init_76 : decode cX8_init 76 = .ok (.invokespecial 46, 3) := by decide +kernel
theorem dX8_init_79 : decode cX8_init 79 = .ok (.putfield 49, 3) := by decide +kernel
theorem dX8_init_82 : decode cX8_init 82 = .ok (.aload_n 0, 1) := by decide +kernel
theorem dX8_init_83 : decode cX8_init 83 = .ok (.new 53, 3) := by decide +kernel
theorem dX8_init_86 : decode cX8_init 86 = .ok (.dup, 1) := by decide +kernel
theorem dX8_init_87 : decode cX8_init 87 = .ok (.aload_n 0, 1) := by decide +kernel
theorem dX8_init_88 : decode cX8_init 88 = .ok (.getfield 26, 3) := by decide +kernel
theorem dX8_init_91 : decode cX8_init 91 = .ok (.invokespecial 55, 3) := by decide +kernel
theorem dX8_init_94 : decode cX8_init 94 = .ok (.putfield 56, 3) := by decide +kernel
theorem dX8_init_97 : decode cX8_init 97 = .ok (.aload_n 0, 1) := by decide +kernel
theorem dX8_init_98 : decode cX8_init 98 = .ok (.iconst 0, 1) := by decide +kernel
theorem dX8_init_99 : decode cX8_init 99 = .ok (.putfield 60, 3) := by decide +kernel
theorem dX8_init_102 : decode cX8_init 102 = .ok (.iconst 0, 1) := by decide +kernel
theorem dX8_init_103 : decode cX8_init 103 = .ok (.istore_n 1, 1) := by decide +kernel
theorem dX8_init_104 : decode cX8_init 104 = .ok (.iload_n 1, 1) := by decide +kernel
theorem dX8_init_105 : decode cX8_init 105 = .ok (.iconst 2, 1) := by decide +kernel
theorem dX8_init_106 : decode cX8_init 106 = .ok (.if_icmp .ge 22, 3) := by decide +kernel
theorem dX8_init_109 : decode cX8_init 109 = .ok (.aload_n 0, 1) := by decide +kernel
theorem dX8_init_110 : decode cX8_init 110 = .ok (.getfield 33, 3) := by decide +kernel
theorem dX8_init_113 : decode cX8_init 113 = .ok (.iload_n 1, 1) := by decide +kernel
theorem dX8_init_114 : decode cX8_init 114 = .ok (.new 23, 3) := by decide +kernel
theorem dX8_init_117 : decode cX8_init 117 = .ok (.dup, 1) := by decide +kernel
theorem dX8_init_118 : decode cX8_init 118 = .ok (.invokespecial 25, 3) := by decide +kernel
theorem dX8_init_121 : decode cX8_init 121 = .ok (.aastore, 1) := by decide +kernel
theorem dX8_init_122 : decode cX8_init 122 = .ok (.iinc 1 1, 3) := by decide +kernel
theorem dX8_init_125 : decode cX8_init 125 = .ok (.goto (-21), 3) := by decide +kernel
theorem dX8_init_128 : decode cX8_init 128 = .ok (.return_, 1) := by decide +kernel
theorem dX8_row_0 : decode cX8_row 0 = .ok (.iload_n 1, 1) := by decide +kernel
theorem dX8_row_1 : decode cX8_row 1 = .ok (.invokestatic 64, 3) := by decide +kernel
theorem dX8_row_4 : decode cX8_row 4 = .ok (.ifCond .eq 16, 3) := by decide +kernel
theorem dX8_row_7 : decode cX8_row 7 = .ok (.iload_n 2, 1) := by decide +kernel
theorem dX8_row_8 : decode cX8_row 8 = .ok (.invokestatic 68, 3) := by decide +kernel
theorem dX8_row_11 : decode cX8_row 11 = .ok (.ifCond .eq 9, 3) := by decide +kernel
theorem dX8_row_14 : decode cX8_row 14 = .ok (.iload_n 3, 1) := by decide +kernel
theorem dX8_row_15 : decode cX8_row 15 = .ok (.bipush 40, 2) := by decide +kernel
theorem dX8_row_17 : decode cX8_row 17 = .ok (.if_icmp .le 6, 3) := by decide +kernel
theorem dX8_row_20 : decode cX8_row 20 = .ok (.ldc 71, 2) := by decide +kernel
theorem dX8_row_22 : decode cX8_row 22 = .ok (.ireturn, 1) := by decide +kernel
theorem dX8_row_23 : decode cX8_row 23 = .ok (.iload_n 3, 1) := by decide +kernel
theorem dX8_row_24 : decode cX8_row 24 = .ok (.ifCond .ge 9, 3) := by decide +kernel
theorem dX8_row_27 : decode cX8_row 27 = .ok (.aload_n 0, 1) := by decide +kernel
theorem dX8_row_28 : decode cX8_row 28 = .ok (.iconst 4, 1) := by decide +kernel
theorem dX8_row_29 : decode cX8_row 29 = .ok (.invokevirtual 72, 3) := by decide +kernel
theorem dX8_row_32 : decode cX8_row 32 = .ok (.ireturn, 1) := by decide +kernel
theorem dX8_row_33 : decode cX8_row 33 = .ok (.aload_n 0, 1) := by decide +kernel
theorem dX8_row_34 : decode cX8_row 34 = .ok (.getfield 10, 3) := by decide +kernel
theorem dX8_row_37 : decode cX8_row 37 = .ok (.iload_n 1, 1) := by decide +kernel
theorem dX8_row_38 : decode cX8_row 38 = .ok (.iload_n 2, 1) := by decide +kernel
theorem dX8_row_39 : decode cX8_row 39 = .ok (.iload_n 3, 1) := by decide +kernel
theorem dX8_row_40 : decode cX8_row 40 = .ok (.invokevirtual 76, 3) := by decide +kernel
theorem dX8_row_43 : decode cX8_row 43 = .ok (.aload_n 0, 1) := by decide +kernel
theorem dX8_row_44 : decode cX8_row 44 = .ok (.iload_n 3, 1) := by decide +kernel
theorem dX8_row_45 : decode cX8_row 45 = .ok (.invokevirtual 80, 3) := by decide +kernel
theorem dX8_row_48 : decode cX8_row 48 = .ok (.ireturn, 1) := by decide +kernel
theorem dX8_set_0 : decode cX8_set 0 = .ok (.iload_n 1, 1) := by decide +kernel
theorem dX8_set_1 : decode cX8_set 1 = .ok (.invokestatic 64, 3) := by decide +kernel
theorem dX8_set_4 : decode cX8_set 4 = .ok (.ifCond .ne 6, 3) := by decide +kernel
theorem dX8_set_7 : decode cX8_set 7 = .ok (.ldc 71, 2) := by decide +kernel
theorem dX8_set_9 : decode cX8_set 9 = .ok (.ireturn, 1) := by decide +kernel
theorem dX8_set_10 : decode cX8_set 10 = .ok (.aload_n 0, 1) := by decide +kernel
theorem dX8_set_11 : decode cX8_set 11 = .ok (.getfield 10, 3) := by decide +kernel
theorem dX8_set_14 : decode cX8_set 14 = .ok (.iload_n 1, 1) := by decide +kernel
theorem dX8_set_15 : decode cX8_set 15 = .ok (.invokevirtual 83, 3) := by decide +kernel
theorem dX8_set_18 : decode cX8_set 18 = .ok (.ifCond .eq 9, 3) := by decide +kernel
theorem dX8_set_21 : decode cX8_set 21 = .ok (.aload_n 0, 1) := by decide +kernel
theorem dX8_set_22 : decode cX8_set 22 = .ok (.iconst 1, 1) := by decide +kernel
theorem dX8_set_23 : decode cX8_set 23 = .ok (.invokevirtual 72, 3) := by decide +kernel
theorem dX8_set_26 : decode cX8_set 26 = .ok (.ireturn, 1) := by decide +kernel
theorem dX8_set_27 : decode cX8_set 27 = .ok (.aload_n 0, 1) := by decide +kernel
theorem dX8_set_28 : decode cX8_set 28 = .ok (.getfield 10, 3) := by decide +kernel
theorem dX8_set_31 : decode cX8_set 31 = .ok (.iload_n 1, 1) := by decide +kernel
theorem dX8_set_32 : decode cX8_set 32 = .ok (.iload_n 2, 1) := by decide +kernel
theorem dX8_set_33 : decode cX8_set 33 = .ok (.iconst 1, 1) := by decide +kernel
theorem dX8_set_34 : decode cX8_set 34 = .ok (.invokevirtual 86, 3) := by decide +kernel
theorem dX8_set_37 : decode cX8_set 37 = .ok (.ifCond .ne 9, 3) := by decide +kernel
theorem dX8_set_40 : decode cX8_set 40 = .ok (.aload_n 0, 1) := by decide +kernel
theorem dX8_set_41 : decode cX8_set 41 = .ok (.iconst 2, 1) := by decide +kernel
theorem dX8_set_42 : decode cX8_set 42 = .ok (.invokevirtual 72, 3) := by decide +kernel
theorem dX8_set_45 : decode cX8_set 45 = .ok (.ireturn, 1) := by decide +kernel
theorem dX8_set_46 : decode cX8_set 46 = .ok (.aload_n 0, 1) := by decide +kernel
theorem dX8_set_47 : decode cX8_set 47 = .ok (.aload_n 0, 1) := by decide +kernel
theorem dX8_set_48 : decode cX8_set 48 = .ok (.getfield 10, 3) := by decide +kernel
theorem dX8_set_51 : decode cX8_set 51 = .ok (.iload_n 1, 1) := by decide +kernel
theorem dX8_set_52 : decode cX8_set 52 = .ok (.iload_n 2, 1) := by decide +kernel
theorem dX8_set_53 : decode cX8_set 53 = .ok (.iload_n 3, 1) := by decide +kernel
theorem dX8_set_54 : decode cX8_set 54 = .ok (.invokevirtual 90, 3) := by decide +kernel
theorem dX8_set_57 : decode cX8_set 57 = .ok (.invokevirtual 80, 3) := by decide +kernel
theorem dX8_set_60 : decode cX8_set 60 = .ok (.ireturn, 1) := by decide +kernel
theorem dX8_copy_0 : decode cX8_copy 0 = .ok (.iload_n 1, 1) := by decide +kernel
theorem dX8_copy_1 : decode cX8_copy 1 = .ok (.invokestatic 64, 3) := by decide +kernel
theorem dX8_copy_4 : decode cX8_copy 4 = .ok (.ifCond .eq 10, 3) := by decide +kernel
theorem dX8_copy_7 : decode cX8_copy 7 = .ok (.iload_n 3, 1) := by decide +kernel
theorem dX8_copy_8 : decode cX8_copy 8 = .ok (.invokestatic 64, 3) := by decide +kernel
theorem dX8_copy_11 : decode cX8_copy 11 = .ok (.ifCond .ne 6, 3) := by decide +kernel
theorem dX8_copy_14 : decode cX8_copy 14 = .ok (.ldc 71, 2) := by decide +kernel
theorem dX8_copy_16 : decode cX8_copy 16 = .ok (.ireturn, 1) := by decide +kernel
theorem dX8_copy_17 : decode cX8_copy 17 = .ok (.aload_n 0, 1) := by decide +kernel
theorem dX8_copy_18 : decode cX8_copy 18 = .ok (.getfield 10, 3) := by decide +kernel
theorem dX8_copy_21 : decode cX8_copy 21 = .ok (.iload_n 1, 1) := by decide +kernel
theorem dX8_copy_22 : decode cX8_copy 22 = .ok (.invokevirtual 83, 3) := by decide +kernel
theorem dX8_copy_25 : decode cX8_copy 25 = .ok (.ifCond .ne 14, 3) := by decide +kernel
theorem dX8_copy_28 : decode cX8_copy 28 = .ok (.aload_n 0, 1) := by decide +kernel
theorem dX8_copy_29 : decode cX8_copy 29 = .ok (.getfield 10, 3) := by decide +kernel
theorem dX8_copy_32 : decode cX8_copy 32 = .ok (.iload_n 3, 1) := by decide +kernel
theorem dX8_copy_33 : decode cX8_copy 33 = .ok (.invokevirtual 83, 3) := by decide +kernel
theorem dX8_copy_36 : decode cX8_copy 36 = .ok (.ifCond .eq 9, 3) := by decide +kernel
theorem dX8_copy_39 : decode cX8_copy 39 = .ok (.aload_n 0, 1) := by decide +kernel
theorem dX8_copy_40 : decode cX8_copy 40 = .ok (.iconst 1, 1) := by decide +kernel
theorem dX8_copy_41 : decode cX8_copy 41 = .ok (.invokevirtual 72, 3) := by decide +kernel
theorem dX8_copy_44 : decode cX8_copy 44 = .ok (.ireturn, 1) := by decide +kernel
theorem dX8_copy_45 : decode cX8_copy 45 = .ok (.aload_n 0, 1) := by decide +kernel
theorem dX8_copy_46 : decode cX8_copy 46 = .ok (.getfield 10, 3) := by decide +kernel
theorem dX8_copy_49 : decode cX8_copy 49 = .ok (.iload_n 1, 1) := by decide +kernel
theorem dX8_copy_50 : decode cX8_copy 50 = .ok (.invokevirtual 94, 3) := by decide +kernel
theorem dX8_copy_53 : decode cX8_copy 53 = .ok (.aload_n 0, 1) := by decide +kernel
theorem dX8_copy_54 : decode cX8_copy 54 = .ok (.getfield 10, 3) := by decide +kernel
theorem dX8_copy_57 : decode cX8_copy 57 = .ok (.iload_n 3, 1) := by decide +kernel
theorem dX8_copy_58 : decode cX8_copy 58 = .ok (.invokevirtual 94, 3) := by decide +kernel
theorem dX8_copy_61 : decode cX8_copy 61 = .ok (.if_icmp .eq 9, 3) := by decide +kernel
theorem dX8_copy_64 : decode cX8_copy 64 = .ok (.aload_n 0, 1) := by decide +kernel
theorem dX8_copy_65 : decode cX8_copy 65 = .ok (.iconst 5, 1) := by decide +kernel
theorem dX8_copy_66 : decode cX8_copy 66 = .ok (.invokevirtual 72, 3) := by decide +kernel
theorem dX8_copy_69 : decode cX8_copy 69 = .ok (.ireturn, 1) := by decide +kernel
theorem dX8_copy_70 : decode cX8_copy 70 = .ok (.aload_n 0, 1) := by decide +kernel
theorem dX8_copy_71 : decode cX8_copy 71 = .ok (.getfield 10, 3) := by decide +kernel
theorem dX8_copy_74 : decode cX8_copy 74 = .ok (.iload_n 1, 1) := by decide +kernel
theorem dX8_copy_75 : decode cX8_copy 75 = .ok (.iload_n 2, 1) := by decide +kernel
theorem dX8_copy_76 : decode cX8_copy 76 = .ok (.iload 5, 2) := by decide +kernel
theorem dX8_copy_78 : decode cX8_copy 78 = .ok (.invokevirtual 86, 3) := by decide +kernel
theorem dX8_copy_81 : decode cX8_copy 81 = .ok (.ifCond .eq 18, 3) := by decide +kernel
theorem dX8_copy_84 : decode cX8_copy 84 = .ok (.aload_n 0, 1) := by decide +kernel
theorem dX8_copy_85 : decode cX8_copy 85 = .ok (.getfield 10, 3) := by decide +kernel
theorem dX8_copy_88 : decode cX8_copy 88 = .ok (.iload_n 3, 1) := by decide +kernel
theorem dX8_copy_89 : decode cX8_copy 89 = .ok (.iload 4, 2) := by decide +kernel
theorem dX8_copy_91 : decode cX8_copy 91 = .ok (.iload 5, 2) := by decide +kernel
theorem dX8_copy_93 : decode cX8_copy 93 = .ok (.invokevirtual 86, 3) := by decide +kernel
theorem dX8_copy_96 : decode cX8_copy 96 = .ok (.ifCond .ne 9, 3) := by decide +kernel
theorem dX8_copy_99 : decode cX8_copy 99 = .ok (.aload_n 0, 1) := by decide +kernel
theorem dX8_copy_100 : decode cX8_copy 100 = .ok (.iconst 2, 1) := by decide +kernel
theorem dX8_copy_101 : decode cX8_copy 101 = .ok (.invokevirtual 72, 3) := by decide +kernel
theorem dX8_copy_104 : decode cX8_copy 104 = .ok (.ireturn, 1) := by decide +kernel
theorem dX8_copy_105 : decode cX8_copy 105 = .ok (.aload_n 0, 1) := by decide +kernel
theorem dX8_copy_106 : decode cX8_copy 106 = .ok (.getfield 10, 3) := by decide +kernel
theorem dX8_copy_109 : decode cX8_copy 109 = .ok (.iload_n 1, 1) := by decide +kernel
theorem dX8_copy_110 : decode cX8_copy 110 = .ok (.iload_n 2, 1) := by decide +kernel
theorem dX8_copy_111 : decode cX8_copy 111 = .ok (.iload_n 3, 1) := by decide +kernel
theorem dX8_copy_112 : decode cX8_copy 112 = .ok (.iload 4, 2) := by decide +kernel
theorem dX8_copy_114 : decode cX8_copy 114 = .ok (.iload 5, 2) := by decide +kernel
theorem dX8_copy_116 : decode cX8_copy 116 = .ok (.invokevirtual 97, 3) := by decide +kernel
theorem dX8_copy_119 : decode cX8_copy 119 = .ok (.aload_n 0, 1) := by decide +kernel
theorem dX8_copy_120 : decode cX8_copy 120 = .ok (.iload 5, 2) := by decide +kernel
theorem dX8_copy_122 : decode cX8_copy 122 = .ok (.invokevirtual 80, 3) := by decide +kernel
theorem dX8_copy_125 : decode cX8_copy 125 = .ok (.ireturn, 1) := by decide +kernel
theorem dX8_drop_0 : decode cX8_drop 0 = .ok (.iload_n 1, 1) := by decide +kernel
theorem dX8_drop_1 : decode cX8_drop 1 = .ok (.invokestatic 64, 3) := by decide +kernel
theorem dX8_drop_4 : decode cX8_drop 4 = .ok (.ifCond .ne 6, 3) := by decide +kernel
theorem dX8_drop_7 : decode cX8_drop 7 = .ok (.ldc 71, 2) := by decide +kernel
theorem dX8_drop_9 : decode cX8_drop 9 = .ok (.ireturn, 1) := by decide +kernel
theorem dX8_drop_10 : decode cX8_drop 10 = .ok (.aload_n 0, 1) := by decide +kernel
theorem dX8_drop_11 : decode cX8_drop 11 = .ok (.getfield 10, 3) := by decide +kernel
theorem dX8_drop_14 : decode cX8_drop 14 = .ok (.iload_n 1, 1) := by decide +kernel
theorem dX8_drop_15 : decode cX8_drop 15 = .ok (.invokevirtual 83, 3) := by decide +kernel
theorem dX8_drop_18 : decode cX8_drop 18 = .ok (.ifCond .eq 9, 3) := by decide +kernel
theorem dX8_drop_21 : decode cX8_drop 21 = .ok (.aload_n 0, 1) := by decide +kernel
theorem dX8_drop_22 : decode cX8_drop 22 = .ok (.iconst 1, 1) := by decide +kernel
theorem dX8_drop_23 : decode cX8_drop 23 = .ok (.invokevirtual 72, 3) := by decide +kernel
theorem dX8_drop_26 : decode cX8_drop 26 = .ok (.ireturn, 1) := by decide +kernel
theorem dX8_drop_27 : decode cX8_drop 27 = .ok (.aload_n 0, 1) := by decide +kernel
theorem dX8_drop_28 : decode cX8_drop 28 = .ok (.aload_n 0, 1) := by decide +kernel
theorem dX8_drop_29 : decode cX8_drop 29 = .ok (.getfield 10, 3) := by decide +kernel
theorem dX8_drop_32 : decode cX8_drop 32 = .ok (.iload_n 1, 1) := by decide +kernel
theorem dX8_drop_33 : decode cX8_drop 33 = .ok (.invokevirtual 101, 3) := by decide +kernel
theorem dX8_drop_36 : decode cX8_drop 36 = .ok (.invokevirtual 80, 3) := by decide +kernel
theorem dX8_drop_39 : decode cX8_drop 39 = .ok (.ireturn, 1) := by decide +kernel
theorem dX8_feed_0 : decode cX8_feed 0 = .ok (.iload_n 1, 1) := by decide +kernel
theorem dX8_feed_1 : decode cX8_feed 1 = .ok (.ifCond .lt 10, 3) := by decide +kernel
theorem dX8_feed_4 : decode cX8_feed 4 = .ok (.iload_n 1, 1) := by decide +kernel
theorem dX8_feed_5 : decode cX8_feed 5 = .ok (.sipush 255, 3) := by decide +kernel
theorem dX8_feed_8 : decode cX8_feed 8 = .ok (.if_icmp .le 6, 3) := by decide +kernel
theorem dX8_feed_11 : decode cX8_feed 11 = .ok (.ldc 71, 2) := by decide +kernel
theorem dX8_feed_13 : decode cX8_feed 13 = .ok (.ireturn, 1) := by decide +kernel
theorem dX8_feed_14 : decode cX8_feed 14 = .ok (.aload_n 0, 1) := by decide +kernel
theorem dX8_feed_15 : decode cX8_feed 15 = .ok (.getfield 19, 3) := by decide +kernel
theorem dX8_feed_18 : decode cX8_feed 18 = .ok (.invokevirtual 104, 3) := by decide +kernel
theorem dX8_feed_21 : decode cX8_feed 21 = .ok (.ifCond .eq 6, 3) := by decide +kernel
theorem dX8_feed_24 : decode cX8_feed 24 = .ok (.ldc 108, 2) := by decide +kernel
theorem dX8_feed_26 : decode cX8_feed 26 = .ok (.ireturn, 1) := by decide +kernel
theorem dX8_feed_27 : decode cX8_feed 27 = .ok (.aload_n 0, 1) := by decide +kernel
theorem dX8_feed_28 : decode cX8_feed 28 = .ok (.getfield 19, 3) := by decide +kernel
theorem dX8_feed_31 : decode cX8_feed 31 = .ok (.iload_n 1, 1) := by decide +kernel
theorem dX8_feed_32 : decode cX8_feed 32 = .ok (.invokevirtual 109, 3) := by decide +kernel
theorem dX8_feed_35 : decode cX8_feed 35 = .ok (.ireturn, 1) := by decide +kernel
theorem dX8_town_0 : decode cX8_town 0 = .ok (.aload_n 0, 1) := by decide +kernel
theorem dX8_town_1 : decode cX8_town 1 = .ok (.getfield 19, 3) := by decide +kernel
theorem dX8_town_4 : decode cX8_town 4 = .ok (.aload_n 0, 1) := by decide +kernel
theorem dX8_town_5 : decode cX8_town 5 = .ok (.getfield 30, 3) := by decide +kernel
theorem dX8_town_8 : decode cX8_town 8 = .ok (.invokevirtual 112, 3) := by decide +kernel
theorem dX8_town_11 : decode cX8_town 11 = .ok (.ifCond .ne 14, 3) := by decide +kernel
theorem dX8_town_14 : decode cX8_town 14 = .ok (.ldc 116, 2) := by decide +kernel
theorem dX8_town_16 : decode cX8_town 16 = .ok (.aload_n 0, 1) := by decide +kernel
theorem dX8_town_17 : decode cX8_town 17 = .ok (.getfield 19, 3) := by decide +kernel
theorem dX8_town_20 : decode cX8_town 20 = .ok (.invokevirtual 117, 3) := by decide +kernel
theorem dX8_town_23 : decode cX8_town 23 = .ok (.isub, 1) := by decide +kernel
theorem dX8_town_24 : decode cX8_town 24 = .ok (.ireturn, 1) := by decide +kernel
theorem dX8_town_25 : decode cX8_town 25 = .ok (.aload_n 0, 1) := by decide +kernel
theorem dX8_town_26 : decode cX8_town 26 = .ok (.getfield 26, 3) := by decide +kernel
theorem dX8_town_29 : decode cX8_town 29 = .ok (.aload_n 0, 1) := by decide +kernel
theorem dX8_town_30 : decode cX8_town 30 = .ok (.getfield 30, 3) := by decide +kernel
theorem dX8_town_33 : decode cX8_town 33 = .ok (.invokevirtual 121, 3) := by decide +kernel
theorem dX8_town_36 : decode cX8_town 36 = .ok (.aload_n 0, 1) := by decide +kernel
theorem dX8_town_37 : decode cX8_town 37 = .ok (.getfield 40, 3) := by decide +kernel
theorem dX8_town_40 : decode cX8_town 40 = .ok (.invokevirtual 124, 3) := by decide +kernel
theorem dX8_town_43 : decode cX8_town 43 = .ok (.aload_n 0, 1) := by decide +kernel
theorem dX8_town_44 : decode cX8_town 44 = .ok (.getfield 26, 3) := by decide +kernel
theorem dX8_town_47 : decode cX8_town 47 = .ok (.getfield 127, 3) := by decide +kernel
theorem dX8_town_50 : decode cX8_town 50 = .ok (.ireturn, 1) := by decide +kernel
theorem dX8_fault_0 : decode cX8_fault 0 = .ok (.aload_n 0, 1) := by decide +kernel
theorem dX8_fault_1 : decode cX8_fault 1 = .ok (.getfield 19, 3) := by decide +kernel
theorem dX8_fault_4 : decode cX8_fault 4 = .ok (.invokevirtual 130, 3) := by decide +kernel
theorem dX8_fault_7 : decode cX8_fault 7 = .ok (.ireturn, 1) := by decide +kernel
theorem dX8_tell_0 : decode cX8_tell 0 = .ok (.aload_n 0, 1) := by decide +kernel
theorem dX8_tell_1 : decode cX8_tell 1 = .ok (.getfield 26, 3) := by decide +kernel
theorem dX8_tell_4 : decode cX8_tell 4 = .ok (.iload_n 1, 1) := by decide +kernel
theorem dX8_tell_5 : decode cX8_tell 5 = .ok (.invokevirtual 133, 3) := by decide +kernel
theorem dX8_tell_8 : decode cX8_tell 8 = .ok (.ifCond .eq 14, 3) := by decide +kernel
theorem dX8_tell_11 : decode cX8_tell 11 = .ok (.aload_n 0, 1) := by decide +kernel
theorem dX8_tell_12 : decode cX8_tell 12 = .ok (.getfield 26, 3) := by decide +kernel
theorem dX8_tell_15 : decode cX8_tell 15 = .ok (.iload_n 2, 1) := by decide +kernel
theorem dX8_tell_16 : decode cX8_tell 16 = .ok (.invokevirtual 136, 3) := by decide +kernel
theorem dX8_tell_19 : decode cX8_tell 19 = .ok (.ifCond .ne 6, 3) := by decide +kernel
theorem dX8_tell_22 : decode cX8_tell 22 = .ok (.ldc 71, 2) := by decide +kernel
theorem dX8_tell_24 : decode cX8_tell 24 = .ok (.ireturn, 1) := by decide +kernel
theorem dX8_tell_25 : decode cX8_tell 25 = .ok (.aload_n 0, 1) := by decide +kernel
theorem dX8_tell_26 : decode cX8_tell 26 = .ok (.getfield 26, 3) := by decide +kernel
theorem dX8_tell_29 : decode cX8_tell 29 = .ok (.iload_n 1, 1) := by decide +kernel
theorem dX8_tell_30 : decode cX8_tell 30 = .ok (.iload_n 2, 1) := by decide +kernel
theorem dX8_tell_31 : decode cX8_tell 31 = .ok (.invokevirtual 139, 3) := by decide +kernel
theorem dX8_tell_34 : decode cX8_tell 34 = .ok (.ifCond .eq 6, 3) := by decide +kernel
theorem dX8_tell_37 : decode cX8_tell 37 = .ok (.ldc 143, 2) := by decide +kernel
theorem dX8_tell_39 : decode cX8_tell 39 = .ok (.ireturn, 1) := by decide +kernel
theorem dX8_tell_40 : decode cX8_tell 40 = .ok (.aload_n 0, 1) := by decide +kernel
theorem dX8_tell_41 : decode cX8_tell 41 = .ok (.getfield 40, 3) := by decide +kernel
theorem dX8_tell_44 : decode cX8_tell 44 = .ok (.aload_n 0, 1) := by decide +kernel
theorem dX8_tell_45 : decode cX8_tell 45 = .ok (.getfield 26, 3) := by decide +kernel
theorem dX8_tell_48 : decode cX8_tell 48 = .ok (.iload_n 1, 1) := by decide +kernel
theorem dX8_tell_49 : decode cX8_tell 49 = .ok (.invokevirtual 144, 3) := by decide +kernel
theorem dX8_tell_52 : decode cX8_tell 52 = .ok (.aload_n 0, 1) := by decide +kernel
theorem dX8_tell_53 : decode cX8_tell 53 = .ok (.getfield 49, 3) := by decide +kernel
theorem dX8_tell_56 : decode cX8_tell 56 = .ok (.iload_n 1, 1) := by decide +kernel
theorem dX8_tell_57 : decode cX8_tell 57 = .ok (.invokevirtual 148, 3) := by decide +kernel
theorem dX8_tell_60 : decode cX8_tell 60 = .ok (.astore_n 3, 1) := by decide +kernel
theorem dX8_tell_61 : decode cX8_tell 61 = .ok (.aload_n 3, 1) := by decide +kernel
theorem dX8_tell_62 : decode cX8_tell 62 = .ok (.aload_n 0, 1) := by decide +kernel
theorem dX8_tell_63 : decode cX8_tell 63 = .ok (.getfield 26, 3) := by decide +kernel
theorem dX8_tell_66 : decode cX8_tell 66 = .ok (.iload_n 2, 1) := by decide +kernel
theorem dX8_tell_67 : decode cX8_tell 67 = .ok (.invokevirtual 152, 3) := by decide +kernel
theorem dX8_tell_70 : decode cX8_tell 70 = .ok (.istore 4, 2) := by decide +kernel
theorem dX8_tell_72 : decode cX8_tell 72 = .ok (.aload_n 0, 1) := by decide +kernel
theorem dX8_tell_73 : decode cX8_tell 73 = .ok (.getfield 26, 3) := by decide +kernel
theorem dX8_tell_76 : decode cX8_tell 76 = .ok (.iload_n 1, 1) := by decide +kernel
theorem dX8_tell_77 : decode cX8_tell 77 = .ok (.iload_n 2, 1) := by decide +kernel
theorem dX8_tell_78 : decode cX8_tell 78 = .ok (.iload 4, 2) := by decide +kernel
theorem dX8_tell_80 : decode cX8_tell 80 = .ok (.aload_n 3, 1) := by decide +kernel
theorem dX8_tell_81 : decode cX8_tell 81 = .ok (.getfield 158, 3) := by decide +kernel
theorem dX8_tell_84 : decode cX8_tell 84 = .ok (.invokevirtual 161, 3) := by decide +kernel
theorem dX8_tell_87 : decode cX8_tell 87 = .ok (.iload 4, 2) := by decide +kernel
theorem dX8_tell_89 : decode cX8_tell 89 = .ok (.ifCond .eq 7, 3) := by decide +kernel
theorem dX8_tell_92 : decode cX8_tell 92 = .ok (.iconst 1, 1) := by decide +kernel
theorem dX8_tell_93 : decode cX8_tell 93 = .ok (.goto 4, 3) := by decide +kernel
theorem dX8_tell_96 : decode cX8_tell 96 = .ok (.iconst 0, 1) := by decide +kernel
theorem dX8_tell_97 : decode cX8_tell 97 = .ok (.ireturn, 1) := by decide +kernel
theorem dX8_supper_0 : decode cX8_supper 0 = .ok (.aload_n 0, 1) := by decide +kernel
theorem dX8_supper_1 : decode cX8_supper 1 = .ok (.getfield 26, 3) := by decide +kernel
theorem dX8_supper_4 : decode cX8_supper 4 = .ok (.iload_n 1, 1) := by decide +kernel
theorem dX8_supper_5 : decode cX8_supper 5 = .ok (.invokevirtual 133, 3) := by decide +kernel
theorem dX8_supper_8 : decode cX8_supper 8 = .ok (.ifCond .ne 6, 3) := by decide +kernel
theorem dX8_supper_11 : decode cX8_supper 11 = .ok (.ldc 71, 2) := by decide +kernel
theorem dX8_supper_13 : decode cX8_supper 13 = .ok (.ireturn, 1) := by decide +kernel
theorem dX8_supper_14 : decode cX8_supper 14 = .ok (.aload_n 0, 1) := by decide +kernel
theorem dX8_supper_15 : decode cX8_supper 15 = .ok (.getfield 40, 3) := by decide +kernel
theorem dX8_supper_18 : decode cX8_supper 18 = .ok (.aload_n 0, 1) := by decide +kernel
theorem dX8_supper_19 : decode cX8_supper 19 = .ok (.getfield 26, 3) := by decide +kernel
theorem dX8_supper_22 : decode cX8_supper 22 = .ok (.iload_n 1, 1) := by decide +kernel
theorem dX8_supper_23 : decode cX8_supper 23 = .ok (.invokevirtual 144, 3) := by decide +kernel
theorem dX8_supper_26 : decode cX8_supper 26 = .ok (.aload_n 0, 1) := by decide +kernel
theorem dX8_supper_27 : decode cX8_supper 27 = .ok (.getfield 49, 3) := by decide +kernel
theorem dX8_supper_30 : decode cX8_supper 30 = .ok (.iload_n 1, 1) := by decide +kernel
theorem dX8_supper_31 : decode cX8_supper 31 = .ok (.invokevirtual 148, 3) := by decide +kernel
theorem dX8_supper_34 : decode cX8_supper 34 = .ok (.astore_n 2, 1) := by decide +kernel
theorem dX8_supper_35 : decode cX8_supper 35 = .ok (.aload_n 2, 1) := by decide +kernel
theorem dX8_supper_36 : decode cX8_supper 36 = .ok (.invokevirtual 165, 3) := by decide +kernel
theorem dX8_supper_39 : decode cX8_supper 39 = .ok (.aload_n 0, 1) := by decide +kernel
theorem dX8_supper_40 : decode cX8_supper 40 = .ok (.getfield 26, 3) := by decide +kernel
theorem dX8_supper_43 : decode cX8_supper 43 = .ok (.iload_n 1, 1) := by decide +kernel
theorem dX8_supper_44 : decode cX8_supper 44 = .ok (.aload_n 2, 1) := by decide +kernel
theorem dX8_supper_45 : decode cX8_supper 45 = .ok (.getfield 158, 3) := by decide +kernel
theorem dX8_supper_48 : decode cX8_supper 48 = .ok (.invokevirtual 168, 3) := by decide +kernel
theorem dX8_supper_51 : decode cX8_supper 51 = .ok (.aload_n 2, 1) := by decide +kernel
theorem dX8_supper_52 : decode cX8_supper 52 = .ok (.getfield 158, 3) := by decide +kernel
theorem dX8_supper_55 : decode cX8_supper 55 = .ok (.ireturn, 1) := by decide +kernel
theorem dX8_forget_0 : decode cX8_forget 0 = .ok (.aload_n 0, 1) := by decide +kernel
theorem dX8_forget_1 : decode cX8_forget 1 = .ok (.getfield 26, 3) := by decide +kernel
theorem dX8_forget_4 : decode cX8_forget 4 = .ok (.iload_n 1, 1) := by decide +kernel
theorem dX8_forget_5 : decode cX8_forget 5 = .ok (.invokevirtual 133, 3) := by decide +kernel
theorem dX8_forget_8 : decode cX8_forget 8 = .ok (.ifCond .eq 14, 3) := by decide +kernel
theorem dX8_forget_11 : decode cX8_forget 11 = .ok (.aload_n 0, 1) := by decide +kernel
theorem dX8_forget_12 : decode cX8_forget 12 = .ok (.getfield 26, 3) := by decide +kernel
theorem dX8_forget_15 : decode cX8_forget 15 = .ok (.iload_n 2, 1) := by decide +kernel
theorem dX8_forget_16 : decode cX8_forget 16 = .ok (.invokevirtual 136, 3) := by decide +kernel
theorem dX8_forget_19 : decode cX8_forget 19 = .ok (.ifCond .ne 6, 3) := by decide +kernel
theorem dX8_forget_22 : decode cX8_forget 22 = .ok (.ldc 71, 2) := by decide +kernel
theorem dX8_forget_24 : decode cX8_forget 24 = .ok (.ireturn, 1) := by decide +kernel
theorem dX8_forget_25 : decode cX8_forget 25 = .ok (.aload_n 0, 1) := by decide +kernel
theorem dX8_forget_26 : decode cX8_forget 26 = .ok (.getfield 26, 3) := by decide +kernel
theorem dX8_forget_29 : decode cX8_forget 29 = .ok (.iload_n 1, 1) := by decide +kernel
theorem dX8_forget_30 : decode cX8_forget 30 = .ok (.iload_n 2, 1) := by decide +kernel
theorem dX8_forget_31 : decode cX8_forget 31 = .ok (.invokevirtual 139, 3) := by decide +kernel
theorem dX8_forget_34 : decode cX8_forget 34 = .ok (.ifCond .ne 6, 3) := by decide +kernel
theorem dX8_forget_37 : decode cX8_forget 37 = .ok (.ldc 143, 2) := by decide +kernel
theorem dX8_forget_39 : decode cX8_forget 39 = .ok (.ireturn, 1) := by decide +kernel
theorem dX8_forget_40 : decode cX8_forget 40 = .ok (.aload_n 0, 1) := by decide +kernel
theorem dX8_forget_41 : decode cX8_forget 41 = .ok (.getfield 40, 3) := by decide +kernel
theorem dX8_forget_44 : decode cX8_forget 44 = .ok (.aload_n 0, 1) := by decide +kernel
theorem dX8_forget_45 : decode cX8_forget 45 = .ok (.getfield 26, 3) := by decide +kernel
theorem dX8_forget_48 : decode cX8_forget 48 = .ok (.iload_n 1, 1) := by decide +kernel
theorem dX8_forget_49 : decode cX8_forget 49 = .ok (.invokevirtual 144, 3) := by decide +kernel
theorem dX8_forget_52 : decode cX8_forget 52 = .ok (.aload_n 0, 1) := by decide +kernel
theorem dX8_forget_53 : decode cX8_forget 53 = .ok (.getfield 26, 3) := by decide +kernel
theorem dX8_forget_56 : decode cX8_forget 56 = .ok (.iload_n 1, 1) := by decide +kernel
theorem dX8_forget_57 : decode cX8_forget 57 = .ok (.iload_n 2, 1) := by decide +kernel
theorem dX8_forget_58 : decode cX8_forget 58 = .ok (.invokevirtual 172, 3) := by decide +kernel
theorem dX8_forget_61 : decode cX8_forget 61 = .ok (.aload_n 0, 1) := by decide +kernel
theorem dX8_forget_62 : decode cX8_forget 62 = .ok (.getfield 26, 3) := by decide +kernel
theorem dX8_forget_65 : decode cX8_forget 65 = .ok (.getfield 175, 3) := by decide +kernel
theorem dX8_forget_68 : decode cX8_forget 68 = .ok (.iload_n 1, 1) := by decide +kernel
theorem dX8_forget_69 : decode cX8_forget 69 = .ok (.iaload, 1) := by decide +kernel
theorem dX8_forget_70 : decode cX8_forget 70 = .ok (.invokestatic 179, 3) := by decide +kernel
theorem dX8_forget_73 : decode cX8_forget 73 = .ok (.ireturn, 1) := by decide +kernel
theorem dX8_undo_0 : decode cX8_undo 0 = .ok (.aload_n 0, 1) := by decide +kernel
theorem dX8_undo_1 : decode cX8_undo 1 = .ok (.getfield 40, 3) := by decide +kernel
theorem dX8_undo_4 : decode cX8_undo 4 = .ok (.invokevirtual 184, 3) := by decide +kernel
theorem dX8_undo_7 : decode cX8_undo 7 = .ok (.ifCond .ne 6, 3) := by decide +kernel
theorem dX8_undo_10 : decode cX8_undo 10 = .ok (.ldc 143, 2) := by decide +kernel
theorem dX8_undo_12 : decode cX8_undo 12 = .ok (.ireturn, 1) := by decide +kernel
theorem dX8_undo_13 : decode cX8_undo 13 = .ok (.aload_n 0, 1) := by decide +kernel
theorem dX8_undo_14 : decode cX8_undo 14 = .ok (.getfield 40, 3) := by decide +kernel
theorem dX8_undo_17 : decode cX8_undo 17 = .ok (.aload_n 0, 1) := by decide +kernel
theorem dX8_undo_18 : decode cX8_undo 18 = .ok (.getfield 26, 3) := by decide +kernel
theorem dX8_undo_21 : decode cX8_undo 21 = .ok (.invokevirtual 187, 3) := by decide +kernel
theorem dX8_undo_24 : decode cX8_undo 24 = .ok (.aload_n 0, 1) := by decide +kernel
theorem dX8_undo_25 : decode cX8_undo 25 = .ok (.getfield 40, 3) := by decide +kernel
theorem dX8_undo_28 : decode cX8_undo 28 = .ok (.invokevirtual 184, 3) := by decide +kernel
theorem dX8_undo_31 : decode cX8_undo 31 = .ok (.ireturn, 1) := by decide +kernel
theorem dX8_lie_0 : decode cX8_lie 0 = .ok (.aload_n 0, 1) := by decide +kernel
theorem dX8_lie_1 : decode cX8_lie 1 = .ok (.getfield 26, 3) := by decide +kernel
theorem dX8_lie_4 : decode cX8_lie 4 = .ok (.iload_n 1, 1) := by decide +kernel
theorem dX8_lie_5 : decode cX8_lie 5 = .ok (.invokevirtual 136, 3) := by decide +kernel
theorem dX8_lie_8 : decode cX8_lie 8 = .ok (.ifCond .ne 6, 3) := by decide +kernel
theorem dX8_lie_11 : decode cX8_lie 11 = .ok (.ldc 71, 2) := by decide +kernel
theorem dX8_lie_13 : decode cX8_lie 13 = .ok (.ireturn, 1) := by decide +kernel
theorem dX8_lie_14 : decode cX8_lie 14 = .ok (.iload_n 2, 1) := by decide +kernel
theorem dX8_lie_15 : decode cX8_lie 15 = .ok (.tableswitch 81 0 3 #[29, 39, 49, 65], 29) := by decide +kernel
theorem dX8_lie_44 : decode cX8_lie 44 = .ok (.aload_n 0, 1) := by decide +kernel
theorem dX8_lie_45 : decode cX8_lie 45 = .ok (.getfield 26, 3) := by decide +kernel
theorem dX8_lie_48 : decode cX8_lie 48 = .ok (.getfield 190, 3) := by decide +kernel
theorem dX8_lie_51 : decode cX8_lie 51 = .ok (.iload_n 1, 1) := by decide +kernel
theorem dX8_lie_52 : decode cX8_lie 52 = .ok (.iaload, 1) := by decide +kernel
theorem dX8_lie_53 : decode cX8_lie 53 = .ok (.ireturn, 1) := by decide +kernel
theorem dX8_lie_54 : decode cX8_lie 54 = .ok (.aload_n 0, 1) := by decide +kernel
theorem dX8_lie_55 : decode cX8_lie 55 = .ok (.getfield 26, 3) := by decide +kernel
theorem dX8_lie_58 : decode cX8_lie 58 = .ok (.getfield 193, 3) := by decide +kernel
theorem dX8_lie_61 : decode cX8_lie 61 = .ok (.iload_n 1, 1) := by decide +kernel
theorem dX8_lie_62 : decode cX8_lie 62 = .ok (.iaload, 1) := by decide +kernel
theorem dX8_lie_63 : decode cX8_lie 63 = .ok (.ireturn, 1) := by decide +kernel
theorem dX8_lie_64 : decode cX8_lie 64 = .ok (.aload_n 0, 1) := by decide +kernel
theorem dX8_lie_65 : decode cX8_lie 65 = .ok (.getfield 26, 3) := by decide +kernel
theorem dX8_lie_68 : decode cX8_lie 68 = .ok (.aload_n 0, 1) := by decide +kernel
theorem dX8_lie_69 : decode cX8_lie 69 = .ok (.getfield 26, 3) := by decide +kernel
theorem dX8_lie_72 : decode cX8_lie 72 = .ok (.getfield 175, 3) := by decide +kernel
theorem dX8_lie_75 : decode cX8_lie 75 = .ok (.iload_n 1, 1) := by decide +kernel
theorem dX8_lie_76 : decode cX8_lie 76 = .ok (.invokevirtual 196, 3) := by decide +kernel
theorem dX8_lie_79 : decode cX8_lie 79 = .ok (.ireturn, 1) := by decide +kernel
theorem dX8_lie_80 : decode cX8_lie 80 = .ok (.aload_n 0, 1) := by decide +kernel
theorem dX8_lie_81 : decode cX8_lie 81 = .ok (.getfield 26, 3) := by decide +kernel
theorem dX8_lie_84 : decode cX8_lie 84 = .ok (.aload_n 0, 1) := by decide +kernel
theorem dX8_lie_85 : decode cX8_lie 85 = .ok (.getfield 26, 3) := by decide +kernel
theorem dX8_lie_88 : decode cX8_lie 88 = .ok (.getfield 200, 3) := by decide +kernel
theorem dX8_lie_91 : decode cX8_lie 91 = .ok (.iload_n 1, 1) := by decide +kernel
theorem dX8_lie_92 : decode cX8_lie 92 = .ok (.invokevirtual 196, 3) := by decide +kernel
theorem dX8_lie_95 : decode cX8_lie 95 = .ok (.ireturn, 1) := by decide +kernel
theorem dX8_lie_96 : decode cX8_lie 96 = .ok (.ldc 71, 2) := by decide +kernel
theorem dX8_lie_98 : decode cX8_lie 98 = .ok (.ireturn, 1) := by decide +kernel
theorem dX8_stranger_0 : decode cX8_stranger 0 = .ok (.aload_n 0, 1) := by decide +kernel
theorem dX8_stranger_1 : decode cX8_stranger 1 = .ok (.getfield 26, 3) := by decide +kernel
theorem dX8_stranger_4 : decode cX8_stranger 4 = .ok (.iload_n 1, 1) := by decide +kernel
theorem dX8_stranger_5 : decode cX8_stranger 5 = .ok (.invokevirtual 133, 3) := by decide +kernel
theorem dX8_stranger_8 : decode cX8_stranger 8 = .ok (.ifCond .ne 6, 3) := by decide +kernel
theorem dX8_stranger_11 : decode cX8_stranger 11 = .ok (.ldc 71, 2) := by decide +kernel
theorem dX8_stranger_13 : decode cX8_stranger 13 = .ok (.ireturn, 1) := by decide +kernel
theorem dX8_stranger_14 : decode cX8_stranger 14 = .ok (.iload_n 2, 1) := by decide +kernel
theorem dX8_stranger_15 : decode cX8_stranger 15 = .ok (.tableswitch 69 0 3 #[29, 39, 49, 59], 29) := by decide +kernel
theorem dX8_stranger_44 : decode cX8_stranger 44 = .ok (.aload_n 0, 1) := by decide +kernel
theorem dX8_stranger_45 : decode cX8_stranger 45 = .ok (.getfield 26, 3) := by decide +kernel
theorem dX8_stranger_48 : decode cX8_stranger 48 = .ok (.getfield 203, 3) := by decide +kernel
theorem dX8_stranger_51 : decode cX8_stranger 51 = .ok (.iload_n 1, 1) := by decide +kernel
end
section
theorem dX8_stranger_52 : decode cX8_stranger 52 = .ok (.iaload, 1) := by decide +kernel
theorem dX8_stranger_53 : decode cX8_stranger 53 = .ok (.ireturn, 1) := by decide +kernel
theorem dX8_stranger_54 : decode cX8_stranger 54 = .ok (.aload_n 0, 1) := by decide +kernel
theorem dX8_stranger_55 : decode cX8_stranger 55 = .ok (.getfield 26, 3) := by decide +kernel
theorem dX8_stranger_58 : decode cX8_stranger 58 = .ok (.getfield 206, 3) := by decide +kernel
theorem dX8_stranger_61 : decode cX8_stranger 61 = .ok (.iload_n 1, 1) := by decide +kernel
theorem dX8_stranger_62 : decode cX8_stranger 62 = .ok (.iaload, 1) := by decide +kernel
theorem dX8_stranger_63 : decode cX8_stranger 63 = .ok (.ireturn, 1) := by decide +kernel
theorem dX8_stranger_64 : decode cX8_stranger 64 = .ok (.aload_n 0, 1) := by decide +kernel
theorem dX8_stranger_65 : decode cX8_stranger 65 = .ok (.getfield 26, 3) := by decide +kernel
theorem dX8_stranger_68 : decode cX8_stranger 68 = .ok (.getfield 175, 3) := by decide +kernel
theorem dX8_stranger_71 : decode cX8_stranger 71 = .ok (.iload_n 1, 1) := by decide +kernel
theorem dX8_stranger_72 : decode cX8_stranger 72 = .ok (.iaload, 1) := by decide +kernel
theorem dX8_stranger_73 : decode cX8_stranger 73 = .ok (.ireturn, 1) := by decide +kernel
theorem dX8_stranger_74 : decode cX8_stranger 74 = .ok (.aload_n 0, 1) := by decide +kernel
theorem dX8_stranger_75 : decode cX8_stranger 75 = .ok (.getfield 26, 3) := by decide +kernel
theorem dX8_stranger_78 : decode cX8_stranger 78 = .ok (.getfield 200, 3) := by decide +kernel
theorem dX8_stranger_81 : decode cX8_stranger 81 = .ok (.iload_n 1, 1) := by decide +kernel
theorem dX8_stranger_82 : decode cX8_stranger 82 = .ok (.iaload, 1) := by decide +kernel
theorem dX8_stranger_83 : decode cX8_stranger 83 = .ok (.ireturn, 1) := by decide +kernel
theorem dX8_stranger_84 : decode cX8_stranger 84 = .ok (.ldc 71, 2) := by decide +kernel
theorem dX8_stranger_86 : decode cX8_stranger 86 = .ok (.ireturn, 1) := by decide +kernel
theorem dX8_need_0 : decode cX8_need 0 = .ok (.aload_n 0, 1) := by decide +kernel
theorem dX8_need_1 : decode cX8_need 1 = .ok (.getfield 26, 3) := by decide +kernel
theorem dX8_need_4 : decode cX8_need 4 = .ok (.iload_n 1, 1) := by decide +kernel
theorem dX8_need_5 : decode cX8_need 5 = .ok (.invokevirtual 133, 3) := by decide +kernel
theorem dX8_need_8 : decode cX8_need 8 = .ok (.ifCond .eq 14, 3) := by decide +kernel
theorem dX8_need_11 : decode cX8_need 11 = .ok (.aload_n 0, 1) := by decide +kernel
theorem dX8_need_12 : decode cX8_need 12 = .ok (.getfield 26, 3) := by decide +kernel
theorem dX8_need_15 : decode cX8_need 15 = .ok (.iload_n 2, 1) := by decide +kernel
theorem dX8_need_16 : decode cX8_need 16 = .ok (.invokevirtual 136, 3) := by decide +kernel
theorem dX8_need_19 : decode cX8_need 19 = .ok (.ifCond .ne 6, 3) := by decide +kernel
theorem dX8_need_22 : decode cX8_need 22 = .ok (.ldc 71, 2) := by decide +kernel
theorem dX8_need_24 : decode cX8_need 24 = .ok (.ireturn, 1) := by decide +kernel
theorem dX8_need_25 : decode cX8_need 25 = .ok (.aload_n 0, 1) := by decide +kernel
theorem dX8_need_26 : decode cX8_need 26 = .ok (.getfield 49, 3) := by decide +kernel
theorem dX8_need_29 : decode cX8_need 29 = .ok (.iload_n 1, 1) := by decide +kernel
theorem dX8_need_30 : decode cX8_need 30 = .ok (.invokevirtual 148, 3) := by decide +kernel
theorem dX8_need_33 : decode cX8_need 33 = .ok (.aload_n 0, 1) := by decide +kernel
theorem dX8_need_34 : decode cX8_need 34 = .ok (.getfield 26, 3) := by decide +kernel
theorem dX8_need_37 : decode cX8_need 37 = .ok (.iload_n 2, 1) := by decide +kernel
theorem dX8_need_38 : decode cX8_need 38 = .ok (.invokevirtual 209, 3) := by decide +kernel
theorem dX8_need_41 : decode cX8_need 41 = .ok (.ireturn, 1) := by decide +kernel
theorem dX8_nods_0 : decode cX8_nods 0 = .ok (.aload_n 0, 1) := by decide +kernel
theorem dX8_nods_1 : decode cX8_nods 1 = .ok (.getfield 26, 3) := by decide +kernel
theorem dX8_nods_4 : decode cX8_nods 4 = .ok (.iload_n 1, 1) := by decide +kernel
theorem dX8_nods_5 : decode cX8_nods 5 = .ok (.invokevirtual 133, 3) := by decide +kernel
theorem dX8_nods_8 : decode cX8_nods 8 = .ok (.ifCond .ne 6, 3) := by decide +kernel
theorem dX8_nods_11 : decode cX8_nods 11 = .ok (.ldc 71, 2) := by decide +kernel
theorem dX8_nods_13 : decode cX8_nods 13 = .ok (.ireturn, 1) := by decide +kernel
theorem dX8_nods_14 : decode cX8_nods 14 = .ok (.aload_n 0, 1) := by decide +kernel
theorem dX8_nods_15 : decode cX8_nods 15 = .ok (.getfield 49, 3) := by decide +kernel
theorem dX8_nods_18 : decode cX8_nods 18 = .ok (.iload_n 1, 1) := by decide +kernel
theorem dX8_nods_19 : decode cX8_nods 19 = .ok (.invokevirtual 213, 3) := by decide +kernel
theorem dX8_nods_22 : decode cX8_nods 22 = .ok (.ireturn, 1) := by decide +kernel
theorem dX8_order_0 : decode cX8_order 0 = .ok (.aload_n 0, 1) := by decide +kernel
theorem dX8_order_1 : decode cX8_order 1 = .ok (.getfield 26, 3) := by decide +kernel
theorem dX8_order_4 : decode cX8_order 4 = .ok (.iload_n 1, 1) := by decide +kernel
theorem dX8_order_5 : decode cX8_order 5 = .ok (.invokevirtual 133, 3) := by decide +kernel
theorem dX8_order_8 : decode cX8_order 8 = .ok (.ifCond .eq 25, 3) := by decide +kernel
theorem dX8_order_11 : decode cX8_order 11 = .ok (.aload_n 0, 1) := by decide +kernel
theorem dX8_order_12 : decode cX8_order 12 = .ok (.getfield 26, 3) := by decide +kernel
theorem dX8_order_15 : decode cX8_order 15 = .ok (.iload_n 2, 1) := by decide +kernel
theorem dX8_order_16 : decode cX8_order 16 = .ok (.invokevirtual 216, 3) := by decide +kernel
theorem dX8_order_19 : decode cX8_order 19 = .ok (.ifCond .eq 14, 3) := by decide +kernel
theorem dX8_order_22 : decode cX8_order 22 = .ok (.iload_n 3, 1) := by decide +kernel
theorem dX8_order_23 : decode cX8_order 23 = .ok (.iconst (-1), 1) := by decide +kernel
theorem dX8_order_24 : decode cX8_order 24 = .ok (.if_icmp .lt 9, 3) := by decide +kernel
theorem dX8_order_27 : decode cX8_order 27 = .ok (.iload_n 3, 1) := by decide +kernel
theorem dX8_order_28 : decode cX8_order 28 = .ok (.bipush 6, 2) := by decide +kernel
theorem dX8_order_30 : decode cX8_order 30 = .ok (.if_icmp .lt 6, 3) := by decide +kernel
theorem dX8_order_33 : decode cX8_order 33 = .ok (.ldc 71, 2) := by decide +kernel
theorem dX8_order_35 : decode cX8_order 35 = .ok (.ireturn, 1) := by decide +kernel
theorem dX8_order_36 : decode cX8_order 36 = .ok (.aload_n 0, 1) := by decide +kernel
theorem dX8_order_37 : decode cX8_order 37 = .ok (.getfield 26, 3) := by decide +kernel
theorem dX8_order_40 : decode cX8_order 40 = .ok (.getfield 175, 3) := by decide +kernel
theorem dX8_order_43 : decode cX8_order 43 = .ok (.iload_n 1, 1) := by decide +kernel
theorem dX8_order_44 : decode cX8_order 44 = .ok (.iaload, 1) := by decide +kernel
theorem dX8_order_45 : decode cX8_order 45 = .ok (.iload_n 2, 1) := by decide +kernel
theorem dX8_order_46 : decode cX8_order 46 = .ok (.iand, 1) := by decide +kernel
theorem dX8_order_47 : decode cX8_order 47 = .ok (.ifCond .eq 6, 3) := by decide +kernel
theorem dX8_order_50 : decode cX8_order 50 = .ok (.ldc 143, 2) := by decide +kernel
theorem dX8_order_52 : decode cX8_order 52 = .ok (.ireturn, 1) := by decide +kernel
theorem dX8_order_53 : decode cX8_order 53 = .ok (.aload_n 0, 1) := by decide +kernel
theorem dX8_order_54 : decode cX8_order 54 = .ok (.getfield 49, 3) := by decide +kernel
theorem dX8_order_57 : decode cX8_order 57 = .ok (.iload_n 1, 1) := by decide +kernel
theorem dX8_order_58 : decode cX8_order 58 = .ok (.iload_n 2, 1) := by decide +kernel
theorem dX8_order_59 : decode cX8_order 59 = .ok (.invokevirtual 219, 3) := by decide +kernel
theorem dX8_order_62 : decode cX8_order 62 = .ok (.iload_n 3, 1) := by decide +kernel
theorem dX8_order_63 : decode cX8_order 63 = .ok (.ifCond .ge 13, 3) := by decide +kernel
theorem dX8_order_66 : decode cX8_order 66 = .ok (.aload_n 0, 1) := by decide +kernel
theorem dX8_order_67 : decode cX8_order 67 = .ok (.getfield 49, 3) := by decide +kernel
theorem dX8_order_70 : decode cX8_order 70 = .ok (.invokevirtual 222, 3) := by decide +kernel
theorem dX8_order_73 : decode cX8_order 73 = .ok (.goto 11, 3) := by decide +kernel
theorem dX8_order_76 : decode cX8_order 76 = .ok (.aload_n 0, 1) := by decide +kernel
theorem dX8_order_77 : decode cX8_order 77 = .ok (.getfield 49, 3) := by decide +kernel
theorem dX8_order_80 : decode cX8_order 80 = .ok (.iload_n 3, 1) := by decide +kernel
theorem dX8_order_81 : decode cX8_order 81 = .ok (.invokevirtual 225, 3) := by decide +kernel
theorem dX8_order_84 : decode cX8_order 84 = .ok (.ireturn, 1) := by decide +kernel
theorem dX8_comesIn_0 : decode cX8_comesIn 0 = .ok (.aload_n 0, 1) := by decide +kernel
theorem dX8_comesIn_1 : decode cX8_comesIn 1 = .ok (.getfield 26, 3) := by decide +kernel
theorem dX8_comesIn_4 : decode cX8_comesIn 4 = .ok (.iload_n 1, 1) := by decide +kernel
theorem dX8_comesIn_5 : decode cX8_comesIn 5 = .ok (.invokevirtual 133, 3) := by decide +kernel
theorem dX8_comesIn_8 : decode cX8_comesIn 8 = .ok (.ifCond .eq 23, 3) := by decide +kernel
theorem dX8_comesIn_11 : decode cX8_comesIn 11 = .ok (.aload_n 0, 1) := by decide +kernel
theorem dX8_comesIn_12 : decode cX8_comesIn 12 = .ok (.getfield 26, 3) := by decide +kernel
theorem dX8_comesIn_15 : decode cX8_comesIn 15 = .ok (.iload_n 2, 1) := by decide +kernel
theorem dX8_comesIn_16 : decode cX8_comesIn 16 = .ok (.invokevirtual 136, 3) := by decide +kernel
theorem dX8_comesIn_19 : decode cX8_comesIn 19 = .ok (.ifCond .eq 12, 3) := by decide +kernel
theorem dX8_comesIn_22 : decode cX8_comesIn 22 = .ok (.iload_n 3, 1) := by decide +kernel
theorem dX8_comesIn_23 : decode cX8_comesIn 23 = .ok (.ifCond .lt 8, 3) := by decide +kernel
theorem dX8_comesIn_26 : decode cX8_comesIn 26 = .ok (.iload_n 3, 1) := by decide +kernel
theorem dX8_comesIn_27 : decode cX8_comesIn 27 = .ok (.iconst 1, 1) := by decide +kernel
theorem dX8_comesIn_28 : decode cX8_comesIn 28 = .ok (.if_icmp .le 6, 3) := by decide +kernel
theorem dX8_comesIn_31 : decode cX8_comesIn 31 = .ok (.ldc 71, 2) := by decide +kernel
theorem dX8_comesIn_33 : decode cX8_comesIn 33 = .ok (.ireturn, 1) := by decide +kernel
theorem dX8_comesIn_34 : decode cX8_comesIn 34 = .ok (.aload_n 0, 1) := by decide +kernel
theorem dX8_comesIn_35 : decode cX8_comesIn 35 = .ok (.getfield 26, 3) := by decide +kernel
theorem dX8_comesIn_38 : decode cX8_comesIn 38 = .ok (.iload_n 1, 1) := by decide +kernel
theorem dX8_comesIn_39 : decode cX8_comesIn 39 = .ok (.iload_n 2, 1) := by decide +kernel
theorem dX8_comesIn_40 : decode cX8_comesIn 40 = .ok (.invokevirtual 139, 3) := by decide +kernel
theorem dX8_comesIn_43 : decode cX8_comesIn 43 = .ok (.ifCond .eq 6, 3) := by decide +kernel
theorem dX8_comesIn_46 : decode cX8_comesIn 46 = .ok (.ldc 143, 2) := by decide +kernel
theorem dX8_comesIn_48 : decode cX8_comesIn 48 = .ok (.ireturn, 1) := by decide +kernel
theorem dX8_comesIn_49 : decode cX8_comesIn 49 = .ok (.aload_n 0, 1) := by decide +kernel
theorem dX8_comesIn_50 : decode cX8_comesIn 50 = .ok (.getfield 49, 3) := by decide +kernel
theorem dX8_comesIn_53 : decode cX8_comesIn 53 = .ok (.iload_n 1, 1) := by decide +kernel
theorem dX8_comesIn_54 : decode cX8_comesIn 54 = .ok (.iload_n 2, 1) := by decide +kernel
theorem dX8_comesIn_55 : decode cX8_comesIn 55 = .ok (.invokevirtual 228, 3) := by decide +kernel
theorem dX8_comesIn_58 : decode cX8_comesIn 58 = .ok (.istore 4, 2) := by decide +kernel
theorem dX8_comesIn_60 : decode cX8_comesIn 60 = .ok (.iload_n 3, 1) := by decide +kernel
theorem dX8_comesIn_61 : decode cX8_comesIn 61 = .ok (.ifCond .ne 6, 3) := by decide +kernel
theorem dX8_comesIn_64 : decode cX8_comesIn 64 = .ok (.iload 4, 2) := by decide +kernel
theorem dX8_comesIn_66 : decode cX8_comesIn 66 = .ok (.ireturn, 1) := by decide +kernel
theorem dX8_comesIn_67 : decode cX8_comesIn 67 = .ok (.iload 4, 2) := by decide +kernel
theorem dX8_comesIn_69 : decode cX8_comesIn 69 = .ok (.ifCond .le 13, 3) := by decide +kernel
theorem dX8_comesIn_72 : decode cX8_comesIn 72 = .ok (.aload_n 0, 1) := by decide +kernel
theorem dX8_comesIn_73 : decode cX8_comesIn 73 = .ok (.getfield 49, 3) := by decide +kernel
theorem dX8_comesIn_76 : decode cX8_comesIn 76 = .ok (.invokevirtual 232, 3) := by decide +kernel
theorem dX8_comesIn_79 : decode cX8_comesIn 79 = .ok (.goto 5, 3) := by decide +kernel
theorem dX8_comesIn_82 : decode cX8_comesIn 82 = .ok (.ldc 235, 2) := by decide +kernel
theorem dX8_comesIn_84 : decode cX8_comesIn 84 = .ok (.ireturn, 1) := by decide +kernel
theorem dX8_dead_0 : decode cX8_dead 0 = .ok (.aload_n 0, 1) := by decide +kernel
theorem dX8_dead_1 : decode cX8_dead 1 = .ok (.getfield 26, 3) := by decide +kernel
theorem dX8_dead_4 : decode cX8_dead 4 = .ok (.iload_n 1, 1) := by decide +kernel
theorem dX8_dead_5 : decode cX8_dead 5 = .ok (.invokevirtual 133, 3) := by decide +kernel
theorem dX8_dead_8 : decode cX8_dead 8 = .ok (.ifCond .ne 6, 3) := by decide +kernel
theorem dX8_dead_11 : decode cX8_dead 11 = .ok (.ldc 71, 2) := by decide +kernel
theorem dX8_dead_13 : decode cX8_dead 13 = .ok (.ireturn, 1) := by decide +kernel
theorem dX8_dead_14 : decode cX8_dead 14 = .ok (.aload_n 0, 1) := by decide +kernel
theorem dX8_dead_15 : decode cX8_dead 15 = .ok (.getfield 49, 3) := by decide +kernel
theorem dX8_dead_18 : decode cX8_dead 18 = .ok (.iload_n 1, 1) := by decide +kernel
theorem dX8_dead_19 : decode cX8_dead 19 = .ok (.invokevirtual 236, 3) := by decide +kernel
theorem dX8_dead_22 : decode cX8_dead 22 = .ok (.ireturn, 1) := by decide +kernel
theorem dX8_help_0 : decode cX8_help 0 = .ok (.aload_n 0, 1) := by decide +kernel
theorem dX8_help_1 : decode cX8_help 1 = .ok (.getfield 26, 3) := by decide +kernel
theorem dX8_help_4 : decode cX8_help 4 = .ok (.iload_n 1, 1) := by decide +kernel
theorem dX8_help_5 : decode cX8_help 5 = .ok (.invokevirtual 133, 3) := by decide +kernel
theorem dX8_help_8 : decode cX8_help 8 = .ok (.ifCond .eq 12, 3) := by decide +kernel
theorem dX8_help_11 : decode cX8_help 11 = .ok (.iload_n 2, 1) := by decide +kernel
theorem dX8_help_12 : decode cX8_help 12 = .ok (.ifCond .lt 8, 3) := by decide +kernel
theorem dX8_help_15 : decode cX8_help 15 = .ok (.iload_n 2, 1) := by decide +kernel
theorem dX8_help_16 : decode cX8_help 16 = .ok (.iconst 1, 1) := by decide +kernel
theorem dX8_help_17 : decode cX8_help 17 = .ok (.if_icmp .le 6, 3) := by decide +kernel
theorem dX8_help_20 : decode cX8_help 20 = .ok (.ldc 71, 2) := by decide +kernel
theorem dX8_help_22 : decode cX8_help 22 = .ok (.ireturn, 1) := by decide +kernel
theorem dX8_help_23 : decode cX8_help 23 = .ok (.iconst 0, 1) := by decide +kernel
theorem dX8_help_24 : decode cX8_help 24 = .ok (.istore_n 3, 1) := by decide +kernel
theorem dX8_help_25 : decode cX8_help 25 = .ok (.ldc 235, 2) := by decide +kernel
theorem dX8_help_27 : decode cX8_help 27 = .ok (.istore 4, 2) := by decide +kernel
theorem dX8_help_29 : decode cX8_help 29 = .ok (.iconst 0, 1) := by decide +kernel
theorem dX8_help_30 : decode cX8_help 30 = .ok (.istore 5, 2) := by decide +kernel
theorem dX8_help_32 : decode cX8_help 32 = .ok (.iload 5, 2) := by decide +kernel
theorem dX8_help_34 : decode cX8_help 34 = .ok (.aload_n 0, 1) := by decide +kernel
theorem dX8_help_35 : decode cX8_help 35 = .ok (.getfield 26, 3) := by decide +kernel
theorem dX8_help_38 : decode cX8_help 38 = .ok (.getfield 239, 3) := by decide +kernel
theorem dX8_help_41 : decode cX8_help 41 = .ok (.if_icmp .ge 73, 3) := by decide +kernel
theorem dX8_help_44 : decode cX8_help 44 = .ok (.iload 5, 2) := by decide +kernel
theorem dX8_help_46 : decode cX8_help 46 = .ok (.iconst 1, 1) := by decide +kernel
theorem dX8_help_47 : decode cX8_help 47 = .ok (.iadd, 1) := by decide +kernel
theorem dX8_help_48 : decode cX8_help 48 = .ok (.istore 6, 2) := by decide +kernel
theorem dX8_help_50 : decode cX8_help 50 = .ok (.iload 6, 2) := by decide +kernel
theorem dX8_help_52 : decode cX8_help 52 = .ok (.aload_n 0, 1) := by decide +kernel
theorem dX8_help_53 : decode cX8_help 53 = .ok (.getfield 26, 3) := by decide +kernel
theorem dX8_help_56 : decode cX8_help 56 = .ok (.getfield 239, 3) := by decide +kernel
theorem dX8_help_59 : decode cX8_help 59 = .ok (.if_icmp .ge 49, 3) := by decide +kernel
theorem dX8_help_62 : decode cX8_help 62 = .ok (.aload_n 0, 1) := by decide +kernel
theorem dX8_help_63 : decode cX8_help 63 = .ok (.getfield 49, 3) := by decide +kernel
theorem dX8_help_66 : decode cX8_help 66 = .ok (.iload_n 1, 1) := by decide +kernel
theorem dX8_help_67 : decode cX8_help 67 = .ok (.iload 5, 2) := by decide +kernel
theorem dX8_help_69 : decode cX8_help 69 = .ok (.iload 6, 2) := by decide +kernel
theorem dX8_help_71 : decode cX8_help 71 = .ok (.invokevirtual 242, 3) := by decide +kernel
theorem dX8_help_74 : decode cX8_help 74 = .ok (.ifCond .eq 28, 3) := by decide +kernel
theorem dX8_help_77 : decode cX8_help 77 = .ok (.iinc 3 1, 3) := by decide +kernel
theorem dX8_help_80 : decode cX8_help 80 = .ok (.iload 4, 2) := by decide +kernel
theorem dX8_help_82 : decode cX8_help 82 = .ok (.ldc 235, 2) := by decide +kernel
theorem dX8_help_84 : decode cX8_help 84 = .ok (.if_icmp .ne 14, 3) := by decide +kernel
theorem dX8_help_87 : decode cX8_help 87 = .ok (.bipush 10, 2) := by decide +kernel
theorem dX8_help_89 : decode cX8_help 89 = .ok (.iload 5, 2) := by decide +kernel
theorem dX8_help_91 : decode cX8_help 91 = .ok (.imul, 1) := by decide +kernel
theorem dX8_help_92 : decode cX8_help 92 = .ok (.iload 6, 2) := by decide +kernel
theorem dX8_help_94 : decode cX8_help 94 = .ok (.iadd, 1) := by decide +kernel
theorem dX8_help_95 : decode cX8_help 95 = .ok (.goto 5, 3) := by decide +kernel
theorem dX8_help_98 : decode cX8_help 98 = .ok (.iload 4, 2) := by decide +kernel
theorem dX8_help_100 : decode cX8_help 100 = .ok (.istore 4, 2) := by decide +kernel
theorem dX8_help_102 : decode cX8_help 102 = .ok (.iinc 6 1, 3) := by decide +kernel
theorem dX8_help_105 : decode cX8_help 105 = .ok (.goto (-55), 3) := by decide +kernel
theorem dX8_help_108 : decode cX8_help 108 = .ok (.iinc 5 1, 3) := by decide +kernel
theorem dX8_help_111 : decode cX8_help 111 = .ok (.goto (-79), 3) := by decide +kernel
theorem dX8_help_114 : decode cX8_help 114 = .ok (.iload_n 2, 1) := by decide +kernel
theorem dX8_help_115 : decode cX8_help 115 = .ok (.ifCond .ne 7, 3) := by decide +kernel
theorem dX8_help_118 : decode cX8_help 118 = .ok (.iload_n 3, 1) := by decide +kernel
theorem dX8_help_119 : decode cX8_help 119 = .ok (.goto 5, 3) := by decide +kernel
theorem dX8_help_122 : decode cX8_help 122 = .ok (.iload 4, 2) := by decide +kernel
theorem dX8_help_124 : decode cX8_help 124 = .ok (.ireturn, 1) := by decide +kernel
theorem dX8_suppers_0 : decode cX8_suppers 0 = .ok (.aload_n 0, 1) := by decide +kernel
theorem dX8_suppers_1 : decode cX8_suppers 1 = .ok (.getfield 26, 3) := by decide +kernel
theorem dX8_suppers_4 : decode cX8_suppers 4 = .ok (.iload_n 1, 1) := by decide +kernel
theorem dX8_suppers_5 : decode cX8_suppers 5 = .ok (.invokevirtual 133, 3) := by decide +kernel
theorem dX8_suppers_8 : decode cX8_suppers 8 = .ok (.ifCond .eq 14, 3) := by decide +kernel
theorem dX8_suppers_11 : decode cX8_suppers 11 = .ok (.aload_n 0, 1) := by decide +kernel
theorem dX8_suppers_12 : decode cX8_suppers 12 = .ok (.getfield 26, 3) := by decide +kernel
theorem dX8_suppers_15 : decode cX8_suppers 15 = .ok (.iload_n 2, 1) := by decide +kernel
theorem dX8_suppers_16 : decode cX8_suppers 16 = .ok (.invokevirtual 136, 3) := by decide +kernel
theorem dX8_suppers_19 : decode cX8_suppers 19 = .ok (.ifCond .ne 6, 3) := by decide +kernel
theorem dX8_suppers_22 : decode cX8_suppers 22 = .ok (.ldc 71, 2) := by decide +kernel
theorem dX8_suppers_24 : decode cX8_suppers 24 = .ok (.ireturn, 1) := by decide +kernel
theorem dX8_suppers_25 : decode cX8_suppers 25 = .ok (.aload_n 0, 1) := by decide +kernel
theorem dX8_suppers_26 : decode cX8_suppers 26 = .ok (.getfield 26, 3) := by decide +kernel
theorem dX8_suppers_29 : decode cX8_suppers 29 = .ok (.iload_n 1, 1) := by decide +kernel
theorem dX8_suppers_30 : decode cX8_suppers 30 = .ok (.iload_n 2, 1) := by decide +kernel
theorem dX8_suppers_31 : decode cX8_suppers 31 = .ok (.invokevirtual 139, 3) := by decide +kernel
theorem dX8_suppers_34 : decode cX8_suppers 34 = .ok (.ifCond .eq 6, 3) := by decide +kernel
theorem dX8_suppers_37 : decode cX8_suppers 37 = .ok (.ldc 143, 2) := by decide +kernel
theorem dX8_suppers_39 : decode cX8_suppers 39 = .ok (.ireturn, 1) := by decide +kernel
theorem dX8_suppers_40 : decode cX8_suppers 40 = .ok (.aload_n 0, 1) := by decide +kernel
theorem dX8_suppers_41 : decode cX8_suppers 41 = .ok (.getfield 49, 3) := by decide +kernel
theorem dX8_suppers_44 : decode cX8_suppers 44 = .ok (.iload_n 1, 1) := by decide +kernel
theorem dX8_suppers_45 : decode cX8_suppers 45 = .ok (.invokevirtual 148, 3) := by decide +kernel
theorem dX8_suppers_48 : decode cX8_suppers 48 = .ok (.astore_n 3, 1) := by decide +kernel
theorem dX8_suppers_49 : decode cX8_suppers 49 = .ok (.iconst 0, 1) := by decide +kernel
theorem dX8_suppers_50 : decode cX8_suppers 50 = .ok (.istore 4, 2) := by decide +kernel
theorem dX8_suppers_52 : decode cX8_suppers 52 = .ok (.iload 4, 2) := by decide +kernel
theorem dX8_suppers_54 : decode cX8_suppers 54 = .ok (.bipush 10, 2) := by decide +kernel
theorem dX8_suppers_56 : decode cX8_suppers 56 = .ok (.if_icmp .gt 28, 3) := by decide +kernel
theorem dX8_suppers_59 : decode cX8_suppers 59 = .ok (.aload_n 3, 1) := by decide +kernel
theorem dX8_suppers_60 : decode cX8_suppers 60 = .ok (.aload_n 0, 1) := by decide +kernel
theorem dX8_suppers_61 : decode cX8_suppers 61 = .ok (.getfield 26, 3) := by decide +kernel
theorem dX8_suppers_64 : decode cX8_suppers 64 = .ok (.iload_n 2, 1) := by decide +kernel
theorem dX8_suppers_65 : decode cX8_suppers 65 = .ok (.invokevirtual 245, 3) := by decide +kernel
theorem dX8_suppers_68 : decode cX8_suppers 68 = .ok (.ifCond .eq 6, 3) := by decide +kernel
theorem dX8_suppers_71 : decode cX8_suppers 71 = .ok (.iload 4, 2) := by decide +kernel
theorem dX8_suppers_73 : decode cX8_suppers 73 = .ok (.ireturn, 1) := by decide +kernel
theorem dX8_suppers_74 : decode cX8_suppers 74 = .ok (.aload_n 3, 1) := by decide +kernel
theorem dX8_suppers_75 : decode cX8_suppers 75 = .ok (.invokevirtual 165, 3) := by decide +kernel
theorem dX8_suppers_78 : decode cX8_suppers 78 = .ok (.iinc 4 1, 3) := by decide +kernel
theorem dX8_suppers_81 : decode cX8_suppers 81 = .ok (.goto (-29), 3) := by decide +kernel
theorem dX8_suppers_84 : decode cX8_suppers 84 = .ok (.ldc 235, 2) := by decide +kernel
theorem dX8_suppers_86 : decode cX8_suppers 86 = .ok (.ireturn, 1) := by decide +kernel
theorem dX8_doubted_0 : decode cX8_doubted 0 = .ok (.aload_n 0, 1) := by decide +kernel
theorem dX8_doubted_1 : decode cX8_doubted 1 = .ok (.getfield 26, 3) := by decide +kernel
theorem dX8_doubted_4 : decode cX8_doubted 4 = .ok (.iload_n 1, 1) := by decide +kernel
theorem dX8_doubted_5 : decode cX8_doubted 5 = .ok (.invokevirtual 133, 3) := by decide +kernel
theorem dX8_doubted_8 : decode cX8_doubted 8 = .ok (.ifCond .eq 23, 3) := by decide +kernel
theorem dX8_doubted_11 : decode cX8_doubted 11 = .ok (.iload_n 2, 1) := by decide +kernel
theorem dX8_doubted_12 : decode cX8_doubted 12 = .ok (.iload 4, 2) := by decide +kernel
theorem dX8_doubted_14 : decode cX8_doubted 14 = .ok (.invokestatic 248, 3) := by decide +kernel
theorem dX8_doubted_17 : decode cX8_doubted 17 = .ok (.ifCond .eq 14, 3) := by decide +kernel
theorem dX8_doubted_20 : decode cX8_doubted 20 = .ok (.iload 5, 2) := by decide +kernel
theorem dX8_doubted_22 : decode cX8_doubted 22 = .ok (.ifCond .lt 9, 3) := by decide +kernel
theorem dX8_doubted_25 : decode cX8_doubted 25 = .ok (.iload 5, 2) := by decide +kernel
theorem dX8_doubted_27 : decode cX8_doubted 27 = .ok (.iconst 1, 1) := by decide +kernel
theorem dX8_doubted_28 : decode cX8_doubted 28 = .ok (.if_icmp .le 6, 3) := by decide +kernel
theorem dX8_doubted_31 : decode cX8_doubted 31 = .ok (.ldc 71, 2) := by decide +kernel
theorem dX8_doubted_33 : decode cX8_doubted 33 = .ok (.ireturn, 1) := by decide +kernel
theorem dX8_doubted_34 : decode cX8_doubted 34 = .ok (.aload_n 0, 1) := by decide +kernel
theorem dX8_doubted_35 : decode cX8_doubted 35 = .ok (.iload_n 2, 1) := by decide +kernel
theorem dX8_doubted_36 : decode cX8_doubted 36 = .ok (.iload_n 3, 1) := by decide +kernel
theorem dX8_doubted_37 : decode cX8_doubted 37 = .ok (.iload 4, 2) := by decide +kernel
theorem dX8_doubted_39 : decode cX8_doubted 39 = .ok (.invokevirtual 251, 3) := by decide +kernel
theorem dX8_doubted_42 : decode cX8_doubted 42 = .ok (.istore 6, 2) := by decide +kernel
theorem dX8_doubted_44 : decode cX8_doubted 44 = .ok (.iload 6, 2) := by decide +kernel
theorem dX8_doubted_46 : decode cX8_doubted 46 = .ok (.ifCond .eq 6, 3) := by decide +kernel
theorem dX8_doubted_49 : decode cX8_doubted 49 = .ok (.iload 6, 2) := by decide +kernel
theorem dX8_doubted_51 : decode cX8_doubted 51 = .ok (.ireturn, 1) := by decide +kernel
theorem dX8_doubted_52 : decode cX8_doubted 52 = .ok (.iconst 0, 1) := by decide +kernel
theorem dX8_doubted_53 : decode cX8_doubted 53 = .ok (.istore 7, 2) := by decide +kernel
theorem dX8_doubted_55 : decode cX8_doubted 55 = .ok (.ldc 235, 2) := by decide +kernel
theorem dX8_doubted_57 : decode cX8_doubted 57 = .ok (.istore 8, 2) := by decide +kernel
theorem dX8_doubted_59 : decode cX8_doubted 59 = .ok (.iconst 0, 1) := by decide +kernel
theorem dX8_doubted_60 : decode cX8_doubted 60 = .ok (.istore 9, 2) := by decide +kernel
theorem dX8_doubted_62 : decode cX8_doubted 62 = .ok (.iload 9, 2) := by decide +kernel
theorem dX8_doubted_64 : decode cX8_doubted 64 = .ok (.bipush 16, 2) := by decide +kernel
theorem dX8_doubted_66 : decode cX8_doubted 66 = .ok (.if_icmp .ge 50, 3) := by decide +kernel
theorem dX8_doubted_69 : decode cX8_doubted 69 = .ok (.aload_n 0, 1) := by decide +kernel
theorem dX8_doubted_70 : decode cX8_doubted 70 = .ok (.getfield 49, 3) := by decide +kernel
theorem dX8_doubted_73 : decode cX8_doubted 73 = .ok (.iload_n 1, 1) := by decide +kernel
theorem dX8_doubted_74 : decode cX8_doubted 74 = .ok (.aload_n 0, 1) := by decide +kernel
theorem dX8_doubted_75 : decode cX8_doubted 75 = .ok (.getfield 26, 3) := by decide +kernel
theorem dX8_doubted_78 : decode cX8_doubted 78 = .ok (.getfield 203, 3) := by decide +kernel
theorem dX8_doubted_81 : decode cX8_doubted 81 = .ok (.iload_n 1, 1) := by decide +kernel
theorem dX8_doubted_82 : decode cX8_doubted 82 = .ok (.iaload, 1) := by decide +kernel
theorem dX8_doubted_83 : decode cX8_doubted 83 = .ok (.iload 9, 2) := by decide +kernel
theorem dX8_doubted_85 : decode cX8_doubted 85 = .ok (.invokevirtual 254, 3) := by decide +kernel
theorem dX8_doubted_88 : decode cX8_doubted 88 = .ok (.ifCond .eq 22, 3) := by decide +kernel
theorem dX8_doubted_91 : decode cX8_doubted 91 = .ok (.iinc 7 1, 3) := by decide +kernel
theorem dX8_doubted_94 : decode cX8_doubted 94 = .ok (.iload 8, 2) := by decide +kernel
theorem dX8_doubted_96 : decode cX8_doubted 96 = .ok (.ldc 235, 2) := by decide +kernel
theorem dX8_doubted_98 : decode cX8_doubted 98 = .ok (.if_icmp .ne 8, 3) := by decide +kernel
theorem dX8_doubted_101 : decode cX8_doubted 101 = .ok (.iload 9, 2) := by decide +kernel
theorem dX8_doubted_103 : decode cX8_doubted 103 = .ok (.goto 5, 3) := by decide +kernel
theorem dX8_doubted_106 : decode cX8_doubted 106 = .ok (.iload 8, 2) := by decide +kernel
theorem dX8_doubted_108 : decode cX8_doubted 108 = .ok (.istore 8, 2) := by decide +kernel
theorem dX8_doubted_110 : decode cX8_doubted 110 = .ok (.iinc 9 1, 3) := by decide +kernel
theorem dX8_doubted_113 : decode cX8_doubted 113 = .ok (.goto (-51), 3) := by decide +kernel
theorem dX8_doubted_116 : decode cX8_doubted 116 = .ok (.aload_n 0, 1) := by decide +kernel
theorem dX8_doubted_117 : decode cX8_doubted 117 = .ok (.iload 5, 2) := by decide +kernel
theorem dX8_doubted_119 : decode cX8_doubted 119 = .ok (.ifCond .ne 8, 3) := by decide +kernel
theorem dX8_doubted_122 : decode cX8_doubted 122 = .ok (.iload 7, 2) := by decide +kernel
theorem dX8_doubted_124 : decode cX8_doubted 124 = .ok (.goto 5, 3) := by decide +kernel
theorem dX8_doubted_127 : decode cX8_doubted 127 = .ok (.iload 8, 2) := by decide +kernel
theorem dX8_doubted_129 : decode cX8_doubted 129 = .ok (.invokevirtual 80, 3) := by decide +kernel
theorem dX8_doubted_132 : decode cX8_doubted 132 = .ok (.ireturn, 1) := by decide +kernel
theorem dX8_trusted_0 : decode cX8_trusted 0 = .ok (.aload_n 0, 1) := by decide +kernel
theorem dX8_trusted_1 : decode cX8_trusted 1 = .ok (.getfield 26, 3) := by decide +kernel
theorem dX8_trusted_4 : decode cX8_trusted 4 = .ok (.iload_n 1, 1) := by decide +kernel
theorem dX8_trusted_5 : decode cX8_trusted 5 = .ok (.invokevirtual 133, 3) := by decide +kernel
theorem dX8_trusted_8 : decode cX8_trusted 8 = .ok (.ifCond .eq 12, 3) := by decide +kernel
theorem dX8_trusted_11 : decode cX8_trusted 11 = .ok (.iload_n 2, 1) := by decide +kernel
theorem dX8_trusted_12 : decode cX8_trusted 12 = .ok (.iload 4, 2) := by decide +kernel
theorem dX8_trusted_14 : decode cX8_trusted 14 = .ok (.invokestatic 248, 3) := by decide +kernel
theorem dX8_trusted_17 : decode cX8_trusted 17 = .ok (.ifCond .ne 6, 3) := by decide +kernel
theorem dX8_trusted_20 : decode cX8_trusted 20 = .ok (.ldc 71, 2) := by decide +kernel
theorem dX8_trusted_22 : decode cX8_trusted 22 = .ok (.ireturn, 1) := by decide +kernel
theorem dX8_trusted_23 : decode cX8_trusted 23 = .ok (.aload_n 0, 1) := by decide +kernel
theorem dX8_trusted_24 : decode cX8_trusted 24 = .ok (.iload_n 2, 1) := by decide +kernel
theorem dX8_trusted_25 : decode cX8_trusted 25 = .ok (.iload_n 3, 1) := by decide +kernel
theorem dX8_trusted_26 : decode cX8_trusted 26 = .ok (.iload 4, 2) := by decide +kernel
theorem dX8_trusted_28 : decode cX8_trusted 28 = .ok (.invokevirtual 251, 3) := by decide +kernel
theorem dX8_trusted_31 : decode cX8_trusted 31 = .ok (.istore 5, 2) := by decide +kernel
theorem dX8_trusted_33 : decode cX8_trusted 33 = .ok (.iload 5, 2) := by decide +kernel
theorem dX8_trusted_35 : decode cX8_trusted 35 = .ok (.ifCond .eq 6, 3) := by decide +kernel
theorem dX8_trusted_38 : decode cX8_trusted 38 = .ok (.iload 5, 2) := by decide +kernel
theorem dX8_trusted_40 : decode cX8_trusted 40 = .ok (.ireturn, 1) := by decide +kernel
theorem dX8_trusted_41 : decode cX8_trusted 41 = .ok (.iconst 0, 1) := by decide +kernel
theorem dX8_trusted_42 : decode cX8_trusted 42 = .ok (.istore 6, 2) := by decide +kernel
theorem dX8_trusted_44 : decode cX8_trusted 44 = .ok (.iconst 0, 1) := by decide +kernel
theorem dX8_trusted_45 : decode cX8_trusted 45 = .ok (.istore 7, 2) := by decide +kernel
theorem dX8_trusted_47 : decode cX8_trusted 47 = .ok (.iload 7, 2) := by decide +kernel
theorem dX8_trusted_49 : decode cX8_trusted 49 = .ok (.bipush 20, 2) := by decide +kernel
theorem dX8_trusted_51 : decode cX8_trusted 51 = .ok (.if_icmp .gt 40, 3) := by decide +kernel
theorem dX8_trusted_54 : decode cX8_trusted 54 = .ok (.aload_n 0, 1) := by decide +kernel
theorem dX8_trusted_55 : decode cX8_trusted 55 = .ok (.getfield 49, 3) := by decide +kernel
theorem dX8_trusted_58 : decode cX8_trusted 58 = .ok (.iload_n 1, 1) := by decide +kernel
theorem dX8_trusted_59 : decode cX8_trusted 59 = .ok (.iload 7, 2) := by decide +kernel
theorem dX8_trusted_61 : decode cX8_trusted 61 = .ok (.aload_n 0, 1) := by decide +kernel
theorem dX8_trusted_62 : decode cX8_trusted 62 = .ok (.getfield 26, 3) := by decide +kernel
theorem dX8_trusted_65 : decode cX8_trusted 65 = .ok (.getfield 206, 3) := by decide +kernel
theorem dX8_trusted_68 : decode cX8_trusted 68 = .ok (.iload_n 1, 1) := by decide +kernel
theorem dX8_trusted_69 : decode cX8_trusted 69 = .ok (.iaload, 1) := by decide +kernel
theorem dX8_trusted_70 : decode cX8_trusted 70 = .ok (.invokevirtual 254, 3) := by decide +kernel
theorem dX8_trusted_73 : decode cX8_trusted 73 = .ok (.ifCond .eq 12, 3) := by decide +kernel
theorem dX8_trusted_76 : decode cX8_trusted 76 = .ok (.iload 6, 2) := by decide +kernel
theorem dX8_trusted_78 : decode cX8_trusted 78 = .ok (.iconst 1, 1) := by decide +kernel
theorem dX8_trusted_79 : decode cX8_trusted 79 = .ok (.iload 7, 2) := by decide +kernel
theorem dX8_trusted_81 : decode cX8_trusted 81 = .ok (.ishl, 1) := by decide +kernel
theorem dX8_trusted_82 : decode cX8_trusted 82 = .ok (.ior, 1) := by decide +kernel
theorem dX8_trusted_83 : decode cX8_trusted 83 = .ok (.istore 6, 2) := by decide +kernel
theorem dX8_trusted_85 : decode cX8_trusted 85 = .ok (.iinc 7 1, 3) := by decide +kernel
theorem dX8_trusted_88 : decode cX8_trusted 88 = .ok (.goto (-41), 3) := by decide +kernel
theorem dX8_trusted_91 : decode cX8_trusted 91 = .ok (.aload_n 0, 1) := by decide +kernel
theorem dX8_trusted_92 : decode cX8_trusted 92 = .ok (.iload 6, 2) := by decide +kernel
theorem dX8_trusted_94 : decode cX8_trusted 94 = .ok (.invokevirtual 80, 3) := by decide +kernel
theorem dX8_trusted_97 : decode cX8_trusted 97 = .ok (.ireturn, 1) := by decide +kernel
theorem dX8_who_0 : decode cX8_who 0 = .ok (.aload_n 0, 1) := by decide +kernel
theorem dX8_who_1 : decode cX8_who 1 = .ok (.getfield 26, 3) := by decide +kernel
theorem dX8_who_4 : decode cX8_who 4 = .ok (.invokevirtual 257, 3) := by decide +kernel
theorem dX8_who_7 : decode cX8_who 7 = .ok (.ifCond .ne 6, 3) := by decide +kernel
theorem dX8_who_10 : decode cX8_who 10 = .ok (.ldc 143, 2) := by decide +kernel
theorem dX8_who_12 : decode cX8_who 12 = .ok (.ireturn, 1) := by decide +kernel
theorem dX8_who_13 : decode cX8_who 13 = .ok (.iload_n 1, 1) := by decide +kernel
theorem dX8_who_14 : decode cX8_who 14 = .ok (.iload_n 3, 1) := by decide +kernel
theorem dX8_who_15 : decode cX8_who 15 = .ok (.invokestatic 248, 3) := by decide +kernel
theorem dX8_who_18 : decode cX8_who 18 = .ok (.ifCond .ne 6, 3) := by decide +kernel
theorem dX8_who_21 : decode cX8_who 21 = .ok (.ldc 71, 2) := by decide +kernel
theorem dX8_who_23 : decode cX8_who 23 = .ok (.ireturn, 1) := by decide +kernel
theorem dX8_who_24 : decode cX8_who 24 = .ok (.aload_n 0, 1) := by decide +kernel
theorem dX8_who_25 : decode cX8_who 25 = .ok (.iload_n 1, 1) := by decide +kernel
theorem dX8_who_26 : decode cX8_who 26 = .ok (.iload_n 2, 1) := by decide +kernel
theorem dX8_who_27 : decode cX8_who 27 = .ok (.iload_n 3, 1) := by decide +kernel
theorem dX8_who_28 : decode cX8_who 28 = .ok (.invokevirtual 251, 3) := by decide +kernel
theorem dX8_who_31 : decode cX8_who 31 = .ok (.istore 4, 2) := by decide +kernel
theorem dX8_who_33 : decode cX8_who 33 = .ok (.iload 4, 2) := by decide +kernel
theorem dX8_who_35 : decode cX8_who 35 = .ok (.ifCond .eq 6, 3) := by decide +kernel
theorem dX8_who_38 : decode cX8_who 38 = .ok (.iload 4, 2) := by decide +kernel
theorem dX8_who_40 : decode cX8_who 40 = .ok (.ireturn, 1) := by decide +kernel
theorem dX8_who_41 : decode cX8_who 41 = .ok (.iconst 0, 1) := by decide +kernel
theorem dX8_who_42 : decode cX8_who 42 = .ok (.istore 5, 2) := by decide +kernel
theorem dX8_who_44 : decode cX8_who 44 = .ok (.iconst 0, 1) := by decide +kernel
theorem dX8_who_45 : decode cX8_who 45 = .ok (.istore 6, 2) := by decide +kernel
theorem dX8_who_47 : decode cX8_who 47 = .ok (.iload 6, 2) := by decide +kernel
theorem dX8_who_49 : decode cX8_who 49 = .ok (.aload_n 0, 1) := by decide +kernel
theorem dX8_who_50 : decode cX8_who 50 = .ok (.getfield 26, 3) := by decide +kernel
theorem dX8_who_53 : decode cX8_who 53 = .ok (.getfield 127, 3) := by decide +kernel
theorem dX8_who_56 : decode cX8_who 56 = .ok (.if_icmp .ge 50, 3) := by decide +kernel
theorem dX8_who_59 : decode cX8_who 59 = .ok (.aload_n 0, 1) := by decide +kernel
theorem dX8_who_60 : decode cX8_who 60 = .ok (.getfield 49, 3) := by decide +kernel
theorem dX8_who_63 : decode cX8_who 63 = .ok (.iload 6, 2) := by decide +kernel
theorem dX8_who_65 : decode cX8_who 65 = .ok (.aload_n 0, 1) := by decide +kernel
theorem dX8_who_66 : decode cX8_who 66 = .ok (.getfield 26, 3) := by decide +kernel
theorem dX8_who_69 : decode cX8_who 69 = .ok (.getfield 203, 3) := by decide +kernel
theorem dX8_who_72 : decode cX8_who 72 = .ok (.iload 6, 2) := by decide +kernel
theorem dX8_who_74 : decode cX8_who 74 = .ok (.iaload, 1) := by decide +kernel
theorem dX8_who_75 : decode cX8_who 75 = .ok (.aload_n 0, 1) := by decide +kernel
theorem dX8_who_76 : decode cX8_who 76 = .ok (.getfield 26, 3) := by decide +kernel
theorem dX8_who_79 : decode cX8_who 79 = .ok (.getfield 206, 3) := by decide +kernel
theorem dX8_who_82 : decode cX8_who 82 = .ok (.iload 6, 2) := by decide +kernel
theorem dX8_who_84 : decode cX8_who 84 = .ok (.iaload, 1) := by decide +kernel
theorem dX8_who_85 : decode cX8_who 85 = .ok (.invokevirtual 254, 3) := by decide +kernel
theorem dX8_who_88 : decode cX8_who 88 = .ok (.ifCond .eq 12, 3) := by decide +kernel
theorem dX8_who_91 : decode cX8_who 91 = .ok (.iload 5, 2) := by decide +kernel
theorem dX8_who_93 : decode cX8_who 93 = .ok (.iconst 1, 1) := by decide +kernel
theorem dX8_who_94 : decode cX8_who 94 = .ok (.iload 6, 2) := by decide +kernel
theorem dX8_who_96 : decode cX8_who 96 = .ok (.ishl, 1) := by decide +kernel
theorem dX8_who_97 : decode cX8_who 97 = .ok (.ior, 1) := by decide +kernel
theorem dX8_who_98 : decode cX8_who 98 = .ok (.istore 5, 2) := by decide +kernel
theorem dX8_who_100 : decode cX8_who 100 = .ok (.iinc 6 1, 3) := by decide +kernel
theorem dX8_who_103 : decode cX8_who 103 = .ok (.goto (-56), 3) := by decide +kernel
theorem dX8_who_106 : decode cX8_who 106 = .ok (.aload_n 0, 1) := by decide +kernel
theorem dX8_who_107 : decode cX8_who 107 = .ok (.iload 5, 2) := by decide +kernel
theorem dX8_who_109 : decode cX8_who 109 = .ok (.invokevirtual 80, 3) := by decide +kernel
theorem dX8_who_112 : decode cX8_who 112 = .ok (.ireturn, 1) := by decide +kernel
theorem dX8_odds_0 : decode cX8_odds 0 = .ok (.aload_n 0, 1) := by decide +kernel
theorem dX8_odds_1 : decode cX8_odds 1 = .ok (.getfield 26, 3) := by decide +kernel
theorem dX8_odds_4 : decode cX8_odds 4 = .ok (.iload_n 1, 1) := by decide +kernel
theorem dX8_odds_5 : decode cX8_odds 5 = .ok (.invokevirtual 133, 3) := by decide +kernel
theorem dX8_odds_8 : decode cX8_odds 8 = .ok (.ifCond .eq 12, 3) := by decide +kernel
theorem dX8_odds_11 : decode cX8_odds 11 = .ok (.iload_n 2, 1) := by decide +kernel
theorem dX8_odds_12 : decode cX8_odds 12 = .ok (.iload 4, 2) := by decide +kernel
theorem dX8_odds_14 : decode cX8_odds 14 = .ok (.invokestatic 248, 3) := by decide +kernel
theorem dX8_odds_17 : decode cX8_odds 17 = .ok (.ifCond .ne 6, 3) := by decide +kernel
theorem dX8_odds_20 : decode cX8_odds 20 = .ok (.ldc 71, 2) := by decide +kernel
theorem dX8_odds_22 : decode cX8_odds 22 = .ok (.ireturn, 1) := by decide +kernel
theorem dX8_odds_23 : decode cX8_odds 23 = .ok (.iload 5, 2) := by decide +kernel
theorem dX8_odds_25 : decode cX8_odds 25 = .ok (.ifCond .lt 33, 3) := by decide +kernel
theorem dX8_odds_28 : decode cX8_odds 28 = .ok (.iload 5, 2) := by decide +kernel
theorem dX8_odds_30 : decode cX8_odds 30 = .ok (.bipush 6, 2) := by decide +kernel
theorem dX8_odds_32 : decode cX8_odds 32 = .ok (.if_icmp .gt 26, 3) := by decide +kernel
theorem dX8_odds_35 : decode cX8_odds 35 = .ok (.iload 6, 2) := by decide +kernel
theorem dX8_odds_37 : decode cX8_odds 37 = .ok (.ifCond .lt 21, 3) := by decide +kernel
theorem dX8_odds_40 : decode cX8_odds 40 = .ok (.iload 6, 2) := by decide +kernel
theorem dX8_odds_42 : decode cX8_odds 42 = .ok (.bipush 10, 2) := by decide +kernel
theorem dX8_odds_44 : decode cX8_odds 44 = .ok (.if_icmp .gt 14, 3) := by decide +kernel
theorem dX8_odds_47 : decode cX8_odds 47 = .ok (.iload 7, 2) := by decide +kernel
theorem dX8_odds_49 : decode cX8_odds 49 = .ok (.ifCond .lt 9, 3) := by decide +kernel
theorem dX8_odds_52 : decode cX8_odds 52 = .ok (.iload 7, 2) := by decide +kernel
theorem dX8_odds_54 : decode cX8_odds 54 = .ok (.iconst 1, 1) := by decide +kernel
theorem dX8_odds_55 : decode cX8_odds 55 = .ok (.if_icmp .le 6, 3) := by decide +kernel
theorem dX8_odds_58 : decode cX8_odds 58 = .ok (.ldc 71, 2) := by decide +kernel
theorem dX8_odds_60 : decode cX8_odds 60 = .ok (.ireturn, 1) := by decide +kernel
theorem dX8_odds_61 : decode cX8_odds 61 = .ok (.aload_n 0, 1) := by decide +kernel
theorem dX8_odds_62 : decode cX8_odds 62 = .ok (.iload_n 2, 1) := by decide +kernel
theorem dX8_odds_63 : decode cX8_odds 63 = .ok (.iload_n 3, 1) := by decide +kernel
theorem dX8_odds_64 : decode cX8_odds 64 = .ok (.iload 4, 2) := by decide +kernel
theorem dX8_odds_66 : decode cX8_odds 66 = .ok (.invokevirtual 251, 3) := by decide +kernel
theorem dX8_odds_69 : decode cX8_odds 69 = .ok (.istore 8, 2) := by decide +kernel
theorem dX8_odds_71 : decode cX8_odds 71 = .ok (.iload 8, 2) := by decide +kernel
theorem dX8_odds_73 : decode cX8_odds 73 = .ok (.ifCond .eq 6, 3) := by decide +kernel
theorem dX8_odds_76 : decode cX8_odds 76 = .ok (.iload 8, 2) := by decide +kernel
theorem dX8_odds_78 : decode cX8_odds 78 = .ok (.ireturn, 1) := by decide +kernel
theorem dX8_odds_79 : decode cX8_odds 79 = .ok (.aload_n 0, 1) := by decide +kernel
theorem dX8_odds_80 : decode cX8_odds 80 = .ok (.getfield 49, 3) := by decide +kernel
theorem dX8_odds_83 : decode cX8_odds 83 = .ok (.iload_n 1, 1) := by decide +kernel
theorem dX8_odds_84 : decode cX8_odds 84 = .ok (.iload 5, 2) := by decide +kernel
theorem dX8_odds_86 : decode cX8_odds 86 = .ok (.iload 6, 2) := by decide +kernel
theorem dX8_odds_88 : decode cX8_odds 88 = .ok (.invokevirtual 260, 3) := by decide +kernel
theorem dX8_odds_91 : decode cX8_odds 91 = .ok (.istore 9, 2) := by decide +kernel
theorem dX8_odds_93 : decode cX8_odds 93 = .ok (.aload_n 0, 1) := by decide +kernel
theorem dX8_odds_94 : decode cX8_odds 94 = .ok (.getfield 49, 3) := by decide +kernel
theorem dX8_odds_97 : decode cX8_odds 97 = .ok (.invokevirtual 263, 3) := by decide +kernel
theorem dX8_odds_100 : decode cX8_odds 100 = .ok (.istore 10, 2) := by decide +kernel
theorem dX8_odds_102 : decode cX8_odds 102 = .ok (.iload 9, 2) := by decide +kernel
theorem dX8_odds_104 : decode cX8_odds 104 = .ok (.iload 10, 2) := by decide +kernel
theorem dX8_odds_106 : decode cX8_odds 106 = .ok (.invokestatic 266, 3) := by decide +kernel
theorem dX8_odds_109 : decode cX8_odds 109 = .ok (.istore 11, 2) := by decide +kernel
theorem dX8_odds_111 : decode cX8_odds 111 = .ok (.aload_n 0, 1) := by decide +kernel
theorem dX8_odds_112 : decode cX8_odds 112 = .ok (.iload 7, 2) := by decide +kernel
theorem dX8_odds_114 : decode cX8_odds 114 = .ok (.ifCond .ne 8, 3) := by decide +kernel
theorem dX8_odds_117 : decode cX8_odds 117 = .ok (.iload 9, 2) := by decide +kernel
theorem dX8_odds_119 : decode cX8_odds 119 = .ok (.goto 5, 3) := by decide +kernel
theorem dX8_odds_122 : decode cX8_odds 122 = .ok (.iload 10, 2) := by decide +kernel
theorem dX8_odds_124 : decode cX8_odds 124 = .ok (.iload 11, 2) := by decide +kernel
theorem dX8_odds_126 : decode cX8_odds 126 = .ok (.idiv, 1) := by decide +kernel
theorem dX8_odds_127 : decode cX8_odds 127 = .ok (.invokevirtual 80, 3) := by decide +kernel
theorem dX8_odds_130 : decode cX8_odds 130 = .ok (.ireturn, 1) := by decide +kernel
theorem dX8_image_0 : decode cX8_image 0 = .ok (.iload_n 1, 1) := by decide +kernel
theorem dX8_image_1 : decode cX8_image 1 = .ok (.ifCond .lt 8, 3) := by decide +kernel
theorem dX8_image_4 : decode cX8_image 4 = .ok (.iload_n 1, 1) := by decide +kernel
theorem dX8_image_5 : decode cX8_image 5 = .ok (.iconst 2, 1) := by decide +kernel
theorem dX8_image_6 : decode cX8_image 6 = .ok (.if_icmp .lt 6, 3) := by decide +kernel
theorem dX8_image_9 : decode cX8_image 9 = .ok (.ldc 71, 2) := by decide +kernel
theorem dX8_image_11 : decode cX8_image 11 = .ok (.ireturn, 1) := by decide +kernel
theorem dX8_image_12 : decode cX8_image 12 = .ok (.aload_n 0, 1) := by decide +kernel
theorem dX8_image_13 : decode cX8_image 13 = .ok (.getfield 26, 3) := by decide +kernel
theorem dX8_image_16 : decode cX8_image 16 = .ok (.invokevirtual 257, 3) := by decide +kernel
theorem dX8_image_19 : decode cX8_image 19 = .ok (.ifCond .ne 6, 3) := by decide +kernel
theorem dX8_image_22 : decode cX8_image 22 = .ok (.ldc 143, 2) := by decide +kernel
theorem dX8_image_24 : decode cX8_image 24 = .ok (.ireturn, 1) := by decide +kernel
theorem dX8_image_25 : decode cX8_image 25 = .ok (.aload_n 0, 1) := by decide +kernel
theorem dX8_image_26 : decode cX8_image 26 = .ok (.getfield 33, 3) := by decide +kernel
theorem dX8_image_29 : decode cX8_image 29 = .ok (.iload_n 1, 1) := by decide +kernel
theorem dX8_image_30 : decode cX8_image 30 = .ok (.aaload, 1) := by decide +kernel
theorem dX8_image_31 : decode cX8_image 31 = .ok (.aload_n 0, 1) := by decide +kernel
theorem dX8_image_32 : decode cX8_image 32 = .ok (.getfield 26, 3) := by decide +kernel
theorem dX8_image_35 : decode cX8_image 35 = .ok (.invokevirtual 121, 3) := by decide +kernel
theorem dX8_image_38 : decode cX8_image 38 = .ok (.iconst 1, 1) := by decide +kernel
theorem dX8_image_39 : decode cX8_image 39 = .ok (.ireturn, 1) := by decide +kernel
theorem dX8_restore_0 : decode cX8_restore 0 = .ok (.iload_n 1, 1) := by decide +kernel
theorem dX8_restore_1 : decode cX8_restore 1 = .ok (.ifCond .lt 8, 3) := by decide +kernel
theorem dX8_restore_4 : decode cX8_restore 4 = .ok (.iload_n 1, 1) := by decide +kernel
theorem dX8_restore_5 : decode cX8_restore 5 = .ok (.iconst 2, 1) := by decide +kernel
theorem dX8_restore_6 : decode cX8_restore 6 = .ok (.if_icmp .lt 6, 3) := by decide +kernel
theorem dX8_restore_9 : decode cX8_restore 9 = .ok (.ldc 71, 2) := by decide +kernel
theorem dX8_restore_11 : decode cX8_restore 11 = .ok (.ireturn, 1) := by decide +kernel
theorem dX8_restore_12 : decode cX8_restore 12 = .ok (.aload_n 0, 1) := by decide +kernel
theorem dX8_restore_13 : decode cX8_restore 13 = .ok (.getfield 33, 3) := by decide +kernel
theorem dX8_restore_16 : decode cX8_restore 16 = .ok (.iload_n 1, 1) := by decide +kernel
theorem dX8_restore_17 : decode cX8_restore 17 = .ok (.aaload, 1) := by decide +kernel
theorem dX8_restore_18 : decode cX8_restore 18 = .ok (.invokevirtual 257, 3) := by decide +kernel
theorem dX8_restore_21 : decode cX8_restore 21 = .ok (.ifCond .ne 6, 3) := by decide +kernel
theorem dX8_restore_24 : decode cX8_restore 24 = .ok (.ldc 143, 2) := by decide +kernel
theorem dX8_restore_26 : decode cX8_restore 26 = .ok (.ireturn, 1) := by decide +kernel
theorem dX8_restore_27 : decode cX8_restore 27 = .ok (.aload_n 0, 1) := by decide +kernel
theorem dX8_restore_28 : decode cX8_restore 28 = .ok (.getfield 26, 3) := by decide +kernel
theorem dX8_restore_31 : decode cX8_restore 31 = .ok (.aload_n 0, 1) := by decide +kernel
theorem dX8_restore_32 : decode cX8_restore 32 = .ok (.getfield 33, 3) := by decide +kernel
theorem dX8_restore_35 : decode cX8_restore 35 = .ok (.iload_n 1, 1) := by decide +kernel
theorem dX8_restore_36 : decode cX8_restore 36 = .ok (.aaload, 1) := by decide +kernel
theorem dX8_restore_37 : decode cX8_restore 37 = .ok (.invokevirtual 121, 3) := by decide +kernel
theorem dX8_restore_40 : decode cX8_restore 40 = .ok (.aload_n 0, 1) := by decide +kernel
theorem dX8_restore_41 : decode cX8_restore 41 = .ok (.getfield 40, 3) := by decide +kernel
theorem dX8_restore_44 : decode cX8_restore 44 = .ok (.invokevirtual 124, 3) := by decide +kernel
theorem dX8_restore_47 : decode cX8_restore 47 = .ok (.iconst 1, 1) := by decide +kernel
theorem dX8_restore_48 : decode cX8_restore 48 = .ok (.ireturn, 1) := by decide +kernel
theorem dX8_kind_0 : decode cX8_kind 0 = .ok (.aload_n 0, 1) := by decide +kernel
theorem dX8_kind_1 : decode cX8_kind 1 = .ok (.getfield 26, 3) := by decide +kernel
theorem dX8_kind_4 : decode cX8_kind 4 = .ok (.iload_n 1, 1) := by decide +kernel
theorem dX8_kind_5 : decode cX8_kind 5 = .ok (.invokevirtual 136, 3) := by decide +kernel
theorem dX8_kind_8 : decode cX8_kind 8 = .ok (.ifCond .eq 15, 3) := by decide +kernel
theorem dX8_kind_11 : decode cX8_kind 11 = .ok (.aload_n 0, 1) := by decide +kernel
theorem dX8_kind_12 : decode cX8_kind 12 = .ok (.getfield 26, 3) := by decide +kernel
theorem dX8_kind_15 : decode cX8_kind 15 = .ok (.getfield 269, 3) := by decide +kernel
theorem dX8_kind_18 : decode cX8_kind 18 = .ok (.iload_n 1, 1) := by decide +kernel
theorem dX8_kind_19 : decode cX8_kind 19 = .ok (.iaload, 1) := by decide +kernel
theorem dX8_kind_20 : decode cX8_kind 20 = .ok (.goto 5, 3) := by decide +kernel
theorem dX8_kind_23 : decode cX8_kind 23 = .ok (.ldc 71, 2) := by decide +kernel
theorem dX8_kind_25 : decode cX8_kind 25 = .ok (.ireturn, 1) := by decide +kernel
theorem dX8_as_0 : decode cX8_as 0 = .ok (.aload_n 0, 1) := by decide +kernel
theorem dX8_as_1 : decode cX8_as 1 = .ok (.getfield 26, 3) := by decide +kernel
theorem dX8_as_4 : decode cX8_as 4 = .ok (.iload_n 1, 1) := by decide +kernel
theorem dX8_as_5 : decode cX8_as 5 = .ok (.invokevirtual 136, 3) := by decide +kernel
theorem dX8_as_8 : decode cX8_as 8 = .ok (.ifCond .eq 10, 3) := by decide +kernel
theorem dX8_as_11 : decode cX8_as 11 = .ok (.iload_n 2, 1) := by decide +kernel
theorem dX8_as_12 : decode cX8_as 12 = .ok (.invokestatic 272, 3) := by decide +kernel
theorem dX8_as_15 : decode cX8_as 15 = .ok (.ifCond .ne 6, 3) := by decide +kernel
theorem dX8_as_18 : decode cX8_as 18 = .ok (.ldc 71, 2) := by decide +kernel
theorem dX8_as_20 : decode cX8_as 20 = .ok (.ireturn, 1) := by decide +kernel
theorem dX8_as_21 : decode cX8_as 21 = .ok (.aload_n 0, 1) := by decide +kernel
theorem dX8_as_22 : decode cX8_as 22 = .ok (.getfield 26, 3) := by decide +kernel
theorem dX8_as_25 : decode cX8_as 25 = .ok (.getfield 269, 3) := by decide +kernel
theorem dX8_as_28 : decode cX8_as 28 = .ok (.iload_n 1, 1) := by decide +kernel
theorem dX8_as_29 : decode cX8_as 29 = .ok (.iaload, 1) := by decide +kernel
theorem dX8_as_30 : decode cX8_as 30 = .ok (.iload_n 2, 1) := by decide +kernel
theorem dX8_as_31 : decode cX8_as 31 = .ok (.invokestatic 277, 3) := by decide +kernel
theorem dX8_as_34 : decode cX8_as 34 = .ok (.ifCond .ne 9, 3) := by decide +kernel
theorem dX8_as_37 : decode cX8_as 37 = .ok (.aload_n 0, 1) := by decide +kernel
theorem dX8_as_38 : decode cX8_as 38 = .ok (.iconst 3, 1) := by decide +kernel
theorem dX8_as_39 : decode cX8_as 39 = .ok (.invokevirtual 72, 3) := by decide +kernel
theorem dX8_as_42 : decode cX8_as 42 = .ok (.ireturn, 1) := by decide +kernel
theorem dX8_as_43 : decode cX8_as 43 = .ok (.aload_n 0, 1) := by decide +kernel
theorem dX8_as_44 : decode cX8_as 44 = .ok (.iload_n 1, 1) := by decide +kernel
theorem dX8_as_45 : decode cX8_as 45 = .ok (.invokevirtual 80, 3) := by decide +kernel
theorem dX8_as_48 : decode cX8_as 48 = .ok (.ireturn, 1) := by decide +kernel
theorem dX8_ask_0 : decode cX8_ask 0 = .ok (.aload_n 0, 1) := by decide +kernel
theorem dX8_ask_1 : decode cX8_ask 1 = .ok (.getfield 26, 3) := by decide +kernel
theorem dX8_ask_4 : decode cX8_ask 4 = .ok (.iload_n 1, 1) := by decide +kernel
theorem dX8_ask_5 : decode cX8_ask 5 = .ok (.invokevirtual 136, 3) := by decide +kernel
theorem dX8_ask_8 : decode cX8_ask 8 = .ok (.ifCond .eq 12, 3) := by decide +kernel
theorem dX8_ask_11 : decode cX8_ask 11 = .ok (.iload_n 2, 1) := by decide +kernel
theorem dX8_ask_12 : decode cX8_ask 12 = .ok (.ifCond .lt 8, 3) := by decide +kernel
theorem dX8_ask_15 : decode cX8_ask 15 = .ok (.iload_n 2, 1) := by decide +kernel
theorem dX8_ask_16 : decode cX8_ask 16 = .ok (.iconst 1, 1) := by decide +kernel
theorem dX8_ask_17 : decode cX8_ask 17 = .ok (.if_icmp .le 6, 3) := by decide +kernel
theorem dX8_ask_20 : decode cX8_ask 20 = .ok (.ldc 71, 2) := by decide +kernel
theorem dX8_ask_22 : decode cX8_ask 22 = .ok (.ireturn, 1) := by decide +kernel
theorem dX8_ask_23 : decode cX8_ask 23 = .ok (.aload_n 0, 1) := by decide +kernel
theorem dX8_ask_24 : decode cX8_ask 24 = .ok (.getfield 56, 3) := by decide +kernel
theorem dX8_ask_27 : decode cX8_ask 27 = .ok (.iload_n 1, 1) := by decide +kernel
theorem dX8_ask_28 : decode cX8_ask 28 = .ok (.iload_n 2, 1) := by decide +kernel
theorem dX8_ask_29 : decode cX8_ask 29 = .ok (.invokevirtual 280, 3) := by decide +kernel
theorem dX8_ask_32 : decode cX8_ask 32 = .ok (.ireturn, 1) := by decide +kernel
theorem dX8_trace_0 : decode cX8_trace 0 = .ok (.aload_n 0, 1) := by decide +kernel
theorem dX8_trace_1 : decode cX8_trace 1 = .ok (.getfield 56, 3) := by decide +kernel
theorem dX8_trace_4 : decode cX8_trace 4 = .ok (.iload_n 1, 1) := by decide +kernel
theorem dX8_trace_5 : decode cX8_trace 5 = .ok (.invokevirtual 283, 3) := by decide +kernel
theorem dX8_trace_8 : decode cX8_trace 8 = .ok (.ireturn, 1) := by decide +kernel
theorem dX8_count_0 : decode cX8_count 0 = .ok (.iload_n 1, 1) := by decide +kernel
theorem dX8_count_1 : decode cX8_count 1 = .ok (.tableswitch 99 0 6 #[43, 51, 59, 67, 75, 83, 91], 43) := by decide +kernel
theorem dX8_count_44 : decode cX8_count 44 = .ok (.aload_n 0, 1) := by decide +kernel
theorem dX8_count_45 : decode cX8_count 45 = .ok (.getfield 10, 3) := by decide +kernel
theorem dX8_count_48 : decode cX8_count 48 = .ok (.invokevirtual 286, 3) := by decide +kernel
theorem dX8_count_51 : decode cX8_count 51 = .ok (.ireturn, 1) := by decide +kernel
theorem dX8_count_52 : decode cX8_count 52 = .ok (.aload_n 0, 1) := by decide +kernel
theorem dX8_count_53 : decode cX8_count 53 = .ok (.getfield 26, 3) := by decide +kernel
theorem dX8_count_56 : decode cX8_count 56 = .ok (.getfield 239, 3) := by decide +kernel
theorem dX8_count_59 : decode cX8_count 59 = .ok (.ireturn, 1) := by decide +kernel
theorem dX8_count_60 : decode cX8_count 60 = .ok (.aload_n 0, 1) := by decide +kernel
theorem dX8_count_61 : decode cX8_count 61 = .ok (.getfield 26, 3) := by decide +kernel
theorem dX8_count_64 : decode cX8_count 64 = .ok (.getfield 127, 3) := by decide +kernel
theorem dX8_count_67 : decode cX8_count 67 = .ok (.ireturn, 1) := by decide +kernel
theorem dX8_count_68 : decode cX8_count 68 = .ok (.aload_n 0, 1) := by decide +kernel
theorem dX8_count_69 : decode cX8_count 69 = .ok (.getfield 26, 3) := by decide +kernel
theorem dX8_count_72 : decode cX8_count 72 = .ok (.getfield 289, 3) := by decide +kernel
theorem dX8_count_75 : decode cX8_count 75 = .ok (.ireturn, 1) := by decide +kernel
theorem dX8_count_76 : decode cX8_count 76 = .ok (.aload_n 0, 1) := by decide +kernel
theorem dX8_count_77 : decode cX8_count 77 = .ok (.getfield 26, 3) := by decide +kernel
theorem dX8_count_80 : decode cX8_count 80 = .ok (.getfield 292, 3) := by decide +kernel
theorem dX8_count_83 : decode cX8_count 83 = .ok (.ireturn, 1) := by decide +kernel
theorem dX8_count_84 : decode cX8_count 84 = .ok (.aload_n 0, 1) := by decide +kernel
theorem dX8_count_85 : decode cX8_count 85 = .ok (.getfield 40, 3) := by decide +kernel
theorem dX8_count_88 : decode cX8_count 88 = .ok (.invokevirtual 184, 3) := by decide +kernel
theorem dX8_count_91 : decode cX8_count 91 = .ok (.ireturn, 1) := by decide +kernel
theorem dX8_count_92 : decode cX8_count 92 = .ok (.aload_n 0, 1) := by decide +kernel
theorem dX8_count_93 : decode cX8_count 93 = .ok (.getfield 19, 3) := by decide +kernel
theorem dX8_count_96 : decode cX8_count 96 = .ok (.invokevirtual 295, 3) := by decide +kernel
theorem dX8_count_99 : decode cX8_count 99 = .ok (.ireturn, 1) := by decide +kernel
theorem dX8_count_100 : decode cX8_count 100 = .ok (.ldc 71, 2) := by decide +kernel
theorem dX8_count_102 : decode cX8_count 102 = .ok (.ireturn, 1) := by decide +kernel
theorem dX8_status_0 : decode cX8_status 0 = .ok (.aload_n 0, 1) := by decide +kernel
theorem dX8_status_1 : decode cX8_status 1 = .ok (.getfield 60, 3) := by decide +kernel
theorem dX8_status_4 : decode cX8_status 4 = .ok (.ireturn, 1) := by decide +kernel
theorem dX8_found_0 : decode cX8_found 0 = .ok (.aload_n 0, 1) := by decide +kernel
theorem dX8_found_1 : decode cX8_found 1 = .ok (.iload_n 1, 1) := by decide +kernel
theorem dX8_found_2 : decode cX8_found 2 = .ok (.putfield 60, 3) := by decide +kernel
theorem dX8_found_5 : decode cX8_found 5 = .ok (.ldc_w 298, 3) := by decide +kernel
theorem dX8_found_8 : decode cX8_found 8 = .ok (.iload_n 1, 1) := by decide +kernel
theorem dX8_found_9 : decode cX8_found 9 = .ok (.isub, 1) := by decide +kernel
theorem dX8_found_10 : decode cX8_found 10 = .ok (.ireturn, 1) := by decide +kernel
theorem dX8_unfound_0 : decode cX8_unfound 0 = .ok (.aload_n 0, 1) := by decide +kernel
theorem dX8_unfound_1 : decode cX8_unfound 1 = .ok (.iconst 0, 1) := by decide +kernel
theorem dX8_unfound_2 : decode cX8_unfound 2 = .ok (.putfield 60, 3) := by decide +kernel
theorem dX8_unfound_5 : decode cX8_unfound 5 = .ok (.iload_n 1, 1) := by decide +kernel
theorem dX8_unfound_6 : decode cX8_unfound 6 = .ok (.ireturn, 1) := by decide +kernel
theorem dX8_isTelling_0 : decode cX8_isTelling 0 = .ok (.iload_n 0, 1) := by decide +kernel
theorem dX8_isTelling_1 : decode cX8_isTelling 1 = .ok (.invokestatic 64, 3) := by decide +kernel
theorem dX8_isTelling_4 : decode cX8_isTelling 4 = .ok (.ifCond .eq 17, 3) := by decide +kernel
theorem dX8_isTelling_7 : decode cX8_isTelling 7 = .ok (.iload_n 1, 1) := by decide +kernel
theorem dX8_isTelling_8 : decode cX8_isTelling 8 = .ok (.ifCond .lt 13, 3) := by decide +kernel
theorem dX8_isTelling_11 : decode cX8_isTelling 11 = .ok (.iload_n 1, 1) := by decide +kernel
theorem dX8_isTelling_12 : decode cX8_isTelling 12 = .ok (.bipush 6, 2) := by decide +kernel
theorem dX8_isTelling_14 : decode cX8_isTelling 14 = .ok (.if_icmp .gt 7, 3) := by decide +kernel
theorem dX8_isTelling_17 : decode cX8_isTelling 17 = .ok (.iconst 1, 1) := by decide +kernel
theorem dX8_isTelling_18 : decode cX8_isTelling 18 = .ok (.goto 4, 3) := by decide +kernel
theorem dX8_isTelling_21 : decode cX8_isTelling 21 = .ok (.iconst 0, 1) := by decide +kernel
theorem dX8_isTelling_22 : decode cX8_isTelling 22 = .ok (.ireturn, 1) := by decide +kernel
theorem dX8_takeTelling_0 : decode cX8_takeTelling 0 = .ok (.aload_n 0, 1) := by decide +kernel
theorem dX8_takeTelling_1 : decode cX8_takeTelling 1 = .ok (.getfield 10, 3) := by decide +kernel
theorem dX8_takeTelling_4 : decode cX8_takeTelling 4 = .ok (.iload_n 1, 1) := by decide +kernel
theorem dX8_takeTelling_5 : decode cX8_takeTelling 5 = .ok (.invokevirtual 83, 3) := by decide +kernel
theorem dX8_takeTelling_8 : decode cX8_takeTelling 8 = .ok (.ifCond .eq 9, 3) := by decide +kernel
theorem dX8_takeTelling_11 : decode cX8_takeTelling 11 = .ok (.aload_n 0, 1) := by decide +kernel
theorem dX8_takeTelling_12 : decode cX8_takeTelling 12 = .ok (.iconst 1, 1) := by decide +kernel
theorem dX8_takeTelling_13 : decode cX8_takeTelling 13 = .ok (.invokevirtual 72, 3) := by decide +kernel
theorem dX8_takeTelling_16 : decode cX8_takeTelling 16 = .ok (.ireturn, 1) := by decide +kernel
theorem dX8_takeTelling_17 : decode cX8_takeTelling 17 = .ok (.aload_n 0, 1) := by decide +kernel
theorem dX8_takeTelling_18 : decode cX8_takeTelling 18 = .ok (.getfield 10, 3) := by decide +kernel
theorem dX8_takeTelling_21 : decode cX8_takeTelling 21 = .ok (.iload_n 1, 1) := by decide +kernel
theorem dX8_takeTelling_22 : decode cX8_takeTelling 22 = .ok (.iload_n 2, 1) := by decide +kernel
theorem dX8_takeTelling_23 : decode cX8_takeTelling 23 = .ok (.iconst 2, 1) := by decide +kernel
theorem dX8_takeTelling_24 : decode cX8_takeTelling 24 = .ok (.iload_n 3, 1) := by decide +kernel
theorem dX8_takeTelling_25 : decode cX8_takeTelling 25 = .ok (.imul, 1) := by decide +kernel
theorem dX8_takeTelling_26 : decode cX8_takeTelling 26 = .ok (.invokevirtual 86, 3) := by decide +kernel
theorem dX8_takeTelling_29 : decode cX8_takeTelling 29 = .ok (.ifCond .ne 9, 3) := by decide +kernel
theorem dX8_takeTelling_32 : decode cX8_takeTelling 32 = .ok (.aload_n 0, 1) := by decide +kernel
theorem dX8_takeTelling_33 : decode cX8_takeTelling 33 = .ok (.iconst 2, 1) := by decide +kernel
theorem dX8_takeTelling_34 : decode cX8_takeTelling 34 = .ok (.invokevirtual 72, 3) := by decide +kernel
theorem dX8_takeTelling_37 : decode cX8_takeTelling 37 = .ok (.ireturn, 1) := by decide +kernel
theorem dX8_takeTelling_38 : decode cX8_takeTelling 38 = .ok (.aload_n 0, 1) := by decide +kernel
theorem dX8_takeTelling_39 : decode cX8_takeTelling 39 = .ok (.getfield 49, 3) := by decide +kernel
theorem dX8_takeTelling_42 : decode cX8_takeTelling 42 = .ok (.aload_n 0, 1) := by decide +kernel
theorem dX8_takeTelling_43 : decode cX8_takeTelling 43 = .ok (.getfield 10, 3) := by decide +kernel
theorem dX8_takeTelling_46 : decode cX8_takeTelling 46 = .ok (.iload_n 1, 1) := by decide +kernel
theorem dX8_takeTelling_47 : decode cX8_takeTelling 47 = .ok (.iload_n 2, 1) := by decide +kernel
theorem dX8_takeTelling_48 : decode cX8_takeTelling 48 = .ok (.iload_n 3, 1) := by decide +kernel
theorem dX8_takeTelling_49 : decode cX8_takeTelling 49 = .ok (.invokevirtual 299, 3) := by decide +kernel
theorem dX8_takeTelling_52 : decode cX8_takeTelling 52 = .ok (.ifCond .eq 7, 3) := by decide +kernel
theorem dX8_takeTelling_55 : decode cX8_takeTelling 55 = .ok (.iconst 0, 1) := by decide +kernel
theorem dX8_takeTelling_56 : decode cX8_takeTelling 56 = .ok (.goto 5, 3) := by decide +kernel
theorem dX8_takeTelling_59 : decode cX8_takeTelling 59 = .ok (.ldc 71, 2) := by decide +kernel
theorem dX8_takeTelling_61 : decode cX8_takeTelling 61 = .ok (.ireturn, 1) := by decide +kernel
theorem dX8_commonDivisor_0 : decode cX8_commonDivisor 0 = .ok (.iload_n 0, 1) := by decide +kernel
theorem dX8_commonDivisor_1 : decode cX8_commonDivisor 1 = .ok (.iload_n 1, 1) := by decide +kernel
theorem dX8_commonDivisor_2 : decode cX8_commonDivisor 2 = .ok (.invokestatic 302, 3) := by decide +kernel
theorem dX8_commonDivisor_5 : decode cX8_commonDivisor 5 = .ok (.istore_n 2, 1) := by decide +kernel
theorem dX8_commonDivisor_6 : decode cX8_commonDivisor 6 = .ok (.iload_n 0, 1) := by decide +kernel
theorem dX8_commonDivisor_7 : decode cX8_commonDivisor 7 = .ok (.iload_n 1, 1) := by decide +kernel
theorem dX8_commonDivisor_8 : decode cX8_commonDivisor 8 = .ok (.invokestatic 307, 3) := by decide +kernel
theorem dX8_commonDivisor_11 : decode cX8_commonDivisor 11 = .ok (.istore_n 3, 1) := by decide +kernel
theorem dX8_commonDivisor_12 : decode cX8_commonDivisor 12 = .ok (.iconst 0, 1) := by decide +kernel
theorem dX8_commonDivisor_13 : decode cX8_commonDivisor 13 = .ok (.istore 4, 2) := by decide +kernel
theorem dX8_commonDivisor_15 : decode cX8_commonDivisor 15 = .ok (.iload 4, 2) := by decide +kernel
theorem dX8_commonDivisor_17 : decode cX8_commonDivisor 17 = .ok (.bipush 64, 2) := by decide +kernel
theorem dX8_commonDivisor_19 : decode cX8_commonDivisor 19 = .ok (.if_icmp .ge 23, 3) := by decide +kernel
theorem dX8_commonDivisor_22 : decode cX8_commonDivisor 22 = .ok (.iload_n 3, 1) := by decide +kernel
theorem dX8_commonDivisor_23 : decode cX8_commonDivisor 23 = .ok (.ifCond .le 19, 3) := by decide +kernel
theorem dX8_commonDivisor_26 : decode cX8_commonDivisor 26 = .ok (.iload_n 2, 1) := by decide +kernel
theorem dX8_commonDivisor_27 : decode cX8_commonDivisor 27 = .ok (.iload_n 3, 1) := by decide +kernel
theorem dX8_commonDivisor_28 : decode cX8_commonDivisor 28 = .ok (.irem, 1) := by decide +kernel
theorem dX8_commonDivisor_29 : decode cX8_commonDivisor 29 = .ok (.istore 5, 2) := by decide +kernel
theorem dX8_commonDivisor_31 : decode cX8_commonDivisor 31 = .ok (.iload_n 3, 1) := by decide +kernel
theorem dX8_commonDivisor_32 : decode cX8_commonDivisor 32 = .ok (.istore_n 2, 1) := by decide +kernel
theorem dX8_commonDivisor_33 : decode cX8_commonDivisor 33 = .ok (.iload 5, 2) := by decide +kernel
theorem dX8_commonDivisor_35 : decode cX8_commonDivisor 35 = .ok (.istore_n 3, 1) := by decide +kernel
theorem dX8_commonDivisor_36 : decode cX8_commonDivisor 36 = .ok (.iinc 4 1, 3) := by decide +kernel
theorem dX8_commonDivisor_39 : decode cX8_commonDivisor 39 = .ok (.goto (-24), 3) := by decide +kernel
theorem dX8_commonDivisor_42 : decode cX8_commonDivisor 42 = .ok (.iload_n 2, 1) := by decide +kernel
theorem dX8_commonDivisor_43 : decode cX8_commonDivisor 43 = .ok (.iconst 1, 1) := by decide +kernel
theorem dX8_commonDivisor_44 : decode cX8_commonDivisor 44 = .ok (.invokestatic 302, 3) := by decide +kernel
theorem dX8_commonDivisor_47 : decode cX8_commonDivisor 47 = .ok (.ireturn, 1) := by decide +kernel
theorem dX9_init_0 : decode cX9_init 0 = .ok (.aload_n 0, 1) := by decide +kernel
theorem dX9_init_1 : decode cX9_init 1 = .ok (.invokespecial 1, 3) := by decide +kernel
theorem dX9_init_4 : decode cX9_init 4 = .ok (.aload_n 0, 1) := by decide +kernel
theorem dX9_init_5 : decode cX9_init 5 = .ok (.bipush 8, 2) := by decide +kernel
theorem dX9_init_7 : decode cX9_init 7 = .ok (.newarray .int, 2) := by decide +kernel
theorem dX9_init_9 : decode cX9_init 9 = .ok (.putfield 7, 3) := by decide +kernel
theorem dX9_init_12 : decode cX9_init 12 = .ok (.aload_n 0, 1) := by decide +kernel
theorem dX9_init_13 : decode cX9_init 13 = .ok (.bipush 8, 2) := by decide +kernel
theorem dX9_init_15 : decode cX9_init 15 = .ok (.newarray .int, 2) := by decide +kernel
theorem dX9_init_17 : decode cX9_init 17 = .ok (.putfield 13, 3) := by decide +kernel
theorem dX9_init_20 : decode cX9_init 20 = .ok (.aload_n 0, 1) := by decide +kernel
theorem dX9_init_21 : decode cX9_init 21 = .ok (.sipush 320, 3) := by decide +kernel
theorem dX9_init_24 : decode cX9_init 24 = .ok (.newarray .int, 2) := by decide +kernel
theorem dX9_init_26 : decode cX9_init 26 = .ok (.putfield 16, 3) := by decide +kernel
theorem dX9_init_29 : decode cX9_init 29 = .ok (.aload_n 0, 1) := by decide +kernel
theorem dX9_init_30 : decode cX9_init 30 = .ok (.bipush 40, 2) := by decide +kernel
theorem dX9_init_32 : decode cX9_init 32 = .ok (.newarray .int, 2) := by decide +kernel
theorem dX9_init_34 : decode cX9_init 34 = .ok (.putfield 19, 3) := by decide +kernel
theorem dX9_init_37 : decode cX9_init 37 = .ok (.aload_n 0, 1) := by decide +kernel
theorem dX9_init_38 : decode cX9_init 38 = .ok (.bipush 120, 2) := by decide +kernel
theorem dX9_init_40 : decode cX9_init 40 = .ok (.newarray .int, 2) := by decide +kernel
theorem dX9_init_42 : decode cX9_init 42 = .ok (.putfield 22, 3) := by decide +kernel
theorem dX9_init_45 : decode cX9_init 45 = .ok (.aload_n 0, 1) := by decide +kernel
theorem dX9_init_46 : decode cX9_init 46 = .ok (.bipush 38, 2) := by decide +kernel
theorem dX9_init_48 : decode cX9_init 48 = .ok (.newarray .int, 2) := by decide +kernel
theorem dX9_init_50 : decode cX9_init 50 = .ok (.putfield 25, 3) := by decide +kernel
theorem dX9_init_53 : decode cX9_init 53 = .ok (.aload_n 0, 1) := by decide +kernel
theorem dX9_init_54 : decode cX9_init 54 = .ok (.bipush 38, 2) := by decide +kernel
theorem dX9_init_56 : decode cX9_init 56 = .ok (.newarray .int, 2) := by decide +kernel
theorem dX9_init_58 : decode cX9_init 58 = .ok (.putfield 28, 3) := by decide +kernel
theorem dX9_init_61 : decode cX9_init 61 = .ok (.aload_n 0, 1) := by decide +kernel
theorem dX9_init_62 : decode cX9_init 62 = .ok (.sipush 912, 3) := by decide +kernel
theorem dX9_init_65 : decode cX9_init 65 = .ok (.newarray .int, 2) := by decide +kernel
theorem dX9_init_67 : decode cX9_init 67 = .ok (.putfield 31, 3) := by decide +kernel
theorem dX9_init_70 : decode cX9_init 70 = .ok (.aload_n 0, 1) := by decide +kernel
theorem dX9_init_71 : decode cX9_init 71 = .ok (.bipush 76, 2) := by decide +kernel
theorem dX9_init_73 : decode cX9_init 73 = .ok (.newarray .int, 2) := by decide +kernel
theorem dX9_init_75 : decode cX9_init 75 = .ok (.putfield 34, 3) := by decide +kernel
theorem dX9_init_78 : decode cX9_init 78 = .ok (.aload_n 0, 1) := by decide +kernel
theorem dX9_init_79 : decode cX9_init 79 = .ok (.iconst 2, 1) := by decide +kernel
theorem dX9_init_80 : decode cX9_init 80 = .ok (.newarray .boolean, 2) := by decide +kernel
theorem dX9_init_82 : decode cX9_init 82 = .ok (.putfield 37, 3) := by decide +kernel
theorem dX9_init_85 : decode cX9_init 85 = .ok (.aload_n 0, 1) := by decide +kernel
theorem dX9_init_86 : decode cX9_init 86 = .ok (.bipush 16, 2) := by decide +kernel
theorem dX9_init_88 : decode cX9_init 88 = .ok (.newarray .int, 2) := by decide +kernel
theorem dX9_init_90 : decode cX9_init 90 = .ok (.putfield 41, 3) := by decide +kernel
theorem dX9_init_93 : decode cX9_init 93 = .ok (.aload_n 0, 1) := by decide +kernel
theorem dX9_init_94 : decode cX9_init 94 = .ok (.iconst 4, 1) := by decide +kernel
theorem dX9_init_95 : decode cX9_init 95 = .ok (.newarray .int, 2) := by decide +kernel
theorem dX9_init_97 : decode cX9_init 97 = .ok (.putfield 44, 3) := by decide +kernel
theorem dX9_init_100 : decode cX9_init 100 = .ok (.aload_n 0, 1) := by decide +kernel
theorem dX9_init_101 : decode cX9_init 101 = .ok (.bipush 6, 2) := by decide +kernel
theorem dX9_init_103 : decode cX9_init 103 = .ok (.newarray .int, 2) := by decide +kernel
theorem dX9_init_105 : decode cX9_init 105 = .ok (.putfield 47, 3) := by decide +kernel
theorem dX9_init_108 : decode cX9_init 108 = .ok (.aload_n 0, 1) := by decide +kernel
theorem dX9_init_109 : decode cX9_init 109 = .ok (.bipush 6, 2) := by decide +kernel
theorem dX9_init_111 : decode cX9_init 111 = .ok (.newarray .int, 2) := by decide +kernel
theorem dX9_init_113 : decode cX9_init 113 = .ok (.putfield 50, 3) := by decide +kernel
theorem dX9_init_116 : decode cX9_init 116 = .ok (.iconst 0, 1) := by decide +kernel
theorem dX9_init_117 : decode cX9_init 117 = .ok (.istore_n 1, 1) := by decide +kernel
theorem dX9_init_118 : decode cX9_init 118 = .ok (.iload_n 1, 1) := by decide +kernel
theorem dX9_init_119 : decode cX9_init 119 = .ok (.bipush 8, 2) := by decide +kernel
theorem dX9_init_121 : decode cX9_init 121 = .ok (.if_icmp .ge 17, 3) := by decide +kernel
theorem dX9_init_124 : decode cX9_init 124 = .ok (.aload_n 0, 1) := by decide +kernel
theorem dX9_init_125 : decode cX9_init 125 = .ok (.getfield 7, 3) := by decide +kernel
theorem dX9_init_128 : decode cX9_init 128 = .ok (.iload_n 1, 1) := by decide +kernel
theorem dX9_init_129 : decode cX9_init 129 = .ok (.ldc 53, 2) := by decide +kernel
theorem dX9_init_131 : decode cX9_init 131 = .ok (.iastore, 1) := by decide +kernel
theorem dX9_init_132 : decode cX9_init 132 = .ok (.iinc 1 1, 3) := by decide +kernel
theorem dX9_init_135 : decode cX9_init 135 = .ok (.goto (-17), 3) := by decide +kernel
theorem dX9_init_138 : decode cX9_init 138 = .ok (.return_, 1) := by decide +kernel
theorem dX9_in_0 : decode cX9_in 0 = .ok (.iload_n 0, 1) := by decide +kernel
theorem dX9_in_1 : decode cX9_in 1 = .ok (.iload_n 1, 1) := by decide +kernel
theorem dX9_in_2 : decode cX9_in 2 = .ok (.if_icmp .lt 12, 3) := by decide +kernel
theorem dX9_in_5 : decode cX9_in 5 = .ok (.iload_n 0, 1) := by decide +kernel
theorem dX9_in_6 : decode cX9_in 6 = .ok (.iload_n 2, 1) := by decide +kernel
theorem dX9_in_7 : decode cX9_in 7 = .ok (.if_icmp .gt 7, 3) := by decide +kernel
theorem dX9_in_10 : decode cX9_in 10 = .ok (.iconst 1, 1) := by decide +kernel
theorem dX9_in_11 : decode cX9_in 11 = .ok (.goto 4, 3) := by decide +kernel
theorem dX9_in_14 : decode cX9_in 14 = .ok (.iconst 0, 1) := by decide +kernel
theorem dX9_in_15 : decode cX9_in 15 = .ok (.ireturn, 1) := by decide +kernel
theorem dX9_has_0 : decode cX9_has 0 = .ok (.iload_n 0, 1) := by decide +kernel
theorem dX9_has_1 : decode cX9_has 1 = .ok (.iload_n 1, 1) := by decide +kernel
theorem dX9_has_2 : decode cX9_has 2 = .ok (.ishr, 1) := by decide +kernel
theorem dX9_has_3 : decode cX9_has 3 = .ok (.iconst 1, 1) := by decide +kernel
theorem dX9_has_4 : decode cX9_has 4 = .ok (.iand, 1) := by decide +kernel
theorem dX9_has_5 : decode cX9_has 5 = .ok (.iconst 1, 1) := by decide +kernel
theorem dX9_has_6 : decode cX9_has 6 = .ok (.if_icmp .ne 7, 3) := by decide +kernel
theorem dX9_has_9 : decode cX9_has 9 = .ok (.iconst 1, 1) := by decide +kernel
theorem dX9_has_10 : decode cX9_has 10 = .ok (.goto 4, 3) := by decide +kernel
theorem dX9_has_13 : decode cX9_has 13 = .ok (.iconst 0, 1) := by decide +kernel
theorem dX9_has_14 : decode cX9_has 14 = .ok (.ireturn, 1) := by decide +kernel
theorem dX9_ones_0 : decode cX9_ones 0 = .ok (.iconst 0, 1) := by decide +kernel
theorem dX9_ones_1 : decode cX9_ones 1 = .ok (.istore_n 1, 1) := by decide +kernel
theorem dX9_ones_2 : decode cX9_ones 2 = .ok (.iconst 0, 1) := by decide +kernel
theorem dX9_ones_3 : decode cX9_ones 3 = .ok (.istore_n 2, 1) := by decide +kernel
theorem dX9_ones_4 : decode cX9_ones 4 = .ok (.iload_n 2, 1) := by decide +kernel
theorem dX9_ones_5 : decode cX9_ones 5 = .ok (.bipush 8, 2) := by decide +kernel
theorem dX9_ones_7 : decode cX9_ones 7 = .ok (.if_icmp .ge 17, 3) := by decide +kernel
theorem dX9_ones_10 : decode cX9_ones 10 = .ok (.iload_n 1, 1) := by decide +kernel
theorem dX9_ones_11 : decode cX9_ones 11 = .ok (.iload_n 0, 1) := by decide +kernel
theorem dX9_ones_12 : decode cX9_ones 12 = .ok (.iload_n 2, 1) := by decide +kernel
theorem dX9_ones_13 : decode cX9_ones 13 = .ok (.ishr, 1) := by decide +kernel
theorem dX9_ones_14 : decode cX9_ones 14 = .ok (.iconst 1, 1) := by decide +kernel
theorem dX9_ones_15 : decode cX9_ones 15 = .ok (.iand, 1) := by decide +kernel
theorem dX9_ones_16 : decode cX9_ones 16 = .ok (.iadd, 1) := by decide +kernel
theorem dX9_ones_17 : decode cX9_ones 17 = .ok (.istore_n 1, 1) := by decide +kernel
theorem dX9_ones_18 : decode cX9_ones 18 = .ok (.iinc 2 1, 3) := by decide +kernel
theorem dX9_ones_21 : decode cX9_ones 21 = .ok (.goto (-17), 3) := by decide +kernel
theorem dX9_ones_24 : decode cX9_ones 24 = .ok (.iload_n 1, 1) := by decide +kernel
theorem dX9_ones_25 : decode cX9_ones 25 = .ok (.ireturn, 1) := by decide +kernel
theorem dX9_found_0 : decode cX9_found 0 = .ok (.aload_n 0, 1) := by decide +kernel
theorem dX9_found_1 : decode cX9_found 1 = .ok (.iload_n 1, 1) := by decide +kernel
theorem dX9_found_2 : decode cX9_found 2 = .ok (.putfield 54, 3) := by decide +kernel
theorem dX9_found_5 : decode cX9_found 5 = .ok (.ldc 58, 2) := by decide +kernel
theorem dX9_found_7 : decode cX9_found 7 = .ok (.iload_n 1, 1) := by decide +kernel
theorem dX9_found_8 : decode cX9_found 8 = .ok (.isub, 1) := by decide +kernel
theorem dX9_found_9 : decode cX9_found 9 = .ok (.ireturn, 1) := by decide +kernel
theorem dX9_well_0 : decode cX9_well 0 = .ok (.aload_n 0, 1) := by decide +kernel
theorem dX9_well_1 : decode cX9_well 1 = .ok (.iconst 0, 1) := by decide +kernel
theorem dX9_well_2 : decode cX9_well 2 = .ok (.putfield 54, 3) := by decide +kernel
theorem dX9_well_5 : decode cX9_well 5 = .ok (.iload_n 1, 1) := by decide +kernel
theorem dX9_well_6 : decode cX9_well 6 = .ok (.ireturn, 1) := by decide +kernel
theorem dX9_copies_0 : decode cX9_copies 0 = .ok (.iconst 0, 1) := by decide +kernel
theorem dX9_copies_1 : decode cX9_copies 1 = .ok (.istore 4, 2) := by decide +kernel
theorem dX9_copies_3 : decode cX9_copies 3 = .ok (.iload 4, 2) := by decide +kernel
theorem dX9_copies_5 : decode cX9_copies 5 = .ok (.bipush 38, 2) := by decide +kernel
theorem dX9_copies_7 : decode cX9_copies 7 = .ok (.if_icmp .ge 21, 3) := by decide +kernel
theorem dX9_copies_10 : decode cX9_copies 10 = .ok (.aload_n 2, 1) := by decide +kernel
theorem dX9_copies_11 : decode cX9_copies 11 = .ok (.iload_n 3, 1) := by decide +kernel
theorem dX9_copies_12 : decode cX9_copies 12 = .ok (.iload 4, 2) := by decide +kernel
theorem dX9_copies_14 : decode cX9_copies 14 = .ok (.iadd, 1) := by decide +kernel
theorem dX9_copies_15 : decode cX9_copies 15 = .ok (.aload_n 0, 1) := by decide +kernel
theorem dX9_copies_16 : decode cX9_copies 16 = .ok (.iload_n 1, 1) := by decide +kernel
theorem dX9_copies_17 : decode cX9_copies 17 = .ok (.iload 4, 2) := by decide +kernel
theorem dX9_copies_19 : decode cX9_copies 19 = .ok (.iadd, 1) := by decide +kernel
theorem dX9_copies_20 : decode cX9_copies 20 = .ok (.iaload, 1) := by decide +kernel
theorem dX9_copies_21 : decode cX9_copies 21 = .ok (.iastore, 1) := by decide +kernel
theorem dX9_copies_22 : decode cX9_copies 22 = .ok (.iinc 4 1, 3) := by decide +kernel
theorem dX9_copies_25 : decode cX9_copies 25 = .ok (.goto (-22), 3) := by decide +kernel
theorem dX9_copies_28 : decode cX9_copies 28 = .ok (.return_, 1) := by decide +kernel
theorem dX9_isRow_0 : decode cX9_isRow 0 = .ok (.iload_n 0, 1) := by decide +kernel
theorem dX9_isRow_1 : decode cX9_isRow 1 = .ok (.iconst 0, 1) := by decide +kernel
theorem dX9_isRow_2 : decode cX9_isRow 2 = .ok (.bipush 7, 2) := by decide +kernel
theorem dX9_isRow_4 : decode cX9_isRow 4 = .ok (.invokestatic 59, 3) := by decide +kernel
theorem dX9_isRow_7 : decode cX9_isRow 7 = .ok (.ireturn, 1) := by decide +kernel
theorem dX9_isMissing_0 : decode cX9_isMissing 0 = .ok (.aload_n 0, 1) := by decide +kernel
theorem dX9_isMissing_1 : decode cX9_isMissing 1 = .ok (.getfield 7, 3) := by decide +kernel
theorem dX9_isMissing_4 : decode cX9_isMissing 4 = .ok (.iload_n 1, 1) := by decide +kernel
theorem dX9_isMissing_5 : decode cX9_isMissing 5 = .ok (.iaload, 1) := by decide +kernel
theorem dX9_isMissing_6 : decode cX9_isMissing 6 = .ok (.ldc 53, 2) := by decide +kernel
theorem dX9_isMissing_8 : decode cX9_isMissing 8 = .ok (.if_icmp .ne 7, 3) := by decide +kernel
theorem dX9_isMissing_11 : decode cX9_isMissing 11 = .ok (.iconst 1, 1) := by decide +kernel
theorem dX9_isMissing_12 : decode cX9_isMissing 12 = .ok (.goto 4, 3) := by decide +kernel
theorem dX9_isMissing_15 : decode cX9_isMissing 15 = .ok (.iconst 0, 1) := by decide +kernel
theorem dX9_isMissing_16 : decode cX9_isMissing 16 = .ok (.ireturn, 1) := by decide +kernel
theorem dX9_cut_0 : decode cX9_cut 0 = .ok (.iload_n 0, 1) := by decide +kernel
theorem dX9_cut_1 : decode cX9_cut 1 = .ok (.ifCond .ne 13, 3) := by decide +kernel
theorem dX9_cut_4 : decode cX9_cut 4 = .ok (.iload_n 1, 1) := by decide +kernel
theorem dX9_cut_5 : decode cX9_cut 5 = .ok (.bipush 24, 2) := by decide +kernel
theorem dX9_cut_7 : decode cX9_cut 7 = .ok (.ishl, 1) := by decide +kernel
theorem dX9_cut_8 : decode cX9_cut 8 = .ok (.bipush 24, 2) := by decide +kernel
theorem dX9_cut_10 : decode cX9_cut 10 = .ok (.ishr, 1) := by decide +kernel
theorem dX9_cut_11 : decode cX9_cut 11 = .ok (.goto 19, 3) := by decide +kernel
theorem dX9_cut_14 : decode cX9_cut 14 = .ok (.iload_n 0, 1) := by decide +kernel
theorem dX9_cut_15 : decode cX9_cut 15 = .ok (.iconst 1, 1) := by decide +kernel
theorem dX9_cut_16 : decode cX9_cut 16 = .ok (.if_icmp .ne 13, 3) := by decide +kernel
theorem dX9_cut_19 : decode cX9_cut 19 = .ok (.iload_n 1, 1) := by decide +kernel
theorem dX9_cut_20 : decode cX9_cut 20 = .ok (.bipush 16, 2) := by decide +kernel
theorem dX9_cut_22 : decode cX9_cut 22 = .ok (.ishl, 1) := by decide +kernel
theorem dX9_cut_23 : decode cX9_cut 23 = .ok (.bipush 16, 2) := by decide +kernel
end
section
theorem dX9_cut_25 : decode cX9_cut 25 = .ok (.ishr, 1) := by decide +kernel
theorem dX9_cut_26 : decode cX9_cut 26 = .ok (.goto 4, 3) := by decide +kernel
theorem dX9_cut_29 : decode cX9_cut 29 = .ok (.iload_n 1, 1) := by decide +kernel
theorem dX9_cut_30 : decode cX9_cut 30 = .ok (.ireturn, 1) := by decide +kernel
theorem dX9_row_0 : decode cX9_row 0 = .ok (.iload_n 1, 1) := by decide +kernel
theorem dX9_row_1 : decode cX9_row 1 = .ok (.invokestatic 63, 3) := by decide +kernel
theorem dX9_row_4 : decode cX9_row 4 = .ok (.ifCond .eq 18, 3) := by decide +kernel
theorem dX9_row_7 : decode cX9_row 7 = .ok (.iload_n 2, 1) := by decide +kernel
theorem dX9_row_8 : decode cX9_row 8 = .ok (.iconst 0, 1) := by decide +kernel
theorem dX9_row_9 : decode cX9_row 9 = .ok (.iconst 2, 1) := by decide +kernel
theorem dX9_row_10 : decode cX9_row 10 = .ok (.invokestatic 59, 3) := by decide +kernel
theorem dX9_row_13 : decode cX9_row 13 = .ok (.ifCond .eq 9, 3) := by decide +kernel
theorem dX9_row_16 : decode cX9_row 16 = .ok (.iload_n 3, 1) := by decide +kernel
theorem dX9_row_17 : decode cX9_row 17 = .ok (.bipush 40, 2) := by decide +kernel
theorem dX9_row_19 : decode cX9_row 19 = .ok (.if_icmp .le 6, 3) := by decide +kernel
theorem dX9_row_22 : decode cX9_row 22 = .ok (.ldc 67, 2) := by decide +kernel
theorem dX9_row_24 : decode cX9_row 24 = .ok (.ireturn, 1) := by decide +kernel
theorem dX9_row_25 : decode cX9_row 25 = .ok (.iload_n 3, 1) := by decide +kernel
theorem dX9_row_26 : decode cX9_row 26 = .ok (.ifCond .ge 9, 3) := by decide +kernel
theorem dX9_row_29 : decode cX9_row 29 = .ok (.aload_n 0, 1) := by decide +kernel
theorem dX9_row_30 : decode cX9_row 30 = .ok (.iconst 4, 1) := by decide +kernel
theorem dX9_row_31 : decode cX9_row 31 = .ok (.invokevirtual 68, 3) := by decide +kernel
theorem dX9_row_34 : decode cX9_row 34 = .ok (.ireturn, 1) := by decide +kernel
theorem dX9_row_35 : decode cX9_row 35 = .ok (.aload_n 0, 1) := by decide +kernel
theorem dX9_row_36 : decode cX9_row 36 = .ok (.getfield 7, 3) := by decide +kernel
theorem dX9_row_39 : decode cX9_row 39 = .ok (.iload_n 1, 1) := by decide +kernel
theorem dX9_row_40 : decode cX9_row 40 = .ok (.iload_n 2, 1) := by decide +kernel
theorem dX9_row_41 : decode cX9_row 41 = .ok (.iastore, 1) := by decide +kernel
theorem dX9_row_42 : decode cX9_row 42 = .ok (.aload_n 0, 1) := by decide +kernel
theorem dX9_row_43 : decode cX9_row 43 = .ok (.getfield 13, 3) := by decide +kernel
theorem dX9_row_46 : decode cX9_row 46 = .ok (.iload_n 1, 1) := by decide +kernel
theorem dX9_row_47 : decode cX9_row 47 = .ok (.iload_n 3, 1) := by decide +kernel
theorem dX9_row_48 : decode cX9_row 48 = .ok (.iastore, 1) := by decide +kernel
theorem dX9_row_49 : decode cX9_row 49 = .ok (.iconst 0, 1) := by decide +kernel
theorem dX9_row_50 : decode cX9_row 50 = .ok (.istore 4, 2) := by decide +kernel
theorem dX9_row_52 : decode cX9_row 52 = .ok (.iload 4, 2) := by decide +kernel
theorem dX9_row_54 : decode cX9_row 54 = .ok (.bipush 40, 2) := by decide +kernel
theorem dX9_row_56 : decode cX9_row 56 = .ok (.if_icmp .ge 22, 3) := by decide +kernel
theorem dX9_row_59 : decode cX9_row 59 = .ok (.aload_n 0, 1) := by decide +kernel
theorem dX9_row_60 : decode cX9_row 60 = .ok (.getfield 16, 3) := by decide +kernel
theorem dX9_row_63 : decode cX9_row 63 = .ok (.bipush 40, 2) := by decide +kernel
theorem dX9_row_65 : decode cX9_row 65 = .ok (.iload_n 1, 1) := by decide +kernel
theorem dX9_row_66 : decode cX9_row 66 = .ok (.imul, 1) := by decide +kernel
theorem dX9_row_67 : decode cX9_row 67 = .ok (.iload 4, 2) := by decide +kernel
theorem dX9_row_69 : decode cX9_row 69 = .ok (.iadd, 1) := by decide +kernel
theorem dX9_row_70 : decode cX9_row 70 = .ok (.iconst 0, 1) := by decide +kernel
theorem dX9_row_71 : decode cX9_row 71 = .ok (.iastore, 1) := by decide +kernel
theorem dX9_row_72 : decode cX9_row 72 = .ok (.iinc 4 1, 3) := by decide +kernel
theorem dX9_row_75 : decode cX9_row 75 = .ok (.goto (-23), 3) := by decide +kernel
theorem dX9_row_78 : decode cX9_row 78 = .ok (.aload_n 0, 1) := by decide +kernel
theorem dX9_row_79 : decode cX9_row 79 = .ok (.iload_n 3, 1) := by decide +kernel
theorem dX9_row_80 : decode cX9_row 80 = .ok (.invokevirtual 72, 3) := by decide +kernel
theorem dX9_row_83 : decode cX9_row 83 = .ok (.ireturn, 1) := by decide +kernel
theorem dX9_set_0 : decode cX9_set 0 = .ok (.iload_n 1, 1) := by decide +kernel
theorem dX9_set_1 : decode cX9_set 1 = .ok (.invokestatic 63, 3) := by decide +kernel
theorem dX9_set_4 : decode cX9_set 4 = .ok (.ifCond .ne 6, 3) := by decide +kernel
theorem dX9_set_7 : decode cX9_set 7 = .ok (.ldc 67, 2) := by decide +kernel
theorem dX9_set_9 : decode cX9_set 9 = .ok (.ireturn, 1) := by decide +kernel
theorem dX9_set_10 : decode cX9_set 10 = .ok (.aload_n 0, 1) := by decide +kernel
theorem dX9_set_11 : decode cX9_set 11 = .ok (.iload_n 1, 1) := by decide +kernel
theorem dX9_set_12 : decode cX9_set 12 = .ok (.invokevirtual 75, 3) := by decide +kernel
theorem dX9_set_15 : decode cX9_set 15 = .ok (.ifCond .eq 9, 3) := by decide +kernel
theorem dX9_set_18 : decode cX9_set 18 = .ok (.aload_n 0, 1) := by decide +kernel
theorem dX9_set_19 : decode cX9_set 19 = .ok (.iconst 1, 1) := by decide +kernel
theorem dX9_set_20 : decode cX9_set 20 = .ok (.invokevirtual 68, 3) := by decide +kernel
theorem dX9_set_23 : decode cX9_set 23 = .ok (.ireturn, 1) := by decide +kernel
theorem dX9_set_24 : decode cX9_set 24 = .ok (.iload_n 2, 1) := by decide +kernel
theorem dX9_set_25 : decode cX9_set 25 = .ok (.iconst 0, 1) := by decide +kernel
theorem dX9_set_26 : decode cX9_set 26 = .ok (.aload_n 0, 1) := by decide +kernel
theorem dX9_set_27 : decode cX9_set 27 = .ok (.getfield 13, 3) := by decide +kernel
theorem dX9_set_30 : decode cX9_set 30 = .ok (.iload_n 1, 1) := by decide +kernel
theorem dX9_set_31 : decode cX9_set 31 = .ok (.iaload, 1) := by decide +kernel
theorem dX9_set_32 : decode cX9_set 32 = .ok (.iconst 1, 1) := by decide +kernel
theorem dX9_set_33 : decode cX9_set 33 = .ok (.isub, 1) := by decide +kernel
theorem dX9_set_34 : decode cX9_set 34 = .ok (.invokestatic 59, 3) := by decide +kernel
theorem dX9_set_37 : decode cX9_set 37 = .ok (.ifCond .ne 9, 3) := by decide +kernel
theorem dX9_set_40 : decode cX9_set 40 = .ok (.aload_n 0, 1) := by decide +kernel
theorem dX9_set_41 : decode cX9_set 41 = .ok (.iconst 2, 1) := by decide +kernel
theorem dX9_set_42 : decode cX9_set 42 = .ok (.invokevirtual 68, 3) := by decide +kernel
theorem dX9_set_45 : decode cX9_set 45 = .ok (.ireturn, 1) := by decide +kernel
theorem dX9_set_46 : decode cX9_set 46 = .ok (.aload_n 0, 1) := by decide +kernel
theorem dX9_set_47 : decode cX9_set 47 = .ok (.getfield 16, 3) := by decide +kernel
theorem dX9_set_50 : decode cX9_set 50 = .ok (.bipush 40, 2) := by decide +kernel
theorem dX9_set_52 : decode cX9_set 52 = .ok (.iload_n 1, 1) := by decide +kernel
theorem dX9_set_53 : decode cX9_set 53 = .ok (.imul, 1) := by decide +kernel
theorem dX9_set_54 : decode cX9_set 54 = .ok (.iload_n 2, 1) := by decide +kernel
theorem dX9_set_55 : decode cX9_set 55 = .ok (.iadd, 1) := by decide +kernel
theorem dX9_set_56 : decode cX9_set 56 = .ok (.aload_n 0, 1) := by decide +kernel
theorem dX9_set_57 : decode cX9_set 57 = .ok (.getfield 7, 3) := by decide +kernel
theorem dX9_set_60 : decode cX9_set 60 = .ok (.iload_n 1, 1) := by decide +kernel
theorem dX9_set_61 : decode cX9_set 61 = .ok (.iaload, 1) := by decide +kernel
theorem dX9_set_62 : decode cX9_set 62 = .ok (.iload_n 3, 1) := by decide +kernel
theorem dX9_set_63 : decode cX9_set 63 = .ok (.invokestatic 78, 3) := by decide +kernel
theorem dX9_set_66 : decode cX9_set 66 = .ok (.iastore, 1) := by decide +kernel
theorem dX9_set_67 : decode cX9_set 67 = .ok (.aload_n 0, 1) := by decide +kernel
theorem dX9_set_68 : decode cX9_set 68 = .ok (.aload_n 0, 1) := by decide +kernel
theorem dX9_set_69 : decode cX9_set 69 = .ok (.getfield 16, 3) := by decide +kernel
theorem dX9_set_72 : decode cX9_set 72 = .ok (.bipush 40, 2) := by decide +kernel
theorem dX9_set_74 : decode cX9_set 74 = .ok (.iload_n 1, 1) := by decide +kernel
theorem dX9_set_75 : decode cX9_set 75 = .ok (.imul, 1) := by decide +kernel
theorem dX9_set_76 : decode cX9_set 76 = .ok (.iload_n 2, 1) := by decide +kernel
theorem dX9_set_77 : decode cX9_set 77 = .ok (.iadd, 1) := by decide +kernel
theorem dX9_set_78 : decode cX9_set 78 = .ok (.iaload, 1) := by decide +kernel
theorem dX9_set_79 : decode cX9_set 79 = .ok (.invokevirtual 72, 3) := by decide +kernel
theorem dX9_set_82 : decode cX9_set 82 = .ok (.ireturn, 1) := by decide +kernel
theorem dX9_isPart_0 : decode cX9_isPart 0 = .ok (.iload_n 2, 1) := by decide +kernel
theorem dX9_isPart_1 : decode cX9_isPart 1 = .ok (.ifCond .lt 33, 3) := by decide +kernel
theorem dX9_isPart_4 : decode cX9_isPart 4 = .ok (.iload_n 3, 1) := by decide +kernel
theorem dX9_isPart_5 : decode cX9_isPart 5 = .ok (.ifCond .lt 29, 3) := by decide +kernel
theorem dX9_isPart_8 : decode cX9_isPart 8 = .ok (.iload_n 2, 1) := by decide +kernel
theorem dX9_isPart_9 : decode cX9_isPart 9 = .ok (.aload_n 0, 1) := by decide +kernel
theorem dX9_isPart_10 : decode cX9_isPart 10 = .ok (.getfield 13, 3) := by decide +kernel
theorem dX9_isPart_13 : decode cX9_isPart 13 = .ok (.iload_n 1, 1) := by decide +kernel
theorem dX9_isPart_14 : decode cX9_isPart 14 = .ok (.iaload, 1) := by decide +kernel
theorem dX9_isPart_15 : decode cX9_isPart 15 = .ok (.if_icmp .gt 19, 3) := by decide +kernel
theorem dX9_isPart_18 : decode cX9_isPart 18 = .ok (.iload_n 3, 1) := by decide +kernel
theorem dX9_isPart_19 : decode cX9_isPart 19 = .ok (.aload_n 0, 1) := by decide +kernel
theorem dX9_isPart_20 : decode cX9_isPart 20 = .ok (.getfield 13, 3) := by decide +kernel
theorem dX9_isPart_23 : decode cX9_isPart 23 = .ok (.iload_n 1, 1) := by decide +kernel
theorem dX9_isPart_24 : decode cX9_isPart 24 = .ok (.iaload, 1) := by decide +kernel
theorem dX9_isPart_25 : decode cX9_isPart 25 = .ok (.iload_n 2, 1) := by decide +kernel
theorem dX9_isPart_26 : decode cX9_isPart 26 = .ok (.isub, 1) := by decide +kernel
theorem dX9_isPart_27 : decode cX9_isPart 27 = .ok (.if_icmp .gt 7, 3) := by decide +kernel
theorem dX9_isPart_30 : decode cX9_isPart 30 = .ok (.iconst 1, 1) := by decide +kernel
theorem dX9_isPart_31 : decode cX9_isPart 31 = .ok (.goto 4, 3) := by decide +kernel
theorem dX9_isPart_34 : decode cX9_isPart 34 = .ok (.iconst 0, 1) := by decide +kernel
theorem dX9_isPart_35 : decode cX9_isPart 35 = .ok (.ireturn, 1) := by decide +kernel
theorem dX9_copy_0 : decode cX9_copy 0 = .ok (.iload_n 1, 1) := by decide +kernel
theorem dX9_copy_1 : decode cX9_copy 1 = .ok (.invokestatic 63, 3) := by decide +kernel
theorem dX9_copy_4 : decode cX9_copy 4 = .ok (.ifCond .eq 10, 3) := by decide +kernel
theorem dX9_copy_7 : decode cX9_copy 7 = .ok (.iload_n 3, 1) := by decide +kernel
theorem dX9_copy_8 : decode cX9_copy 8 = .ok (.invokestatic 63, 3) := by decide +kernel
theorem dX9_copy_11 : decode cX9_copy 11 = .ok (.ifCond .ne 6, 3) := by decide +kernel
theorem dX9_copy_14 : decode cX9_copy 14 = .ok (.ldc 67, 2) := by decide +kernel
theorem dX9_copy_16 : decode cX9_copy 16 = .ok (.ireturn, 1) := by decide +kernel
theorem dX9_copy_17 : decode cX9_copy 17 = .ok (.aload_n 0, 1) := by decide +kernel
theorem dX9_copy_18 : decode cX9_copy 18 = .ok (.iload_n 1, 1) := by decide +kernel
theorem dX9_copy_19 : decode cX9_copy 19 = .ok (.invokevirtual 75, 3) := by decide +kernel
theorem dX9_copy_22 : decode cX9_copy 22 = .ok (.ifCond .ne 11, 3) := by decide +kernel
theorem dX9_copy_25 : decode cX9_copy 25 = .ok (.aload_n 0, 1) := by decide +kernel
theorem dX9_copy_26 : decode cX9_copy 26 = .ok (.iload_n 3, 1) := by decide +kernel
theorem dX9_copy_27 : decode cX9_copy 27 = .ok (.invokevirtual 75, 3) := by decide +kernel
theorem dX9_copy_30 : decode cX9_copy 30 = .ok (.ifCond .eq 9, 3) := by decide +kernel
theorem dX9_copy_33 : decode cX9_copy 33 = .ok (.aload_n 0, 1) := by decide +kernel
theorem dX9_copy_34 : decode cX9_copy 34 = .ok (.iconst 1, 1) := by decide +kernel
theorem dX9_copy_35 : decode cX9_copy 35 = .ok (.invokevirtual 68, 3) := by decide +kernel
theorem dX9_copy_38 : decode cX9_copy 38 = .ok (.ireturn, 1) := by decide +kernel
theorem dX9_copy_39 : decode cX9_copy 39 = .ok (.aload_n 0, 1) := by decide +kernel
theorem dX9_copy_40 : decode cX9_copy 40 = .ok (.getfield 7, 3) := by decide +kernel
theorem dX9_copy_43 : decode cX9_copy 43 = .ok (.iload_n 1, 1) := by decide +kernel
theorem dX9_copy_44 : decode cX9_copy 44 = .ok (.iaload, 1) := by decide +kernel
theorem dX9_copy_45 : decode cX9_copy 45 = .ok (.aload_n 0, 1) := by decide +kernel
theorem dX9_copy_46 : decode cX9_copy 46 = .ok (.getfield 7, 3) := by decide +kernel
theorem dX9_copy_49 : decode cX9_copy 49 = .ok (.iload_n 3, 1) := by decide +kernel
theorem dX9_copy_50 : decode cX9_copy 50 = .ok (.iaload, 1) := by decide +kernel
theorem dX9_copy_51 : decode cX9_copy 51 = .ok (.if_icmp .eq 9, 3) := by decide +kernel
theorem dX9_copy_54 : decode cX9_copy 54 = .ok (.aload_n 0, 1) := by decide +kernel
theorem dX9_copy_55 : decode cX9_copy 55 = .ok (.iconst 5, 1) := by decide +kernel
theorem dX9_copy_56 : decode cX9_copy 56 = .ok (.invokevirtual 68, 3) := by decide +kernel
theorem dX9_copy_59 : decode cX9_copy 59 = .ok (.ireturn, 1) := by decide +kernel
theorem dX9_copy_60 : decode cX9_copy 60 = .ok (.aload_n 0, 1) := by decide +kernel
theorem dX9_copy_61 : decode cX9_copy 61 = .ok (.iload_n 1, 1) := by decide +kernel
theorem dX9_copy_62 : decode cX9_copy 62 = .ok (.iload_n 2, 1) := by decide +kernel
theorem dX9_copy_63 : decode cX9_copy 63 = .ok (.iload 5, 2) := by decide +kernel
theorem dX9_copy_65 : decode cX9_copy 65 = .ok (.invokevirtual 82, 3) := by decide +kernel
theorem dX9_copy_68 : decode cX9_copy 68 = .ok (.ifCond .eq 15, 3) := by decide +kernel
theorem dX9_copy_71 : decode cX9_copy 71 = .ok (.aload_n 0, 1) := by decide +kernel
theorem dX9_copy_72 : decode cX9_copy 72 = .ok (.iload_n 3, 1) := by decide +kernel
theorem dX9_copy_73 : decode cX9_copy 73 = .ok (.iload 4, 2) := by decide +kernel
theorem dX9_copy_75 : decode cX9_copy 75 = .ok (.iload 5, 2) := by decide +kernel
theorem dX9_copy_77 : decode cX9_copy 77 = .ok (.invokevirtual 82, 3) := by decide +kernel
theorem dX9_copy_80 : decode cX9_copy 80 = .ok (.ifCond .ne 9, 3) := by decide +kernel
theorem dX9_copy_83 : decode cX9_copy 83 = .ok (.aload_n 0, 1) := by decide +kernel
theorem dX9_copy_84 : decode cX9_copy 84 = .ok (.iconst 2, 1) := by decide +kernel
theorem dX9_copy_85 : decode cX9_copy 85 = .ok (.invokevirtual 68, 3) := by decide +kernel
theorem dX9_copy_88 : decode cX9_copy 88 = .ok (.ireturn, 1) := by decide +kernel
theorem dX9_copy_89 : decode cX9_copy 89 = .ok (.iconst 0, 1) := by decide +kernel
theorem dX9_copy_90 : decode cX9_copy 90 = .ok (.istore 6, 2) := by decide +kernel
theorem dX9_copy_92 : decode cX9_copy 92 = .ok (.iload 6, 2) := by decide +kernel
theorem dX9_copy_94 : decode cX9_copy 94 = .ok (.iload 5, 2) := by decide +kernel
theorem dX9_copy_96 : decode cX9_copy 96 = .ok (.if_icmp .ge 30, 3) := by decide +kernel
theorem dX9_copy_99 : decode cX9_copy 99 = .ok (.aload_n 0, 1) := by decide +kernel
theorem dX9_copy_100 : decode cX9_copy 100 = .ok (.getfield 19, 3) := by decide +kernel
theorem dX9_copy_103 : decode cX9_copy 103 = .ok (.iload 6, 2) := by decide +kernel
theorem dX9_copy_105 : decode cX9_copy 105 = .ok (.aload_n 0, 1) := by decide +kernel
theorem dX9_copy_106 : decode cX9_copy 106 = .ok (.getfield 16, 3) := by decide +kernel
theorem dX9_copy_109 : decode cX9_copy 109 = .ok (.bipush 40, 2) := by decide +kernel
theorem dX9_copy_111 : decode cX9_copy 111 = .ok (.iload_n 1, 1) := by decide +kernel
theorem dX9_copy_112 : decode cX9_copy 112 = .ok (.imul, 1) := by decide +kernel
theorem dX9_copy_113 : decode cX9_copy 113 = .ok (.iload_n 2, 1) := by decide +kernel
theorem dX9_copy_114 : decode cX9_copy 114 = .ok (.iadd, 1) := by decide +kernel
theorem dX9_copy_115 : decode cX9_copy 115 = .ok (.iload 6, 2) := by decide +kernel
theorem dX9_copy_117 : decode cX9_copy 117 = .ok (.iadd, 1) := by decide +kernel
theorem dX9_copy_118 : decode cX9_copy 118 = .ok (.iaload, 1) := by decide +kernel
theorem dX9_copy_119 : decode cX9_copy 119 = .ok (.iastore, 1) := by decide +kernel
theorem dX9_copy_120 : decode cX9_copy 120 = .ok (.iinc 6 1, 3) := by decide +kernel
theorem dX9_copy_123 : decode cX9_copy 123 = .ok (.goto (-31), 3) := by decide +kernel
theorem dX9_copy_126 : decode cX9_copy 126 = .ok (.iconst 0, 1) := by decide +kernel
theorem dX9_copy_127 : decode cX9_copy 127 = .ok (.istore 6, 2) := by decide +kernel
theorem dX9_copy_129 : decode cX9_copy 129 = .ok (.iload 6, 2) := by decide +kernel
theorem dX9_copy_131 : decode cX9_copy 131 = .ok (.iload 5, 2) := by decide +kernel
theorem dX9_copy_133 : decode cX9_copy 133 = .ok (.if_icmp .ge 31, 3) := by decide +kernel
theorem dX9_copy_136 : decode cX9_copy 136 = .ok (.aload_n 0, 1) := by decide +kernel
theorem dX9_copy_137 : decode cX9_copy 137 = .ok (.getfield 16, 3) := by decide +kernel
theorem dX9_copy_140 : decode cX9_copy 140 = .ok (.bipush 40, 2) := by decide +kernel
theorem dX9_copy_142 : decode cX9_copy 142 = .ok (.iload_n 3, 1) := by decide +kernel
theorem dX9_copy_143 : decode cX9_copy 143 = .ok (.imul, 1) := by decide +kernel
theorem dX9_copy_144 : decode cX9_copy 144 = .ok (.iload 4, 2) := by decide +kernel
theorem dX9_copy_146 : decode cX9_copy 146 = .ok (.iadd, 1) := by decide +kernel
theorem dX9_copy_147 : decode cX9_copy 147 = .ok (.iload 6, 2) := by decide +kernel
theorem dX9_copy_149 : decode cX9_copy 149 = .ok (.iadd, 1) := by decide +kernel
theorem dX9_copy_150 : decode cX9_copy 150 = .ok (.aload_n 0, 1) := by decide +kernel
theorem dX9_copy_151 : decode cX9_copy 151 = .ok (.getfield 19, 3) := by decide +kernel
theorem dX9_copy_154 : decode cX9_copy 154 = .ok (.iload 6, 2) := by decide +kernel
theorem dX9_copy_156 : decode cX9_copy 156 = .ok (.iaload, 1) := by decide +kernel
theorem dX9_copy_157 : decode cX9_copy 157 = .ok (.iastore, 1) := by decide +kernel
theorem dX9_copy_158 : decode cX9_copy 158 = .ok (.iinc 6 1, 3) := by decide +kernel
theorem dX9_copy_161 : decode cX9_copy 161 = .ok (.goto (-32), 3) := by decide +kernel
theorem dX9_copy_164 : decode cX9_copy 164 = .ok (.aload_n 0, 1) := by decide +kernel
theorem dX9_copy_165 : decode cX9_copy 165 = .ok (.iload 5, 2) := by decide +kernel
theorem dX9_copy_167 : decode cX9_copy 167 = .ok (.invokevirtual 72, 3) := by decide +kernel
theorem dX9_copy_170 : decode cX9_copy 170 = .ok (.ireturn, 1) := by decide +kernel
theorem dX9_drop_0 : decode cX9_drop 0 = .ok (.iload_n 1, 1) := by decide +kernel
theorem dX9_drop_1 : decode cX9_drop 1 = .ok (.invokestatic 63, 3) := by decide +kernel
theorem dX9_drop_4 : decode cX9_drop 4 = .ok (.ifCond .ne 6, 3) := by decide +kernel
theorem dX9_drop_7 : decode cX9_drop 7 = .ok (.ldc 67, 2) := by decide +kernel
theorem dX9_drop_9 : decode cX9_drop 9 = .ok (.ireturn, 1) := by decide +kernel
theorem dX9_drop_10 : decode cX9_drop 10 = .ok (.aload_n 0, 1) := by decide +kernel
theorem dX9_drop_11 : decode cX9_drop 11 = .ok (.iload_n 1, 1) := by decide +kernel
theorem dX9_drop_12 : decode cX9_drop 12 = .ok (.invokevirtual 75, 3) := by decide +kernel
theorem dX9_drop_15 : decode cX9_drop 15 = .ok (.ifCond .eq 9, 3) := by decide +kernel
theorem dX9_drop_18 : decode cX9_drop 18 = .ok (.aload_n 0, 1) := by decide +kernel
theorem dX9_drop_19 : decode cX9_drop 19 = .ok (.iconst 1, 1) := by decide +kernel
theorem dX9_drop_20 : decode cX9_drop 20 = .ok (.invokevirtual 68, 3) := by decide +kernel
theorem dX9_drop_23 : decode cX9_drop 23 = .ok (.ireturn, 1) := by decide +kernel
theorem dX9_drop_24 : decode cX9_drop 24 = .ok (.aload_n 0, 1) := by decide +kernel
theorem dX9_drop_25 : decode cX9_drop 25 = .ok (.getfield 7, 3) := by decide +kernel
theorem dX9_drop_28 : decode cX9_drop 28 = .ok (.iload_n 1, 1) := by decide +kernel
theorem dX9_drop_29 : decode cX9_drop 29 = .ok (.ldc 53, 2) := by decide +kernel
theorem dX9_drop_31 : decode cX9_drop 31 = .ok (.iastore, 1) := by decide +kernel
theorem dX9_drop_32 : decode cX9_drop 32 = .ok (.aload_n 0, 1) := by decide +kernel
theorem dX9_drop_33 : decode cX9_drop 33 = .ok (.aload_n 0, 1) := by decide +kernel
theorem dX9_drop_34 : decode cX9_drop 34 = .ok (.getfield 13, 3) := by decide +kernel
theorem dX9_drop_37 : decode cX9_drop 37 = .ok (.iload_n 1, 1) := by decide +kernel
theorem dX9_drop_38 : decode cX9_drop 38 = .ok (.iaload, 1) := by decide +kernel
theorem dX9_drop_39 : decode cX9_drop 39 = .ok (.invokevirtual 72, 3) := by decide +kernel
theorem dX9_drop_42 : decode cX9_drop 42 = .ok (.ireturn, 1) := by decide +kernel
theorem dX9_feed_0 : decode cX9_feed 0 = .ok (.iload_n 1, 1) := by decide +kernel
theorem dX9_feed_1 : decode cX9_feed 1 = .ok (.iconst 0, 1) := by decide +kernel
theorem dX9_feed_2 : decode cX9_feed 2 = .ok (.sipush 255, 3) := by decide +kernel
theorem dX9_feed_5 : decode cX9_feed 5 = .ok (.invokestatic 59, 3) := by decide +kernel
theorem dX9_feed_8 : decode cX9_feed 8 = .ok (.ifCond .ne 6, 3) := by decide +kernel
theorem dX9_feed_11 : decode cX9_feed 11 = .ok (.ldc 67, 2) := by decide +kernel
theorem dX9_feed_13 : decode cX9_feed 13 = .ok (.ireturn, 1) := by decide +kernel
theorem dX9_feed_14 : decode cX9_feed 14 = .ok (.aload_n 0, 1) := by decide +kernel
theorem dX9_feed_15 : decode cX9_feed 15 = .ok (.getfield 85, 3) := by decide +kernel
theorem dX9_feed_18 : decode cX9_feed 18 = .ok (.bipush 120, 2) := by decide +kernel
theorem dX9_feed_20 : decode cX9_feed 20 = .ok (.if_icmp .ne 6, 3) := by decide +kernel
theorem dX9_feed_23 : decode cX9_feed 23 = .ok (.ldc 88, 2) := by decide +kernel
theorem dX9_feed_25 : decode cX9_feed 25 = .ok (.ireturn, 1) := by decide +kernel
theorem dX9_feed_26 : decode cX9_feed 26 = .ok (.aload_n 0, 1) := by decide +kernel
theorem dX9_feed_27 : decode cX9_feed 27 = .ok (.getfield 22, 3) := by decide +kernel
theorem dX9_feed_30 : decode cX9_feed 30 = .ok (.aload_n 0, 1) := by decide +kernel
theorem dX9_feed_31 : decode cX9_feed 31 = .ok (.getfield 85, 3) := by decide +kernel
theorem dX9_feed_34 : decode cX9_feed 34 = .ok (.iload_n 1, 1) := by decide +kernel
theorem dX9_feed_35 : decode cX9_feed 35 = .ok (.iastore, 1) := by decide +kernel
theorem dX9_feed_36 : decode cX9_feed 36 = .ok (.aload_n 0, 1) := by decide +kernel
theorem dX9_feed_37 : decode cX9_feed 37 = .ok (.dup, 1) := by decide +kernel
theorem dX9_feed_38 : decode cX9_feed 38 = .ok (.getfield 85, 3) := by decide +kernel
theorem dX9_feed_41 : decode cX9_feed 41 = .ok (.iconst 1, 1) := by decide +kernel
theorem dX9_feed_42 : decode cX9_feed 42 = .ok (.iadd, 1) := by decide +kernel
theorem dX9_feed_43 : decode cX9_feed 43 = .ok (.putfield 85, 3) := by decide +kernel
theorem dX9_feed_46 : decode cX9_feed 46 = .ok (.aload_n 0, 1) := by decide +kernel
theorem dX9_feed_47 : decode cX9_feed 47 = .ok (.getfield 85, 3) := by decide +kernel
theorem dX9_feed_50 : decode cX9_feed 50 = .ok (.ireturn, 1) := by decide +kernel
theorem dX9_byteAt_0 : decode cX9_byteAt 0 = .ok (.iload_n 1, 1) := by decide +kernel
theorem dX9_byteAt_1 : decode cX9_byteAt 1 = .ok (.aload_n 0, 1) := by decide +kernel
theorem dX9_byteAt_2 : decode cX9_byteAt 2 = .ok (.getfield 85, 3) := by decide +kernel
theorem dX9_byteAt_5 : decode cX9_byteAt 5 = .ok (.if_icmp .ge 12, 3) := by decide +kernel
theorem dX9_byteAt_8 : decode cX9_byteAt 8 = .ok (.aload_n 0, 1) := by decide +kernel
theorem dX9_byteAt_9 : decode cX9_byteAt 9 = .ok (.getfield 22, 3) := by decide +kernel
theorem dX9_byteAt_12 : decode cX9_byteAt 12 = .ok (.iload_n 1, 1) := by decide +kernel
theorem dX9_byteAt_13 : decode cX9_byteAt 13 = .ok (.iaload, 1) := by decide +kernel
theorem dX9_byteAt_14 : decode cX9_byteAt 14 = .ok (.goto 4, 3) := by decide +kernel
theorem dX9_byteAt_17 : decode cX9_byteAt 17 = .ok (.iconst (-1), 1) := by decide +kernel
theorem dX9_byteAt_18 : decode cX9_byteAt 18 = .ok (.ireturn, 1) := by decide +kernel
theorem dX9_advances_0 : decode cX9_advances 0 = .ok (.aload_n 0, 1) := by decide +kernel
theorem dX9_advances_1 : decode cX9_advances 1 = .ok (.aload_n 0, 1) := by decide +kernel
theorem dX9_advances_2 : decode cX9_advances 2 = .ok (.getfield 89, 3) := by decide +kernel
theorem dX9_advances_5 : decode cX9_advances 5 = .ok (.putfield 92, 3) := by decide +kernel
theorem dX9_advances_8 : decode cX9_advances 8 = .ok (.aload_n 0, 1) := by decide +kernel
theorem dX9_advances_9 : decode cX9_advances 9 = .ok (.aload_n 0, 1) := by decide +kernel
theorem dX9_advances_10 : decode cX9_advances 10 = .ok (.getfield 89, 3) := by decide +kernel
theorem dX9_advances_13 : decode cX9_advances 13 = .ok (.invokevirtual 95, 3) := by decide +kernel
theorem dX9_advances_16 : decode cX9_advances 16 = .ok (.istore_n 1, 1) := by decide +kernel
theorem dX9_advances_17 : decode cX9_advances 17 = .ok (.aload_n 0, 1) := by decide +kernel
theorem dX9_advances_18 : decode cX9_advances 18 = .ok (.iload_n 1, 1) := by decide +kernel
theorem dX9_advances_19 : decode cX9_advances 19 = .ok (.putfield 98, 3) := by decide +kernel
theorem dX9_advances_22 : decode cX9_advances 22 = .ok (.iload_n 1, 1) := by decide +kernel
theorem dX9_advances_23 : decode cX9_advances 23 = .ok (.bipush 48, 2) := by decide +kernel
theorem dX9_advances_25 : decode cX9_advances 25 = .ok (.bipush 57, 2) := by decide +kernel
theorem dX9_advances_27 : decode cX9_advances 27 = .ok (.invokestatic 59, 3) := by decide +kernel
theorem dX9_advances_30 : decode cX9_advances 30 = .ok (.ifCond .eq 105, 3) := by decide +kernel
theorem dX9_advances_33 : decode cX9_advances 33 = .ok (.aload_n 0, 1) := by decide +kernel
theorem dX9_advances_34 : decode cX9_advances 34 = .ok (.iconst 0, 1) := by decide +kernel
theorem dX9_advances_35 : decode cX9_advances 35 = .ok (.putfield 98, 3) := by decide +kernel
theorem dX9_advances_38 : decode cX9_advances 38 = .ok (.aload_n 0, 1) := by decide +kernel
theorem dX9_advances_39 : decode cX9_advances 39 = .ok (.aload_n 0, 1) := by decide +kernel
theorem dX9_advances_40 : decode cX9_advances 40 = .ok (.getfield 89, 3) := by decide +kernel
theorem dX9_advances_43 : decode cX9_advances 43 = .ok (.invokevirtual 95, 3) := by decide +kernel
theorem dX9_advances_46 : decode cX9_advances 46 = .ok (.bipush 48, 2) := by decide +kernel
theorem dX9_advances_48 : decode cX9_advances 48 = .ok (.bipush 57, 2) := by decide +kernel
theorem dX9_advances_50 : decode cX9_advances 50 = .ok (.invokestatic 59, 3) := by decide +kernel
theorem dX9_advances_53 : decode cX9_advances 53 = .ok (.ifCond .eq 59, 3) := by decide +kernel
theorem dX9_advances_56 : decode cX9_advances 56 = .ok (.aload_n 0, 1) := by decide +kernel
theorem dX9_advances_57 : decode cX9_advances 57 = .ok (.aload_n 0, 1) := by decide +kernel
theorem dX9_advances_58 : decode cX9_advances 58 = .ok (.getfield 89, 3) := by decide +kernel
theorem dX9_advances_61 : decode cX9_advances 61 = .ok (.aload_n 0, 1) := by decide +kernel
theorem dX9_advances_62 : decode cX9_advances 62 = .ok (.getfield 92, 3) := by decide +kernel
theorem dX9_advances_65 : decode cX9_advances 65 = .ok (.isub, 1) := by decide +kernel
theorem dX9_advances_66 : decode cX9_advances 66 = .ok (.iconst 2, 1) := by decide +kernel
theorem dX9_advances_67 : decode cX9_advances 67 = .ok (.if_icmp .ge 25, 3) := by decide +kernel
theorem dX9_advances_70 : decode cX9_advances 70 = .ok (.bipush 10, 2) := by decide +kernel
theorem dX9_advances_72 : decode cX9_advances 72 = .ok (.aload_n 0, 1) := by decide +kernel
theorem dX9_advances_73 : decode cX9_advances 73 = .ok (.getfield 98, 3) := by decide +kernel
theorem dX9_advances_76 : decode cX9_advances 76 = .ok (.imul, 1) := by decide +kernel
theorem dX9_advances_77 : decode cX9_advances 77 = .ok (.aload_n 0, 1) := by decide +kernel
theorem dX9_advances_78 : decode cX9_advances 78 = .ok (.aload_n 0, 1) := by decide +kernel
theorem dX9_advances_79 : decode cX9_advances 79 = .ok (.getfield 89, 3) := by decide +kernel
theorem dX9_advances_82 : decode cX9_advances 82 = .ok (.invokevirtual 95, 3) := by decide +kernel
theorem dX9_advances_85 : decode cX9_advances 85 = .ok (.iadd, 1) := by decide +kernel
theorem dX9_advances_86 : decode cX9_advances 86 = .ok (.bipush 48, 2) := by decide +kernel
theorem dX9_advances_88 : decode cX9_advances 88 = .ok (.isub, 1) := by decide +kernel
theorem dX9_advances_89 : decode cX9_advances 89 = .ok (.goto 7, 3) := by decide +kernel
theorem dX9_advances_92 : decode cX9_advances 92 = .ok (.aload_n 0, 1) := by decide +kernel
theorem dX9_advances_93 : decode cX9_advances 93 = .ok (.getfield 98, 3) := by decide +kernel
theorem dX9_advances_96 : decode cX9_advances 96 = .ok (.putfield 98, 3) := by decide +kernel
theorem dX9_advances_99 : decode cX9_advances 99 = .ok (.aload_n 0, 1) := by decide +kernel
theorem dX9_advances_100 : decode cX9_advances 100 = .ok (.dup, 1) := by decide +kernel
theorem dX9_advances_101 : decode cX9_advances 101 = .ok (.getfield 89, 3) := by decide +kernel
theorem dX9_advances_104 : decode cX9_advances 104 = .ok (.iconst 1, 1) := by decide +kernel
theorem dX9_advances_105 : decode cX9_advances 105 = .ok (.iadd, 1) := by decide +kernel
theorem dX9_advances_106 : decode cX9_advances 106 = .ok (.putfield 89, 3) := by decide +kernel
theorem dX9_advances_109 : decode cX9_advances 109 = .ok (.goto (-71), 3) := by decide +kernel
theorem dX9_advances_112 : decode cX9_advances 112 = .ok (.aload_n 0, 1) := by decide +kernel
theorem dX9_advances_113 : decode cX9_advances 113 = .ok (.aload_n 0, 1) := by decide +kernel
theorem dX9_advances_114 : decode cX9_advances 114 = .ok (.getfield 89, 3) := by decide +kernel
theorem dX9_advances_117 : decode cX9_advances 117 = .ok (.aload_n 0, 1) := by decide +kernel
theorem dX9_advances_118 : decode cX9_advances 118 = .ok (.getfield 92, 3) := by decide +kernel
theorem dX9_advances_121 : decode cX9_advances 121 = .ok (.isub, 1) := by decide +kernel
theorem dX9_advances_122 : decode cX9_advances 122 = .ok (.iconst 3, 1) := by decide +kernel
theorem dX9_advances_123 : decode cX9_advances 123 = .ok (.if_icmp .ge 7, 3) := by decide +kernel
theorem dX9_advances_126 : decode cX9_advances 126 = .ok (.iconst 2, 1) := by decide +kernel
theorem dX9_advances_127 : decode cX9_advances 127 = .ok (.goto 4, 3) := by decide +kernel
theorem dX9_advances_130 : decode cX9_advances 130 = .ok (.iconst 5, 1) := by decide +kernel
theorem dX9_advances_131 : decode cX9_advances 131 = .ok (.putfield 101, 3) := by decide +kernel
theorem dX9_advances_134 : decode cX9_advances 134 = .ok (.return_, 1) := by decide +kernel
theorem dX9_advances_135 : decode cX9_advances 135 = .ok (.aload_n 0, 1) := by decide +kernel
theorem dX9_advances_136 : decode cX9_advances 136 = .ok (.iload_n 1, 1) := by decide +kernel
theorem dX9_advances_137 : decode cX9_advances 137 = .ok (.ifCond .ge 7, 3) := by decide +kernel
theorem dX9_advances_140 : decode cX9_advances 140 = .ok (.iconst 0, 1) := by decide +kernel
theorem dX9_advances_141 : decode cX9_advances 141 = .ok (.goto 39, 3) := by decide +kernel
theorem dX9_advances_144 : decode cX9_advances 144 = .ok (.iload_n 1, 1) := by decide +kernel
theorem dX9_advances_145 : decode cX9_advances 145 = .ok (.bipush 97, 2) := by decide +kernel
theorem dX9_advances_147 : decode cX9_advances 147 = .ok (.bipush 122, 2) := by decide +kernel
theorem dX9_advances_149 : decode cX9_advances 149 = .ok (.invokestatic 59, 3) := by decide +kernel
theorem dX9_advances_152 : decode cX9_advances 152 = .ok (.ifCond .eq 7, 3) := by decide +kernel
theorem dX9_advances_155 : decode cX9_advances 155 = .ok (.iconst 1, 1) := by decide +kernel
theorem dX9_advances_156 : decode cX9_advances 156 = .ok (.goto 24, 3) := by decide +kernel
theorem dX9_advances_159 : decode cX9_advances 159 = .ok (.iload_n 1, 1) := by decide +kernel
theorem dX9_advances_160 : decode cX9_advances 160 = .ok (.bipush 44, 2) := by decide +kernel
theorem dX9_advances_162 : decode cX9_advances 162 = .ok (.if_icmp .ne 7, 3) := by decide +kernel
theorem dX9_advances_165 : decode cX9_advances 165 = .ok (.iconst 3, 1) := by decide +kernel
theorem dX9_advances_166 : decode cX9_advances 166 = .ok (.goto 14, 3) := by decide +kernel
theorem dX9_advances_169 : decode cX9_advances 169 = .ok (.iload_n 1, 1) := by decide +kernel
theorem dX9_advances_170 : decode cX9_advances 170 = .ok (.bipush 59, 2) := by decide +kernel
theorem dX9_advances_172 : decode cX9_advances 172 = .ok (.if_icmp .ne 7, 3) := by decide +kernel
theorem dX9_advances_175 : decode cX9_advances 175 = .ok (.iconst 4, 1) := by decide +kernel
theorem dX9_advances_176 : decode cX9_advances 176 = .ok (.goto 4, 3) := by decide +kernel
theorem dX9_advances_179 : decode cX9_advances 179 = .ok (.iconst 5, 1) := by decide +kernel
theorem dX9_advances_180 : decode cX9_advances 180 = .ok (.putfield 101, 3) := by decide +kernel
theorem dX9_advances_183 : decode cX9_advances 183 = .ok (.aload_n 0, 1) := by decide +kernel
theorem dX9_advances_184 : decode cX9_advances 184 = .ok (.dup, 1) := by decide +kernel
theorem dX9_advances_185 : decode cX9_advances 185 = .ok (.getfield 89, 3) := by decide +kernel
theorem dX9_advances_188 : decode cX9_advances 188 = .ok (.aload_n 0, 1) := by decide +kernel
theorem dX9_advances_189 : decode cX9_advances 189 = .ok (.getfield 101, 3) := by decide +kernel
theorem dX9_advances_192 : decode cX9_advances 192 = .ok (.ifCond .ne 7, 3) := by decide +kernel
theorem dX9_advances_195 : decode cX9_advances 195 = .ok (.iconst 0, 1) := by decide +kernel
theorem dX9_advances_196 : decode cX9_advances 196 = .ok (.goto 4, 3) := by decide +kernel
theorem dX9_advances_199 : decode cX9_advances 199 = .ok (.iconst 1, 1) := by decide +kernel
theorem dX9_advances_200 : decode cX9_advances 200 = .ok (.iadd, 1) := by decide +kernel
theorem dX9_advances_201 : decode cX9_advances 201 = .ok (.putfield 89, 3) := by decide +kernel
theorem dX9_advances_204 : decode cX9_advances 204 = .ok (.return_, 1) := by decide +kernel
theorem dX9_isWell_0 : decode cX9_isWell 0 = .ok (.aload_n 0, 1) := by decide +kernel
theorem dX9_isWell_1 : decode cX9_isWell 1 = .ok (.getfield 104, 3) := by decide +kernel
theorem dX9_isWell_4 : decode cX9_isWell 4 = .ok (.ifCond .ge 7, 3) := by decide +kernel
theorem dX9_isWell_7 : decode cX9_isWell 7 = .ok (.iconst 1, 1) := by decide +kernel
theorem dX9_isWell_8 : decode cX9_isWell 8 = .ok (.goto 4, 3) := by decide +kernel
theorem dX9_isWell_11 : decode cX9_isWell 11 = .ok (.iconst 0, 1) := by decide +kernel
theorem dX9_isWell_12 : decode cX9_isWell 12 = .ok (.ireturn, 1) := by decide +kernel
theorem dX9_takes_0 : decode cX9_takes 0 = .ok (.aload_n 0, 1) := by decide +kernel
theorem dX9_takes_1 : decode cX9_takes 1 = .ok (.invokevirtual 107, 3) := by decide +kernel
theorem dX9_takes_4 : decode cX9_takes 4 = .ok (.ifCond .ne 5, 3) := by decide +kernel
theorem dX9_takes_7 : decode cX9_takes 7 = .ok (.iconst 0, 1) := by decide +kernel
theorem dX9_takes_8 : decode cX9_takes 8 = .ok (.ireturn, 1) := by decide +kernel
theorem dX9_takes_9 : decode cX9_takes 9 = .ok (.iload_n 1, 1) := by decide +kernel
theorem dX9_takes_10 : decode cX9_takes 10 = .ok (.ifCond .ne 18, 3) := by decide +kernel
theorem dX9_takes_13 : decode cX9_takes 13 = .ok (.aload_n 0, 1) := by decide +kernel
theorem dX9_takes_14 : decode cX9_takes 14 = .ok (.aload_n 0, 1) := by decide +kernel
theorem dX9_takes_15 : decode cX9_takes 15 = .ok (.getfield 92, 3) := by decide +kernel
theorem dX9_takes_18 : decode cX9_takes 18 = .ok (.putfield 104, 3) := by decide +kernel
theorem dX9_takes_21 : decode cX9_takes 21 = .ok (.aload_n 0, 1) := by decide +kernel
theorem dX9_takes_22 : decode cX9_takes 22 = .ok (.iload_n 2, 1) := by decide +kernel
theorem dX9_takes_23 : decode cX9_takes 23 = .ok (.putfield 111, 3) := by decide +kernel
theorem dX9_takes_26 : decode cX9_takes 26 = .ok (.iconst 0, 1) := by decide +kernel
theorem dX9_takes_27 : decode cX9_takes 27 = .ok (.ireturn, 1) := by decide +kernel
theorem dX9_takes_28 : decode cX9_takes 28 = .ok (.aload_n 0, 1) := by decide +kernel
theorem dX9_takes_29 : decode cX9_takes 29 = .ok (.getfield 98, 3) := by decide +kernel
theorem dX9_takes_32 : decode cX9_takes 32 = .ok (.istore_n 3, 1) := by decide +kernel
theorem dX9_takes_33 : decode cX9_takes 33 = .ok (.aload_n 0, 1) := by decide +kernel
theorem dX9_takes_34 : decode cX9_takes 34 = .ok (.invokevirtual 114, 3) := by decide +kernel
theorem dX9_takes_37 : decode cX9_takes 37 = .ok (.iload_n 3, 1) := by decide +kernel
theorem dX9_takes_38 : decode cX9_takes 38 = .ok (.ireturn, 1) := by decide +kernel
theorem dX9_figure_0 : decode cX9_figure 0 = .ok (.aload_n 0, 1) := by decide +kernel
theorem dX9_figure_1 : decode cX9_figure 1 = .ok (.invokevirtual 107, 3) := by decide +kernel
theorem dX9_figure_4 : decode cX9_figure 4 = .ok (.ifCond .eq 18, 3) := by decide +kernel
theorem dX9_figure_7 : decode cX9_figure 7 = .ok (.aload_n 0, 1) := by decide +kernel
theorem dX9_figure_8 : decode cX9_figure 8 = .ok (.getfield 101, 3) := by decide +kernel
theorem dX9_figure_11 : decode cX9_figure 11 = .ok (.iconst 2, 1) := by decide +kernel
theorem dX9_figure_12 : decode cX9_figure 12 = .ok (.if_icmp .eq 10, 3) := by decide +kernel
theorem dX9_figure_15 : decode cX9_figure 15 = .ok (.aload_n 0, 1) := by decide +kernel
theorem dX9_figure_16 : decode cX9_figure 16 = .ok (.iconst 0, 1) := by decide +kernel
theorem dX9_figure_17 : decode cX9_figure 17 = .ok (.iconst 1, 1) := by decide +kernel
theorem dX9_figure_18 : decode cX9_figure 18 = .ok (.invokevirtual 117, 3) := by decide +kernel
theorem dX9_figure_21 : decode cX9_figure 21 = .ok (.ireturn, 1) := by decide +kernel
theorem dX9_figure_22 : decode cX9_figure 22 = .ok (.aload_n 0, 1) := by decide +kernel
theorem dX9_figure_23 : decode cX9_figure 23 = .ok (.aload_n 0, 1) := by decide +kernel
theorem dX9_figure_24 : decode cX9_figure 24 = .ok (.getfield 98, 3) := by decide +kernel
theorem dX9_figure_27 : decode cX9_figure 27 = .ok (.iload_n 1, 1) := by decide +kernel
theorem dX9_figure_28 : decode cX9_figure 28 = .ok (.iload_n 2, 1) := by decide +kernel
theorem dX9_figure_29 : decode cX9_figure 29 = .ok (.invokestatic 59, 3) := by decide +kernel
theorem dX9_figure_32 : decode cX9_figure 32 = .ok (.iconst 2, 1) := by decide +kernel
theorem dX9_figure_33 : decode cX9_figure 33 = .ok (.invokevirtual 117, 3) := by decide +kernel
theorem dX9_figure_36 : decode cX9_figure 36 = .ok (.ireturn, 1) := by decide +kernel
theorem dX9_kindOf_0 : decode cX9_kindOf 0 = .ok (.iload_n 0, 1) := by decide +kernel
theorem dX9_kindOf_1 : decode cX9_kindOf 1 = .ok (.bipush 101, 2) := by decide +kernel
theorem dX9_kindOf_3 : decode cX9_kindOf 3 = .ok (.if_icmp .ne 7, 3) := by decide +kernel
theorem dX9_kindOf_6 : decode cX9_kindOf 6 = .ok (.iconst 1, 1) := by decide +kernel
theorem dX9_kindOf_7 : decode cX9_kindOf 7 = .ok (.goto 44, 3) := by decide +kernel
theorem dX9_kindOf_10 : decode cX9_kindOf 10 = .ok (.iload_n 0, 1) := by decide +kernel
theorem dX9_kindOf_11 : decode cX9_kindOf 11 = .ok (.bipush 97, 2) := by decide +kernel
theorem dX9_kindOf_13 : decode cX9_kindOf 13 = .ok (.if_icmp .ne 7, 3) := by decide +kernel
theorem dX9_kindOf_16 : decode cX9_kindOf 16 = .ok (.iconst 2, 1) := by decide +kernel
theorem dX9_kindOf_17 : decode cX9_kindOf 17 = .ok (.goto 34, 3) := by decide +kernel
theorem dX9_kindOf_20 : decode cX9_kindOf 20 = .ok (.iload_n 0, 1) := by decide +kernel
theorem dX9_kindOf_21 : decode cX9_kindOf 21 = .ok (.bipush 104, 2) := by decide +kernel
theorem dX9_kindOf_23 : decode cX9_kindOf 23 = .ok (.if_icmp .ne 7, 3) := by decide +kernel
theorem dX9_kindOf_26 : decode cX9_kindOf 26 = .ok (.iconst 3, 1) := by decide +kernel
theorem dX9_kindOf_27 : decode cX9_kindOf 27 = .ok (.goto 24, 3) := by decide +kernel
theorem dX9_kindOf_30 : decode cX9_kindOf 30 = .ok (.iload_n 0, 1) := by decide +kernel
theorem dX9_kindOf_31 : decode cX9_kindOf 31 = .ok (.bipush 112, 2) := by decide +kernel
theorem dX9_kindOf_33 : decode cX9_kindOf 33 = .ok (.if_icmp .ne 7, 3) := by decide +kernel
theorem dX9_kindOf_36 : decode cX9_kindOf 36 = .ok (.iconst 4, 1) := by decide +kernel
theorem dX9_kindOf_37 : decode cX9_kindOf 37 = .ok (.goto 14, 3) := by decide +kernel
theorem dX9_kindOf_40 : decode cX9_kindOf 40 = .ok (.iload_n 0, 1) := by decide +kernel
theorem dX9_kindOf_41 : decode cX9_kindOf 41 = .ok (.bipush 108, 2) := by decide +kernel
theorem dX9_kindOf_43 : decode cX9_kindOf 43 = .ok (.if_icmp .ne 7, 3) := by decide +kernel
theorem dX9_kindOf_46 : decode cX9_kindOf 46 = .ok (.iconst 5, 1) := by decide +kernel
theorem dX9_kindOf_47 : decode cX9_kindOf 47 = .ok (.goto 4, 3) := by decide +kernel
theorem dX9_kindOf_50 : decode cX9_kindOf 50 = .ok (.iconst 0, 1) := by decide +kernel
theorem dX9_kindOf_51 : decode cX9_kindOf 51 = .ok (.ireturn, 1) := by decide +kernel
theorem dX9_next_0 : decode cX9_next 0 = .ok (.aload_n 0, 1) := by decide +kernel
theorem dX9_next_1 : decode cX9_next 1 = .ok (.aload_n 0, 1) := by decide +kernel
theorem dX9_next_2 : decode cX9_next 2 = .ok (.getfield 101, 3) := by decide +kernel
theorem dX9_next_5 : decode cX9_next 5 = .ok (.iconst 3, 1) := by decide +kernel
theorem dX9_next_6 : decode cX9_next 6 = .ok (.if_icmp .ne 7, 3) := by decide +kernel
theorem dX9_next_9 : decode cX9_next 9 = .ok (.iconst 1, 1) := by decide +kernel
theorem dX9_next_10 : decode cX9_next 10 = .ok (.goto 4, 3) := by decide +kernel
theorem dX9_next_13 : decode cX9_next 13 = .ok (.iconst 0, 1) := by decide +kernel
theorem dX9_next_14 : decode cX9_next 14 = .ok (.iconst 1, 1) := by decide +kernel
theorem dX9_next_15 : decode cX9_next 15 = .ok (.invokevirtual 117, 3) := by decide +kernel
theorem dX9_next_18 : decode cX9_next 18 = .ok (.pop, 1) := by decide +kernel
theorem dX9_next_19 : decode cX9_next 19 = .ok (.aload_n 0, 1) := by decide +kernel
theorem dX9_next_20 : decode cX9_next 20 = .ok (.iload_n 1, 1) := by decide +kernel
theorem dX9_next_21 : decode cX9_next 21 = .ok (.iload_n 2, 1) := by decide +kernel
theorem dX9_next_22 : decode cX9_next 22 = .ok (.invokevirtual 121, 3) := by decide +kernel
theorem dX9_next_25 : decode cX9_next 25 = .ok (.ireturn, 1) := by decide +kernel
theorem dX9_readsLie_0 : decode cX9_readsLie 0 = .ok (.aload_n 0, 1) := by decide +kernel
theorem dX9_readsLie_1 : decode cX9_readsLie 1 = .ok (.getfield 98, 3) := by decide +kernel
theorem dX9_readsLie_4 : decode cX9_readsLie 4 = .ok (.invokestatic 124, 3) := by decide +kernel
theorem dX9_readsLie_7 : decode cX9_readsLie 7 = .ok (.istore_n 1, 1) := by decide +kernel
theorem dX9_readsLie_8 : decode cX9_readsLie 8 = .ok (.aload_n 0, 1) := by decide +kernel
theorem dX9_readsLie_9 : decode cX9_readsLie 9 = .ok (.aload_n 0, 1) := by decide +kernel
theorem dX9_readsLie_10 : decode cX9_readsLie 10 = .ok (.getfield 28, 3) := by decide +kernel
theorem dX9_readsLie_13 : decode cX9_readsLie 13 = .ok (.iconst 2, 1) := by decide +kernel
theorem dX9_readsLie_14 : decode cX9_readsLie 14 = .ok (.iaload, 1) := by decide +kernel
theorem dX9_readsLie_15 : decode cX9_readsLie 15 = .ok (.bipush 6, 2) := by decide +kernel
theorem dX9_readsLie_17 : decode cX9_readsLie 17 = .ok (.if_icmp .ge 7, 3) := by decide +kernel
theorem dX9_readsLie_20 : decode cX9_readsLie 20 = .ok (.iconst 1, 1) := by decide +kernel
theorem dX9_readsLie_21 : decode cX9_readsLie 21 = .ok (.goto 4, 3) := by decide +kernel
theorem dX9_readsLie_24 : decode cX9_readsLie 24 = .ok (.iconst 0, 1) := by decide +kernel
theorem dX9_readsLie_25 : decode cX9_readsLie 25 = .ok (.iconst 3, 1) := by decide +kernel
theorem dX9_readsLie_26 : decode cX9_readsLie 26 = .ok (.invokevirtual 117, 3) := by decide +kernel
theorem dX9_readsLie_29 : decode cX9_readsLie 29 = .ok (.pop, 1) := by decide +kernel
theorem dX9_readsLie_30 : decode cX9_readsLie 30 = .ok (.iconst 4, 1) := by decide +kernel
theorem dX9_readsLie_31 : decode cX9_readsLie 31 = .ok (.iconst 3, 1) := by decide +kernel
theorem dX9_readsLie_32 : decode cX9_readsLie 32 = .ok (.aload_n 0, 1) := by decide +kernel
theorem dX9_readsLie_33 : decode cX9_readsLie 33 = .ok (.getfield 28, 3) := by decide +kernel
theorem dX9_readsLie_36 : decode cX9_readsLie 36 = .ok (.iconst 2, 1) := by decide +kernel
theorem dX9_readsLie_37 : decode cX9_readsLie 37 = .ok (.iaload, 1) := by decide +kernel
theorem dX9_readsLie_38 : decode cX9_readsLie 38 = .ok (.bipush 6, 2) := by decide +kernel
theorem dX9_readsLie_40 : decode cX9_readsLie 40 = .ok (.if_icmp .ge 12, 3) := by decide +kernel
theorem dX9_readsLie_43 : decode cX9_readsLie 43 = .ok (.aload_n 0, 1) := by decide +kernel
theorem dX9_readsLie_44 : decode cX9_readsLie 44 = .ok (.getfield 28, 3) := by decide +kernel
theorem dX9_readsLie_47 : decode cX9_readsLie 47 = .ok (.iconst 2, 1) := by decide +kernel
theorem dX9_readsLie_48 : decode cX9_readsLie 48 = .ok (.iaload, 1) := by decide +kernel
theorem dX9_readsLie_49 : decode cX9_readsLie 49 = .ok (.goto 4, 3) := by decide +kernel
theorem dX9_readsLie_52 : decode cX9_readsLie 52 = .ok (.iconst 0, 1) := by decide +kernel
theorem dX9_readsLie_53 : decode cX9_readsLie 53 = .ok (.imul, 1) := by decide +kernel
theorem dX9_readsLie_54 : decode cX9_readsLie 54 = .ok (.iadd, 1) := by decide +kernel
theorem dX9_readsLie_55 : decode cX9_readsLie 55 = .ok (.istore_n 2, 1) := by decide +kernel
theorem dX9_readsLie_56 : decode cX9_readsLie 56 = .ok (.aload_n 0, 1) := by decide +kernel
theorem dX9_readsLie_57 : decode cX9_readsLie 57 = .ok (.iconst 1, 1) := by decide +kernel
theorem dX9_readsLie_58 : decode cX9_readsLie 58 = .ok (.bipush 20, 2) := by decide +kernel
theorem dX9_readsLie_60 : decode cX9_readsLie 60 = .ok (.invokevirtual 121, 3) := by decide +kernel
theorem dX9_readsLie_63 : decode cX9_readsLie 63 = .ok (.istore_n 3, 1) := by decide +kernel
theorem dX9_readsLie_64 : decode cX9_readsLie 64 = .ok (.aload_n 0, 1) := by decide +kernel
theorem dX9_readsLie_65 : decode cX9_readsLie 65 = .ok (.iconst 0, 1) := by decide +kernel
theorem dX9_readsLie_66 : decode cX9_readsLie 66 = .ok (.iconst 3, 1) := by decide +kernel
theorem dX9_readsLie_67 : decode cX9_readsLie 67 = .ok (.invokevirtual 127, 3) := by decide +kernel
theorem dX9_readsLie_70 : decode cX9_readsLie 70 = .ok (.istore 4, 2) := by decide +kernel
theorem dX9_readsLie_72 : decode cX9_readsLie 72 = .ok (.aload_n 0, 1) := by decide +kernel
theorem dX9_readsLie_73 : decode cX9_readsLie 73 = .ok (.aload_n 0, 1) := by decide +kernel
theorem dX9_readsLie_74 : decode cX9_readsLie 74 = .ok (.getfield 101, 3) := by decide +kernel
theorem dX9_readsLie_77 : decode cX9_readsLie 77 = .ok (.iconst 4, 1) := by decide +kernel
theorem dX9_readsLie_78 : decode cX9_readsLie 78 = .ok (.if_icmp .ne 7, 3) := by decide +kernel
theorem dX9_readsLie_81 : decode cX9_readsLie 81 = .ok (.iconst 1, 1) := by decide +kernel
theorem dX9_readsLie_82 : decode cX9_readsLie 82 = .ok (.goto 4, 3) := by decide +kernel
theorem dX9_readsLie_85 : decode cX9_readsLie 85 = .ok (.iconst 0, 1) := by decide +kernel
theorem dX9_readsLie_86 : decode cX9_readsLie 86 = .ok (.iconst 1, 1) := by decide +kernel
theorem dX9_readsLie_87 : decode cX9_readsLie 87 = .ok (.invokevirtual 117, 3) := by decide +kernel
theorem dX9_readsLie_90 : decode cX9_readsLie 90 = .ok (.pop, 1) := by decide +kernel
theorem dX9_readsLie_91 : decode cX9_readsLie 91 = .ok (.aload_n 0, 1) := by decide +kernel
theorem dX9_readsLie_92 : decode cX9_readsLie 92 = .ok (.invokevirtual 107, 3) := by decide +kernel
theorem dX9_readsLie_95 : decode cX9_readsLie 95 = .ok (.ifCond .eq 39, 3) := by decide +kernel
theorem dX9_readsLie_98 : decode cX9_readsLie 98 = .ok (.aload_n 0, 1) := by decide +kernel
theorem dX9_readsLie_99 : decode cX9_readsLie 99 = .ok (.getfield 28, 3) := by decide +kernel
theorem dX9_readsLie_102 : decode cX9_readsLie 102 = .ok (.iload_n 2, 1) := by decide +kernel
theorem dX9_readsLie_103 : decode cX9_readsLie 103 = .ok (.iload_n 1, 1) := by decide +kernel
theorem dX9_readsLie_104 : decode cX9_readsLie 104 = .ok (.iastore, 1) := by decide +kernel
theorem dX9_readsLie_105 : decode cX9_readsLie 105 = .ok (.aload_n 0, 1) := by decide +kernel
theorem dX9_readsLie_106 : decode cX9_readsLie 106 = .ok (.getfield 28, 3) := by decide +kernel
theorem dX9_readsLie_109 : decode cX9_readsLie 109 = .ok (.iload_n 2, 1) := by decide +kernel
theorem dX9_readsLie_110 : decode cX9_readsLie 110 = .ok (.iconst 1, 1) := by decide +kernel
theorem dX9_readsLie_111 : decode cX9_readsLie 111 = .ok (.iadd, 1) := by decide +kernel
theorem dX9_readsLie_112 : decode cX9_readsLie 112 = .ok (.iload_n 3, 1) := by decide +kernel
theorem dX9_readsLie_113 : decode cX9_readsLie 113 = .ok (.iastore, 1) := by decide +kernel
theorem dX9_readsLie_114 : decode cX9_readsLie 114 = .ok (.aload_n 0, 1) := by decide +kernel
theorem dX9_readsLie_115 : decode cX9_readsLie 115 = .ok (.getfield 28, 3) := by decide +kernel
theorem dX9_readsLie_118 : decode cX9_readsLie 118 = .ok (.iload_n 2, 1) := by decide +kernel
theorem dX9_readsLie_119 : decode cX9_readsLie 119 = .ok (.iconst 2, 1) := by decide +kernel
theorem dX9_readsLie_120 : decode cX9_readsLie 120 = .ok (.iadd, 1) := by decide +kernel
theorem dX9_readsLie_121 : decode cX9_readsLie 121 = .ok (.iload 4, 2) := by decide +kernel
theorem dX9_readsLie_123 : decode cX9_readsLie 123 = .ok (.iastore, 1) := by decide +kernel
theorem dX9_readsLie_124 : decode cX9_readsLie 124 = .ok (.aload_n 0, 1) := by decide +kernel
theorem dX9_readsLie_125 : decode cX9_readsLie 125 = .ok (.getfield 28, 3) := by decide +kernel
theorem dX9_readsLie_128 : decode cX9_readsLie 128 = .ok (.iconst 2, 1) := by decide +kernel
theorem dX9_readsLie_129 : decode cX9_readsLie 129 = .ok (.dup2, 1) := by decide +kernel
theorem dX9_readsLie_130 : decode cX9_readsLie 130 = .ok (.iaload, 1) := by decide +kernel
theorem dX9_readsLie_131 : decode cX9_readsLie 131 = .ok (.iconst 1, 1) := by decide +kernel
theorem dX9_readsLie_132 : decode cX9_readsLie 132 = .ok (.iadd, 1) := by decide +kernel
theorem dX9_readsLie_133 : decode cX9_readsLie 133 = .ok (.iastore, 1) := by decide +kernel
theorem dX9_readsLie_134 : decode cX9_readsLie 134 = .ok (.return_, 1) := by decide +kernel
theorem dX9_readsStranger_0 : decode cX9_readsStranger 0 = .ok (.aload_n 0, 1) := by decide +kernel
theorem dX9_readsStranger_1 : decode cX9_readsStranger 1 = .ok (.aload_n 0, 1) := by decide +kernel
theorem dX9_readsStranger_2 : decode cX9_readsStranger 2 = .ok (.getfield 28, 3) := by decide +kernel
theorem dX9_readsStranger_5 : decode cX9_readsStranger 5 = .ok (.iconst 3, 1) := by decide +kernel
theorem dX9_readsStranger_6 : decode cX9_readsStranger 6 = .ok (.iaload, 1) := by decide +kernel
theorem dX9_readsStranger_7 : decode cX9_readsStranger 7 = .ok (.iconst 4, 1) := by decide +kernel
theorem dX9_readsStranger_8 : decode cX9_readsStranger 8 = .ok (.if_icmp .ge 7, 3) := by decide +kernel
theorem dX9_readsStranger_11 : decode cX9_readsStranger 11 = .ok (.iconst 1, 1) := by decide +kernel
theorem dX9_readsStranger_12 : decode cX9_readsStranger 12 = .ok (.goto 4, 3) := by decide +kernel
theorem dX9_readsStranger_15 : decode cX9_readsStranger 15 = .ok (.iconst 0, 1) := by decide +kernel
theorem dX9_readsStranger_16 : decode cX9_readsStranger 16 = .ok (.iconst 3, 1) := by decide +kernel
theorem dX9_readsStranger_17 : decode cX9_readsStranger 17 = .ok (.invokevirtual 117, 3) := by decide +kernel
theorem dX9_readsStranger_20 : decode cX9_readsStranger 20 = .ok (.pop, 1) := by decide +kernel
theorem dX9_readsStranger_21 : decode cX9_readsStranger 21 = .ok (.bipush 22, 2) := by decide +kernel
theorem dX9_readsStranger_23 : decode cX9_readsStranger 23 = .ok (.iconst 4, 1) := by decide +kernel
theorem dX9_readsStranger_24 : decode cX9_readsStranger 24 = .ok (.aload_n 0, 1) := by decide +kernel
theorem dX9_readsStranger_25 : decode cX9_readsStranger 25 = .ok (.getfield 28, 3) := by decide +kernel
theorem dX9_readsStranger_28 : decode cX9_readsStranger 28 = .ok (.iconst 3, 1) := by decide +kernel
theorem dX9_readsStranger_29 : decode cX9_readsStranger 29 = .ok (.iaload, 1) := by decide +kernel
theorem dX9_readsStranger_30 : decode cX9_readsStranger 30 = .ok (.iconst 4, 1) := by decide +kernel
theorem dX9_readsStranger_31 : decode cX9_readsStranger 31 = .ok (.if_icmp .ge 12, 3) := by decide +kernel
theorem dX9_readsStranger_34 : decode cX9_readsStranger 34 = .ok (.aload_n 0, 1) := by decide +kernel
theorem dX9_readsStranger_35 : decode cX9_readsStranger 35 = .ok (.getfield 28, 3) := by decide +kernel
theorem dX9_readsStranger_38 : decode cX9_readsStranger 38 = .ok (.iconst 3, 1) := by decide +kernel
theorem dX9_readsStranger_39 : decode cX9_readsStranger 39 = .ok (.iaload, 1) := by decide +kernel
theorem dX9_readsStranger_40 : decode cX9_readsStranger 40 = .ok (.goto 4, 3) := by decide +kernel
theorem dX9_readsStranger_43 : decode cX9_readsStranger 43 = .ok (.iconst 0, 1) := by decide +kernel
theorem dX9_readsStranger_44 : decode cX9_readsStranger 44 = .ok (.imul, 1) := by decide +kernel
theorem dX9_readsStranger_45 : decode cX9_readsStranger 45 = .ok (.iadd, 1) := by decide +kernel
theorem dX9_readsStranger_46 : decode cX9_readsStranger 46 = .ok (.istore_n 1, 1) := by decide +kernel
theorem dX9_readsStranger_47 : decode cX9_readsStranger 47 = .ok (.aload_n 0, 1) := by decide +kernel
theorem dX9_readsStranger_48 : decode cX9_readsStranger 48 = .ok (.iconst 0, 1) := by decide +kernel
theorem dX9_readsStranger_49 : decode cX9_readsStranger 49 = .ok (.bipush 20, 2) := by decide +kernel
theorem dX9_readsStranger_51 : decode cX9_readsStranger 51 = .ok (.invokevirtual 121, 3) := by decide +kernel
theorem dX9_readsStranger_54 : decode cX9_readsStranger 54 = .ok (.istore_n 2, 1) := by decide +kernel
theorem dX9_readsStranger_55 : decode cX9_readsStranger 55 = .ok (.aload_n 0, 1) := by decide +kernel
theorem dX9_readsStranger_56 : decode cX9_readsStranger 56 = .ok (.iconst 0, 1) := by decide +kernel
theorem dX9_readsStranger_57 : decode cX9_readsStranger 57 = .ok (.bipush 15, 2) := by decide +kernel
theorem dX9_readsStranger_59 : decode cX9_readsStranger 59 = .ok (.invokevirtual 127, 3) := by decide +kernel
theorem dX9_readsStranger_62 : decode cX9_readsStranger 62 = .ok (.istore_n 3, 1) := by decide +kernel
theorem dX9_readsStranger_63 : decode cX9_readsStranger 63 = .ok (.aload_n 0, 1) := by decide +kernel
theorem dX9_readsStranger_64 : decode cX9_readsStranger 64 = .ok (.aload_n 0, 1) := by decide +kernel
theorem dX9_readsStranger_65 : decode cX9_readsStranger 65 = .ok (.getfield 101, 3) := by decide +kernel
theorem dX9_readsStranger_68 : decode cX9_readsStranger 68 = .ok (.iconst 4, 1) := by decide +kernel
theorem dX9_readsStranger_69 : decode cX9_readsStranger 69 = .ok (.if_icmp .ne 7, 3) := by decide +kernel
theorem dX9_readsStranger_72 : decode cX9_readsStranger 72 = .ok (.iconst 1, 1) := by decide +kernel
theorem dX9_readsStranger_73 : decode cX9_readsStranger 73 = .ok (.goto 4, 3) := by decide +kernel
theorem dX9_readsStranger_76 : decode cX9_readsStranger 76 = .ok (.iconst 0, 1) := by decide +kernel
theorem dX9_readsStranger_77 : decode cX9_readsStranger 77 = .ok (.iconst 1, 1) := by decide +kernel
theorem dX9_readsStranger_78 : decode cX9_readsStranger 78 = .ok (.invokevirtual 117, 3) := by decide +kernel
theorem dX9_readsStranger_81 : decode cX9_readsStranger 81 = .ok (.pop, 1) := by decide +kernel
theorem dX9_readsStranger_82 : decode cX9_readsStranger 82 = .ok (.aload_n 0, 1) := by decide +kernel
theorem dX9_readsStranger_83 : decode cX9_readsStranger 83 = .ok (.invokevirtual 107, 3) := by decide +kernel
theorem dX9_readsStranger_86 : decode cX9_readsStranger 86 = .ok (.ifCond .eq 31, 3) := by decide +kernel
theorem dX9_readsStranger_89 : decode cX9_readsStranger 89 = .ok (.aload_n 0, 1) := by decide +kernel
theorem dX9_readsStranger_90 : decode cX9_readsStranger 90 = .ok (.getfield 28, 3) := by decide +kernel
theorem dX9_readsStranger_93 : decode cX9_readsStranger 93 = .ok (.iload_n 1, 1) := by decide +kernel
theorem dX9_readsStranger_94 : decode cX9_readsStranger 94 = .ok (.iconst 0, 1) := by decide +kernel
theorem dX9_readsStranger_95 : decode cX9_readsStranger 95 = .ok (.iadd, 1) := by decide +kernel
theorem dX9_readsStranger_96 : decode cX9_readsStranger 96 = .ok (.iload_n 2, 1) := by decide +kernel
theorem dX9_readsStranger_97 : decode cX9_readsStranger 97 = .ok (.iastore, 1) := by decide +kernel
theorem dX9_readsStranger_98 : decode cX9_readsStranger 98 = .ok (.aload_n 0, 1) := by decide +kernel
theorem dX9_readsStranger_99 : decode cX9_readsStranger 99 = .ok (.getfield 28, 3) := by decide +kernel
theorem dX9_readsStranger_102 : decode cX9_readsStranger 102 = .ok (.iload_n 1, 1) := by decide +kernel
theorem dX9_readsStranger_103 : decode cX9_readsStranger 103 = .ok (.iconst 1, 1) := by decide +kernel
theorem dX9_readsStranger_104 : decode cX9_readsStranger 104 = .ok (.iadd, 1) := by decide +kernel
theorem dX9_readsStranger_105 : decode cX9_readsStranger 105 = .ok (.iload_n 3, 1) := by decide +kernel
theorem dX9_readsStranger_106 : decode cX9_readsStranger 106 = .ok (.iastore, 1) := by decide +kernel
theorem dX9_readsStranger_107 : decode cX9_readsStranger 107 = .ok (.aload_n 0, 1) := by decide +kernel
theorem dX9_readsStranger_108 : decode cX9_readsStranger 108 = .ok (.getfield 28, 3) := by decide +kernel
theorem dX9_readsStranger_111 : decode cX9_readsStranger 111 = .ok (.iconst 3, 1) := by decide +kernel
theorem dX9_readsStranger_112 : decode cX9_readsStranger 112 = .ok (.dup2, 1) := by decide +kernel
theorem dX9_readsStranger_113 : decode cX9_readsStranger 113 = .ok (.iaload, 1) := by decide +kernel
theorem dX9_readsStranger_114 : decode cX9_readsStranger 114 = .ok (.iconst 1, 1) := by decide +kernel
theorem dX9_readsStranger_115 : decode cX9_readsStranger 115 = .ok (.iadd, 1) := by decide +kernel
theorem dX9_readsStranger_116 : decode cX9_readsStranger 116 = .ok (.iastore, 1) := by decide +kernel
theorem dX9_readsStranger_117 : decode cX9_readsStranger 117 = .ok (.return_, 1) := by decide +kernel
theorem dX9_town_0 : decode cX9_town 0 = .ok (.iconst 0, 1) := by decide +kernel
theorem dX9_town_1 : decode cX9_town 1 = .ok (.istore_n 1, 1) := by decide +kernel
theorem dX9_town_2 : decode cX9_town 2 = .ok (.iload_n 1, 1) := by decide +kernel
theorem dX9_town_3 : decode cX9_town 3 = .ok (.bipush 38, 2) := by decide +kernel
theorem dX9_town_5 : decode cX9_town 5 = .ok (.if_icmp .ge 16, 3) := by decide +kernel
theorem dX9_town_8 : decode cX9_town 8 = .ok (.aload_n 0, 1) := by decide +kernel
theorem dX9_town_9 : decode cX9_town 9 = .ok (.getfield 28, 3) := by decide +kernel
theorem dX9_town_12 : decode cX9_town 12 = .ok (.iload_n 1, 1) := by decide +kernel
theorem dX9_town_13 : decode cX9_town 13 = .ok (.iconst 0, 1) := by decide +kernel
theorem dX9_town_14 : decode cX9_town 14 = .ok (.iastore, 1) := by decide +kernel
theorem dX9_town_15 : decode cX9_town 15 = .ok (.iinc 1 1, 3) := by decide +kernel
theorem dX9_town_18 : decode cX9_town 18 = .ok (.goto (-16), 3) := by decide +kernel
theorem dX9_town_21 : decode cX9_town 21 = .ok (.aload_n 0, 1) := by decide +kernel
theorem dX9_town_22 : decode cX9_town 22 = .ok (.iconst 0, 1) := by decide +kernel
theorem dX9_town_23 : decode cX9_town 23 = .ok (.putfield 89, 3) := by decide +kernel
theorem dX9_town_26 : decode cX9_town 26 = .ok (.aload_n 0, 1) := by decide +kernel
theorem dX9_town_27 : decode cX9_town 27 = .ok (.iconst (-1), 1) := by decide +kernel
theorem dX9_town_28 : decode cX9_town 28 = .ok (.putfield 104, 3) := by decide +kernel
theorem dX9_town_31 : decode cX9_town 31 = .ok (.aload_n 0, 1) := by decide +kernel
theorem dX9_town_32 : decode cX9_town 32 = .ok (.invokevirtual 114, 3) := by decide +kernel
theorem dX9_town_35 : decode cX9_town 35 = .ok (.aload_n 0, 1) := by decide +kernel
theorem dX9_town_36 : decode cX9_town 36 = .ok (.aload_n 0, 1) := by decide +kernel
theorem dX9_town_37 : decode cX9_town 37 = .ok (.getfield 101, 3) := by decide +kernel
theorem dX9_town_40 : decode cX9_town 40 = .ok (.iconst 1, 1) := by decide +kernel
theorem dX9_town_41 : decode cX9_town 41 = .ok (.if_icmp .ne 16, 3) := by decide +kernel
theorem dX9_town_44 : decode cX9_town 44 = .ok (.aload_n 0, 1) := by decide +kernel
theorem dX9_town_45 : decode cX9_town 45 = .ok (.getfield 98, 3) := by decide +kernel
theorem dX9_town_48 : decode cX9_town 48 = .ok (.bipush 116, 2) := by decide +kernel
theorem dX9_town_50 : decode cX9_town 50 = .ok (.if_icmp .ne 7, 3) := by decide +kernel
theorem dX9_town_53 : decode cX9_town 53 = .ok (.iconst 1, 1) := by decide +kernel
theorem dX9_town_54 : decode cX9_town 54 = .ok (.goto 4, 3) := by decide +kernel
theorem dX9_town_57 : decode cX9_town 57 = .ok (.iconst 0, 1) := by decide +kernel
theorem dX9_town_58 : decode cX9_town 58 = .ok (.iconst 1, 1) := by decide +kernel
theorem dX9_town_59 : decode cX9_town 59 = .ok (.invokevirtual 117, 3) := by decide +kernel
theorem dX9_town_62 : decode cX9_town 62 = .ok (.pop, 1) := by decide +kernel
theorem dX9_town_63 : decode cX9_town 63 = .ok (.aload_n 0, 1) := by decide +kernel
theorem dX9_town_64 : decode cX9_town 64 = .ok (.getfield 28, 3) := by decide +kernel
theorem dX9_town_67 : decode cX9_town 67 = .ok (.iconst 0, 1) := by decide +kernel
theorem dX9_town_68 : decode cX9_town 68 = .ok (.aload_n 0, 1) := by decide +kernel
theorem dX9_town_69 : decode cX9_town 69 = .ok (.iconst 1, 1) := by decide +kernel
theorem dX9_town_70 : decode cX9_town 70 = .ok (.bipush 9, 2) := by decide +kernel
theorem dX9_town_72 : decode cX9_town 72 = .ok (.invokevirtual 121, 3) := by decide +kernel
theorem dX9_town_75 : decode cX9_town 75 = .ok (.iastore, 1) := by decide +kernel
theorem dX9_town_76 : decode cX9_town 76 = .ok (.aload_n 0, 1) := by decide +kernel
theorem dX9_town_77 : decode cX9_town 77 = .ok (.aload_n 0, 1) := by decide +kernel
theorem dX9_town_78 : decode cX9_town 78 = .ok (.getfield 101, 3) := by decide +kernel
theorem dX9_town_81 : decode cX9_town 81 = .ok (.iconst 4, 1) := by decide +kernel
theorem dX9_town_82 : decode cX9_town 82 = .ok (.if_icmp .ne 7, 3) := by decide +kernel
theorem dX9_town_85 : decode cX9_town 85 = .ok (.iconst 1, 1) := by decide +kernel
theorem dX9_town_86 : decode cX9_town 86 = .ok (.goto 4, 3) := by decide +kernel
theorem dX9_town_89 : decode cX9_town 89 = .ok (.iconst 0, 1) := by decide +kernel
theorem dX9_town_90 : decode cX9_town 90 = .ok (.iconst 1, 1) := by decide +kernel
theorem dX9_town_91 : decode cX9_town 91 = .ok (.invokevirtual 117, 3) := by decide +kernel
theorem dX9_town_94 : decode cX9_town 94 = .ok (.pop, 1) := by decide +kernel
theorem dX9_town_95 : decode cX9_town 95 = .ok (.aload_n 0, 1) := by decide +kernel
theorem dX9_town_96 : decode cX9_town 96 = .ok (.invokevirtual 107, 3) := by decide +kernel
theorem dX9_town_99 : decode cX9_town 99 = .ok (.ifCond .eq 28, 3) := by decide +kernel
theorem dX9_town_102 : decode cX9_town 102 = .ok (.aload_n 0, 1) := by decide +kernel
theorem dX9_town_103 : decode cX9_town 103 = .ok (.getfield 101, 3) := by decide +kernel
theorem dX9_town_106 : decode cX9_town 106 = .ok (.iconst 1, 1) := by decide +kernel
theorem dX9_town_107 : decode cX9_town 107 = .ok (.if_icmp .ne 20, 3) := by decide +kernel
theorem dX9_town_110 : decode cX9_town 110 = .ok (.aload_n 0, 1) := by decide +kernel
theorem dX9_town_111 : decode cX9_town 111 = .ok (.getfield 98, 3) := by decide +kernel
theorem dX9_town_114 : decode cX9_town 114 = .ok (.invokestatic 124, 3) := by decide +kernel
theorem dX9_town_117 : decode cX9_town 117 = .ok (.ifCond .le 10, 3) := by decide +kernel
theorem dX9_town_120 : decode cX9_town 120 = .ok (.aload_n 0, 1) := by decide +kernel
theorem dX9_town_121 : decode cX9_town 121 = .ok (.invokevirtual 130, 3) := by decide +kernel
theorem dX9_town_124 : decode cX9_town 124 = .ok (.goto (-29), 3) := by decide +kernel
theorem dX9_town_127 : decode cX9_town 127 = .ok (.aload_n 0, 1) := by decide +kernel
theorem dX9_town_128 : decode cX9_town 128 = .ok (.invokevirtual 107, 3) := by decide +kernel
theorem dX9_town_131 : decode cX9_town 131 = .ok (.ifCond .eq 27, 3) := by decide +kernel
theorem dX9_town_134 : decode cX9_town 134 = .ok (.aload_n 0, 1) := by decide +kernel
theorem dX9_town_135 : decode cX9_town 135 = .ok (.getfield 101, 3) := by decide +kernel
theorem dX9_town_138 : decode cX9_town 138 = .ok (.iconst 1, 1) := by decide +kernel
theorem dX9_town_139 : decode cX9_town 139 = .ok (.if_icmp .ne 19, 3) := by decide +kernel
theorem dX9_town_142 : decode cX9_town 142 = .ok (.aload_n 0, 1) := by decide +kernel
theorem dX9_town_143 : decode cX9_town 143 = .ok (.getfield 98, 3) := by decide +kernel
theorem dX9_town_146 : decode cX9_town 146 = .ok (.bipush 115, 2) := by decide +kernel
theorem dX9_town_148 : decode cX9_town 148 = .ok (.if_icmp .ne 10, 3) := by decide +kernel
theorem dX9_town_151 : decode cX9_town 151 = .ok (.aload_n 0, 1) := by decide +kernel
theorem dX9_town_152 : decode cX9_town 152 = .ok (.invokevirtual 133, 3) := by decide +kernel
theorem dX9_town_155 : decode cX9_town 155 = .ok (.goto (-28), 3) := by decide +kernel
theorem dX9_town_158 : decode cX9_town 158 = .ok (.aload_n 0, 1) := by decide +kernel
theorem dX9_town_159 : decode cX9_town 159 = .ok (.invokevirtual 107, 3) := by decide +kernel
theorem dX9_town_162 : decode cX9_town 162 = .ok (.ifCond .eq 17, 3) := by decide +kernel
theorem dX9_town_165 : decode cX9_town 165 = .ok (.aload_n 0, 1) := by decide +kernel
theorem dX9_town_166 : decode cX9_town 166 = .ok (.getfield 101, 3) := by decide +kernel
theorem dX9_town_169 : decode cX9_town 169 = .ok (.ifCond .eq 10, 3) := by decide +kernel
theorem dX9_town_172 : decode cX9_town 172 = .ok (.aload_n 0, 1) := by decide +kernel
theorem dX9_town_173 : decode cX9_town 173 = .ok (.iconst 0, 1) := by decide +kernel
theorem dX9_town_174 : decode cX9_town 174 = .ok (.iconst 1, 1) := by decide +kernel
theorem dX9_town_175 : decode cX9_town 175 = .ok (.invokevirtual 117, 3) := by decide +kernel
theorem dX9_town_178 : decode cX9_town 178 = .ok (.pop, 1) := by decide +kernel
theorem dX9_town_179 : decode cX9_town 179 = .ok (.aload_n 0, 1) := by decide +kernel
theorem dX9_town_180 : decode cX9_town 180 = .ok (.iconst 0, 1) := by decide +kernel
theorem dX9_town_181 : decode cX9_town 181 = .ok (.putfield 85, 3) := by decide +kernel
theorem dX9_town_184 : decode cX9_town 184 = .ok (.aload_n 0, 1) := by decide +kernel
theorem dX9_town_185 : decode cX9_town 185 = .ok (.invokevirtual 107, 3) := by decide +kernel
theorem dX9_town_188 : decode cX9_town 188 = .ok (.ifCond .ne 11, 3) := by decide +kernel
theorem dX9_town_191 : decode cX9_town 191 = .ok (.ldc 136, 2) := by decide +kernel
theorem dX9_town_193 : decode cX9_town 193 = .ok (.aload_n 0, 1) := by decide +kernel
theorem dX9_town_194 : decode cX9_town 194 = .ok (.getfield 104, 3) := by decide +kernel
theorem dX9_town_197 : decode cX9_town 197 = .ok (.isub, 1) := by decide +kernel
theorem dX9_town_198 : decode cX9_town 198 = .ok (.ireturn, 1) := by decide +kernel
theorem dX9_town_199 : decode cX9_town 199 = .ok (.aload_n 0, 1) := by decide +kernel
theorem dX9_town_200 : decode cX9_town 200 = .ok (.getfield 28, 3) := by decide +kernel
theorem dX9_town_203 : decode cX9_town 203 = .ok (.iconst 0, 1) := by decide +kernel
theorem dX9_town_204 : decode cX9_town 204 = .ok (.aload_n 0, 1) := by decide +kernel
theorem dX9_town_205 : decode cX9_town 205 = .ok (.getfield 25, 3) := by decide +kernel
theorem dX9_town_208 : decode cX9_town 208 = .ok (.iconst 0, 1) := by decide +kernel
theorem dX9_town_209 : decode cX9_town 209 = .ok (.invokestatic 137, 3) := by decide +kernel
theorem dX9_town_212 : decode cX9_town 212 = .ok (.aload_n 0, 1) := by decide +kernel
theorem dX9_town_213 : decode cX9_town 213 = .ok (.iconst 0, 1) := by decide +kernel
theorem dX9_town_214 : decode cX9_town 214 = .ok (.putfield 141, 3) := by decide +kernel
theorem dX9_town_217 : decode cX9_town 217 = .ok (.aload_n 0, 1) := by decide +kernel
theorem dX9_town_218 : decode cX9_town 218 = .ok (.getfield 25, 3) := by decide +kernel
theorem dX9_town_221 : decode cX9_town 221 = .ok (.iconst 3, 1) := by decide +kernel
theorem dX9_town_222 : decode cX9_town 222 = .ok (.iaload, 1) := by decide +kernel
theorem dX9_town_223 : decode cX9_town 223 = .ok (.ireturn, 1) := by decide +kernel
theorem dX9_fault_0 : decode cX9_fault 0 = .ok (.aload_n 0, 1) := by decide +kernel
theorem dX9_fault_1 : decode cX9_fault 1 = .ok (.getfield 111, 3) := by decide +kernel
theorem dX9_fault_4 : decode cX9_fault 4 = .ok (.ireturn, 1) := by decide +kernel
theorem dX9_isTown_0 : decode cX9_isTown 0 = .ok (.aload_n 0, 1) := by decide +kernel
theorem dX9_isTown_1 : decode cX9_isTown 1 = .ok (.getfield 25, 3) := by decide +kernel
theorem dX9_isTown_4 : decode cX9_isTown 4 = .ok (.iconst 0, 1) := by decide +kernel
theorem dX9_isTown_5 : decode cX9_isTown 5 = .ok (.iaload, 1) := by decide +kernel
theorem dX9_isTown_6 : decode cX9_isTown 6 = .ok (.ifCond .le 7, 3) := by decide +kernel
theorem dX9_isTown_9 : decode cX9_isTown 9 = .ok (.iconst 1, 1) := by decide +kernel
theorem dX9_isTown_10 : decode cX9_isTown 10 = .ok (.goto 4, 3) := by decide +kernel
theorem dX9_isTown_13 : decode cX9_isTown 13 = .ok (.iconst 0, 1) := by decide +kernel
theorem dX9_isTown_14 : decode cX9_isTown 14 = .ok (.ireturn, 1) := by decide +kernel
theorem dX9_isLie_0 : decode cX9_isLie 0 = .ok (.iload_n 1, 1) := by decide +kernel
theorem dX9_isLie_1 : decode cX9_isLie 1 = .ok (.iconst 0, 1) := by decide +kernel
theorem dX9_isLie_2 : decode cX9_isLie 2 = .ok (.aload_n 0, 1) := by decide +kernel
theorem dX9_isLie_3 : decode cX9_isLie 3 = .ok (.getfield 25, 3) := by decide +kernel
theorem dX9_isLie_6 : decode cX9_isLie 6 = .ok (.iconst 2, 1) := by decide +kernel
theorem dX9_isLie_7 : decode cX9_isLie 7 = .ok (.iaload, 1) := by decide +kernel
theorem dX9_isLie_8 : decode cX9_isLie 8 = .ok (.iconst 1, 1) := by decide +kernel
theorem dX9_isLie_9 : decode cX9_isLie 9 = .ok (.isub, 1) := by decide +kernel
theorem dX9_isLie_10 : decode cX9_isLie 10 = .ok (.invokestatic 59, 3) := by decide +kernel
theorem dX9_isLie_13 : decode cX9_isLie 13 = .ok (.ireturn, 1) := by decide +kernel
theorem dX9_isStranger_0 : decode cX9_isStranger 0 = .ok (.iload_n 1, 1) := by decide +kernel
theorem dX9_isStranger_1 : decode cX9_isStranger 1 = .ok (.iconst 0, 1) := by decide +kernel
theorem dX9_isStranger_2 : decode cX9_isStranger 2 = .ok (.aload_n 0, 1) := by decide +kernel
theorem dX9_isStranger_3 : decode cX9_isStranger 3 = .ok (.getfield 25, 3) := by decide +kernel
theorem dX9_isStranger_6 : decode cX9_isStranger 6 = .ok (.iconst 3, 1) := by decide +kernel
theorem dX9_isStranger_7 : decode cX9_isStranger 7 = .ok (.iaload, 1) := by decide +kernel
theorem dX9_isStranger_8 : decode cX9_isStranger 8 = .ok (.iconst 1, 1) := by decide +kernel
theorem dX9_isStranger_9 : decode cX9_isStranger 9 = .ok (.isub, 1) := by decide +kernel
theorem dX9_isStranger_10 : decode cX9_isStranger 10 = .ok (.invokestatic 59, 3) := by decide +kernel
theorem dX9_isStranger_13 : decode cX9_isStranger 13 = .ok (.ireturn, 1) := by decide +kernel
theorem dX9_tries_0 : decode cX9_tries 0 = .ok (.bipush 22, 2) := by decide +kernel
theorem dX9_tries_2 : decode cX9_tries 2 = .ok (.iconst 4, 1) := by decide +kernel
theorem dX9_tries_3 : decode cX9_tries 3 = .ok (.iload_n 1, 1) := by decide +kernel
theorem dX9_tries_4 : decode cX9_tries 4 = .ok (.imul, 1) := by decide +kernel
theorem dX9_tries_5 : decode cX9_tries 5 = .ok (.iadd, 1) := by decide +kernel
theorem dX9_tries_6 : decode cX9_tries 6 = .ok (.istore_n 2, 1) := by decide +kernel
theorem dX9_tries_7 : decode cX9_tries 7 = .ok (.aload_n 0, 1) := by decide +kernel
theorem dX9_tries_8 : decode cX9_tries 8 = .ok (.aload_n 0, 1) := by decide +kernel
theorem dX9_tries_9 : decode cX9_tries 9 = .ok (.getfield 25, 3) := by decide +kernel
theorem dX9_tries_12 : decode cX9_tries 12 = .ok (.iload_n 2, 1) := by decide +kernel
theorem dX9_tries_13 : decode cX9_tries 13 = .ok (.iconst 0, 1) := by decide +kernel
theorem dX9_tries_14 : decode cX9_tries 14 = .ok (.iadd, 1) := by decide +kernel
theorem dX9_tries_15 : decode cX9_tries 15 = .ok (.iaload, 1) := by decide +kernel
theorem dX9_tries_16 : decode cX9_tries 16 = .ok (.putfield 144, 3) := by decide +kernel
theorem dX9_tries_19 : decode cX9_tries 19 = .ok (.aload_n 0, 1) := by decide +kernel
theorem dX9_tries_20 : decode cX9_tries 20 = .ok (.aload_n 0, 1) := by decide +kernel
theorem dX9_tries_21 : decode cX9_tries 21 = .ok (.getfield 25, 3) := by decide +kernel
theorem dX9_tries_24 : decode cX9_tries 24 = .ok (.iload_n 2, 1) := by decide +kernel
theorem dX9_tries_25 : decode cX9_tries 25 = .ok (.iconst 1, 1) := by decide +kernel
theorem dX9_tries_26 : decode cX9_tries 26 = .ok (.iadd, 1) := by decide +kernel
theorem dX9_tries_27 : decode cX9_tries 27 = .ok (.iaload, 1) := by decide +kernel
theorem dX9_tries_28 : decode cX9_tries 28 = .ok (.putfield 147, 3) := by decide +kernel
theorem dX9_tries_31 : decode cX9_tries 31 = .ok (.aload_n 0, 1) := by decide +kernel
theorem dX9_tries_32 : decode cX9_tries 32 = .ok (.aload_n 0, 1) := by decide +kernel
theorem dX9_tries_33 : decode cX9_tries 33 = .ok (.getfield 25, 3) := by decide +kernel
theorem dX9_tries_36 : decode cX9_tries 36 = .ok (.iload_n 2, 1) := by decide +kernel
theorem dX9_tries_37 : decode cX9_tries 37 = .ok (.iconst 2, 1) := by decide +kernel
theorem dX9_tries_38 : decode cX9_tries 38 = .ok (.iadd, 1) := by decide +kernel
theorem dX9_tries_39 : decode cX9_tries 39 = .ok (.iaload, 1) := by decide +kernel
theorem dX9_tries_40 : decode cX9_tries 40 = .ok (.invokestatic 150, 3) := by decide +kernel
theorem dX9_tries_43 : decode cX9_tries 43 = .ok (.putfield 153, 3) := by decide +kernel
theorem dX9_tries_46 : decode cX9_tries 46 = .ok (.iconst 0, 1) := by decide +kernel
theorem dX9_tries_47 : decode cX9_tries 47 = .ok (.istore_n 3, 1) := by decide +kernel
theorem dX9_tries_48 : decode cX9_tries 48 = .ok (.iload_n 3, 1) := by decide +kernel
theorem dX9_tries_49 : decode cX9_tries 49 = .ok (.iconst 4, 1) := by decide +kernel
theorem dX9_tries_50 : decode cX9_tries 50 = .ok (.if_icmp .ge 16, 3) := by decide +kernel
theorem dX9_tries_53 : decode cX9_tries 53 = .ok (.aload_n 0, 1) := by decide +kernel
theorem dX9_tries_54 : decode cX9_tries 54 = .ok (.getfield 44, 3) := by decide +kernel
theorem dX9_tries_57 : decode cX9_tries 57 = .ok (.iload_n 3, 1) := by decide +kernel
theorem dX9_tries_58 : decode cX9_tries 58 = .ok (.iconst 0, 1) := by decide +kernel
theorem dX9_tries_59 : decode cX9_tries 59 = .ok (.iastore, 1) := by decide +kernel
theorem dX9_tries_60 : decode cX9_tries 60 = .ok (.iinc 3 1, 3) := by decide +kernel
theorem dX9_tries_63 : decode cX9_tries 63 = .ok (.goto (-15), 3) := by decide +kernel
theorem dX9_tries_66 : decode cX9_tries 66 = .ok (.iconst 0, 1) := by decide +kernel
theorem dX9_tries_67 : decode cX9_tries 67 = .ok (.istore_n 3, 1) := by decide +kernel
theorem dX9_tries_68 : decode cX9_tries 68 = .ok (.iload_n 3, 1) := by decide +kernel
theorem dX9_tries_69 : decode cX9_tries 69 = .ok (.aload_n 0, 1) := by decide +kernel
theorem dX9_tries_70 : decode cX9_tries 70 = .ok (.getfield 25, 3) := by decide +kernel
theorem dX9_tries_73 : decode cX9_tries 73 = .ok (.iconst 2, 1) := by decide +kernel
theorem dX9_tries_74 : decode cX9_tries 74 = .ok (.iaload, 1) := by decide +kernel
theorem dX9_tries_75 : decode cX9_tries 75 = .ok (.if_icmp .ge 49, 3) := by decide +kernel
theorem dX9_tries_78 : decode cX9_tries 78 = .ok (.aload_n 0, 1) := by decide +kernel
theorem dX9_tries_79 : decode cX9_tries 79 = .ok (.getfield 44, 3) := by decide +kernel
theorem dX9_tries_82 : decode cX9_tries 82 = .ok (.aload_n 0, 1) := by decide +kernel
theorem dX9_tries_83 : decode cX9_tries 83 = .ok (.getfield 25, 3) := by decide +kernel
theorem dX9_tries_86 : decode cX9_tries 86 = .ok (.iconst 4, 1) := by decide +kernel
theorem dX9_tries_87 : decode cX9_tries 87 = .ok (.iconst 3, 1) := by decide +kernel
theorem dX9_tries_88 : decode cX9_tries 88 = .ok (.iload_n 3, 1) := by decide +kernel
theorem dX9_tries_89 : decode cX9_tries 89 = .ok (.imul, 1) := by decide +kernel
theorem dX9_tries_90 : decode cX9_tries 90 = .ok (.iadd, 1) := by decide +kernel
theorem dX9_tries_91 : decode cX9_tries 91 = .ok (.iconst 2, 1) := by decide +kernel
theorem dX9_tries_92 : decode cX9_tries 92 = .ok (.iadd, 1) := by decide +kernel
theorem dX9_tries_93 : decode cX9_tries 93 = .ok (.iaload, 1) := by decide +kernel
theorem dX9_tries_94 : decode cX9_tries 94 = .ok (.dup2, 1) := by decide +kernel
theorem dX9_tries_95 : decode cX9_tries 95 = .ok (.iaload, 1) := by decide +kernel
theorem dX9_tries_96 : decode cX9_tries 96 = .ok (.aload_n 0, 1) := by decide +kernel
theorem dX9_tries_97 : decode cX9_tries 97 = .ok (.getfield 25, 3) := by decide +kernel
theorem dX9_tries_100 : decode cX9_tries 100 = .ok (.iload_n 2, 1) := by decide +kernel
theorem dX9_tries_101 : decode cX9_tries 101 = .ok (.iconst 3, 1) := by decide +kernel
theorem dX9_tries_102 : decode cX9_tries 102 = .ok (.iadd, 1) := by decide +kernel
theorem dX9_tries_103 : decode cX9_tries 103 = .ok (.iaload, 1) := by decide +kernel
theorem dX9_tries_104 : decode cX9_tries 104 = .ok (.iload_n 3, 1) := by decide +kernel
theorem dX9_tries_105 : decode cX9_tries 105 = .ok (.invokestatic 156, 3) := by decide +kernel
theorem dX9_tries_108 : decode cX9_tries 108 = .ok (.ifCond .eq 7, 3) := by decide +kernel
theorem dX9_tries_111 : decode cX9_tries 111 = .ok (.iconst 1, 1) := by decide +kernel
theorem dX9_tries_112 : decode cX9_tries 112 = .ok (.goto 4, 3) := by decide +kernel
theorem dX9_tries_115 : decode cX9_tries 115 = .ok (.iconst 0, 1) := by decide +kernel
theorem dX9_tries_116 : decode cX9_tries 116 = .ok (.iadd, 1) := by decide +kernel
theorem dX9_tries_117 : decode cX9_tries 117 = .ok (.iastore, 1) := by decide +kernel
theorem dX9_tries_118 : decode cX9_tries 118 = .ok (.iinc 3 1, 3) := by decide +kernel
theorem dX9_tries_121 : decode cX9_tries 121 = .ok (.goto (-53), 3) := by decide +kernel
theorem dX9_tries_124 : decode cX9_tries 124 = .ok (.return_, 1) := by decide +kernel
theorem dX9_needs_0 : decode cX9_needs 0 = .ok (.aload_n 0, 1) := by decide +kernel
theorem dX9_needs_1 : decode cX9_needs 1 = .ok (.getfield 25, 3) := by decide +kernel
theorem dX9_needs_4 : decode cX9_needs 4 = .ok (.iconst 4, 1) := by decide +kernel
theorem dX9_needs_5 : decode cX9_needs 5 = .ok (.iconst 3, 1) := by decide +kernel
theorem dX9_needs_6 : decode cX9_needs 6 = .ok (.iload_n 1, 1) := by decide +kernel
theorem dX9_needs_7 : decode cX9_needs 7 = .ok (.imul, 1) := by decide +kernel
theorem dX9_needs_8 : decode cX9_needs 8 = .ok (.iadd, 1) := by decide +kernel
theorem dX9_needs_9 : decode cX9_needs 9 = .ok (.iconst 1, 1) := by decide +kernel
theorem dX9_needs_10 : decode cX9_needs 10 = .ok (.iadd, 1) := by decide +kernel
theorem dX9_needs_11 : decode cX9_needs 11 = .ok (.iaload, 1) := by decide +kernel
theorem dX9_needs_12 : decode cX9_needs 12 = .ok (.istore_n 2, 1) := by decide +kernel
theorem dX9_needs_13 : decode cX9_needs 13 = .ok (.aload_n 0, 1) := by decide +kernel
theorem dX9_needs_14 : decode cX9_needs 14 = .ok (.getfield 25, 3) := by decide +kernel
theorem dX9_needs_17 : decode cX9_needs 17 = .ok (.iconst 4, 1) := by decide +kernel
theorem dX9_needs_18 : decode cX9_needs 18 = .ok (.iconst 3, 1) := by decide +kernel
theorem dX9_needs_19 : decode cX9_needs 19 = .ok (.iload_n 1, 1) := by decide +kernel
theorem dX9_needs_20 : decode cX9_needs 20 = .ok (.imul, 1) := by decide +kernel
end
section
theorem dX9_needs_21 : decode cX9_needs 21 = .ok (.iadd, 1) := by decide +kernel
theorem dX9_needs_22 : decode cX9_needs 22 = .ok (.iconst 2, 1) := by decide +kernel
theorem dX9_needs_23 : decode cX9_needs 23 = .ok (.iadd, 1) := by decide +kernel
theorem dX9_needs_24 : decode cX9_needs 24 = .ok (.iaload, 1) := by decide +kernel
theorem dX9_needs_25 : decode cX9_needs 25 = .ok (.istore_n 3, 1) := by decide +kernel
theorem dX9_needs_26 : decode cX9_needs 26 = .ok (.aload_n 0, 1) := by decide +kernel
theorem dX9_needs_27 : decode cX9_needs 27 = .ok (.getfield 147, 3) := by decide +kernel
theorem dX9_needs_30 : decode cX9_needs 30 = .ok (.iload_n 3, 1) := by decide +kernel
theorem dX9_needs_31 : decode cX9_needs 31 = .ok (.invokestatic 156, 3) := by decide +kernel
theorem dX9_needs_34 : decode cX9_needs 34 = .ok (.ifCond .eq 7, 3) := by decide +kernel
theorem dX9_needs_37 : decode cX9_needs 37 = .ok (.iconst 3, 1) := by decide +kernel
theorem dX9_needs_38 : decode cX9_needs 38 = .ok (.goto 4, 3) := by decide +kernel
theorem dX9_needs_41 : decode cX9_needs 41 = .ok (.iconst 0, 1) := by decide +kernel
theorem dX9_needs_42 : decode cX9_needs 42 = .ok (.istore 4, 2) := by decide +kernel
theorem dX9_needs_44 : decode cX9_needs 44 = .ok (.aload_n 0, 1) := by decide +kernel
theorem dX9_needs_45 : decode cX9_needs 45 = .ok (.getfield 44, 3) := by decide +kernel
theorem dX9_needs_48 : decode cX9_needs 48 = .ok (.iload_n 3, 1) := by decide +kernel
theorem dX9_needs_49 : decode cX9_needs 49 = .ok (.iaload, 1) := by decide +kernel
theorem dX9_needs_50 : decode cX9_needs 50 = .ok (.ifCond .le 7, 3) := by decide +kernel
theorem dX9_needs_53 : decode cX9_needs 53 = .ok (.iconst 0, 1) := by decide +kernel
theorem dX9_needs_54 : decode cX9_needs 54 = .ok (.goto 7, 3) := by decide +kernel
theorem dX9_needs_57 : decode cX9_needs 57 = .ok (.bipush 20, 2) := by decide +kernel
theorem dX9_needs_59 : decode cX9_needs 59 = .ok (.iload_n 2, 1) := by decide +kernel
theorem dX9_needs_60 : decode cX9_needs 60 = .ok (.iadd, 1) := by decide +kernel
theorem dX9_needs_61 : decode cX9_needs 61 = .ok (.istore 5, 2) := by decide +kernel
theorem dX9_needs_63 : decode cX9_needs 63 = .ok (.aload_n 0, 1) := by decide +kernel
theorem dX9_needs_64 : decode cX9_needs 64 = .ok (.getfield 25, 3) := by decide +kernel
theorem dX9_needs_67 : decode cX9_needs 67 = .ok (.iconst 4, 1) := by decide +kernel
theorem dX9_needs_68 : decode cX9_needs 68 = .ok (.iconst 3, 1) := by decide +kernel
theorem dX9_needs_69 : decode cX9_needs 69 = .ok (.iload_n 1, 1) := by decide +kernel
theorem dX9_needs_70 : decode cX9_needs 70 = .ok (.imul, 1) := by decide +kernel
theorem dX9_needs_71 : decode cX9_needs 71 = .ok (.iadd, 1) := by decide +kernel
theorem dX9_needs_72 : decode cX9_needs 72 = .ok (.iaload, 1) := by decide +kernel
theorem dX9_needs_73 : decode cX9_needs 73 = .ok (.tableswitch 79 1 4 #[31, 36, 43, 73], 31) := by decide +kernel
theorem dX9_needs_104 : decode cX9_needs 104 = .ok (.iload_n 2, 1) := by decide +kernel
theorem dX9_needs_105 : decode cX9_needs 105 = .ok (.iload 4, 2) := by decide +kernel
theorem dX9_needs_107 : decode cX9_needs 107 = .ok (.iadd, 1) := by decide +kernel
theorem dX9_needs_108 : decode cX9_needs 108 = .ok (.ireturn, 1) := by decide +kernel
theorem dX9_needs_109 : decode cX9_needs 109 = .ok (.iconst 2, 1) := by decide +kernel
theorem dX9_needs_110 : decode cX9_needs 110 = .ok (.iload_n 2, 1) := by decide +kernel
theorem dX9_needs_111 : decode cX9_needs 111 = .ok (.imul, 1) := by decide +kernel
theorem dX9_needs_112 : decode cX9_needs 112 = .ok (.iload 4, 2) := by decide +kernel
theorem dX9_needs_114 : decode cX9_needs 114 = .ok (.iadd, 1) := by decide +kernel
theorem dX9_needs_115 : decode cX9_needs 115 = .ok (.ireturn, 1) := by decide +kernel
theorem dX9_needs_116 : decode cX9_needs 116 = .ok (.iload_n 2, 1) := by decide +kernel
theorem dX9_needs_117 : decode cX9_needs 117 = .ok (.iconst 2, 1) := by decide +kernel
theorem dX9_needs_118 : decode cX9_needs 118 = .ok (.aload_n 0, 1) := by decide +kernel
theorem dX9_needs_119 : decode cX9_needs 119 = .ok (.getfield 44, 3) := by decide +kernel
theorem dX9_needs_122 : decode cX9_needs 122 = .ok (.iload_n 3, 1) := by decide +kernel
theorem dX9_needs_123 : decode cX9_needs 123 = .ok (.iaload, 1) := by decide +kernel
theorem dX9_needs_124 : decode cX9_needs 124 = .ok (.imul, 1) := by decide +kernel
theorem dX9_needs_125 : decode cX9_needs 125 = .ok (.if_icmp .le 16, 3) := by decide +kernel
theorem dX9_needs_128 : decode cX9_needs 128 = .ok (.iload_n 2, 1) := by decide +kernel
theorem dX9_needs_129 : decode cX9_needs 129 = .ok (.iconst 2, 1) := by decide +kernel
theorem dX9_needs_130 : decode cX9_needs 130 = .ok (.aload_n 0, 1) := by decide +kernel
theorem dX9_needs_131 : decode cX9_needs 131 = .ok (.getfield 44, 3) := by decide +kernel
theorem dX9_needs_134 : decode cX9_needs 134 = .ok (.iload_n 3, 1) := by decide +kernel
theorem dX9_needs_135 : decode cX9_needs 135 = .ok (.iaload, 1) := by decide +kernel
theorem dX9_needs_136 : decode cX9_needs 136 = .ok (.imul, 1) := by decide +kernel
theorem dX9_needs_137 : decode cX9_needs 137 = .ok (.isub, 1) := by decide +kernel
theorem dX9_needs_138 : decode cX9_needs 138 = .ok (.goto 4, 3) := by decide +kernel
theorem dX9_needs_141 : decode cX9_needs 141 = .ok (.iconst 0, 1) := by decide +kernel
theorem dX9_needs_142 : decode cX9_needs 142 = .ok (.iload 4, 2) := by decide +kernel
theorem dX9_needs_144 : decode cX9_needs 144 = .ok (.iadd, 1) := by decide +kernel
theorem dX9_needs_145 : decode cX9_needs 145 = .ok (.ireturn, 1) := by decide +kernel
theorem dX9_needs_146 : decode cX9_needs 146 = .ok (.iload 5, 2) := by decide +kernel
theorem dX9_needs_148 : decode cX9_needs 148 = .ok (.iload 4, 2) := by decide +kernel
theorem dX9_needs_150 : decode cX9_needs 150 = .ok (.iadd, 1) := by decide +kernel
theorem dX9_needs_151 : decode cX9_needs 151 = .ok (.ireturn, 1) := by decide +kernel
theorem dX9_needs_152 : decode cX9_needs 152 = .ok (.aload_n 0, 1) := by decide +kernel
theorem dX9_needs_153 : decode cX9_needs 153 = .ok (.getfield 153, 3) := by decide +kernel
theorem dX9_needs_156 : decode cX9_needs 156 = .ok (.iconst 2, 1) := by decide +kernel
theorem dX9_needs_157 : decode cX9_needs 157 = .ok (.if_icmp .ge 8, 3) := by decide +kernel
theorem dX9_needs_160 : decode cX9_needs 160 = .ok (.bipush 99, 2) := by decide +kernel
theorem dX9_needs_162 : decode cX9_needs 162 = .ok (.goto 5, 3) := by decide +kernel
theorem dX9_needs_165 : decode cX9_needs 165 = .ok (.iload 5, 2) := by decide +kernel
theorem dX9_needs_167 : decode cX9_needs 167 = .ok (.iload 4, 2) := by decide +kernel
theorem dX9_needs_169 : decode cX9_needs 169 = .ok (.iadd, 1) := by decide +kernel
theorem dX9_needs_170 : decode cX9_needs 170 = .ok (.ireturn, 1) := by decide +kernel
theorem dX9_wouldNod_0 : decode cX9_wouldNod 0 = .ok (.aload_n 0, 1) := by decide +kernel
theorem dX9_wouldNod_1 : decode cX9_wouldNod 1 = .ok (.getfield 144, 3) := by decide +kernel
theorem dX9_wouldNod_4 : decode cX9_wouldNod 4 = .ok (.aload_n 0, 1) := by decide +kernel
theorem dX9_wouldNod_5 : decode cX9_wouldNod 5 = .ok (.iload_n 1, 1) := by decide +kernel
theorem dX9_wouldNod_6 : decode cX9_wouldNod 6 = .ok (.invokevirtual 160, 3) := by decide +kernel
theorem dX9_wouldNod_9 : decode cX9_wouldNod 9 = .ok (.if_icmp .lt 7, 3) := by decide +kernel
theorem dX9_wouldNod_12 : decode cX9_wouldNod 12 = .ok (.iconst 1, 1) := by decide +kernel
theorem dX9_wouldNod_13 : decode cX9_wouldNod 13 = .ok (.goto 4, 3) := by decide +kernel
theorem dX9_wouldNod_16 : decode cX9_wouldNod 16 = .ok (.iconst 0, 1) := by decide +kernel
theorem dX9_wouldNod_17 : decode cX9_wouldNod 17 = .ok (.ireturn, 1) := by decide +kernel
theorem dX9_hears_0 : decode cX9_hears 0 = .ok (.aload_n 0, 1) := by decide +kernel
theorem dX9_hears_1 : decode cX9_hears 1 = .ok (.dup, 1) := by decide +kernel
theorem dX9_hears_2 : decode cX9_hears 2 = .ok (.getfield 153, 3) := by decide +kernel
theorem dX9_hears_5 : decode cX9_hears 5 = .ok (.iconst 1, 1) := by decide +kernel
theorem dX9_hears_6 : decode cX9_hears 6 = .ok (.iadd, 1) := by decide +kernel
theorem dX9_hears_7 : decode cX9_hears 7 = .ok (.putfield 153, 3) := by decide +kernel
theorem dX9_hears_10 : decode cX9_hears 10 = .ok (.iload_n 2, 1) := by decide +kernel
theorem dX9_hears_11 : decode cX9_hears 11 = .ok (.ifCond .eq 51, 3) := by decide +kernel
theorem dX9_hears_14 : decode cX9_hears 14 = .ok (.aload_n 0, 1) := by decide +kernel
theorem dX9_hears_15 : decode cX9_hears 15 = .ok (.getfield 44, 3) := by decide +kernel
theorem dX9_hears_18 : decode cX9_hears 18 = .ok (.aload_n 0, 1) := by decide +kernel
theorem dX9_hears_19 : decode cX9_hears 19 = .ok (.getfield 25, 3) := by decide +kernel
theorem dX9_hears_22 : decode cX9_hears 22 = .ok (.iconst 4, 1) := by decide +kernel
theorem dX9_hears_23 : decode cX9_hears 23 = .ok (.iconst 3, 1) := by decide +kernel
theorem dX9_hears_24 : decode cX9_hears 24 = .ok (.iload_n 1, 1) := by decide +kernel
theorem dX9_hears_25 : decode cX9_hears 25 = .ok (.imul, 1) := by decide +kernel
theorem dX9_hears_26 : decode cX9_hears 26 = .ok (.iadd, 1) := by decide +kernel
theorem dX9_hears_27 : decode cX9_hears 27 = .ok (.iconst 2, 1) := by decide +kernel
theorem dX9_hears_28 : decode cX9_hears 28 = .ok (.iadd, 1) := by decide +kernel
theorem dX9_hears_29 : decode cX9_hears 29 = .ok (.iaload, 1) := by decide +kernel
theorem dX9_hears_30 : decode cX9_hears 30 = .ok (.dup2, 1) := by decide +kernel
theorem dX9_hears_31 : decode cX9_hears 31 = .ok (.iaload, 1) := by decide +kernel
theorem dX9_hears_32 : decode cX9_hears 32 = .ok (.iconst 1, 1) := by decide +kernel
theorem dX9_hears_33 : decode cX9_hears 33 = .ok (.iadd, 1) := by decide +kernel
theorem dX9_hears_34 : decode cX9_hears 34 = .ok (.iastore, 1) := by decide +kernel
theorem dX9_hears_35 : decode cX9_hears 35 = .ok (.aload_n 0, 1) := by decide +kernel
theorem dX9_hears_36 : decode cX9_hears 36 = .ok (.aload_n 0, 1) := by decide +kernel
theorem dX9_hears_37 : decode cX9_hears 37 = .ok (.getfield 144, 3) := by decide +kernel
theorem dX9_hears_40 : decode cX9_hears 40 = .ok (.bipush 20, 2) := by decide +kernel
theorem dX9_hears_42 : decode cX9_hears 42 = .ok (.if_icmp .ge 12, 3) := by decide +kernel
theorem dX9_hears_45 : decode cX9_hears 45 = .ok (.aload_n 0, 1) := by decide +kernel
theorem dX9_hears_46 : decode cX9_hears 46 = .ok (.getfield 144, 3) := by decide +kernel
theorem dX9_hears_49 : decode cX9_hears 49 = .ok (.iconst 1, 1) := by decide +kernel
theorem dX9_hears_50 : decode cX9_hears 50 = .ok (.iadd, 1) := by decide +kernel
theorem dX9_hears_51 : decode cX9_hears 51 = .ok (.goto 5, 3) := by decide +kernel
theorem dX9_hears_54 : decode cX9_hears 54 = .ok (.bipush 20, 2) := by decide +kernel
theorem dX9_hears_56 : decode cX9_hears 56 = .ok (.putfield 144, 3) := by decide +kernel
theorem dX9_hears_59 : decode cX9_hears 59 = .ok (.goto 42, 3) := by decide +kernel
theorem dX9_hears_62 : decode cX9_hears 62 = .ok (.aload_n 0, 1) := by decide +kernel
theorem dX9_hears_63 : decode cX9_hears 63 = .ok (.getfield 25, 3) := by decide +kernel
theorem dX9_hears_66 : decode cX9_hears 66 = .ok (.iconst 4, 1) := by decide +kernel
theorem dX9_hears_67 : decode cX9_hears 67 = .ok (.iconst 3, 1) := by decide +kernel
theorem dX9_hears_68 : decode cX9_hears 68 = .ok (.iload_n 1, 1) := by decide +kernel
theorem dX9_hears_69 : decode cX9_hears 69 = .ok (.imul, 1) := by decide +kernel
theorem dX9_hears_70 : decode cX9_hears 70 = .ok (.iadd, 1) := by decide +kernel
theorem dX9_hears_71 : decode cX9_hears 71 = .ok (.iconst 1, 1) := by decide +kernel
theorem dX9_hears_72 : decode cX9_hears 72 = .ok (.iadd, 1) := by decide +kernel
theorem dX9_hears_73 : decode cX9_hears 73 = .ok (.iaload, 1) := by decide +kernel
theorem dX9_hears_74 : decode cX9_hears 74 = .ok (.iconst 4, 1) := by decide +kernel
theorem dX9_hears_75 : decode cX9_hears 75 = .ok (.idiv, 1) := by decide +kernel
theorem dX9_hears_76 : decode cX9_hears 76 = .ok (.iconst 1, 1) := by decide +kernel
theorem dX9_hears_77 : decode cX9_hears 77 = .ok (.iadd, 1) := by decide +kernel
theorem dX9_hears_78 : decode cX9_hears 78 = .ok (.istore_n 3, 1) := by decide +kernel
theorem dX9_hears_79 : decode cX9_hears 79 = .ok (.aload_n 0, 1) := by decide +kernel
theorem dX9_hears_80 : decode cX9_hears 80 = .ok (.aload_n 0, 1) := by decide +kernel
theorem dX9_hears_81 : decode cX9_hears 81 = .ok (.getfield 144, 3) := by decide +kernel
theorem dX9_hears_84 : decode cX9_hears 84 = .ok (.iload_n 3, 1) := by decide +kernel
theorem dX9_hears_85 : decode cX9_hears 85 = .ok (.if_icmp .le 12, 3) := by decide +kernel
theorem dX9_hears_88 : decode cX9_hears 88 = .ok (.aload_n 0, 1) := by decide +kernel
theorem dX9_hears_89 : decode cX9_hears 89 = .ok (.getfield 144, 3) := by decide +kernel
theorem dX9_hears_92 : decode cX9_hears 92 = .ok (.iload_n 3, 1) := by decide +kernel
theorem dX9_hears_93 : decode cX9_hears 93 = .ok (.isub, 1) := by decide +kernel
theorem dX9_hears_94 : decode cX9_hears 94 = .ok (.goto 4, 3) := by decide +kernel
theorem dX9_hears_97 : decode cX9_hears 97 = .ok (.iconst 0, 1) := by decide +kernel
theorem dX9_hears_98 : decode cX9_hears 98 = .ok (.putfield 144, 3) := by decide +kernel
theorem dX9_hears_101 : decode cX9_hears 101 = .ok (.return_, 1) := by decide +kernel
theorem dX9_notes_0 : decode cX9_notes 0 = .ok (.aload_n 0, 1) := by decide +kernel
theorem dX9_notes_1 : decode cX9_notes 1 = .ok (.getfield 141, 3) := by decide +kernel
theorem dX9_notes_4 : decode cX9_notes 4 = .ok (.bipush 24, 2) := by decide +kernel
theorem dX9_notes_6 : decode cX9_notes 6 = .ok (.if_icmp .ne 43, 3) := by decide +kernel
theorem dX9_notes_9 : decode cX9_notes 9 = .ok (.iconst 0, 1) := by decide +kernel
theorem dX9_notes_10 : decode cX9_notes 10 = .ok (.istore_n 1, 1) := by decide +kernel
theorem dX9_notes_11 : decode cX9_notes 11 = .ok (.iload_n 1, 1) := by decide +kernel
theorem dX9_notes_12 : decode cX9_notes 12 = .ok (.sipush 874, 3) := by decide +kernel
theorem dX9_notes_15 : decode cX9_notes 15 = .ok (.if_icmp .ge 24, 3) := by decide +kernel
theorem dX9_notes_18 : decode cX9_notes 18 = .ok (.aload_n 0, 1) := by decide +kernel
theorem dX9_notes_19 : decode cX9_notes 19 = .ok (.getfield 31, 3) := by decide +kernel
theorem dX9_notes_22 : decode cX9_notes 22 = .ok (.iload_n 1, 1) := by decide +kernel
theorem dX9_notes_23 : decode cX9_notes 23 = .ok (.aload_n 0, 1) := by decide +kernel
theorem dX9_notes_24 : decode cX9_notes 24 = .ok (.getfield 31, 3) := by decide +kernel
theorem dX9_notes_27 : decode cX9_notes 27 = .ok (.iload_n 1, 1) := by decide +kernel
theorem dX9_notes_28 : decode cX9_notes 28 = .ok (.bipush 38, 2) := by decide +kernel
theorem dX9_notes_30 : decode cX9_notes 30 = .ok (.iadd, 1) := by decide +kernel
theorem dX9_notes_31 : decode cX9_notes 31 = .ok (.iaload, 1) := by decide +kernel
theorem dX9_notes_32 : decode cX9_notes 32 = .ok (.iastore, 1) := by decide +kernel
theorem dX9_notes_33 : decode cX9_notes 33 = .ok (.iinc 1 1, 3) := by decide +kernel
theorem dX9_notes_36 : decode cX9_notes 36 = .ok (.goto (-25), 3) := by decide +kernel
theorem dX9_notes_39 : decode cX9_notes 39 = .ok (.aload_n 0, 1) := by decide +kernel
theorem dX9_notes_40 : decode cX9_notes 40 = .ok (.dup, 1) := by decide +kernel
theorem dX9_notes_41 : decode cX9_notes 41 = .ok (.getfield 141, 3) := by decide +kernel
theorem dX9_notes_44 : decode cX9_notes 44 = .ok (.iconst 1, 1) := by decide +kernel
theorem dX9_notes_45 : decode cX9_notes 45 = .ok (.isub, 1) := by decide +kernel
theorem dX9_notes_46 : decode cX9_notes 46 = .ok (.putfield 141, 3) := by decide +kernel
theorem dX9_notes_49 : decode cX9_notes 49 = .ok (.aload_n 0, 1) := by decide +kernel
theorem dX9_notes_50 : decode cX9_notes 50 = .ok (.getfield 25, 3) := by decide +kernel
theorem dX9_notes_53 : decode cX9_notes 53 = .ok (.iconst 0, 1) := by decide +kernel
theorem dX9_notes_54 : decode cX9_notes 54 = .ok (.aload_n 0, 1) := by decide +kernel
theorem dX9_notes_55 : decode cX9_notes 55 = .ok (.getfield 31, 3) := by decide +kernel
theorem dX9_notes_58 : decode cX9_notes 58 = .ok (.bipush 38, 2) := by decide +kernel
theorem dX9_notes_60 : decode cX9_notes 60 = .ok (.aload_n 0, 1) := by decide +kernel
theorem dX9_notes_61 : decode cX9_notes 61 = .ok (.getfield 141, 3) := by decide +kernel
theorem dX9_notes_64 : decode cX9_notes 64 = .ok (.imul, 1) := by decide +kernel
theorem dX9_notes_65 : decode cX9_notes 65 = .ok (.invokestatic 137, 3) := by decide +kernel
theorem dX9_notes_68 : decode cX9_notes 68 = .ok (.aload_n 0, 1) := by decide +kernel
theorem dX9_notes_69 : decode cX9_notes 69 = .ok (.dup, 1) := by decide +kernel
theorem dX9_notes_70 : decode cX9_notes 70 = .ok (.getfield 141, 3) := by decide +kernel
theorem dX9_notes_73 : decode cX9_notes 73 = .ok (.iconst 1, 1) := by decide +kernel
theorem dX9_notes_74 : decode cX9_notes 74 = .ok (.iadd, 1) := by decide +kernel
theorem dX9_notes_75 : decode cX9_notes 75 = .ok (.putfield 141, 3) := by decide +kernel
theorem dX9_notes_78 : decode cX9_notes 78 = .ok (.return_, 1) := by decide +kernel
theorem dX9_wasTold_0 : decode cX9_wasTold 0 = .ok (.aload_n 0, 1) := by decide +kernel
theorem dX9_wasTold_1 : decode cX9_wasTold 1 = .ok (.getfield 25, 3) := by decide +kernel
theorem dX9_wasTold_4 : decode cX9_wasTold 4 = .ok (.bipush 22, 2) := by decide +kernel
theorem dX9_wasTold_6 : decode cX9_wasTold 6 = .ok (.iconst 4, 1) := by decide +kernel
theorem dX9_wasTold_7 : decode cX9_wasTold 7 = .ok (.iload_n 1, 1) := by decide +kernel
theorem dX9_wasTold_8 : decode cX9_wasTold 8 = .ok (.imul, 1) := by decide +kernel
theorem dX9_wasTold_9 : decode cX9_wasTold 9 = .ok (.iadd, 1) := by decide +kernel
theorem dX9_wasTold_10 : decode cX9_wasTold 10 = .ok (.iconst 2, 1) := by decide +kernel
theorem dX9_wasTold_11 : decode cX9_wasTold 11 = .ok (.iadd, 1) := by decide +kernel
theorem dX9_wasTold_12 : decode cX9_wasTold 12 = .ok (.iaload, 1) := by decide +kernel
theorem dX9_wasTold_13 : decode cX9_wasTold 13 = .ok (.iload_n 2, 1) := by decide +kernel
theorem dX9_wasTold_14 : decode cX9_wasTold 14 = .ok (.invokestatic 156, 3) := by decide +kernel
theorem dX9_wasTold_17 : decode cX9_wasTold 17 = .ok (.ireturn, 1) := by decide +kernel
theorem dX9_tell_0 : decode cX9_tell 0 = .ok (.aload_n 0, 1) := by decide +kernel
theorem dX9_tell_1 : decode cX9_tell 1 = .ok (.iload_n 1, 1) := by decide +kernel
theorem dX9_tell_2 : decode cX9_tell 2 = .ok (.invokevirtual 163, 3) := by decide +kernel
theorem dX9_tell_5 : decode cX9_tell 5 = .ok (.ifCond .eq 11, 3) := by decide +kernel
theorem dX9_tell_8 : decode cX9_tell 8 = .ok (.aload_n 0, 1) := by decide +kernel
theorem dX9_tell_9 : decode cX9_tell 9 = .ok (.iload_n 2, 1) := by decide +kernel
theorem dX9_tell_10 : decode cX9_tell 10 = .ok (.invokevirtual 166, 3) := by decide +kernel
theorem dX9_tell_13 : decode cX9_tell 13 = .ok (.ifCond .ne 6, 3) := by decide +kernel
theorem dX9_tell_16 : decode cX9_tell 16 = .ok (.ldc 67, 2) := by decide +kernel
theorem dX9_tell_18 : decode cX9_tell 18 = .ok (.ireturn, 1) := by decide +kernel
theorem dX9_tell_19 : decode cX9_tell 19 = .ok (.aload_n 0, 1) := by decide +kernel
theorem dX9_tell_20 : decode cX9_tell 20 = .ok (.iload_n 1, 1) := by decide +kernel
theorem dX9_tell_21 : decode cX9_tell 21 = .ok (.iload_n 2, 1) := by decide +kernel
theorem dX9_tell_22 : decode cX9_tell 22 = .ok (.invokevirtual 169, 3) := by decide +kernel
theorem dX9_tell_25 : decode cX9_tell 25 = .ok (.ifCond .eq 6, 3) := by decide +kernel
theorem dX9_tell_28 : decode cX9_tell 28 = .ok (.ldc 172, 2) := by decide +kernel
theorem dX9_tell_30 : decode cX9_tell 30 = .ok (.ireturn, 1) := by decide +kernel
theorem dX9_tell_31 : decode cX9_tell 31 = .ok (.aload_n 0, 1) := by decide +kernel
theorem dX9_tell_32 : decode cX9_tell 32 = .ok (.invokevirtual 173, 3) := by decide +kernel
theorem dX9_tell_35 : decode cX9_tell 35 = .ok (.bipush 22, 2) := by decide +kernel
theorem dX9_tell_37 : decode cX9_tell 37 = .ok (.iconst 4, 1) := by decide +kernel
theorem dX9_tell_38 : decode cX9_tell 38 = .ok (.iload_n 1, 1) := by decide +kernel
theorem dX9_tell_39 : decode cX9_tell 39 = .ok (.imul, 1) := by decide +kernel
theorem dX9_tell_40 : decode cX9_tell 40 = .ok (.iadd, 1) := by decide +kernel
theorem dX9_tell_41 : decode cX9_tell 41 = .ok (.istore_n 3, 1) := by decide +kernel
theorem dX9_tell_42 : decode cX9_tell 42 = .ok (.aload_n 0, 1) := by decide +kernel
theorem dX9_tell_43 : decode cX9_tell 43 = .ok (.iload_n 1, 1) := by decide +kernel
theorem dX9_tell_44 : decode cX9_tell 44 = .ok (.invokevirtual 176, 3) := by decide +kernel
theorem dX9_tell_47 : decode cX9_tell 47 = .ok (.aload_n 0, 1) := by decide +kernel
theorem dX9_tell_48 : decode cX9_tell 48 = .ok (.iload_n 2, 1) := by decide +kernel
theorem dX9_tell_49 : decode cX9_tell 49 = .ok (.invokevirtual 180, 3) := by decide +kernel
theorem dX9_tell_52 : decode cX9_tell 52 = .ok (.istore 4, 2) := by decide +kernel
theorem dX9_tell_54 : decode cX9_tell 54 = .ok (.aload_n 0, 1) := by decide +kernel
theorem dX9_tell_55 : decode cX9_tell 55 = .ok (.iload_n 2, 1) := by decide +kernel
theorem dX9_tell_56 : decode cX9_tell 56 = .ok (.iload 4, 2) := by decide +kernel
theorem dX9_tell_58 : decode cX9_tell 58 = .ok (.invokevirtual 183, 3) := by decide +kernel
theorem dX9_tell_61 : decode cX9_tell 61 = .ok (.aload_n 0, 1) := by decide +kernel
theorem dX9_tell_62 : decode cX9_tell 62 = .ok (.getfield 25, 3) := by decide +kernel
theorem dX9_tell_65 : decode cX9_tell 65 = .ok (.iload_n 3, 1) := by decide +kernel
theorem dX9_tell_66 : decode cX9_tell 66 = .ok (.iconst 0, 1) := by decide +kernel
theorem dX9_tell_67 : decode cX9_tell 67 = .ok (.iadd, 1) := by decide +kernel
theorem dX9_tell_68 : decode cX9_tell 68 = .ok (.aload_n 0, 1) := by decide +kernel
theorem dX9_tell_69 : decode cX9_tell 69 = .ok (.getfield 144, 3) := by decide +kernel
theorem dX9_tell_72 : decode cX9_tell 72 = .ok (.iastore, 1) := by decide +kernel
theorem dX9_tell_73 : decode cX9_tell 73 = .ok (.aload_n 0, 1) := by decide +kernel
theorem dX9_tell_74 : decode cX9_tell 74 = .ok (.getfield 25, 3) := by decide +kernel
theorem dX9_tell_77 : decode cX9_tell 77 = .ok (.iload_n 3, 1) := by decide +kernel
theorem dX9_tell_78 : decode cX9_tell 78 = .ok (.iconst 2, 1) := by decide +kernel
theorem dX9_tell_79 : decode cX9_tell 79 = .ok (.iadd, 1) := by decide +kernel
theorem dX9_tell_80 : decode cX9_tell 80 = .ok (.dup2, 1) := by decide +kernel
theorem dX9_tell_81 : decode cX9_tell 81 = .ok (.iaload, 1) := by decide +kernel
theorem dX9_tell_82 : decode cX9_tell 82 = .ok (.iconst 1, 1) := by decide +kernel
theorem dX9_tell_83 : decode cX9_tell 83 = .ok (.iload_n 2, 1) := by decide +kernel
theorem dX9_tell_84 : decode cX9_tell 84 = .ok (.ishl, 1) := by decide +kernel
theorem dX9_tell_85 : decode cX9_tell 85 = .ok (.ior, 1) := by decide +kernel
theorem dX9_tell_86 : decode cX9_tell 86 = .ok (.iastore, 1) := by decide +kernel
theorem dX9_tell_87 : decode cX9_tell 87 = .ok (.aload_n 0, 1) := by decide +kernel
theorem dX9_tell_88 : decode cX9_tell 88 = .ok (.getfield 25, 3) := by decide +kernel
theorem dX9_tell_91 : decode cX9_tell 91 = .ok (.iload_n 3, 1) := by decide +kernel
theorem dX9_tell_92 : decode cX9_tell 92 = .ok (.iconst 3, 1) := by decide +kernel
theorem dX9_tell_93 : decode cX9_tell 93 = .ok (.iadd, 1) := by decide +kernel
theorem dX9_tell_94 : decode cX9_tell 94 = .ok (.dup2, 1) := by decide +kernel
theorem dX9_tell_95 : decode cX9_tell 95 = .ok (.iaload, 1) := by decide +kernel
theorem dX9_tell_96 : decode cX9_tell 96 = .ok (.iload 4, 2) := by decide +kernel
theorem dX9_tell_98 : decode cX9_tell 98 = .ok (.ifCond .eq 9, 3) := by decide +kernel
theorem dX9_tell_101 : decode cX9_tell 101 = .ok (.iconst 1, 1) := by decide +kernel
theorem dX9_tell_102 : decode cX9_tell 102 = .ok (.iload_n 2, 1) := by decide +kernel
theorem dX9_tell_103 : decode cX9_tell 103 = .ok (.ishl, 1) := by decide +kernel
theorem dX9_tell_104 : decode cX9_tell 104 = .ok (.goto 4, 3) := by decide +kernel
theorem dX9_tell_107 : decode cX9_tell 107 = .ok (.iconst 0, 1) := by decide +kernel
theorem dX9_tell_108 : decode cX9_tell 108 = .ok (.ior, 1) := by decide +kernel
theorem dX9_tell_109 : decode cX9_tell 109 = .ok (.iastore, 1) := by decide +kernel
theorem dX9_tell_110 : decode cX9_tell 110 = .ok (.aload_n 0, 1) := by decide +kernel
theorem dX9_tell_111 : decode cX9_tell 111 = .ok (.getfield 25, 3) := by decide +kernel
theorem dX9_tell_114 : decode cX9_tell 114 = .ok (.iconst 1, 1) := by decide +kernel
theorem dX9_tell_115 : decode cX9_tell 115 = .ok (.dup2, 1) := by decide +kernel
theorem dX9_tell_116 : decode cX9_tell 116 = .ok (.iaload, 1) := by decide +kernel
theorem dX9_tell_117 : decode cX9_tell 117 = .ok (.iload 4, 2) := by decide +kernel
theorem dX9_tell_119 : decode cX9_tell 119 = .ok (.ifCond .eq 12, 3) := by decide +kernel
theorem dX9_tell_122 : decode cX9_tell 122 = .ok (.aload_n 0, 1) := by decide +kernel
theorem dX9_tell_123 : decode cX9_tell 123 = .ok (.getfield 25, 3) := by decide +kernel
theorem dX9_tell_126 : decode cX9_tell 126 = .ok (.iconst 0, 1) := by decide +kernel
theorem dX9_tell_127 : decode cX9_tell 127 = .ok (.iaload, 1) := by decide +kernel
theorem dX9_tell_128 : decode cX9_tell 128 = .ok (.goto 10, 3) := by decide +kernel
theorem dX9_tell_131 : decode cX9_tell 131 = .ok (.aload_n 0, 1) := by decide +kernel
theorem dX9_tell_132 : decode cX9_tell 132 = .ok (.getfield 25, 3) := by decide +kernel
theorem dX9_tell_135 : decode cX9_tell 135 = .ok (.iconst 0, 1) := by decide +kernel
theorem dX9_tell_136 : decode cX9_tell 136 = .ok (.iaload, 1) := by decide +kernel
theorem dX9_tell_137 : decode cX9_tell 137 = .ok (.ineg, 1) := by decide +kernel
theorem dX9_tell_138 : decode cX9_tell 138 = .ok (.iadd, 1) := by decide +kernel
theorem dX9_tell_139 : decode cX9_tell 139 = .ok (.iastore, 1) := by decide +kernel
theorem dX9_tell_140 : decode cX9_tell 140 = .ok (.iload 4, 2) := by decide +kernel
theorem dX9_tell_142 : decode cX9_tell 142 = .ok (.ifCond .eq 7, 3) := by decide +kernel
theorem dX9_tell_145 : decode cX9_tell 145 = .ok (.iconst 1, 1) := by decide +kernel
theorem dX9_tell_146 : decode cX9_tell 146 = .ok (.goto 4, 3) := by decide +kernel
theorem dX9_tell_149 : decode cX9_tell 149 = .ok (.iconst 0, 1) := by decide +kernel
theorem dX9_tell_150 : decode cX9_tell 150 = .ok (.ireturn, 1) := by decide +kernel
theorem dX9_supper_0 : decode cX9_supper 0 = .ok (.aload_n 0, 1) := by decide +kernel
theorem dX9_supper_1 : decode cX9_supper 1 = .ok (.iload_n 1, 1) := by decide +kernel
theorem dX9_supper_2 : decode cX9_supper 2 = .ok (.invokevirtual 163, 3) := by decide +kernel
theorem dX9_supper_5 : decode cX9_supper 5 = .ok (.ifCond .ne 6, 3) := by decide +kernel
theorem dX9_supper_8 : decode cX9_supper 8 = .ok (.ldc 67, 2) := by decide +kernel
theorem dX9_supper_10 : decode cX9_supper 10 = .ok (.ireturn, 1) := by decide +kernel
theorem dX9_supper_11 : decode cX9_supper 11 = .ok (.aload_n 0, 1) := by decide +kernel
theorem dX9_supper_12 : decode cX9_supper 12 = .ok (.invokevirtual 173, 3) := by decide +kernel
theorem dX9_supper_15 : decode cX9_supper 15 = .ok (.bipush 22, 2) := by decide +kernel
theorem dX9_supper_17 : decode cX9_supper 17 = .ok (.iconst 4, 1) := by decide +kernel
theorem dX9_supper_18 : decode cX9_supper 18 = .ok (.iload_n 1, 1) := by decide +kernel
theorem dX9_supper_19 : decode cX9_supper 19 = .ok (.imul, 1) := by decide +kernel
theorem dX9_supper_20 : decode cX9_supper 20 = .ok (.iadd, 1) := by decide +kernel
theorem dX9_supper_21 : decode cX9_supper 21 = .ok (.iconst 0, 1) := by decide +kernel
theorem dX9_supper_22 : decode cX9_supper 22 = .ok (.iadd, 1) := by decide +kernel
theorem dX9_supper_23 : decode cX9_supper 23 = .ok (.istore_n 2, 1) := by decide +kernel
theorem dX9_supper_24 : decode cX9_supper 24 = .ok (.aload_n 0, 1) := by decide +kernel
theorem dX9_supper_25 : decode cX9_supper 25 = .ok (.getfield 25, 3) := by decide +kernel
theorem dX9_supper_28 : decode cX9_supper 28 = .ok (.iload_n 2, 1) := by decide +kernel
theorem dX9_supper_29 : decode cX9_supper 29 = .ok (.aload_n 0, 1) := by decide +kernel
theorem dX9_supper_30 : decode cX9_supper 30 = .ok (.getfield 25, 3) := by decide +kernel
theorem dX9_supper_33 : decode cX9_supper 33 = .ok (.iload_n 2, 1) := by decide +kernel
theorem dX9_supper_34 : decode cX9_supper 34 = .ok (.iaload, 1) := by decide +kernel
theorem dX9_supper_35 : decode cX9_supper 35 = .ok (.bipush 18, 2) := by decide +kernel
theorem dX9_supper_37 : decode cX9_supper 37 = .ok (.if_icmp .ge 14, 3) := by decide +kernel
theorem dX9_supper_40 : decode cX9_supper 40 = .ok (.aload_n 0, 1) := by decide +kernel
theorem dX9_supper_41 : decode cX9_supper 41 = .ok (.getfield 25, 3) := by decide +kernel
theorem dX9_supper_44 : decode cX9_supper 44 = .ok (.iload_n 2, 1) := by decide +kernel
theorem dX9_supper_45 : decode cX9_supper 45 = .ok (.iaload, 1) := by decide +kernel
theorem dX9_supper_46 : decode cX9_supper 46 = .ok (.iconst 2, 1) := by decide +kernel
theorem dX9_supper_47 : decode cX9_supper 47 = .ok (.iadd, 1) := by decide +kernel
theorem dX9_supper_48 : decode cX9_supper 48 = .ok (.goto 5, 3) := by decide +kernel
theorem dX9_supper_51 : decode cX9_supper 51 = .ok (.bipush 20, 2) := by decide +kernel
theorem dX9_supper_53 : decode cX9_supper 53 = .ok (.iastore, 1) := by decide +kernel
theorem dX9_supper_54 : decode cX9_supper 54 = .ok (.aload_n 0, 1) := by decide +kernel
theorem dX9_supper_55 : decode cX9_supper 55 = .ok (.getfield 25, 3) := by decide +kernel
theorem dX9_supper_58 : decode cX9_supper 58 = .ok (.iconst 1, 1) := by decide +kernel
theorem dX9_supper_59 : decode cX9_supper 59 = .ok (.dup2, 1) := by decide +kernel
theorem dX9_supper_60 : decode cX9_supper 60 = .ok (.iaload, 1) := by decide +kernel
theorem dX9_supper_61 : decode cX9_supper 61 = .ok (.iconst 1, 1) := by decide +kernel
theorem dX9_supper_62 : decode cX9_supper 62 = .ok (.isub, 1) := by decide +kernel
theorem dX9_supper_63 : decode cX9_supper 63 = .ok (.iastore, 1) := by decide +kernel
theorem dX9_supper_64 : decode cX9_supper 64 = .ok (.aload_n 0, 1) := by decide +kernel
theorem dX9_supper_65 : decode cX9_supper 65 = .ok (.getfield 25, 3) := by decide +kernel
theorem dX9_supper_68 : decode cX9_supper 68 = .ok (.iload_n 2, 1) := by decide +kernel
theorem dX9_supper_69 : decode cX9_supper 69 = .ok (.iaload, 1) := by decide +kernel
theorem dX9_supper_70 : decode cX9_supper 70 = .ok (.ireturn, 1) := by decide +kernel
theorem dX9_forget_0 : decode cX9_forget 0 = .ok (.aload_n 0, 1) := by decide +kernel
theorem dX9_forget_1 : decode cX9_forget 1 = .ok (.iload_n 1, 1) := by decide +kernel
theorem dX9_forget_2 : decode cX9_forget 2 = .ok (.invokevirtual 163, 3) := by decide +kernel
theorem dX9_forget_5 : decode cX9_forget 5 = .ok (.ifCond .eq 11, 3) := by decide +kernel
theorem dX9_forget_8 : decode cX9_forget 8 = .ok (.aload_n 0, 1) := by decide +kernel
theorem dX9_forget_9 : decode cX9_forget 9 = .ok (.iload_n 2, 1) := by decide +kernel
theorem dX9_forget_10 : decode cX9_forget 10 = .ok (.invokevirtual 166, 3) := by decide +kernel
theorem dX9_forget_13 : decode cX9_forget 13 = .ok (.ifCond .ne 6, 3) := by decide +kernel
theorem dX9_forget_16 : decode cX9_forget 16 = .ok (.ldc 67, 2) := by decide +kernel
theorem dX9_forget_18 : decode cX9_forget 18 = .ok (.ireturn, 1) := by decide +kernel
theorem dX9_forget_19 : decode cX9_forget 19 = .ok (.aload_n 0, 1) := by decide +kernel
theorem dX9_forget_20 : decode cX9_forget 20 = .ok (.iload_n 1, 1) := by decide +kernel
theorem dX9_forget_21 : decode cX9_forget 21 = .ok (.iload_n 2, 1) := by decide +kernel
theorem dX9_forget_22 : decode cX9_forget 22 = .ok (.invokevirtual 169, 3) := by decide +kernel
theorem dX9_forget_25 : decode cX9_forget 25 = .ok (.ifCond .ne 6, 3) := by decide +kernel
theorem dX9_forget_28 : decode cX9_forget 28 = .ok (.ldc 172, 2) := by decide +kernel
theorem dX9_forget_30 : decode cX9_forget 30 = .ok (.ireturn, 1) := by decide +kernel
theorem dX9_forget_31 : decode cX9_forget 31 = .ok (.aload_n 0, 1) := by decide +kernel
theorem dX9_forget_32 : decode cX9_forget 32 = .ok (.invokevirtual 173, 3) := by decide +kernel
theorem dX9_forget_35 : decode cX9_forget 35 = .ok (.bipush 22, 2) := by decide +kernel
theorem dX9_forget_37 : decode cX9_forget 37 = .ok (.iconst 4, 1) := by decide +kernel
theorem dX9_forget_38 : decode cX9_forget 38 = .ok (.iload_n 1, 1) := by decide +kernel
theorem dX9_forget_39 : decode cX9_forget 39 = .ok (.imul, 1) := by decide +kernel
theorem dX9_forget_40 : decode cX9_forget 40 = .ok (.iadd, 1) := by decide +kernel
theorem dX9_forget_41 : decode cX9_forget 41 = .ok (.istore_n 3, 1) := by decide +kernel
theorem dX9_forget_42 : decode cX9_forget 42 = .ok (.aload_n 0, 1) := by decide +kernel
theorem dX9_forget_43 : decode cX9_forget 43 = .ok (.getfield 25, 3) := by decide +kernel
theorem dX9_forget_46 : decode cX9_forget 46 = .ok (.iload_n 3, 1) := by decide +kernel
theorem dX9_forget_47 : decode cX9_forget 47 = .ok (.iconst 2, 1) := by decide +kernel
theorem dX9_forget_48 : decode cX9_forget 48 = .ok (.iadd, 1) := by decide +kernel
theorem dX9_forget_49 : decode cX9_forget 49 = .ok (.dup2, 1) := by decide +kernel
theorem dX9_forget_50 : decode cX9_forget 50 = .ok (.iaload, 1) := by decide +kernel
theorem dX9_forget_51 : decode cX9_forget 51 = .ok (.iconst 1, 1) := by decide +kernel
theorem dX9_forget_52 : decode cX9_forget 52 = .ok (.iload_n 2, 1) := by decide +kernel
theorem dX9_forget_53 : decode cX9_forget 53 = .ok (.ishl, 1) := by decide +kernel
theorem dX9_forget_54 : decode cX9_forget 54 = .ok (.iconst (-1), 1) := by decide +kernel
theorem dX9_forget_55 : decode cX9_forget 55 = .ok (.ixor, 1) := by decide +kernel
theorem dX9_forget_56 : decode cX9_forget 56 = .ok (.iand, 1) := by decide +kernel
theorem dX9_forget_57 : decode cX9_forget 57 = .ok (.iastore, 1) := by decide +kernel
theorem dX9_forget_58 : decode cX9_forget 58 = .ok (.aload_n 0, 1) := by decide +kernel
theorem dX9_forget_59 : decode cX9_forget 59 = .ok (.getfield 25, 3) := by decide +kernel
theorem dX9_forget_62 : decode cX9_forget 62 = .ok (.iload_n 3, 1) := by decide +kernel
theorem dX9_forget_63 : decode cX9_forget 63 = .ok (.iconst 3, 1) := by decide +kernel
theorem dX9_forget_64 : decode cX9_forget 64 = .ok (.iadd, 1) := by decide +kernel
theorem dX9_forget_65 : decode cX9_forget 65 = .ok (.dup2, 1) := by decide +kernel
theorem dX9_forget_66 : decode cX9_forget 66 = .ok (.iaload, 1) := by decide +kernel
theorem dX9_forget_67 : decode cX9_forget 67 = .ok (.iconst 1, 1) := by decide +kernel
theorem dX9_forget_68 : decode cX9_forget 68 = .ok (.iload_n 2, 1) := by decide +kernel
theorem dX9_forget_69 : decode cX9_forget 69 = .ok (.ishl, 1) := by decide +kernel
theorem dX9_forget_70 : decode cX9_forget 70 = .ok (.iconst (-1), 1) := by decide +kernel
theorem dX9_forget_71 : decode cX9_forget 71 = .ok (.ixor, 1) := by decide +kernel
theorem dX9_forget_72 : decode cX9_forget 72 = .ok (.iand, 1) := by decide +kernel
theorem dX9_forget_73 : decode cX9_forget 73 = .ok (.iastore, 1) := by decide +kernel
theorem dX9_forget_74 : decode cX9_forget 74 = .ok (.aload_n 0, 1) := by decide +kernel
theorem dX9_forget_75 : decode cX9_forget 75 = .ok (.getfield 25, 3) := by decide +kernel
theorem dX9_forget_78 : decode cX9_forget 78 = .ok (.iload_n 3, 1) := by decide +kernel
theorem dX9_forget_79 : decode cX9_forget 79 = .ok (.iconst 2, 1) := by decide +kernel
theorem dX9_forget_80 : decode cX9_forget 80 = .ok (.iadd, 1) := by decide +kernel
theorem dX9_forget_81 : decode cX9_forget 81 = .ok (.iaload, 1) := by decide +kernel
theorem dX9_forget_82 : decode cX9_forget 82 = .ok (.invokestatic 150, 3) := by decide +kernel
theorem dX9_forget_85 : decode cX9_forget 85 = .ok (.ireturn, 1) := by decide +kernel
theorem dX9_undo_0 : decode cX9_undo 0 = .ok (.aload_n 0, 1) := by decide +kernel
theorem dX9_undo_1 : decode cX9_undo 1 = .ok (.getfield 141, 3) := by decide +kernel
theorem dX9_undo_4 : decode cX9_undo 4 = .ok (.ifCond .ne 6, 3) := by decide +kernel
theorem dX9_undo_7 : decode cX9_undo 7 = .ok (.ldc 172, 2) := by decide +kernel
theorem dX9_undo_9 : decode cX9_undo 9 = .ok (.ireturn, 1) := by decide +kernel
theorem dX9_undo_10 : decode cX9_undo 10 = .ok (.aload_n 0, 1) := by decide +kernel
theorem dX9_undo_11 : decode cX9_undo 11 = .ok (.dup, 1) := by decide +kernel
theorem dX9_undo_12 : decode cX9_undo 12 = .ok (.getfield 141, 3) := by decide +kernel
theorem dX9_undo_15 : decode cX9_undo 15 = .ok (.iconst 1, 1) := by decide +kernel
theorem dX9_undo_16 : decode cX9_undo 16 = .ok (.isub, 1) := by decide +kernel
theorem dX9_undo_17 : decode cX9_undo 17 = .ok (.putfield 141, 3) := by decide +kernel
theorem dX9_undo_20 : decode cX9_undo 20 = .ok (.aload_n 0, 1) := by decide +kernel
theorem dX9_undo_21 : decode cX9_undo 21 = .ok (.getfield 31, 3) := by decide +kernel
theorem dX9_undo_24 : decode cX9_undo 24 = .ok (.bipush 38, 2) := by decide +kernel
theorem dX9_undo_26 : decode cX9_undo 26 = .ok (.aload_n 0, 1) := by decide +kernel
theorem dX9_undo_27 : decode cX9_undo 27 = .ok (.getfield 141, 3) := by decide +kernel
theorem dX9_undo_30 : decode cX9_undo 30 = .ok (.imul, 1) := by decide +kernel
theorem dX9_undo_31 : decode cX9_undo 31 = .ok (.aload_n 0, 1) := by decide +kernel
theorem dX9_undo_32 : decode cX9_undo 32 = .ok (.getfield 25, 3) := by decide +kernel
theorem dX9_undo_35 : decode cX9_undo 35 = .ok (.iconst 0, 1) := by decide +kernel
theorem dX9_undo_36 : decode cX9_undo 36 = .ok (.invokestatic 137, 3) := by decide +kernel
theorem dX9_undo_39 : decode cX9_undo 39 = .ok (.aload_n 0, 1) := by decide +kernel
theorem dX9_undo_40 : decode cX9_undo 40 = .ok (.getfield 141, 3) := by decide +kernel
theorem dX9_undo_43 : decode cX9_undo 43 = .ok (.ireturn, 1) := by decide +kernel
theorem dX9_strangersWith_0 : decode cX9_strangersWith 0 = .ok (.iconst 0, 1) := by decide +kernel
theorem dX9_strangersWith_1 : decode cX9_strangersWith 1 = .ok (.istore_n 3, 1) := by decide +kernel
theorem dX9_strangersWith_2 : decode cX9_strangersWith 2 = .ok (.iconst 0, 1) := by decide +kernel
theorem dX9_strangersWith_3 : decode cX9_strangersWith 3 = .ok (.istore 4, 2) := by decide +kernel
theorem dX9_strangersWith_5 : decode cX9_strangersWith 5 = .ok (.iload 4, 2) := by decide +kernel
theorem dX9_strangersWith_7 : decode cX9_strangersWith 7 = .ok (.aload_n 0, 1) := by decide +kernel
theorem dX9_strangersWith_8 : decode cX9_strangersWith 8 = .ok (.getfield 25, 3) := by decide +kernel
theorem dX9_strangersWith_11 : decode cX9_strangersWith 11 = .ok (.iconst 3, 1) := by decide +kernel
theorem dX9_strangersWith_12 : decode cX9_strangersWith 12 = .ok (.iaload, 1) := by decide +kernel
theorem dX9_strangersWith_13 : decode cX9_strangersWith 13 = .ok (.if_icmp .ge 38, 3) := by decide +kernel
theorem dX9_strangersWith_16 : decode cX9_strangersWith 16 = .ok (.iload_n 3, 1) := by decide +kernel
theorem dX9_strangersWith_17 : decode cX9_strangersWith 17 = .ok (.aload_n 0, 1) := by decide +kernel
theorem dX9_strangersWith_18 : decode cX9_strangersWith 18 = .ok (.getfield 25, 3) := by decide +kernel
theorem dX9_strangersWith_21 : decode cX9_strangersWith 21 = .ok (.bipush 22, 2) := by decide +kernel
theorem dX9_strangersWith_23 : decode cX9_strangersWith 23 = .ok (.iconst 4, 1) := by decide +kernel
theorem dX9_strangersWith_24 : decode cX9_strangersWith 24 = .ok (.iload 4, 2) := by decide +kernel
theorem dX9_strangersWith_26 : decode cX9_strangersWith 26 = .ok (.imul, 1) := by decide +kernel
theorem dX9_strangersWith_27 : decode cX9_strangersWith 27 = .ok (.iadd, 1) := by decide +kernel
theorem dX9_strangersWith_28 : decode cX9_strangersWith 28 = .ok (.iload_n 2, 1) := by decide +kernel
theorem dX9_strangersWith_29 : decode cX9_strangersWith 29 = .ok (.iadd, 1) := by decide +kernel
theorem dX9_strangersWith_30 : decode cX9_strangersWith 30 = .ok (.iaload, 1) := by decide +kernel
theorem dX9_strangersWith_31 : decode cX9_strangersWith 31 = .ok (.iload_n 1, 1) := by decide +kernel
theorem dX9_strangersWith_32 : decode cX9_strangersWith 32 = .ok (.invokestatic 156, 3) := by decide +kernel
theorem dX9_strangersWith_35 : decode cX9_strangersWith 35 = .ok (.ifCond .eq 7, 3) := by decide +kernel
theorem dX9_strangersWith_38 : decode cX9_strangersWith 38 = .ok (.iconst 1, 1) := by decide +kernel
theorem dX9_strangersWith_39 : decode cX9_strangersWith 39 = .ok (.goto 4, 3) := by decide +kernel
theorem dX9_strangersWith_42 : decode cX9_strangersWith 42 = .ok (.iconst 0, 1) := by decide +kernel
theorem dX9_strangersWith_43 : decode cX9_strangersWith 43 = .ok (.iadd, 1) := by decide +kernel
theorem dX9_strangersWith_44 : decode cX9_strangersWith 44 = .ok (.istore_n 3, 1) := by decide +kernel
theorem dX9_strangersWith_45 : decode cX9_strangersWith 45 = .ok (.iinc 4 1, 3) := by decide +kernel
theorem dX9_strangersWith_48 : decode cX9_strangersWith 48 = .ok (.goto (-43), 3) := by decide +kernel
theorem dX9_strangersWith_51 : decode cX9_strangersWith 51 = .ok (.iload_n 3, 1) := by decide +kernel
theorem dX9_strangersWith_52 : decode cX9_strangersWith 52 = .ok (.ireturn, 1) := by decide +kernel
theorem dX9_noddedAt_0 : decode cX9_noddedAt 0 = .ok (.aload_n 0, 1) := by decide +kernel
theorem dX9_noddedAt_1 : decode cX9_noddedAt 1 = .ok (.iload_n 1, 1) := by decide +kernel
theorem dX9_noddedAt_2 : decode cX9_noddedAt 2 = .ok (.iconst 3, 1) := by decide +kernel
theorem dX9_noddedAt_3 : decode cX9_noddedAt 3 = .ok (.invokevirtual 187, 3) := by decide +kernel
theorem dX9_noddedAt_6 : decode cX9_noddedAt 6 = .ok (.ireturn, 1) := by decide +kernel
theorem dX9_lie_0 : decode cX9_lie 0 = .ok (.aload_n 0, 1) := by decide +kernel
theorem dX9_lie_1 : decode cX9_lie 1 = .ok (.iload_n 1, 1) := by decide +kernel
theorem dX9_lie_2 : decode cX9_lie 2 = .ok (.invokevirtual 166, 3) := by decide +kernel
theorem dX9_lie_5 : decode cX9_lie 5 = .ok (.ifCond .ne 6, 3) := by decide +kernel
theorem dX9_lie_8 : decode cX9_lie 8 = .ok (.ldc 67, 2) := by decide +kernel
theorem dX9_lie_10 : decode cX9_lie 10 = .ok (.ireturn, 1) := by decide +kernel
theorem dX9_lie_11 : decode cX9_lie 11 = .ok (.iload_n 2, 1) := by decide +kernel
theorem dX9_lie_12 : decode cX9_lie 12 = .ok (.tableswitch 71 0 3 #[32, 45, 58, 65], 32) := by decide +kernel
theorem dX9_lie_44 : decode cX9_lie 44 = .ok (.aload_n 0, 1) := by decide +kernel
theorem dX9_lie_45 : decode cX9_lie 45 = .ok (.getfield 25, 3) := by decide +kernel
theorem dX9_lie_48 : decode cX9_lie 48 = .ok (.iconst 4, 1) := by decide +kernel
theorem dX9_lie_49 : decode cX9_lie 49 = .ok (.iconst 3, 1) := by decide +kernel
theorem dX9_lie_50 : decode cX9_lie 50 = .ok (.iload_n 1, 1) := by decide +kernel
theorem dX9_lie_51 : decode cX9_lie 51 = .ok (.imul, 1) := by decide +kernel
theorem dX9_lie_52 : decode cX9_lie 52 = .ok (.iadd, 1) := by decide +kernel
theorem dX9_lie_53 : decode cX9_lie 53 = .ok (.iconst 1, 1) := by decide +kernel
theorem dX9_lie_54 : decode cX9_lie 54 = .ok (.iadd, 1) := by decide +kernel
theorem dX9_lie_55 : decode cX9_lie 55 = .ok (.iaload, 1) := by decide +kernel
theorem dX9_lie_56 : decode cX9_lie 56 = .ok (.ireturn, 1) := by decide +kernel
theorem dX9_lie_57 : decode cX9_lie 57 = .ok (.aload_n 0, 1) := by decide +kernel
theorem dX9_lie_58 : decode cX9_lie 58 = .ok (.getfield 25, 3) := by decide +kernel
theorem dX9_lie_61 : decode cX9_lie 61 = .ok (.iconst 4, 1) := by decide +kernel
theorem dX9_lie_62 : decode cX9_lie 62 = .ok (.iconst 3, 1) := by decide +kernel
theorem dX9_lie_63 : decode cX9_lie 63 = .ok (.iload_n 1, 1) := by decide +kernel
theorem dX9_lie_64 : decode cX9_lie 64 = .ok (.imul, 1) := by decide +kernel
theorem dX9_lie_65 : decode cX9_lie 65 = .ok (.iadd, 1) := by decide +kernel
theorem dX9_lie_66 : decode cX9_lie 66 = .ok (.iconst 2, 1) := by decide +kernel
theorem dX9_lie_67 : decode cX9_lie 67 = .ok (.iadd, 1) := by decide +kernel
theorem dX9_lie_68 : decode cX9_lie 68 = .ok (.iaload, 1) := by decide +kernel
theorem dX9_lie_69 : decode cX9_lie 69 = .ok (.ireturn, 1) := by decide +kernel
theorem dX9_lie_70 : decode cX9_lie 70 = .ok (.aload_n 0, 1) := by decide +kernel
theorem dX9_lie_71 : decode cX9_lie 71 = .ok (.iload_n 1, 1) := by decide +kernel
theorem dX9_lie_72 : decode cX9_lie 72 = .ok (.iconst 2, 1) := by decide +kernel
theorem dX9_lie_73 : decode cX9_lie 73 = .ok (.invokevirtual 187, 3) := by decide +kernel
theorem dX9_lie_76 : decode cX9_lie 76 = .ok (.ireturn, 1) := by decide +kernel
theorem dX9_lie_77 : decode cX9_lie 77 = .ok (.aload_n 0, 1) := by decide +kernel
theorem dX9_lie_78 : decode cX9_lie 78 = .ok (.iload_n 1, 1) := by decide +kernel
theorem dX9_lie_79 : decode cX9_lie 79 = .ok (.invokevirtual 190, 3) := by decide +kernel
theorem dX9_lie_82 : decode cX9_lie 82 = .ok (.ireturn, 1) := by decide +kernel
theorem dX9_lie_83 : decode cX9_lie 83 = .ok (.ldc 67, 2) := by decide +kernel
theorem dX9_lie_85 : decode cX9_lie 85 = .ok (.ireturn, 1) := by decide +kernel
theorem dX9_stranger_0 : decode cX9_stranger 0 = .ok (.aload_n 0, 1) := by decide +kernel
theorem dX9_stranger_1 : decode cX9_stranger 1 = .ok (.iload_n 1, 1) := by decide +kernel
theorem dX9_stranger_2 : decode cX9_stranger 2 = .ok (.invokevirtual 163, 3) := by decide +kernel
theorem dX9_stranger_5 : decode cX9_stranger 5 = .ok (.ifCond .eq 28, 3) := by decide +kernel
theorem dX9_stranger_8 : decode cX9_stranger 8 = .ok (.iload_n 2, 1) := by decide +kernel
theorem dX9_stranger_9 : decode cX9_stranger 9 = .ok (.iconst 0, 1) := by decide +kernel
theorem dX9_stranger_10 : decode cX9_stranger 10 = .ok (.iconst 3, 1) := by decide +kernel
theorem dX9_stranger_11 : decode cX9_stranger 11 = .ok (.invokestatic 59, 3) := by decide +kernel
theorem dX9_stranger_14 : decode cX9_stranger 14 = .ok (.ifCond .eq 19, 3) := by decide +kernel
theorem dX9_stranger_17 : decode cX9_stranger 17 = .ok (.aload_n 0, 1) := by decide +kernel
theorem dX9_stranger_18 : decode cX9_stranger 18 = .ok (.getfield 25, 3) := by decide +kernel
theorem dX9_stranger_21 : decode cX9_stranger 21 = .ok (.bipush 22, 2) := by decide +kernel
theorem dX9_stranger_23 : decode cX9_stranger 23 = .ok (.iconst 4, 1) := by decide +kernel
theorem dX9_stranger_24 : decode cX9_stranger 24 = .ok (.iload_n 1, 1) := by decide +kernel
theorem dX9_stranger_25 : decode cX9_stranger 25 = .ok (.imul, 1) := by decide +kernel
theorem dX9_stranger_26 : decode cX9_stranger 26 = .ok (.iadd, 1) := by decide +kernel
theorem dX9_stranger_27 : decode cX9_stranger 27 = .ok (.iload_n 2, 1) := by decide +kernel
theorem dX9_stranger_28 : decode cX9_stranger 28 = .ok (.iadd, 1) := by decide +kernel
theorem dX9_stranger_29 : decode cX9_stranger 29 = .ok (.iaload, 1) := by decide +kernel
theorem dX9_stranger_30 : decode cX9_stranger 30 = .ok (.goto 5, 3) := by decide +kernel
theorem dX9_stranger_33 : decode cX9_stranger 33 = .ok (.ldc 67, 2) := by decide +kernel
theorem dX9_stranger_35 : decode cX9_stranger 35 = .ok (.ireturn, 1) := by decide +kernel
theorem dX9_need_0 : decode cX9_need 0 = .ok (.aload_n 0, 1) := by decide +kernel
theorem dX9_need_1 : decode cX9_need 1 = .ok (.iload_n 1, 1) := by decide +kernel
theorem dX9_need_2 : decode cX9_need 2 = .ok (.invokevirtual 163, 3) := by decide +kernel
theorem dX9_need_5 : decode cX9_need 5 = .ok (.ifCond .eq 11, 3) := by decide +kernel
theorem dX9_need_8 : decode cX9_need 8 = .ok (.aload_n 0, 1) := by decide +kernel
theorem dX9_need_9 : decode cX9_need 9 = .ok (.iload_n 2, 1) := by decide +kernel
theorem dX9_need_10 : decode cX9_need 10 = .ok (.invokevirtual 166, 3) := by decide +kernel
theorem dX9_need_13 : decode cX9_need 13 = .ok (.ifCond .ne 6, 3) := by decide +kernel
theorem dX9_need_16 : decode cX9_need 16 = .ok (.ldc 67, 2) := by decide +kernel
theorem dX9_need_18 : decode cX9_need 18 = .ok (.ireturn, 1) := by decide +kernel
theorem dX9_need_19 : decode cX9_need 19 = .ok (.aload_n 0, 1) := by decide +kernel
theorem dX9_need_20 : decode cX9_need 20 = .ok (.iload_n 1, 1) := by decide +kernel
theorem dX9_need_21 : decode cX9_need 21 = .ok (.invokevirtual 176, 3) := by decide +kernel
theorem dX9_need_24 : decode cX9_need 24 = .ok (.aload_n 0, 1) := by decide +kernel
theorem dX9_need_25 : decode cX9_need 25 = .ok (.iload_n 2, 1) := by decide +kernel
theorem dX9_need_26 : decode cX9_need 26 = .ok (.invokevirtual 160, 3) := by decide +kernel
theorem dX9_need_29 : decode cX9_need 29 = .ok (.ireturn, 1) := by decide +kernel
theorem dX9_untold_0 : decode cX9_untold 0 = .ok (.iconst 1, 1) := by decide +kernel
theorem dX9_untold_1 : decode cX9_untold 1 = .ok (.aload_n 0, 1) := by decide +kernel
theorem dX9_untold_2 : decode cX9_untold 2 = .ok (.getfield 25, 3) := by decide +kernel
theorem dX9_untold_5 : decode cX9_untold 5 = .ok (.iconst 2, 1) := by decide +kernel
theorem dX9_untold_6 : decode cX9_untold 6 = .ok (.iaload, 1) := by decide +kernel
theorem dX9_untold_7 : decode cX9_untold 7 = .ok (.ishl, 1) := by decide +kernel
theorem dX9_untold_8 : decode cX9_untold 8 = .ok (.iconst 1, 1) := by decide +kernel
theorem dX9_untold_9 : decode cX9_untold 9 = .ok (.isub, 1) := by decide +kernel
theorem dX9_untold_10 : decode cX9_untold 10 = .ok (.aload_n 0, 1) := by decide +kernel
theorem dX9_untold_11 : decode cX9_untold 11 = .ok (.getfield 25, 3) := by decide +kernel
theorem dX9_untold_14 : decode cX9_untold 14 = .ok (.bipush 22, 2) := by decide +kernel
theorem dX9_untold_16 : decode cX9_untold 16 = .ok (.iconst 4, 1) := by decide +kernel
theorem dX9_untold_17 : decode cX9_untold 17 = .ok (.iload_n 1, 1) := by decide +kernel
theorem dX9_untold_18 : decode cX9_untold 18 = .ok (.imul, 1) := by decide +kernel
theorem dX9_untold_19 : decode cX9_untold 19 = .ok (.iadd, 1) := by decide +kernel
theorem dX9_untold_20 : decode cX9_untold 20 = .ok (.iconst 2, 1) := by decide +kernel
theorem dX9_untold_21 : decode cX9_untold 21 = .ok (.iadd, 1) := by decide +kernel
theorem dX9_untold_22 : decode cX9_untold 22 = .ok (.iaload, 1) := by decide +kernel
theorem dX9_untold_23 : decode cX9_untold 23 = .ok (.iconst (-1), 1) := by decide +kernel
theorem dX9_untold_24 : decode cX9_untold 24 = .ok (.ixor, 1) := by decide +kernel
theorem dX9_untold_25 : decode cX9_untold 25 = .ok (.iand, 1) := by decide +kernel
theorem dX9_untold_26 : decode cX9_untold 26 = .ok (.ireturn, 1) := by decide +kernel
theorem dX9_nods_0 : decode cX9_nods 0 = .ok (.aload_n 0, 1) := by decide +kernel
theorem dX9_nods_1 : decode cX9_nods 1 = .ok (.iload_n 1, 1) := by decide +kernel
theorem dX9_nods_2 : decode cX9_nods 2 = .ok (.invokevirtual 163, 3) := by decide +kernel
theorem dX9_nods_5 : decode cX9_nods 5 = .ok (.ifCond .ne 6, 3) := by decide +kernel
theorem dX9_nods_8 : decode cX9_nods 8 = .ok (.ldc 67, 2) := by decide +kernel
theorem dX9_nods_10 : decode cX9_nods 10 = .ok (.ireturn, 1) := by decide +kernel
theorem dX9_nods_11 : decode cX9_nods 11 = .ok (.aload_n 0, 1) := by decide +kernel
theorem dX9_nods_12 : decode cX9_nods 12 = .ok (.iload_n 1, 1) := by decide +kernel
theorem dX9_nods_13 : decode cX9_nods 13 = .ok (.invokevirtual 176, 3) := by decide +kernel
theorem dX9_nods_16 : decode cX9_nods 16 = .ok (.iconst 0, 1) := by decide +kernel
theorem dX9_nods_17 : decode cX9_nods 17 = .ok (.istore_n 2, 1) := by decide +kernel
theorem dX9_nods_18 : decode cX9_nods 18 = .ok (.iconst 0, 1) := by decide +kernel
theorem dX9_nods_19 : decode cX9_nods 19 = .ok (.istore_n 3, 1) := by decide +kernel
theorem dX9_nods_20 : decode cX9_nods 20 = .ok (.iload_n 3, 1) := by decide +kernel
theorem dX9_nods_21 : decode cX9_nods 21 = .ok (.aload_n 0, 1) := by decide +kernel
theorem dX9_nods_22 : decode cX9_nods 22 = .ok (.getfield 25, 3) := by decide +kernel
theorem dX9_nods_25 : decode cX9_nods 25 = .ok (.iconst 2, 1) := by decide +kernel
theorem dX9_nods_26 : decode cX9_nods 26 = .ok (.iaload, 1) := by decide +kernel
theorem dX9_nods_27 : decode cX9_nods 27 = .ok (.if_icmp .ge 39, 3) := by decide +kernel
theorem dX9_nods_30 : decode cX9_nods 30 = .ok (.iload_n 2, 1) := by decide +kernel
theorem dX9_nods_31 : decode cX9_nods 31 = .ok (.aload_n 0, 1) := by decide +kernel
theorem dX9_nods_32 : decode cX9_nods 32 = .ok (.iload_n 1, 1) := by decide +kernel
theorem dX9_nods_33 : decode cX9_nods 33 = .ok (.invokevirtual 193, 3) := by decide +kernel
theorem dX9_nods_36 : decode cX9_nods 36 = .ok (.iload_n 3, 1) := by decide +kernel
theorem dX9_nods_37 : decode cX9_nods 37 = .ok (.invokestatic 156, 3) := by decide +kernel
theorem dX9_nods_40 : decode cX9_nods 40 = .ok (.ifCond .eq 17, 3) := by decide +kernel
theorem dX9_nods_43 : decode cX9_nods 43 = .ok (.aload_n 0, 1) := by decide +kernel
theorem dX9_nods_44 : decode cX9_nods 44 = .ok (.iload_n 3, 1) := by decide +kernel
theorem dX9_nods_45 : decode cX9_nods 45 = .ok (.invokevirtual 180, 3) := by decide +kernel
theorem dX9_nods_48 : decode cX9_nods 48 = .ok (.ifCond .eq 9, 3) := by decide +kernel
theorem dX9_nods_51 : decode cX9_nods 51 = .ok (.iconst 1, 1) := by decide +kernel
theorem dX9_nods_52 : decode cX9_nods 52 = .ok (.iload_n 3, 1) := by decide +kernel
theorem dX9_nods_53 : decode cX9_nods 53 = .ok (.ishl, 1) := by decide +kernel
theorem dX9_nods_54 : decode cX9_nods 54 = .ok (.goto 4, 3) := by decide +kernel
theorem dX9_nods_57 : decode cX9_nods 57 = .ok (.iconst 0, 1) := by decide +kernel
theorem dX9_nods_58 : decode cX9_nods 58 = .ok (.ior, 1) := by decide +kernel
theorem dX9_nods_59 : decode cX9_nods 59 = .ok (.istore_n 2, 1) := by decide +kernel
theorem dX9_nods_60 : decode cX9_nods 60 = .ok (.iinc 3 1, 3) := by decide +kernel
theorem dX9_nods_63 : decode cX9_nods 63 = .ok (.goto (-43), 3) := by decide +kernel
theorem dX9_nods_66 : decode cX9_nods 66 = .ok (.iload_n 2, 1) := by decide +kernel
theorem dX9_nods_67 : decode cX9_nods 67 = .ok (.ireturn, 1) := by decide +kernel
theorem dX9_nodsAt_0 : decode cX9_nodsAt 0 = .ok (.aload_n 0, 1) := by decide +kernel
theorem dX9_nodsAt_1 : decode cX9_nodsAt 1 = .ok (.iload_n 1, 1) := by decide +kernel
theorem dX9_nodsAt_2 : decode cX9_nodsAt 2 = .ok (.invokevirtual 176, 3) := by decide +kernel
theorem dX9_nodsAt_5 : decode cX9_nodsAt 5 = .ok (.iconst 0, 1) := by decide +kernel
theorem dX9_nodsAt_6 : decode cX9_nodsAt 6 = .ok (.istore_n 3, 1) := by decide +kernel
theorem dX9_nodsAt_7 : decode cX9_nodsAt 7 = .ok (.iconst 0, 1) := by decide +kernel
theorem dX9_nodsAt_8 : decode cX9_nodsAt 8 = .ok (.istore 4, 2) := by decide +kernel
theorem dX9_nodsAt_10 : decode cX9_nodsAt 10 = .ok (.iload 4, 2) := by decide +kernel
theorem dX9_nodsAt_12 : decode cX9_nodsAt 12 = .ok (.iload_n 2, 1) := by decide +kernel
theorem dX9_nodsAt_13 : decode cX9_nodsAt 13 = .ok (.if_icmp .ge 48, 3) := by decide +kernel
theorem dX9_nodsAt_16 : decode cX9_nodsAt 16 = .ok (.aload_n 0, 1) := by decide +kernel
theorem dX9_nodsAt_17 : decode cX9_nodsAt 17 = .ok (.aload_n 0, 1) := by decide +kernel
theorem dX9_nodsAt_18 : decode cX9_nodsAt 18 = .ok (.getfield 47, 3) := by decide +kernel
theorem dX9_nodsAt_21 : decode cX9_nodsAt 21 = .ok (.iload 4, 2) := by decide +kernel
theorem dX9_nodsAt_23 : decode cX9_nodsAt 23 = .ok (.iaload, 1) := by decide +kernel
theorem dX9_nodsAt_24 : decode cX9_nodsAt 24 = .ok (.invokevirtual 180, 3) := by decide +kernel
theorem dX9_nodsAt_27 : decode cX9_nodsAt 27 = .ok (.istore 5, 2) := by decide +kernel
theorem dX9_nodsAt_29 : decode cX9_nodsAt 29 = .ok (.aload_n 0, 1) := by decide +kernel
theorem dX9_nodsAt_30 : decode cX9_nodsAt 30 = .ok (.aload_n 0, 1) := by decide +kernel
theorem dX9_nodsAt_31 : decode cX9_nodsAt 31 = .ok (.getfield 47, 3) := by decide +kernel
theorem dX9_nodsAt_34 : decode cX9_nodsAt 34 = .ok (.iload 4, 2) := by decide +kernel
theorem dX9_nodsAt_36 : decode cX9_nodsAt 36 = .ok (.iaload, 1) := by decide +kernel
theorem dX9_nodsAt_37 : decode cX9_nodsAt 37 = .ok (.iload 5, 2) := by decide +kernel
theorem dX9_nodsAt_39 : decode cX9_nodsAt 39 = .ok (.invokevirtual 183, 3) := by decide +kernel
theorem dX9_nodsAt_42 : decode cX9_nodsAt 42 = .ok (.iload_n 3, 1) := by decide +kernel
theorem dX9_nodsAt_43 : decode cX9_nodsAt 43 = .ok (.iload 5, 2) := by decide +kernel
theorem dX9_nodsAt_45 : decode cX9_nodsAt 45 = .ok (.ifCond .eq 7, 3) := by decide +kernel
theorem dX9_nodsAt_48 : decode cX9_nodsAt 48 = .ok (.iconst 1, 1) := by decide +kernel
theorem dX9_nodsAt_49 : decode cX9_nodsAt 49 = .ok (.goto 4, 3) := by decide +kernel
theorem dX9_nodsAt_52 : decode cX9_nodsAt 52 = .ok (.iconst 0, 1) := by decide +kernel
theorem dX9_nodsAt_53 : decode cX9_nodsAt 53 = .ok (.iadd, 1) := by decide +kernel
theorem dX9_nodsAt_54 : decode cX9_nodsAt 54 = .ok (.istore_n 3, 1) := by decide +kernel
theorem dX9_nodsAt_55 : decode cX9_nodsAt 55 = .ok (.iinc 4 1, 3) := by decide +kernel
theorem dX9_nodsAt_58 : decode cX9_nodsAt 58 = .ok (.goto (-48), 3) := by decide +kernel
theorem dX9_nodsAt_61 : decode cX9_nodsAt 61 = .ok (.iload_n 3, 1) := by decide +kernel
theorem dX9_nodsAt_62 : decode cX9_nodsAt 62 = .ok (.ireturn, 1) := by decide +kernel
theorem dX9_goesOn_0 : decode cX9_goesOn 0 = .ok (.iload_n 2, 1) := by decide +kernel
theorem dX9_goesOn_1 : decode cX9_goesOn 1 = .ok (.iconst 1, 1) := by decide +kernel
theorem dX9_goesOn_2 : decode cX9_goesOn 2 = .ok (.isub, 1) := by decide +kernel
theorem dX9_goesOn_3 : decode cX9_goesOn 3 = .ok (.istore_n 3, 1) := by decide +kernel
theorem dX9_goesOn_4 : decode cX9_goesOn 4 = .ok (.iconst 0, 1) := by decide +kernel
theorem dX9_goesOn_5 : decode cX9_goesOn 5 = .ok (.istore 4, 2) := by decide +kernel
theorem dX9_goesOn_7 : decode cX9_goesOn 7 = .ok (.iconst 0, 1) := by decide +kernel
theorem dX9_goesOn_8 : decode cX9_goesOn 8 = .ok (.istore 5, 2) := by decide +kernel
theorem dX9_goesOn_10 : decode cX9_goesOn 10 = .ok (.iload 5, 2) := by decide +kernel
theorem dX9_goesOn_12 : decode cX9_goesOn 12 = .ok (.iload_n 2, 1) := by decide +kernel
theorem dX9_goesOn_13 : decode cX9_goesOn 13 = .ok (.if_icmp .ge 23, 3) := by decide +kernel
theorem dX9_goesOn_16 : decode cX9_goesOn 16 = .ok (.iload 4, 2) := by decide +kernel
theorem dX9_goesOn_18 : decode cX9_goesOn 18 = .ok (.iconst 1, 1) := by decide +kernel
theorem dX9_goesOn_19 : decode cX9_goesOn 19 = .ok (.aload_n 0, 1) := by decide +kernel
theorem dX9_goesOn_20 : decode cX9_goesOn 20 = .ok (.getfield 47, 3) := by decide +kernel
theorem dX9_goesOn_23 : decode cX9_goesOn 23 = .ok (.iload 5, 2) := by decide +kernel
theorem dX9_goesOn_25 : decode cX9_goesOn 25 = .ok (.iaload, 1) := by decide +kernel
theorem dX9_goesOn_26 : decode cX9_goesOn 26 = .ok (.ishl, 1) := by decide +kernel
theorem dX9_goesOn_27 : decode cX9_goesOn 27 = .ok (.ior, 1) := by decide +kernel
theorem dX9_goesOn_28 : decode cX9_goesOn 28 = .ok (.istore 4, 2) := by decide +kernel
theorem dX9_goesOn_30 : decode cX9_goesOn 30 = .ok (.iinc 5 1, 3) := by decide +kernel
theorem dX9_goesOn_33 : decode cX9_goesOn 33 = .ok (.goto (-23), 3) := by decide +kernel
theorem dX9_goesOn_36 : decode cX9_goesOn 36 = .ok (.iload_n 3, 1) := by decide +kernel
theorem dX9_goesOn_37 : decode cX9_goesOn 37 = .ok (.ifCond .lt 103, 3) := by decide +kernel
theorem dX9_goesOn_40 : decode cX9_goesOn 40 = .ok (.iload 4, 2) := by decide +kernel
theorem dX9_goesOn_42 : decode cX9_goesOn 42 = .ok (.iconst 1, 1) := by decide +kernel
theorem dX9_goesOn_43 : decode cX9_goesOn 43 = .ok (.aload_n 0, 1) := by decide +kernel
theorem dX9_goesOn_44 : decode cX9_goesOn 44 = .ok (.getfield 47, 3) := by decide +kernel
theorem dX9_goesOn_47 : decode cX9_goesOn 47 = .ok (.iload_n 3, 1) := by decide +kernel
theorem dX9_goesOn_48 : decode cX9_goesOn 48 = .ok (.iaload, 1) := by decide +kernel
theorem dX9_goesOn_49 : decode cX9_goesOn 49 = .ok (.ishl, 1) := by decide +kernel
theorem dX9_goesOn_50 : decode cX9_goesOn 50 = .ok (.iconst (-1), 1) := by decide +kernel
theorem dX9_goesOn_51 : decode cX9_goesOn 51 = .ok (.ixor, 1) := by decide +kernel
theorem dX9_goesOn_52 : decode cX9_goesOn 52 = .ok (.iand, 1) := by decide +kernel
theorem dX9_goesOn_53 : decode cX9_goesOn 53 = .ok (.istore 4, 2) := by decide +kernel
theorem dX9_goesOn_55 : decode cX9_goesOn 55 = .ok (.aload_n 0, 1) := by decide +kernel
theorem dX9_goesOn_56 : decode cX9_goesOn 56 = .ok (.getfield 47, 3) := by decide +kernel
theorem dX9_goesOn_59 : decode cX9_goesOn 59 = .ok (.iload_n 3, 1) := by decide +kernel
theorem dX9_goesOn_60 : decode cX9_goesOn 60 = .ok (.iaload, 1) := by decide +kernel
theorem dX9_goesOn_61 : decode cX9_goesOn 61 = .ok (.iconst 1, 1) := by decide +kernel
theorem dX9_goesOn_62 : decode cX9_goesOn 62 = .ok (.iadd, 1) := by decide +kernel
theorem dX9_goesOn_63 : decode cX9_goesOn 63 = .ok (.istore 5, 2) := by decide +kernel
theorem dX9_goesOn_65 : decode cX9_goesOn 65 = .ok (.iload 5, 2) := by decide +kernel
theorem dX9_goesOn_67 : decode cX9_goesOn 67 = .ok (.bipush 6, 2) := by decide +kernel
theorem dX9_goesOn_69 : decode cX9_goesOn 69 = .ok (.if_icmp .ge 28, 3) := by decide +kernel
theorem dX9_goesOn_72 : decode cX9_goesOn 72 = .ok (.iload_n 1, 1) := by decide +kernel
theorem dX9_goesOn_73 : decode cX9_goesOn 73 = .ok (.iload 5, 2) := by decide +kernel
theorem dX9_goesOn_75 : decode cX9_goesOn 75 = .ok (.invokestatic 156, 3) := by decide +kernel
theorem dX9_goesOn_78 : decode cX9_goesOn 78 = .ok (.ifCond .eq 13, 3) := by decide +kernel
theorem dX9_goesOn_81 : decode cX9_goesOn 81 = .ok (.iload 4, 2) := by decide +kernel
theorem dX9_goesOn_83 : decode cX9_goesOn 83 = .ok (.iload 5, 2) := by decide +kernel
theorem dX9_goesOn_85 : decode cX9_goesOn 85 = .ok (.invokestatic 156, 3) := by decide +kernel
theorem dX9_goesOn_88 : decode cX9_goesOn 88 = .ok (.ifCond .eq 9, 3) := by decide +kernel
theorem dX9_goesOn_91 : decode cX9_goesOn 91 = .ok (.iinc 5 1, 3) := by decide +kernel
theorem dX9_goesOn_94 : decode cX9_goesOn 94 = .ok (.goto (-29), 3) := by decide +kernel
theorem dX9_goesOn_97 : decode cX9_goesOn 97 = .ok (.iload 5, 2) := by decide +kernel
theorem dX9_goesOn_99 : decode cX9_goesOn 99 = .ok (.bipush 6, 2) := by decide +kernel
theorem dX9_goesOn_101 : decode cX9_goesOn 101 = .ok (.if_icmp .ge 33, 3) := by decide +kernel
theorem dX9_goesOn_104 : decode cX9_goesOn 104 = .ok (.aload_n 0, 1) := by decide +kernel
theorem dX9_goesOn_105 : decode cX9_goesOn 105 = .ok (.getfield 47, 3) := by decide +kernel
theorem dX9_goesOn_108 : decode cX9_goesOn 108 = .ok (.iload_n 3, 1) := by decide +kernel
theorem dX9_goesOn_109 : decode cX9_goesOn 109 = .ok (.iload 5, 2) := by decide +kernel
theorem dX9_goesOn_111 : decode cX9_goesOn 111 = .ok (.iastore, 1) := by decide +kernel
theorem dX9_goesOn_112 : decode cX9_goesOn 112 = .ok (.iload 4, 2) := by decide +kernel
theorem dX9_goesOn_114 : decode cX9_goesOn 114 = .ok (.iconst 1, 1) := by decide +kernel
theorem dX9_goesOn_115 : decode cX9_goesOn 115 = .ok (.iload 5, 2) := by decide +kernel
theorem dX9_goesOn_117 : decode cX9_goesOn 117 = .ok (.ishl, 1) := by decide +kernel
theorem dX9_goesOn_118 : decode cX9_goesOn 118 = .ok (.ior, 1) := by decide +kernel
theorem dX9_goesOn_119 : decode cX9_goesOn 119 = .ok (.istore 4, 2) := by decide +kernel
theorem dX9_goesOn_121 : decode cX9_goesOn 121 = .ok (.aload_n 0, 1) := by decide +kernel
theorem dX9_goesOn_122 : decode cX9_goesOn 122 = .ok (.iload_n 1, 1) := by decide +kernel
theorem dX9_goesOn_123 : decode cX9_goesOn 123 = .ok (.iload 4, 2) := by decide +kernel
theorem dX9_goesOn_125 : decode cX9_goesOn 125 = .ok (.iload_n 3, 1) := by decide +kernel
theorem dX9_goesOn_126 : decode cX9_goesOn 126 = .ok (.iconst 1, 1) := by decide +kernel
theorem dX9_goesOn_127 : decode cX9_goesOn 127 = .ok (.iadd, 1) := by decide +kernel
theorem dX9_goesOn_128 : decode cX9_goesOn 128 = .ok (.iload_n 2, 1) := by decide +kernel
theorem dX9_goesOn_129 : decode cX9_goesOn 129 = .ok (.invokevirtual 196, 3) := by decide +kernel
theorem dX9_goesOn_132 : decode cX9_goesOn 132 = .ok (.iconst 1, 1) := by decide +kernel
theorem dX9_goesOn_133 : decode cX9_goesOn 133 = .ok (.ireturn, 1) := by decide +kernel
theorem dX9_goesOn_134 : decode cX9_goesOn 134 = .ok (.iinc 3 (-1), 3) := by decide +kernel
theorem dX9_goesOn_137 : decode cX9_goesOn 137 = .ok (.goto (-101), 3) := by decide +kernel
theorem dX9_goesOn_140 : decode cX9_goesOn 140 = .ok (.iconst 0, 1) := by decide +kernel
theorem dX9_goesOn_141 : decode cX9_goesOn 141 = .ok (.ireturn, 1) := by decide +kernel
theorem dX9_fills_0 : decode cX9_fills 0 = .ok (.iload_n 2, 1) := by decide +kernel
theorem dX9_fills_1 : decode cX9_fills 1 = .ok (.istore 5, 2) := by decide +kernel
theorem dX9_fills_3 : decode cX9_fills 3 = .ok (.iload_n 3, 1) := by decide +kernel
theorem dX9_fills_4 : decode cX9_fills 4 = .ok (.istore 6, 2) := by decide +kernel
theorem dX9_fills_6 : decode cX9_fills 6 = .ok (.iload 6, 2) := by decide +kernel
theorem dX9_fills_8 : decode cX9_fills 8 = .ok (.iload 4, 2) := by decide +kernel
theorem dX9_fills_10 : decode cX9_fills 10 = .ok (.if_icmp .ge 55, 3) := by decide +kernel
theorem dX9_fills_13 : decode cX9_fills 13 = .ok (.iconst 0, 1) := by decide +kernel
theorem dX9_fills_14 : decode cX9_fills 14 = .ok (.istore 7, 2) := by decide +kernel
theorem dX9_fills_16 : decode cX9_fills 16 = .ok (.iload_n 1, 1) := by decide +kernel
theorem dX9_fills_17 : decode cX9_fills 17 = .ok (.iload 7, 2) := by decide +kernel
theorem dX9_fills_19 : decode cX9_fills 19 = .ok (.invokestatic 156, 3) := by decide +kernel
theorem dX9_fills_22 : decode cX9_fills 22 = .ok (.ifCond .eq 13, 3) := by decide +kernel
theorem dX9_fills_25 : decode cX9_fills 25 = .ok (.iload 5, 2) := by decide +kernel
theorem dX9_fills_27 : decode cX9_fills 27 = .ok (.iload 7, 2) := by decide +kernel
theorem dX9_fills_29 : decode cX9_fills 29 = .ok (.invokestatic 156, 3) := by decide +kernel
theorem dX9_fills_32 : decode cX9_fills 32 = .ok (.ifCond .eq 9, 3) := by decide +kernel
theorem dX9_fills_35 : decode cX9_fills 35 = .ok (.iinc 7 1, 3) := by decide +kernel
theorem dX9_fills_38 : decode cX9_fills 38 = .ok (.goto (-22), 3) := by decide +kernel
theorem dX9_fills_41 : decode cX9_fills 41 = .ok (.aload_n 0, 1) := by decide +kernel
theorem dX9_fills_42 : decode cX9_fills 42 = .ok (.getfield 47, 3) := by decide +kernel
theorem dX9_fills_45 : decode cX9_fills 45 = .ok (.iload 6, 2) := by decide +kernel
theorem dX9_fills_47 : decode cX9_fills 47 = .ok (.iload 7, 2) := by decide +kernel
theorem dX9_fills_49 : decode cX9_fills 49 = .ok (.iastore, 1) := by decide +kernel
theorem dX9_fills_50 : decode cX9_fills 50 = .ok (.iload 5, 2) := by decide +kernel
theorem dX9_fills_52 : decode cX9_fills 52 = .ok (.iconst 1, 1) := by decide +kernel
theorem dX9_fills_53 : decode cX9_fills 53 = .ok (.iload 7, 2) := by decide +kernel
theorem dX9_fills_55 : decode cX9_fills 55 = .ok (.ishl, 1) := by decide +kernel
theorem dX9_fills_56 : decode cX9_fills 56 = .ok (.ior, 1) := by decide +kernel
theorem dX9_fills_57 : decode cX9_fills 57 = .ok (.istore 5, 2) := by decide +kernel
theorem dX9_fills_59 : decode cX9_fills 59 = .ok (.iinc 6 1, 3) := by decide +kernel
theorem dX9_fills_62 : decode cX9_fills 62 = .ok (.goto (-56), 3) := by decide +kernel
theorem dX9_fills_65 : decode cX9_fills 65 = .ok (.return_, 1) := by decide +kernel
theorem dX9_order_0 : decode cX9_order 0 = .ok (.aload_n 0, 1) := by decide +kernel
theorem dX9_order_1 : decode cX9_order 1 = .ok (.iload_n 1, 1) := by decide +kernel
theorem dX9_order_2 : decode cX9_order 2 = .ok (.invokevirtual 163, 3) := by decide +kernel
theorem dX9_order_5 : decode cX9_order 5 = .ok (.ifCond .eq 30, 3) := by decide +kernel
theorem dX9_order_8 : decode cX9_order 8 = .ok (.iload_n 2, 1) := by decide +kernel
theorem dX9_order_9 : decode cX9_order 9 = .ok (.iconst 0, 1) := by decide +kernel
theorem dX9_order_10 : decode cX9_order 10 = .ok (.iconst 1, 1) := by decide +kernel
theorem dX9_order_11 : decode cX9_order 11 = .ok (.aload_n 0, 1) := by decide +kernel
theorem dX9_order_12 : decode cX9_order 12 = .ok (.getfield 25, 3) := by decide +kernel
theorem dX9_order_15 : decode cX9_order 15 = .ok (.iconst 2, 1) := by decide +kernel
theorem dX9_order_16 : decode cX9_order 16 = .ok (.iaload, 1) := by decide +kernel
theorem dX9_order_17 : decode cX9_order 17 = .ok (.ishl, 1) := by decide +kernel
theorem dX9_order_18 : decode cX9_order 18 = .ok (.iconst 1, 1) := by decide +kernel
theorem dX9_order_19 : decode cX9_order 19 = .ok (.isub, 1) := by decide +kernel
theorem dX9_order_20 : decode cX9_order 20 = .ok (.invokestatic 59, 3) := by decide +kernel
theorem dX9_order_23 : decode cX9_order 23 = .ok (.ifCond .eq 12, 3) := by decide +kernel
theorem dX9_order_26 : decode cX9_order 26 = .ok (.iload_n 3, 1) := by decide +kernel
theorem dX9_order_27 : decode cX9_order 27 = .ok (.iconst (-1), 1) := by decide +kernel
theorem dX9_order_28 : decode cX9_order 28 = .ok (.iconst 5, 1) := by decide +kernel
theorem dX9_order_29 : decode cX9_order 29 = .ok (.invokestatic 59, 3) := by decide +kernel
theorem dX9_order_32 : decode cX9_order 32 = .ok (.ifCond .ne 6, 3) := by decide +kernel
theorem dX9_order_35 : decode cX9_order 35 = .ok (.ldc 67, 2) := by decide +kernel
theorem dX9_order_37 : decode cX9_order 37 = .ok (.ireturn, 1) := by decide +kernel
theorem dX9_order_38 : decode cX9_order 38 = .ok (.iload_n 2, 1) := by decide +kernel
theorem dX9_order_39 : decode cX9_order 39 = .ok (.aload_n 0, 1) := by decide +kernel
theorem dX9_order_40 : decode cX9_order 40 = .ok (.getfield 25, 3) := by decide +kernel
theorem dX9_order_43 : decode cX9_order 43 = .ok (.bipush 22, 2) := by decide +kernel
theorem dX9_order_45 : decode cX9_order 45 = .ok (.iconst 4, 1) := by decide +kernel
theorem dX9_order_46 : decode cX9_order 46 = .ok (.iload_n 1, 1) := by decide +kernel
theorem dX9_order_47 : decode cX9_order 47 = .ok (.imul, 1) := by decide +kernel
theorem dX9_order_48 : decode cX9_order 48 = .ok (.iadd, 1) := by decide +kernel
theorem dX9_order_49 : decode cX9_order 49 = .ok (.iconst 2, 1) := by decide +kernel
theorem dX9_order_50 : decode cX9_order 50 = .ok (.iadd, 1) := by decide +kernel
theorem dX9_order_51 : decode cX9_order 51 = .ok (.iaload, 1) := by decide +kernel
theorem dX9_order_52 : decode cX9_order 52 = .ok (.iand, 1) := by decide +kernel
theorem dX9_order_53 : decode cX9_order 53 = .ok (.ifCond .eq 6, 3) := by decide +kernel
theorem dX9_order_56 : decode cX9_order 56 = .ok (.ldc 172, 2) := by decide +kernel
theorem dX9_order_58 : decode cX9_order 58 = .ok (.ireturn, 1) := by decide +kernel
theorem dX9_order_59 : decode cX9_order 59 = .ok (.iload_n 2, 1) := by decide +kernel
theorem dX9_order_60 : decode cX9_order 60 = .ok (.invokestatic 150, 3) := by decide +kernel
theorem dX9_order_63 : decode cX9_order 63 = .ok (.istore 4, 2) := by decide +kernel
theorem dX9_order_65 : decode cX9_order 65 = .ok (.aload_n 0, 1) := by decide +kernel
theorem dX9_order_66 : decode cX9_order 66 = .ok (.iload_n 2, 1) := by decide +kernel
theorem dX9_order_67 : decode cX9_order 67 = .ok (.iconst 0, 1) := by decide +kernel
theorem dX9_order_68 : decode cX9_order 68 = .ok (.iconst 0, 1) := by decide +kernel
theorem dX9_order_69 : decode cX9_order 69 = .ok (.iload 4, 2) := by decide +kernel
theorem dX9_order_71 : decode cX9_order 71 = .ok (.invokevirtual 196, 3) := by decide +kernel
theorem dX9_order_74 : decode cX9_order 74 = .ok (.aload_n 0, 1) := by decide +kernel
theorem dX9_order_75 : decode cX9_order 75 = .ok (.ldc 53, 2) := by decide +kernel
theorem dX9_order_77 : decode cX9_order 77 = .ok (.putfield 200, 3) := by decide +kernel
theorem dX9_order_80 : decode cX9_order 80 = .ok (.iconst 1, 1) := by decide +kernel
theorem dX9_order_81 : decode cX9_order 81 = .ok (.istore 5, 2) := by decide +kernel
theorem dX9_order_83 : decode cX9_order 83 = .ok (.iload 5, 2) := by decide +kernel
theorem dX9_order_85 : decode cX9_order 85 = .ok (.ifCond .eq 69, 3) := by decide +kernel
theorem dX9_order_88 : decode cX9_order 88 = .ok (.aload_n 0, 1) := by decide +kernel
theorem dX9_order_89 : decode cX9_order 89 = .ok (.iload_n 1, 1) := by decide +kernel
theorem dX9_order_90 : decode cX9_order 90 = .ok (.iload 4, 2) := by decide +kernel
theorem dX9_order_92 : decode cX9_order 92 = .ok (.invokevirtual 203, 3) := by decide +kernel
theorem dX9_order_95 : decode cX9_order 95 = .ok (.istore 6, 2) := by decide +kernel
theorem dX9_order_97 : decode cX9_order 97 = .ok (.iload 6, 2) := by decide +kernel
theorem dX9_order_99 : decode cX9_order 99 = .ok (.aload_n 0, 1) := by decide +kernel
theorem dX9_order_100 : decode cX9_order 100 = .ok (.getfield 200, 3) := by decide +kernel
theorem dX9_order_103 : decode cX9_order 103 = .ok (.if_icmp .le 39, 3) := by decide +kernel
theorem dX9_order_106 : decode cX9_order 106 = .ok (.aload_n 0, 1) := by decide +kernel
theorem dX9_order_107 : decode cX9_order 107 = .ok (.iload 6, 2) := by decide +kernel
theorem dX9_order_109 : decode cX9_order 109 = .ok (.putfield 200, 3) := by decide +kernel
theorem dX9_order_112 : decode cX9_order 112 = .ok (.iconst 0, 1) := by decide +kernel
theorem dX9_order_113 : decode cX9_order 113 = .ok (.istore 7, 2) := by decide +kernel
theorem dX9_order_115 : decode cX9_order 115 = .ok (.iload 7, 2) := by decide +kernel
theorem dX9_order_117 : decode cX9_order 117 = .ok (.iload 4, 2) := by decide +kernel
theorem dX9_order_119 : decode cX9_order 119 = .ok (.if_icmp .ge 23, 3) := by decide +kernel
theorem dX9_order_122 : decode cX9_order 122 = .ok (.aload_n 0, 1) := by decide +kernel
theorem dX9_order_123 : decode cX9_order 123 = .ok (.getfield 50, 3) := by decide +kernel
theorem dX9_order_126 : decode cX9_order 126 = .ok (.iload 7, 2) := by decide +kernel
theorem dX9_order_128 : decode cX9_order 128 = .ok (.aload_n 0, 1) := by decide +kernel
theorem dX9_order_129 : decode cX9_order 129 = .ok (.getfield 47, 3) := by decide +kernel
theorem dX9_order_132 : decode cX9_order 132 = .ok (.iload 7, 2) := by decide +kernel
theorem dX9_order_134 : decode cX9_order 134 = .ok (.iaload, 1) := by decide +kernel
theorem dX9_order_135 : decode cX9_order 135 = .ok (.iastore, 1) := by decide +kernel
theorem dX9_order_136 : decode cX9_order 136 = .ok (.iinc 7 1, 3) := by decide +kernel
theorem dX9_order_139 : decode cX9_order 139 = .ok (.goto (-24), 3) := by decide +kernel
theorem dX9_order_142 : decode cX9_order 142 = .ok (.aload_n 0, 1) := by decide +kernel
theorem dX9_order_143 : decode cX9_order 143 = .ok (.iload_n 2, 1) := by decide +kernel
theorem dX9_order_144 : decode cX9_order 144 = .ok (.iload 4, 2) := by decide +kernel
theorem dX9_order_146 : decode cX9_order 146 = .ok (.invokevirtual 206, 3) := by decide +kernel
theorem dX9_order_149 : decode cX9_order 149 = .ok (.istore 5, 2) := by decide +kernel
theorem dX9_order_151 : decode cX9_order 151 = .ok (.goto (-68), 3) := by decide +kernel
theorem dX9_order_154 : decode cX9_order 154 = .ok (.iload_n 3, 1) := by decide +kernel
theorem dX9_order_155 : decode cX9_order 155 = .ok (.iconst (-1), 1) := by decide +kernel
theorem dX9_order_156 : decode cX9_order 156 = .ok (.if_icmp .ne 10, 3) := by decide +kernel
theorem dX9_order_159 : decode cX9_order 159 = .ok (.aload_n 0, 1) := by decide +kernel
theorem dX9_order_160 : decode cX9_order 160 = .ok (.getfield 200, 3) := by decide +kernel
theorem dX9_order_163 : decode cX9_order 163 = .ok (.goto 20, 3) := by decide +kernel
theorem dX9_order_166 : decode cX9_order 166 = .ok (.iload_n 3, 1) := by decide +kernel
theorem dX9_order_167 : decode cX9_order 167 = .ok (.iload 4, 2) := by decide +kernel
theorem dX9_order_169 : decode cX9_order 169 = .ok (.if_icmp .ge 12, 3) := by decide +kernel
theorem dX9_order_172 : decode cX9_order 172 = .ok (.aload_n 0, 1) := by decide +kernel
theorem dX9_order_173 : decode cX9_order 173 = .ok (.getfield 50, 3) := by decide +kernel
theorem dX9_order_176 : decode cX9_order 176 = .ok (.iload_n 3, 1) := by decide +kernel
theorem dX9_order_177 : decode cX9_order 177 = .ok (.iaload, 1) := by decide +kernel
theorem dX9_order_178 : decode cX9_order 178 = .ok (.goto 5, 3) := by decide +kernel
theorem dX9_order_181 : decode cX9_order 181 = .ok (.ldc 53, 2) := by decide +kernel
theorem dX9_order_183 : decode cX9_order 183 = .ok (.ireturn, 1) := by decide +kernel
theorem dX9_aheadOf_0 : decode cX9_aheadOf 0 = .ok (.aload_n 0, 1) := by decide +kernel
theorem dX9_aheadOf_1 : decode cX9_aheadOf 1 = .ok (.iload_n 1, 1) := by decide +kernel
theorem dX9_aheadOf_2 : decode cX9_aheadOf 2 = .ok (.invokevirtual 193, 3) := by decide +kernel
theorem dX9_aheadOf_5 : decode cX9_aheadOf 5 = .ok (.iconst 1, 1) := by decide +kernel
theorem dX9_aheadOf_6 : decode cX9_aheadOf 6 = .ok (.iload_n 2, 1) := by decide +kernel
theorem dX9_aheadOf_7 : decode cX9_aheadOf 7 = .ok (.ishl, 1) := by decide +kernel
theorem dX9_aheadOf_8 : decode cX9_aheadOf 8 = .ok (.iconst (-1), 1) := by decide +kernel
theorem dX9_aheadOf_9 : decode cX9_aheadOf 9 = .ok (.ixor, 1) := by decide +kernel
theorem dX9_aheadOf_10 : decode cX9_aheadOf 10 = .ok (.iand, 1) := by decide +kernel
theorem dX9_aheadOf_11 : decode cX9_aheadOf 11 = .ok (.istore_n 3, 1) := by decide +kernel
theorem dX9_aheadOf_12 : decode cX9_aheadOf 12 = .ok (.iload_n 3, 1) := by decide +kernel
theorem dX9_aheadOf_13 : decode cX9_aheadOf 13 = .ok (.invokestatic 150, 3) := by decide +kernel
theorem dX9_aheadOf_16 : decode cX9_aheadOf 16 = .ok (.istore 4, 2) := by decide +kernel
theorem dX9_aheadOf_18 : decode cX9_aheadOf 18 = .ok (.iconst 0, 1) := by decide +kernel
theorem dX9_aheadOf_19 : decode cX9_aheadOf 19 = .ok (.istore 5, 2) := by decide +kernel
theorem dX9_aheadOf_21 : decode cX9_aheadOf 21 = .ok (.iload 5, 2) := by decide +kernel
theorem dX9_aheadOf_23 : decode cX9_aheadOf 23 = .ok (.iload 4, 2) := by decide +kernel
theorem dX9_aheadOf_25 : decode cX9_aheadOf 25 = .ok (.if_icmp .gt 57, 3) := by decide +kernel
theorem dX9_aheadOf_28 : decode cX9_aheadOf 28 = .ok (.aload_n 0, 1) := by decide +kernel
theorem dX9_aheadOf_29 : decode cX9_aheadOf 29 = .ok (.iload_n 3, 1) := by decide +kernel
theorem dX9_aheadOf_30 : decode cX9_aheadOf 30 = .ok (.iconst 0, 1) := by decide +kernel
theorem dX9_aheadOf_31 : decode cX9_aheadOf 31 = .ok (.iconst 0, 1) := by decide +kernel
theorem dX9_aheadOf_32 : decode cX9_aheadOf 32 = .ok (.iload 5, 2) := by decide +kernel
end
section
theorem dX9_aheadOf_34 : decode cX9_aheadOf 34 = .ok (.invokevirtual 196, 3) := by decide +kernel
theorem dX9_aheadOf_37 : decode cX9_aheadOf 37 = .ok (.iconst 1, 1) := by decide +kernel
theorem dX9_aheadOf_38 : decode cX9_aheadOf 38 = .ok (.istore 6, 2) := by decide +kernel
theorem dX9_aheadOf_40 : decode cX9_aheadOf 40 = .ok (.iload 6, 2) := by decide +kernel
theorem dX9_aheadOf_42 : decode cX9_aheadOf 42 = .ok (.ifCond .eq 34, 3) := by decide +kernel
theorem dX9_aheadOf_45 : decode cX9_aheadOf 45 = .ok (.aload_n 0, 1) := by decide +kernel
theorem dX9_aheadOf_46 : decode cX9_aheadOf 46 = .ok (.iload_n 1, 1) := by decide +kernel
theorem dX9_aheadOf_47 : decode cX9_aheadOf 47 = .ok (.iload 5, 2) := by decide +kernel
theorem dX9_aheadOf_49 : decode cX9_aheadOf 49 = .ok (.invokevirtual 203, 3) := by decide +kernel
theorem dX9_aheadOf_52 : decode cX9_aheadOf 52 = .ok (.pop, 1) := by decide +kernel
theorem dX9_aheadOf_53 : decode cX9_aheadOf 53 = .ok (.aload_n 0, 1) := by decide +kernel
theorem dX9_aheadOf_54 : decode cX9_aheadOf 54 = .ok (.iload_n 2, 1) := by decide +kernel
theorem dX9_aheadOf_55 : decode cX9_aheadOf 55 = .ok (.invokevirtual 180, 3) := by decide +kernel
theorem dX9_aheadOf_58 : decode cX9_aheadOf 58 = .ok (.ifCond .eq 6, 3) := by decide +kernel
theorem dX9_aheadOf_61 : decode cX9_aheadOf 61 = .ok (.iload 5, 2) := by decide +kernel
theorem dX9_aheadOf_63 : decode cX9_aheadOf 63 = .ok (.ireturn, 1) := by decide +kernel
theorem dX9_aheadOf_64 : decode cX9_aheadOf 64 = .ok (.aload_n 0, 1) := by decide +kernel
theorem dX9_aheadOf_65 : decode cX9_aheadOf 65 = .ok (.iload_n 3, 1) := by decide +kernel
theorem dX9_aheadOf_66 : decode cX9_aheadOf 66 = .ok (.iload 5, 2) := by decide +kernel
theorem dX9_aheadOf_68 : decode cX9_aheadOf 68 = .ok (.invokevirtual 206, 3) := by decide +kernel
theorem dX9_aheadOf_71 : decode cX9_aheadOf 71 = .ok (.istore 6, 2) := by decide +kernel
theorem dX9_aheadOf_73 : decode cX9_aheadOf 73 = .ok (.goto (-33), 3) := by decide +kernel
theorem dX9_aheadOf_76 : decode cX9_aheadOf 76 = .ok (.iinc 5 1, 3) := by decide +kernel
theorem dX9_aheadOf_79 : decode cX9_aheadOf 79 = .ok (.goto (-58), 3) := by decide +kernel
theorem dX9_aheadOf_82 : decode cX9_aheadOf 82 = .ok (.ldc 53, 2) := by decide +kernel
theorem dX9_aheadOf_84 : decode cX9_aheadOf 84 = .ok (.ireturn, 1) := by decide +kernel
theorem dX9_comesIn_0 : decode cX9_comesIn 0 = .ok (.aload_n 0, 1) := by decide +kernel
theorem dX9_comesIn_1 : decode cX9_comesIn 1 = .ok (.iload_n 1, 1) := by decide +kernel
theorem dX9_comesIn_2 : decode cX9_comesIn 2 = .ok (.invokevirtual 163, 3) := by decide +kernel
theorem dX9_comesIn_5 : decode cX9_comesIn 5 = .ok (.ifCond .eq 20, 3) := by decide +kernel
theorem dX9_comesIn_8 : decode cX9_comesIn 8 = .ok (.aload_n 0, 1) := by decide +kernel
theorem dX9_comesIn_9 : decode cX9_comesIn 9 = .ok (.iload_n 2, 1) := by decide +kernel
theorem dX9_comesIn_10 : decode cX9_comesIn 10 = .ok (.invokevirtual 166, 3) := by decide +kernel
theorem dX9_comesIn_13 : decode cX9_comesIn 13 = .ok (.ifCond .eq 12, 3) := by decide +kernel
theorem dX9_comesIn_16 : decode cX9_comesIn 16 = .ok (.iload_n 3, 1) := by decide +kernel
theorem dX9_comesIn_17 : decode cX9_comesIn 17 = .ok (.iconst 0, 1) := by decide +kernel
theorem dX9_comesIn_18 : decode cX9_comesIn 18 = .ok (.iconst 1, 1) := by decide +kernel
theorem dX9_comesIn_19 : decode cX9_comesIn 19 = .ok (.invokestatic 59, 3) := by decide +kernel
theorem dX9_comesIn_22 : decode cX9_comesIn 22 = .ok (.ifCond .ne 6, 3) := by decide +kernel
theorem dX9_comesIn_25 : decode cX9_comesIn 25 = .ok (.ldc 67, 2) := by decide +kernel
theorem dX9_comesIn_27 : decode cX9_comesIn 27 = .ok (.ireturn, 1) := by decide +kernel
theorem dX9_comesIn_28 : decode cX9_comesIn 28 = .ok (.aload_n 0, 1) := by decide +kernel
theorem dX9_comesIn_29 : decode cX9_comesIn 29 = .ok (.iload_n 1, 1) := by decide +kernel
theorem dX9_comesIn_30 : decode cX9_comesIn 30 = .ok (.iload_n 2, 1) := by decide +kernel
theorem dX9_comesIn_31 : decode cX9_comesIn 31 = .ok (.invokevirtual 169, 3) := by decide +kernel
theorem dX9_comesIn_34 : decode cX9_comesIn 34 = .ok (.ifCond .eq 6, 3) := by decide +kernel
theorem dX9_comesIn_37 : decode cX9_comesIn 37 = .ok (.ldc 172, 2) := by decide +kernel
theorem dX9_comesIn_39 : decode cX9_comesIn 39 = .ok (.ireturn, 1) := by decide +kernel
theorem dX9_comesIn_40 : decode cX9_comesIn 40 = .ok (.aload_n 0, 1) := by decide +kernel
theorem dX9_comesIn_41 : decode cX9_comesIn 41 = .ok (.iload_n 1, 1) := by decide +kernel
theorem dX9_comesIn_42 : decode cX9_comesIn 42 = .ok (.iload_n 2, 1) := by decide +kernel
theorem dX9_comesIn_43 : decode cX9_comesIn 43 = .ok (.invokevirtual 209, 3) := by decide +kernel
theorem dX9_comesIn_46 : decode cX9_comesIn 46 = .ok (.istore 4, 2) := by decide +kernel
theorem dX9_comesIn_48 : decode cX9_comesIn 48 = .ok (.iload_n 3, 1) := by decide +kernel
theorem dX9_comesIn_49 : decode cX9_comesIn 49 = .ok (.ifCond .ne 8, 3) := by decide +kernel
theorem dX9_comesIn_52 : decode cX9_comesIn 52 = .ok (.iload 4, 2) := by decide +kernel
theorem dX9_comesIn_54 : decode cX9_comesIn 54 = .ok (.goto 19, 3) := by decide +kernel
theorem dX9_comesIn_57 : decode cX9_comesIn 57 = .ok (.iload 4, 2) := by decide +kernel
theorem dX9_comesIn_59 : decode cX9_comesIn 59 = .ok (.ifCond .le 12, 3) := by decide +kernel
theorem dX9_comesIn_62 : decode cX9_comesIn 62 = .ok (.aload_n 0, 1) := by decide +kernel
theorem dX9_comesIn_63 : decode cX9_comesIn 63 = .ok (.getfield 47, 3) := by decide +kernel
theorem dX9_comesIn_66 : decode cX9_comesIn 66 = .ok (.iconst 0, 1) := by decide +kernel
theorem dX9_comesIn_67 : decode cX9_comesIn 67 = .ok (.iaload, 1) := by decide +kernel
theorem dX9_comesIn_68 : decode cX9_comesIn 68 = .ok (.goto 5, 3) := by decide +kernel
theorem dX9_comesIn_71 : decode cX9_comesIn 71 = .ok (.ldc 53, 2) := by decide +kernel
theorem dX9_comesIn_73 : decode cX9_comesIn 73 = .ok (.ireturn, 1) := by decide +kernel
theorem dX9_dead_0 : decode cX9_dead 0 = .ok (.aload_n 0, 1) := by decide +kernel
theorem dX9_dead_1 : decode cX9_dead 1 = .ok (.iload_n 1, 1) := by decide +kernel
theorem dX9_dead_2 : decode cX9_dead 2 = .ok (.invokevirtual 163, 3) := by decide +kernel
theorem dX9_dead_5 : decode cX9_dead 5 = .ok (.ifCond .ne 6, 3) := by decide +kernel
theorem dX9_dead_8 : decode cX9_dead 8 = .ok (.ldc 67, 2) := by decide +kernel
theorem dX9_dead_10 : decode cX9_dead 10 = .ok (.ireturn, 1) := by decide +kernel
theorem dX9_dead_11 : decode cX9_dead 11 = .ok (.iconst 0, 1) := by decide +kernel
theorem dX9_dead_12 : decode cX9_dead 12 = .ok (.istore_n 2, 1) := by decide +kernel
theorem dX9_dead_13 : decode cX9_dead 13 = .ok (.iconst 0, 1) := by decide +kernel
theorem dX9_dead_14 : decode cX9_dead 14 = .ok (.istore_n 3, 1) := by decide +kernel
theorem dX9_dead_15 : decode cX9_dead 15 = .ok (.iload_n 3, 1) := by decide +kernel
theorem dX9_dead_16 : decode cX9_dead 16 = .ok (.aload_n 0, 1) := by decide +kernel
theorem dX9_dead_17 : decode cX9_dead 17 = .ok (.getfield 25, 3) := by decide +kernel
theorem dX9_dead_20 : decode cX9_dead 20 = .ok (.iconst 2, 1) := by decide +kernel
theorem dX9_dead_21 : decode cX9_dead 21 = .ok (.iaload, 1) := by decide +kernel
theorem dX9_dead_22 : decode cX9_dead 22 = .ok (.if_icmp .ge 42, 3) := by decide +kernel
theorem dX9_dead_25 : decode cX9_dead 25 = .ok (.iload_n 2, 1) := by decide +kernel
theorem dX9_dead_26 : decode cX9_dead 26 = .ok (.aload_n 0, 1) := by decide +kernel
theorem dX9_dead_27 : decode cX9_dead 27 = .ok (.iload_n 1, 1) := by decide +kernel
theorem dX9_dead_28 : decode cX9_dead 28 = .ok (.invokevirtual 193, 3) := by decide +kernel
theorem dX9_dead_31 : decode cX9_dead 31 = .ok (.iload_n 3, 1) := by decide +kernel
theorem dX9_dead_32 : decode cX9_dead 32 = .ok (.invokestatic 156, 3) := by decide +kernel
theorem dX9_dead_35 : decode cX9_dead 35 = .ok (.ifCond .eq 20, 3) := by decide +kernel
theorem dX9_dead_38 : decode cX9_dead 38 = .ok (.aload_n 0, 1) := by decide +kernel
theorem dX9_dead_39 : decode cX9_dead 39 = .ok (.iload_n 1, 1) := by decide +kernel
theorem dX9_dead_40 : decode cX9_dead 40 = .ok (.iload_n 3, 1) := by decide +kernel
theorem dX9_dead_41 : decode cX9_dead 41 = .ok (.invokevirtual 209, 3) := by decide +kernel
theorem dX9_dead_44 : decode cX9_dead 44 = .ok (.ldc 53, 2) := by decide +kernel
theorem dX9_dead_46 : decode cX9_dead 46 = .ok (.if_icmp .ne 9, 3) := by decide +kernel
theorem dX9_dead_49 : decode cX9_dead 49 = .ok (.iconst 1, 1) := by decide +kernel
theorem dX9_dead_50 : decode cX9_dead 50 = .ok (.iload_n 3, 1) := by decide +kernel
theorem dX9_dead_51 : decode cX9_dead 51 = .ok (.ishl, 1) := by decide +kernel
theorem dX9_dead_52 : decode cX9_dead 52 = .ok (.goto 4, 3) := by decide +kernel
theorem dX9_dead_55 : decode cX9_dead 55 = .ok (.iconst 0, 1) := by decide +kernel
theorem dX9_dead_56 : decode cX9_dead 56 = .ok (.ior, 1) := by decide +kernel
theorem dX9_dead_57 : decode cX9_dead 57 = .ok (.istore_n 2, 1) := by decide +kernel
theorem dX9_dead_58 : decode cX9_dead 58 = .ok (.iinc 3 1, 3) := by decide +kernel
theorem dX9_dead_61 : decode cX9_dead 61 = .ok (.goto (-46), 3) := by decide +kernel
theorem dX9_dead_64 : decode cX9_dead 64 = .ok (.iload_n 2, 1) := by decide +kernel
theorem dX9_dead_65 : decode cX9_dead 65 = .ok (.ireturn, 1) := by decide +kernel
theorem dX9_helps_0 : decode cX9_helps 0 = .ok (.aload_n 0, 1) := by decide +kernel
theorem dX9_helps_1 : decode cX9_helps 1 = .ok (.iload_n 1, 1) := by decide +kernel
theorem dX9_helps_2 : decode cX9_helps 2 = .ok (.invokevirtual 176, 3) := by decide +kernel
theorem dX9_helps_5 : decode cX9_helps 5 = .ok (.aload_n 0, 1) := by decide +kernel
theorem dX9_helps_6 : decode cX9_helps 6 = .ok (.iload_n 3, 1) := by decide +kernel
theorem dX9_helps_7 : decode cX9_helps 7 = .ok (.invokevirtual 180, 3) := by decide +kernel
theorem dX9_helps_10 : decode cX9_helps 10 = .ok (.istore 4, 2) := by decide +kernel
theorem dX9_helps_12 : decode cX9_helps 12 = .ok (.aload_n 0, 1) := by decide +kernel
theorem dX9_helps_13 : decode cX9_helps 13 = .ok (.iload_n 2, 1) := by decide +kernel
theorem dX9_helps_14 : decode cX9_helps 14 = .ok (.aload_n 0, 1) := by decide +kernel
theorem dX9_helps_15 : decode cX9_helps 15 = .ok (.iload_n 2, 1) := by decide +kernel
theorem dX9_helps_16 : decode cX9_helps 16 = .ok (.invokevirtual 180, 3) := by decide +kernel
theorem dX9_helps_19 : decode cX9_helps 19 = .ok (.invokevirtual 183, 3) := by decide +kernel
theorem dX9_helps_22 : decode cX9_helps 22 = .ok (.iload 4, 2) := by decide +kernel
theorem dX9_helps_24 : decode cX9_helps 24 = .ok (.ifCond .ne 15, 3) := by decide +kernel
theorem dX9_helps_27 : decode cX9_helps 27 = .ok (.aload_n 0, 1) := by decide +kernel
theorem dX9_helps_28 : decode cX9_helps 28 = .ok (.iload_n 3, 1) := by decide +kernel
theorem dX9_helps_29 : decode cX9_helps 29 = .ok (.invokevirtual 180, 3) := by decide +kernel
theorem dX9_helps_32 : decode cX9_helps 32 = .ok (.ifCond .eq 7, 3) := by decide +kernel
theorem dX9_helps_35 : decode cX9_helps 35 = .ok (.iconst 1, 1) := by decide +kernel
theorem dX9_helps_36 : decode cX9_helps 36 = .ok (.goto 4, 3) := by decide +kernel
theorem dX9_helps_39 : decode cX9_helps 39 = .ok (.iconst 0, 1) := by decide +kernel
theorem dX9_helps_40 : decode cX9_helps 40 = .ok (.ireturn, 1) := by decide +kernel
theorem dX9_help_0 : decode cX9_help 0 = .ok (.aload_n 0, 1) := by decide +kernel
theorem dX9_help_1 : decode cX9_help 1 = .ok (.iload_n 1, 1) := by decide +kernel
theorem dX9_help_2 : decode cX9_help 2 = .ok (.invokevirtual 163, 3) := by decide +kernel
theorem dX9_help_5 : decode cX9_help 5 = .ok (.ifCond .eq 12, 3) := by decide +kernel
theorem dX9_help_8 : decode cX9_help 8 = .ok (.iload_n 2, 1) := by decide +kernel
theorem dX9_help_9 : decode cX9_help 9 = .ok (.iconst 0, 1) := by decide +kernel
theorem dX9_help_10 : decode cX9_help 10 = .ok (.iconst 1, 1) := by decide +kernel
theorem dX9_help_11 : decode cX9_help 11 = .ok (.invokestatic 59, 3) := by decide +kernel
theorem dX9_help_14 : decode cX9_help 14 = .ok (.ifCond .ne 6, 3) := by decide +kernel
theorem dX9_help_17 : decode cX9_help 17 = .ok (.ldc 67, 2) := by decide +kernel
theorem dX9_help_19 : decode cX9_help 19 = .ok (.ireturn, 1) := by decide +kernel
theorem dX9_help_20 : decode cX9_help 20 = .ok (.aload_n 0, 1) := by decide +kernel
theorem dX9_help_21 : decode cX9_help 21 = .ok (.iload_n 1, 1) := by decide +kernel
theorem dX9_help_22 : decode cX9_help 22 = .ok (.invokevirtual 193, 3) := by decide +kernel
theorem dX9_help_25 : decode cX9_help 25 = .ok (.istore_n 3, 1) := by decide +kernel
theorem dX9_help_26 : decode cX9_help 26 = .ok (.iconst 0, 1) := by decide +kernel
theorem dX9_help_27 : decode cX9_help 27 = .ok (.istore 4, 2) := by decide +kernel
theorem dX9_help_29 : decode cX9_help 29 = .ok (.ldc 53, 2) := by decide +kernel
theorem dX9_help_31 : decode cX9_help 31 = .ok (.istore 5, 2) := by decide +kernel
theorem dX9_help_33 : decode cX9_help 33 = .ok (.iconst 0, 1) := by decide +kernel
theorem dX9_help_34 : decode cX9_help 34 = .ok (.istore 6, 2) := by decide +kernel
theorem dX9_help_36 : decode cX9_help 36 = .ok (.iload 6, 2) := by decide +kernel
theorem dX9_help_38 : decode cX9_help 38 = .ok (.aload_n 0, 1) := by decide +kernel
theorem dX9_help_39 : decode cX9_help 39 = .ok (.getfield 25, 3) := by decide +kernel
theorem dX9_help_42 : decode cX9_help 42 = .ok (.iconst 2, 1) := by decide +kernel
theorem dX9_help_43 : decode cX9_help 43 = .ok (.iaload, 1) := by decide +kernel
theorem dX9_help_44 : decode cX9_help 44 = .ok (.if_icmp .ge 121, 3) := by decide +kernel
theorem dX9_help_47 : decode cX9_help 47 = .ok (.iload 6, 2) := by decide +kernel
theorem dX9_help_49 : decode cX9_help 49 = .ok (.iconst 1, 1) := by decide +kernel
theorem dX9_help_50 : decode cX9_help 50 = .ok (.iadd, 1) := by decide +kernel
theorem dX9_help_51 : decode cX9_help 51 = .ok (.istore 7, 2) := by decide +kernel
theorem dX9_help_53 : decode cX9_help 53 = .ok (.iload 7, 2) := by decide +kernel
theorem dX9_help_55 : decode cX9_help 55 = .ok (.aload_n 0, 1) := by decide +kernel
theorem dX9_help_56 : decode cX9_help 56 = .ok (.getfield 25, 3) := by decide +kernel
theorem dX9_help_59 : decode cX9_help 59 = .ok (.iconst 2, 1) := by decide +kernel
theorem dX9_help_60 : decode cX9_help 60 = .ok (.iaload, 1) := by decide +kernel
theorem dX9_help_61 : decode cX9_help 61 = .ok (.if_icmp .ge 98, 3) := by decide +kernel
theorem dX9_help_64 : decode cX9_help 64 = .ok (.iload_n 3, 1) := by decide +kernel
theorem dX9_help_65 : decode cX9_help 65 = .ok (.iload 6, 2) := by decide +kernel
theorem dX9_help_67 : decode cX9_help 67 = .ok (.invokestatic 156, 3) := by decide +kernel
theorem dX9_help_70 : decode cX9_help 70 = .ok (.ifCond .eq 40, 3) := by decide +kernel
theorem dX9_help_73 : decode cX9_help 73 = .ok (.iload_n 3, 1) := by decide +kernel
theorem dX9_help_74 : decode cX9_help 74 = .ok (.iload 7, 2) := by decide +kernel
theorem dX9_help_76 : decode cX9_help 76 = .ok (.invokestatic 156, 3) := by decide +kernel
theorem dX9_help_79 : decode cX9_help 79 = .ok (.ifCond .eq 31, 3) := by decide +kernel
theorem dX9_help_82 : decode cX9_help 82 = .ok (.aload_n 0, 1) := by decide +kernel
theorem dX9_help_83 : decode cX9_help 83 = .ok (.iload_n 1, 1) := by decide +kernel
theorem dX9_help_84 : decode cX9_help 84 = .ok (.iload 6, 2) := by decide +kernel
theorem dX9_help_86 : decode cX9_help 86 = .ok (.iload 7, 2) := by decide +kernel
theorem dX9_help_88 : decode cX9_help 88 = .ok (.invokevirtual 212, 3) := by decide +kernel
theorem dX9_help_91 : decode cX9_help 91 = .ok (.ifCond .ne 15, 3) := by decide +kernel
theorem dX9_help_94 : decode cX9_help 94 = .ok (.aload_n 0, 1) := by decide +kernel
theorem dX9_help_95 : decode cX9_help 95 = .ok (.iload_n 1, 1) := by decide +kernel
theorem dX9_help_96 : decode cX9_help 96 = .ok (.iload 7, 2) := by decide +kernel
theorem dX9_help_98 : decode cX9_help 98 = .ok (.iload 6, 2) := by decide +kernel
theorem dX9_help_100 : decode cX9_help 100 = .ok (.invokevirtual 212, 3) := by decide +kernel
theorem dX9_help_103 : decode cX9_help 103 = .ok (.ifCond .eq 7, 3) := by decide +kernel
theorem dX9_help_106 : decode cX9_help 106 = .ok (.iconst 1, 1) := by decide +kernel
theorem dX9_help_107 : decode cX9_help 107 = .ok (.goto 4, 3) := by decide +kernel
theorem dX9_help_110 : decode cX9_help 110 = .ok (.iconst 0, 1) := by decide +kernel
theorem dX9_help_111 : decode cX9_help 111 = .ok (.istore 8, 2) := by decide +kernel
theorem dX9_help_113 : decode cX9_help 113 = .ok (.iload 8, 2) := by decide +kernel
theorem dX9_help_115 : decode cX9_help 115 = .ok (.ifCond .eq 19, 3) := by decide +kernel
theorem dX9_help_118 : decode cX9_help 118 = .ok (.iload 4, 2) := by decide +kernel
theorem dX9_help_120 : decode cX9_help 120 = .ok (.ifCond .ne 14, 3) := by decide +kernel
theorem dX9_help_123 : decode cX9_help 123 = .ok (.bipush 10, 2) := by decide +kernel
theorem dX9_help_125 : decode cX9_help 125 = .ok (.iload 6, 2) := by decide +kernel
theorem dX9_help_127 : decode cX9_help 127 = .ok (.imul, 1) := by decide +kernel
theorem dX9_help_128 : decode cX9_help 128 = .ok (.iload 7, 2) := by decide +kernel
theorem dX9_help_130 : decode cX9_help 130 = .ok (.iadd, 1) := by decide +kernel
theorem dX9_help_131 : decode cX9_help 131 = .ok (.goto 5, 3) := by decide +kernel
theorem dX9_help_134 : decode cX9_help 134 = .ok (.iload 5, 2) := by decide +kernel
theorem dX9_help_136 : decode cX9_help 136 = .ok (.istore 5, 2) := by decide +kernel
theorem dX9_help_138 : decode cX9_help 138 = .ok (.iload 4, 2) := by decide +kernel
theorem dX9_help_140 : decode cX9_help 140 = .ok (.iload 8, 2) := by decide +kernel
theorem dX9_help_142 : decode cX9_help 142 = .ok (.ifCond .eq 7, 3) := by decide +kernel
theorem dX9_help_145 : decode cX9_help 145 = .ok (.iconst 1, 1) := by decide +kernel
theorem dX9_help_146 : decode cX9_help 146 = .ok (.goto 4, 3) := by decide +kernel
theorem dX9_help_149 : decode cX9_help 149 = .ok (.iconst 0, 1) := by decide +kernel
theorem dX9_help_150 : decode cX9_help 150 = .ok (.iadd, 1) := by decide +kernel
theorem dX9_help_151 : decode cX9_help 151 = .ok (.istore 4, 2) := by decide +kernel
theorem dX9_help_153 : decode cX9_help 153 = .ok (.iinc 7 1, 3) := by decide +kernel
theorem dX9_help_156 : decode cX9_help 156 = .ok (.goto (-103), 3) := by decide +kernel
theorem dX9_help_159 : decode cX9_help 159 = .ok (.iinc 6 1, 3) := by decide +kernel
theorem dX9_help_162 : decode cX9_help 162 = .ok (.goto (-126), 3) := by decide +kernel
theorem dX9_help_165 : decode cX9_help 165 = .ok (.iload_n 2, 1) := by decide +kernel
theorem dX9_help_166 : decode cX9_help 166 = .ok (.ifCond .ne 8, 3) := by decide +kernel
theorem dX9_help_169 : decode cX9_help 169 = .ok (.iload 4, 2) := by decide +kernel
theorem dX9_help_171 : decode cX9_help 171 = .ok (.goto 5, 3) := by decide +kernel
theorem dX9_help_174 : decode cX9_help 174 = .ok (.iload 5, 2) := by decide +kernel
theorem dX9_help_176 : decode cX9_help 176 = .ok (.ireturn, 1) := by decide +kernel
theorem dX9_suppers_0 : decode cX9_suppers 0 = .ok (.aload_n 0, 1) := by decide +kernel
theorem dX9_suppers_1 : decode cX9_suppers 1 = .ok (.iload_n 1, 1) := by decide +kernel
theorem dX9_suppers_2 : decode cX9_suppers 2 = .ok (.invokevirtual 163, 3) := by decide +kernel
theorem dX9_suppers_5 : decode cX9_suppers 5 = .ok (.ifCond .eq 11, 3) := by decide +kernel
theorem dX9_suppers_8 : decode cX9_suppers 8 = .ok (.aload_n 0, 1) := by decide +kernel
theorem dX9_suppers_9 : decode cX9_suppers 9 = .ok (.iload_n 2, 1) := by decide +kernel
theorem dX9_suppers_10 : decode cX9_suppers 10 = .ok (.invokevirtual 166, 3) := by decide +kernel
theorem dX9_suppers_13 : decode cX9_suppers 13 = .ok (.ifCond .ne 6, 3) := by decide +kernel
theorem dX9_suppers_16 : decode cX9_suppers 16 = .ok (.ldc 67, 2) := by decide +kernel
theorem dX9_suppers_18 : decode cX9_suppers 18 = .ok (.ireturn, 1) := by decide +kernel
theorem dX9_suppers_19 : decode cX9_suppers 19 = .ok (.aload_n 0, 1) := by decide +kernel
theorem dX9_suppers_20 : decode cX9_suppers 20 = .ok (.iload_n 1, 1) := by decide +kernel
theorem dX9_suppers_21 : decode cX9_suppers 21 = .ok (.iload_n 2, 1) := by decide +kernel
theorem dX9_suppers_22 : decode cX9_suppers 22 = .ok (.invokevirtual 169, 3) := by decide +kernel
theorem dX9_suppers_25 : decode cX9_suppers 25 = .ok (.ifCond .eq 6, 3) := by decide +kernel
theorem dX9_suppers_28 : decode cX9_suppers 28 = .ok (.ldc 172, 2) := by decide +kernel
theorem dX9_suppers_30 : decode cX9_suppers 30 = .ok (.ireturn, 1) := by decide +kernel
theorem dX9_suppers_31 : decode cX9_suppers 31 = .ok (.aload_n 0, 1) := by decide +kernel
theorem dX9_suppers_32 : decode cX9_suppers 32 = .ok (.iload_n 1, 1) := by decide +kernel
theorem dX9_suppers_33 : decode cX9_suppers 33 = .ok (.invokevirtual 176, 3) := by decide +kernel
theorem dX9_suppers_36 : decode cX9_suppers 36 = .ok (.iconst 0, 1) := by decide +kernel
theorem dX9_suppers_37 : decode cX9_suppers 37 = .ok (.istore_n 3, 1) := by decide +kernel
theorem dX9_suppers_38 : decode cX9_suppers 38 = .ok (.iload_n 3, 1) := by decide +kernel
theorem dX9_suppers_39 : decode cX9_suppers 39 = .ok (.bipush 11, 2) := by decide +kernel
theorem dX9_suppers_41 : decode cX9_suppers 41 = .ok (.if_icmp .ge 43, 3) := by decide +kernel
theorem dX9_suppers_44 : decode cX9_suppers 44 = .ok (.aload_n 0, 1) := by decide +kernel
theorem dX9_suppers_45 : decode cX9_suppers 45 = .ok (.iload_n 2, 1) := by decide +kernel
theorem dX9_suppers_46 : decode cX9_suppers 46 = .ok (.invokevirtual 180, 3) := by decide +kernel
theorem dX9_suppers_49 : decode cX9_suppers 49 = .ok (.ifCond .eq 5, 3) := by decide +kernel
theorem dX9_suppers_52 : decode cX9_suppers 52 = .ok (.iload_n 3, 1) := by decide +kernel
theorem dX9_suppers_53 : decode cX9_suppers 53 = .ok (.ireturn, 1) := by decide +kernel
theorem dX9_suppers_54 : decode cX9_suppers 54 = .ok (.aload_n 0, 1) := by decide +kernel
theorem dX9_suppers_55 : decode cX9_suppers 55 = .ok (.aload_n 0, 1) := by decide +kernel
theorem dX9_suppers_56 : decode cX9_suppers 56 = .ok (.getfield 144, 3) := by decide +kernel
theorem dX9_suppers_59 : decode cX9_suppers 59 = .ok (.bipush 18, 2) := by decide +kernel
theorem dX9_suppers_61 : decode cX9_suppers 61 = .ok (.if_icmp .ge 12, 3) := by decide +kernel
theorem dX9_suppers_64 : decode cX9_suppers 64 = .ok (.aload_n 0, 1) := by decide +kernel
theorem dX9_suppers_65 : decode cX9_suppers 65 = .ok (.getfield 144, 3) := by decide +kernel
theorem dX9_suppers_68 : decode cX9_suppers 68 = .ok (.iconst 2, 1) := by decide +kernel
theorem dX9_suppers_69 : decode cX9_suppers 69 = .ok (.iadd, 1) := by decide +kernel
theorem dX9_suppers_70 : decode cX9_suppers 70 = .ok (.goto 5, 3) := by decide +kernel
theorem dX9_suppers_73 : decode cX9_suppers 73 = .ok (.bipush 20, 2) := by decide +kernel
theorem dX9_suppers_75 : decode cX9_suppers 75 = .ok (.putfield 144, 3) := by decide +kernel
theorem dX9_suppers_78 : decode cX9_suppers 78 = .ok (.iinc 3 1, 3) := by decide +kernel
theorem dX9_suppers_81 : decode cX9_suppers 81 = .ok (.goto (-43), 3) := by decide +kernel
theorem dX9_suppers_84 : decode cX9_suppers 84 = .ok (.ldc 53, 2) := by decide +kernel
theorem dX9_suppers_86 : decode cX9_suppers 86 = .ok (.ireturn, 1) := by decide +kernel
theorem dX9_wrongIn_0 : decode cX9_wrongIn 0 = .ok (.aload_n 0, 1) := by decide +kernel
theorem dX9_wrongIn_1 : decode cX9_wrongIn 1 = .ok (.iload_n 1, 1) := by decide +kernel
theorem dX9_wrongIn_2 : decode cX9_wrongIn 2 = .ok (.invokevirtual 75, 3) := by decide +kernel
theorem dX9_wrongIn_5 : decode cX9_wrongIn 5 = .ok (.ifCond .eq 5, 3) := by decide +kernel
theorem dX9_wrongIn_8 : decode cX9_wrongIn 8 = .ok (.iconst 1, 1) := by decide +kernel
theorem dX9_wrongIn_9 : decode cX9_wrongIn 9 = .ok (.ireturn, 1) := by decide +kernel
theorem dX9_wrongIn_10 : decode cX9_wrongIn 10 = .ok (.aload_n 0, 1) := by decide +kernel
theorem dX9_wrongIn_11 : decode cX9_wrongIn 11 = .ok (.iload_n 1, 1) := by decide +kernel
theorem dX9_wrongIn_12 : decode cX9_wrongIn 12 = .ok (.iload_n 2, 1) := by decide +kernel
theorem dX9_wrongIn_13 : decode cX9_wrongIn 13 = .ok (.iconst 2, 1) := by decide +kernel
theorem dX9_wrongIn_14 : decode cX9_wrongIn 14 = .ok (.iload_n 3, 1) := by decide +kernel
theorem dX9_wrongIn_15 : decode cX9_wrongIn 15 = .ok (.imul, 1) := by decide +kernel
theorem dX9_wrongIn_16 : decode cX9_wrongIn 16 = .ok (.invokevirtual 82, 3) := by decide +kernel
theorem dX9_wrongIn_19 : decode cX9_wrongIn 19 = .ok (.ifCond .ne 5, 3) := by decide +kernel
theorem dX9_wrongIn_22 : decode cX9_wrongIn 22 = .ok (.iconst 2, 1) := by decide +kernel
theorem dX9_wrongIn_23 : decode cX9_wrongIn 23 = .ok (.ireturn, 1) := by decide +kernel
theorem dX9_wrongIn_24 : decode cX9_wrongIn 24 = .ok (.iconst 1, 1) := by decide +kernel
theorem dX9_wrongIn_25 : decode cX9_wrongIn 25 = .ok (.istore 4, 2) := by decide +kernel
theorem dX9_wrongIn_27 : decode cX9_wrongIn 27 = .ok (.iconst 0, 1) := by decide +kernel
theorem dX9_wrongIn_28 : decode cX9_wrongIn 28 = .ok (.istore 5, 2) := by decide +kernel
theorem dX9_wrongIn_30 : decode cX9_wrongIn 30 = .ok (.iload 5, 2) := by decide +kernel
theorem dX9_wrongIn_32 : decode cX9_wrongIn 32 = .ok (.iload_n 3, 1) := by decide +kernel
theorem dX9_wrongIn_33 : decode cX9_wrongIn 33 = .ok (.if_icmp .ge 44, 3) := by decide +kernel
theorem dX9_wrongIn_36 : decode cX9_wrongIn 36 = .ok (.iload 4, 2) := by decide +kernel
theorem dX9_wrongIn_38 : decode cX9_wrongIn 38 = .ok (.ifCond .eq 30, 3) := by decide +kernel
theorem dX9_wrongIn_41 : decode cX9_wrongIn 41 = .ok (.aload_n 0, 1) := by decide +kernel
theorem dX9_wrongIn_42 : decode cX9_wrongIn 42 = .ok (.aload_n 0, 1) := by decide +kernel
theorem dX9_wrongIn_43 : decode cX9_wrongIn 43 = .ok (.getfield 16, 3) := by decide +kernel
theorem dX9_wrongIn_46 : decode cX9_wrongIn 46 = .ok (.bipush 40, 2) := by decide +kernel
theorem dX9_wrongIn_48 : decode cX9_wrongIn 48 = .ok (.iload_n 1, 1) := by decide +kernel
theorem dX9_wrongIn_49 : decode cX9_wrongIn 49 = .ok (.imul, 1) := by decide +kernel
theorem dX9_wrongIn_50 : decode cX9_wrongIn 50 = .ok (.iload_n 2, 1) := by decide +kernel
theorem dX9_wrongIn_51 : decode cX9_wrongIn 51 = .ok (.iadd, 1) := by decide +kernel
theorem dX9_wrongIn_52 : decode cX9_wrongIn 52 = .ok (.iconst 2, 1) := by decide +kernel
theorem dX9_wrongIn_53 : decode cX9_wrongIn 53 = .ok (.iload 5, 2) := by decide +kernel
theorem dX9_wrongIn_55 : decode cX9_wrongIn 55 = .ok (.imul, 1) := by decide +kernel
theorem dX9_wrongIn_56 : decode cX9_wrongIn 56 = .ok (.iadd, 1) := by decide +kernel
theorem dX9_wrongIn_57 : decode cX9_wrongIn 57 = .ok (.iaload, 1) := by decide +kernel
theorem dX9_wrongIn_58 : decode cX9_wrongIn 58 = .ok (.invokevirtual 166, 3) := by decide +kernel
theorem dX9_wrongIn_61 : decode cX9_wrongIn 61 = .ok (.ifCond .eq 7, 3) := by decide +kernel
theorem dX9_wrongIn_64 : decode cX9_wrongIn 64 = .ok (.iconst 1, 1) := by decide +kernel
theorem dX9_wrongIn_65 : decode cX9_wrongIn 65 = .ok (.goto 4, 3) := by decide +kernel
theorem dX9_wrongIn_68 : decode cX9_wrongIn 68 = .ok (.iconst 0, 1) := by decide +kernel
theorem dX9_wrongIn_69 : decode cX9_wrongIn 69 = .ok (.istore 4, 2) := by decide +kernel
theorem dX9_wrongIn_71 : decode cX9_wrongIn 71 = .ok (.iinc 5 1, 3) := by decide +kernel
theorem dX9_wrongIn_74 : decode cX9_wrongIn 74 = .ok (.goto (-44), 3) := by decide +kernel
theorem dX9_wrongIn_77 : decode cX9_wrongIn 77 = .ok (.iload 4, 2) := by decide +kernel
theorem dX9_wrongIn_79 : decode cX9_wrongIn 79 = .ok (.ifCond .eq 7, 3) := by decide +kernel
theorem dX9_wrongIn_82 : decode cX9_wrongIn 82 = .ok (.iconst 0, 1) := by decide +kernel
theorem dX9_wrongIn_83 : decode cX9_wrongIn 83 = .ok (.goto 4, 3) := by decide +kernel
theorem dX9_wrongIn_86 : decode cX9_wrongIn 86 = .ok (.iconst (-1), 1) := by decide +kernel
theorem dX9_wrongIn_87 : decode cX9_wrongIn 87 = .ok (.ireturn, 1) := by decide +kernel
theorem dX9_goesSo_0 : decode cX9_goesSo 0 = .ok (.iconst 1, 1) := by decide +kernel
theorem dX9_goesSo_1 : decode cX9_goesSo 1 = .ok (.istore_n 3, 1) := by decide +kernel
theorem dX9_goesSo_2 : decode cX9_goesSo 2 = .ok (.iconst 0, 1) := by decide +kernel
theorem dX9_goesSo_3 : decode cX9_goesSo 3 = .ok (.istore 4, 2) := by decide +kernel
theorem dX9_goesSo_5 : decode cX9_goesSo 5 = .ok (.iload 4, 2) := by decide +kernel
theorem dX9_goesSo_7 : decode cX9_goesSo 7 = .ok (.iload_n 2, 1) := by decide +kernel
theorem dX9_goesSo_8 : decode cX9_goesSo 8 = .ok (.if_icmp .ge 74, 3) := by decide +kernel
theorem dX9_goesSo_11 : decode cX9_goesSo 11 = .ok (.aload_n 0, 1) := by decide +kernel
theorem dX9_goesSo_12 : decode cX9_goesSo 12 = .ok (.getfield 16, 3) := by decide +kernel
theorem dX9_goesSo_15 : decode cX9_goesSo 15 = .ok (.iload_n 1, 1) := by decide +kernel
theorem dX9_goesSo_16 : decode cX9_goesSo 16 = .ok (.iconst 2, 1) := by decide +kernel
theorem dX9_goesSo_17 : decode cX9_goesSo 17 = .ok (.iload 4, 2) := by decide +kernel
theorem dX9_goesSo_19 : decode cX9_goesSo 19 = .ok (.imul, 1) := by decide +kernel
theorem dX9_goesSo_20 : decode cX9_goesSo 20 = .ok (.iadd, 1) := by decide +kernel
theorem dX9_goesSo_21 : decode cX9_goesSo 21 = .ok (.iaload, 1) := by decide +kernel
theorem dX9_goesSo_22 : decode cX9_goesSo 22 = .ok (.istore 5, 2) := by decide +kernel
theorem dX9_goesSo_24 : decode cX9_goesSo 24 = .ok (.aload_n 0, 1) := by decide +kernel
theorem dX9_goesSo_25 : decode cX9_goesSo 25 = .ok (.iload 5, 2) := by decide +kernel
theorem dX9_goesSo_27 : decode cX9_goesSo 27 = .ok (.invokevirtual 180, 3) := by decide +kernel
theorem dX9_goesSo_30 : decode cX9_goesSo 30 = .ok (.istore 6, 2) := by decide +kernel
theorem dX9_goesSo_32 : decode cX9_goesSo 32 = .ok (.iload_n 3, 1) := by decide +kernel
theorem dX9_goesSo_33 : decode cX9_goesSo 33 = .ok (.ifCond .eq 33, 3) := by decide +kernel
theorem dX9_goesSo_36 : decode cX9_goesSo 36 = .ok (.aload_n 0, 1) := by decide +kernel
theorem dX9_goesSo_37 : decode cX9_goesSo 37 = .ok (.getfield 16, 3) := by decide +kernel
theorem dX9_goesSo_40 : decode cX9_goesSo 40 = .ok (.iload_n 1, 1) := by decide +kernel
theorem dX9_goesSo_41 : decode cX9_goesSo 41 = .ok (.iconst 2, 1) := by decide +kernel
theorem dX9_goesSo_42 : decode cX9_goesSo 42 = .ok (.iload 4, 2) := by decide +kernel
theorem dX9_goesSo_44 : decode cX9_goesSo 44 = .ok (.imul, 1) := by decide +kernel
theorem dX9_goesSo_45 : decode cX9_goesSo 45 = .ok (.iadd, 1) := by decide +kernel
theorem dX9_goesSo_46 : decode cX9_goesSo 46 = .ok (.iconst 1, 1) := by decide +kernel
theorem dX9_goesSo_47 : decode cX9_goesSo 47 = .ok (.iadd, 1) := by decide +kernel
theorem dX9_goesSo_48 : decode cX9_goesSo 48 = .ok (.iaload, 1) := by decide +kernel
theorem dX9_goesSo_49 : decode cX9_goesSo 49 = .ok (.iload 6, 2) := by decide +kernel
theorem dX9_goesSo_51 : decode cX9_goesSo 51 = .ok (.ifCond .eq 7, 3) := by decide +kernel
theorem dX9_goesSo_54 : decode cX9_goesSo 54 = .ok (.iconst 1, 1) := by decide +kernel
theorem dX9_goesSo_55 : decode cX9_goesSo 55 = .ok (.goto 4, 3) := by decide +kernel
theorem dX9_goesSo_58 : decode cX9_goesSo 58 = .ok (.iconst 0, 1) := by decide +kernel
theorem dX9_goesSo_59 : decode cX9_goesSo 59 = .ok (.if_icmp .ne 7, 3) := by decide +kernel
theorem dX9_goesSo_62 : decode cX9_goesSo 62 = .ok (.iconst 1, 1) := by decide +kernel
theorem dX9_goesSo_63 : decode cX9_goesSo 63 = .ok (.goto 4, 3) := by decide +kernel
theorem dX9_goesSo_66 : decode cX9_goesSo 66 = .ok (.iconst 0, 1) := by decide +kernel
theorem dX9_goesSo_67 : decode cX9_goesSo 67 = .ok (.istore_n 3, 1) := by decide +kernel
theorem dX9_goesSo_68 : decode cX9_goesSo 68 = .ok (.aload_n 0, 1) := by decide +kernel
theorem dX9_goesSo_69 : decode cX9_goesSo 69 = .ok (.iload 5, 2) := by decide +kernel
theorem dX9_goesSo_71 : decode cX9_goesSo 71 = .ok (.iload 6, 2) := by decide +kernel
theorem dX9_goesSo_73 : decode cX9_goesSo 73 = .ok (.invokevirtual 183, 3) := by decide +kernel
theorem dX9_goesSo_76 : decode cX9_goesSo 76 = .ok (.iinc 4 1, 3) := by decide +kernel
theorem dX9_goesSo_79 : decode cX9_goesSo 79 = .ok (.goto (-74), 3) := by decide +kernel
theorem dX9_goesSo_82 : decode cX9_goesSo 82 = .ok (.iload_n 3, 1) := by decide +kernel
theorem dX9_goesSo_83 : decode cX9_goesSo 83 = .ok (.ireturn, 1) := by decide +kernel
theorem dX9_doubted_0 : decode cX9_doubted 0 = .ok (.aload_n 0, 1) := by decide +kernel
theorem dX9_doubted_1 : decode cX9_doubted 1 = .ok (.iload_n 1, 1) := by decide +kernel
theorem dX9_doubted_2 : decode cX9_doubted 2 = .ok (.invokevirtual 163, 3) := by decide +kernel
theorem dX9_doubted_5 : decode cX9_doubted 5 = .ok (.ifCond .eq 31, 3) := by decide +kernel
theorem dX9_doubted_8 : decode cX9_doubted 8 = .ok (.iload_n 2, 1) := by decide +kernel
theorem dX9_doubted_9 : decode cX9_doubted 9 = .ok (.invokestatic 63, 3) := by decide +kernel
theorem dX9_doubted_12 : decode cX9_doubted 12 = .ok (.ifCond .eq 24, 3) := by decide +kernel
theorem dX9_doubted_15 : decode cX9_doubted 15 = .ok (.iload 4, 2) := by decide +kernel
theorem dX9_doubted_17 : decode cX9_doubted 17 = .ok (.iconst 0, 1) := by decide +kernel
theorem dX9_doubted_18 : decode cX9_doubted 18 = .ok (.bipush 6, 2) := by decide +kernel
theorem dX9_doubted_20 : decode cX9_doubted 20 = .ok (.invokestatic 59, 3) := by decide +kernel
theorem dX9_doubted_23 : decode cX9_doubted 23 = .ok (.ifCond .eq 13, 3) := by decide +kernel
theorem dX9_doubted_26 : decode cX9_doubted 26 = .ok (.iload 5, 2) := by decide +kernel
theorem dX9_doubted_28 : decode cX9_doubted 28 = .ok (.iconst 0, 1) := by decide +kernel
theorem dX9_doubted_29 : decode cX9_doubted 29 = .ok (.iconst 1, 1) := by decide +kernel
theorem dX9_doubted_30 : decode cX9_doubted 30 = .ok (.invokestatic 59, 3) := by decide +kernel
theorem dX9_doubted_33 : decode cX9_doubted 33 = .ok (.ifCond .ne 6, 3) := by decide +kernel
theorem dX9_doubted_36 : decode cX9_doubted 36 = .ok (.ldc 67, 2) := by decide +kernel
theorem dX9_doubted_38 : decode cX9_doubted 38 = .ok (.ireturn, 1) := by decide +kernel
theorem dX9_doubted_39 : decode cX9_doubted 39 = .ok (.aload_n 0, 1) := by decide +kernel
theorem dX9_doubted_40 : decode cX9_doubted 40 = .ok (.iload_n 2, 1) := by decide +kernel
theorem dX9_doubted_41 : decode cX9_doubted 41 = .ok (.iload_n 3, 1) := by decide +kernel
theorem dX9_doubted_42 : decode cX9_doubted 42 = .ok (.iload 4, 2) := by decide +kernel
theorem dX9_doubted_44 : decode cX9_doubted 44 = .ok (.invokevirtual 215, 3) := by decide +kernel
theorem dX9_doubted_47 : decode cX9_doubted 47 = .ok (.istore 6, 2) := by decide +kernel
theorem dX9_doubted_49 : decode cX9_doubted 49 = .ok (.iload 6, 2) := by decide +kernel
theorem dX9_doubted_51 : decode cX9_doubted 51 = .ok (.ifCond .eq 20, 3) := by decide +kernel
theorem dX9_doubted_54 : decode cX9_doubted 54 = .ok (.iload 6, 2) := by decide +kernel
theorem dX9_doubted_56 : decode cX9_doubted 56 = .ok (.ifCond .ge 8, 3) := by decide +kernel
theorem dX9_doubted_59 : decode cX9_doubted 59 = .ok (.ldc 67, 2) := by decide +kernel
theorem dX9_doubted_61 : decode cX9_doubted 61 = .ok (.goto 9, 3) := by decide +kernel
theorem dX9_doubted_64 : decode cX9_doubted 64 = .ok (.aload_n 0, 1) := by decide +kernel
theorem dX9_doubted_65 : decode cX9_doubted 65 = .ok (.iload 6, 2) := by decide +kernel
theorem dX9_doubted_67 : decode cX9_doubted 67 = .ok (.invokevirtual 68, 3) := by decide +kernel
theorem dX9_doubted_70 : decode cX9_doubted 70 = .ok (.ireturn, 1) := by decide +kernel
theorem dX9_doubted_71 : decode cX9_doubted 71 = .ok (.iconst 0, 1) := by decide +kernel
theorem dX9_doubted_72 : decode cX9_doubted 72 = .ok (.istore 7, 2) := by decide +kernel
theorem dX9_doubted_74 : decode cX9_doubted 74 = .ok (.ldc 53, 2) := by decide +kernel
theorem dX9_doubted_76 : decode cX9_doubted 76 = .ok (.istore 8, 2) := by decide +kernel
theorem dX9_doubted_78 : decode cX9_doubted 78 = .ok (.iconst 0, 1) := by decide +kernel
theorem dX9_doubted_79 : decode cX9_doubted 79 = .ok (.istore 9, 2) := by decide +kernel
theorem dX9_doubted_81 : decode cX9_doubted 81 = .ok (.iload 9, 2) := by decide +kernel
theorem dX9_doubted_83 : decode cX9_doubted 83 = .ok (.bipush 16, 2) := by decide +kernel
theorem dX9_doubted_85 : decode cX9_doubted 85 = .ok (.if_icmp .ge 68, 3) := by decide +kernel
theorem dX9_doubted_88 : decode cX9_doubted 88 = .ok (.aload_n 0, 1) := by decide +kernel
theorem dX9_doubted_89 : decode cX9_doubted 89 = .ok (.iload_n 1, 1) := by decide +kernel
theorem dX9_doubted_90 : decode cX9_doubted 90 = .ok (.invokevirtual 176, 3) := by decide +kernel
theorem dX9_doubted_93 : decode cX9_doubted 93 = .ok (.aload_n 0, 1) := by decide +kernel
theorem dX9_doubted_94 : decode cX9_doubted 94 = .ok (.iload 9, 2) := by decide +kernel
theorem dX9_doubted_96 : decode cX9_doubted 96 = .ok (.putfield 147, 3) := by decide +kernel
theorem dX9_doubted_99 : decode cX9_doubted 99 = .ok (.aload_n 0, 1) := by decide +kernel
theorem dX9_doubted_100 : decode cX9_doubted 100 = .ok (.bipush 40, 2) := by decide +kernel
theorem dX9_doubted_102 : decode cX9_doubted 102 = .ok (.iload_n 2, 1) := by decide +kernel
theorem dX9_doubted_103 : decode cX9_doubted 103 = .ok (.imul, 1) := by decide +kernel
theorem dX9_doubted_104 : decode cX9_doubted 104 = .ok (.iload_n 3, 1) := by decide +kernel
theorem dX9_doubted_105 : decode cX9_doubted 105 = .ok (.iadd, 1) := by decide +kernel
theorem dX9_doubted_106 : decode cX9_doubted 106 = .ok (.iload 4, 2) := by decide +kernel
theorem dX9_doubted_108 : decode cX9_doubted 108 = .ok (.invokevirtual 219, 3) := by decide +kernel
theorem dX9_doubted_111 : decode cX9_doubted 111 = .ok (.istore 10, 2) := by decide +kernel
theorem dX9_doubted_113 : decode cX9_doubted 113 = .ok (.iload 10, 2) := by decide +kernel
theorem dX9_doubted_115 : decode cX9_doubted 115 = .ok (.ifCond .eq 13, 3) := by decide +kernel
theorem dX9_doubted_118 : decode cX9_doubted 118 = .ok (.iload 7, 2) := by decide +kernel
theorem dX9_doubted_120 : decode cX9_doubted 120 = .ok (.ifCond .ne 8, 3) := by decide +kernel
theorem dX9_doubted_123 : decode cX9_doubted 123 = .ok (.iload 9, 2) := by decide +kernel
theorem dX9_doubted_125 : decode cX9_doubted 125 = .ok (.goto 5, 3) := by decide +kernel
theorem dX9_doubted_128 : decode cX9_doubted 128 = .ok (.iload 8, 2) := by decide +kernel
theorem dX9_doubted_130 : decode cX9_doubted 130 = .ok (.istore 8, 2) := by decide +kernel
theorem dX9_doubted_132 : decode cX9_doubted 132 = .ok (.iload 7, 2) := by decide +kernel
theorem dX9_doubted_134 : decode cX9_doubted 134 = .ok (.iload 10, 2) := by decide +kernel
theorem dX9_doubted_136 : decode cX9_doubted 136 = .ok (.ifCond .eq 7, 3) := by decide +kernel
theorem dX9_doubted_139 : decode cX9_doubted 139 = .ok (.iconst 1, 1) := by decide +kernel
theorem dX9_doubted_140 : decode cX9_doubted 140 = .ok (.goto 4, 3) := by decide +kernel
theorem dX9_doubted_143 : decode cX9_doubted 143 = .ok (.iconst 0, 1) := by decide +kernel
theorem dX9_doubted_144 : decode cX9_doubted 144 = .ok (.iadd, 1) := by decide +kernel
theorem dX9_doubted_145 : decode cX9_doubted 145 = .ok (.istore 7, 2) := by decide +kernel
theorem dX9_doubted_147 : decode cX9_doubted 147 = .ok (.iinc 9 1, 3) := by decide +kernel
theorem dX9_doubted_150 : decode cX9_doubted 150 = .ok (.goto (-69), 3) := by decide +kernel
theorem dX9_doubted_153 : decode cX9_doubted 153 = .ok (.aload_n 0, 1) := by decide +kernel
theorem dX9_doubted_154 : decode cX9_doubted 154 = .ok (.iload 5, 2) := by decide +kernel
theorem dX9_doubted_156 : decode cX9_doubted 156 = .ok (.ifCond .ne 8, 3) := by decide +kernel
theorem dX9_doubted_159 : decode cX9_doubted 159 = .ok (.iload 7, 2) := by decide +kernel
theorem dX9_doubted_161 : decode cX9_doubted 161 = .ok (.goto 5, 3) := by decide +kernel
theorem dX9_doubted_164 : decode cX9_doubted 164 = .ok (.iload 8, 2) := by decide +kernel
theorem dX9_doubted_166 : decode cX9_doubted 166 = .ok (.invokevirtual 72, 3) := by decide +kernel
theorem dX9_doubted_169 : decode cX9_doubted 169 = .ok (.ireturn, 1) := by decide +kernel
theorem dX9_trusted_0 : decode cX9_trusted 0 = .ok (.aload_n 0, 1) := by decide +kernel
theorem dX9_trusted_1 : decode cX9_trusted 1 = .ok (.iload_n 1, 1) := by decide +kernel
theorem dX9_trusted_2 : decode cX9_trusted 2 = .ok (.invokevirtual 163, 3) := by decide +kernel
theorem dX9_trusted_5 : decode cX9_trusted 5 = .ok (.ifCond .eq 21, 3) := by decide +kernel
theorem dX9_trusted_8 : decode cX9_trusted 8 = .ok (.iload_n 2, 1) := by decide +kernel
theorem dX9_trusted_9 : decode cX9_trusted 9 = .ok (.invokestatic 63, 3) := by decide +kernel
theorem dX9_trusted_12 : decode cX9_trusted 12 = .ok (.ifCond .eq 14, 3) := by decide +kernel
theorem dX9_trusted_15 : decode cX9_trusted 15 = .ok (.iload 4, 2) := by decide +kernel
theorem dX9_trusted_17 : decode cX9_trusted 17 = .ok (.iconst 0, 1) := by decide +kernel
theorem dX9_trusted_18 : decode cX9_trusted 18 = .ok (.bipush 6, 2) := by decide +kernel
theorem dX9_trusted_20 : decode cX9_trusted 20 = .ok (.invokestatic 59, 3) := by decide +kernel
theorem dX9_trusted_23 : decode cX9_trusted 23 = .ok (.ifCond .ne 6, 3) := by decide +kernel
theorem dX9_trusted_26 : decode cX9_trusted 26 = .ok (.ldc 67, 2) := by decide +kernel
theorem dX9_trusted_28 : decode cX9_trusted 28 = .ok (.ireturn, 1) := by decide +kernel
theorem dX9_trusted_29 : decode cX9_trusted 29 = .ok (.aload_n 0, 1) := by decide +kernel
theorem dX9_trusted_30 : decode cX9_trusted 30 = .ok (.iload_n 2, 1) := by decide +kernel
theorem dX9_trusted_31 : decode cX9_trusted 31 = .ok (.iload_n 3, 1) := by decide +kernel
theorem dX9_trusted_32 : decode cX9_trusted 32 = .ok (.iload 4, 2) := by decide +kernel
theorem dX9_trusted_34 : decode cX9_trusted 34 = .ok (.invokevirtual 215, 3) := by decide +kernel
theorem dX9_trusted_37 : decode cX9_trusted 37 = .ok (.istore 5, 2) := by decide +kernel
theorem dX9_trusted_39 : decode cX9_trusted 39 = .ok (.iload 5, 2) := by decide +kernel
theorem dX9_trusted_41 : decode cX9_trusted 41 = .ok (.ifCond .eq 20, 3) := by decide +kernel
theorem dX9_trusted_44 : decode cX9_trusted 44 = .ok (.iload 5, 2) := by decide +kernel
theorem dX9_trusted_46 : decode cX9_trusted 46 = .ok (.ifCond .ge 8, 3) := by decide +kernel
theorem dX9_trusted_49 : decode cX9_trusted 49 = .ok (.ldc 67, 2) := by decide +kernel
theorem dX9_trusted_51 : decode cX9_trusted 51 = .ok (.goto 9, 3) := by decide +kernel
theorem dX9_trusted_54 : decode cX9_trusted 54 = .ok (.aload_n 0, 1) := by decide +kernel
theorem dX9_trusted_55 : decode cX9_trusted 55 = .ok (.iload 5, 2) := by decide +kernel
theorem dX9_trusted_57 : decode cX9_trusted 57 = .ok (.invokevirtual 68, 3) := by decide +kernel
theorem dX9_trusted_60 : decode cX9_trusted 60 = .ok (.ireturn, 1) := by decide +kernel
theorem dX9_trusted_61 : decode cX9_trusted 61 = .ok (.iconst 0, 1) := by decide +kernel
theorem dX9_trusted_62 : decode cX9_trusted 62 = .ok (.istore 6, 2) := by decide +kernel
theorem dX9_trusted_64 : decode cX9_trusted 64 = .ok (.iconst 0, 1) := by decide +kernel
theorem dX9_trusted_65 : decode cX9_trusted 65 = .ok (.istore 7, 2) := by decide +kernel
theorem dX9_trusted_67 : decode cX9_trusted 67 = .ok (.iload 7, 2) := by decide +kernel
theorem dX9_trusted_69 : decode cX9_trusted 69 = .ok (.bipush 21, 2) := by decide +kernel
theorem dX9_trusted_71 : decode cX9_trusted 71 = .ok (.if_icmp .ge 48, 3) := by decide +kernel
theorem dX9_trusted_74 : decode cX9_trusted 74 = .ok (.aload_n 0, 1) := by decide +kernel
theorem dX9_trusted_75 : decode cX9_trusted 75 = .ok (.iload_n 1, 1) := by decide +kernel
theorem dX9_trusted_76 : decode cX9_trusted 76 = .ok (.invokevirtual 176, 3) := by decide +kernel
theorem dX9_trusted_79 : decode cX9_trusted 79 = .ok (.aload_n 0, 1) := by decide +kernel
theorem dX9_trusted_80 : decode cX9_trusted 80 = .ok (.iload 7, 2) := by decide +kernel
theorem dX9_trusted_82 : decode cX9_trusted 82 = .ok (.putfield 144, 3) := by decide +kernel
theorem dX9_trusted_85 : decode cX9_trusted 85 = .ok (.iload 6, 2) := by decide +kernel
theorem dX9_trusted_87 : decode cX9_trusted 87 = .ok (.aload_n 0, 1) := by decide +kernel
theorem dX9_trusted_88 : decode cX9_trusted 88 = .ok (.bipush 40, 2) := by decide +kernel
theorem dX9_trusted_90 : decode cX9_trusted 90 = .ok (.iload_n 2, 1) := by decide +kernel
theorem dX9_trusted_91 : decode cX9_trusted 91 = .ok (.imul, 1) := by decide +kernel
theorem dX9_trusted_92 : decode cX9_trusted 92 = .ok (.iload_n 3, 1) := by decide +kernel
theorem dX9_trusted_93 : decode cX9_trusted 93 = .ok (.iadd, 1) := by decide +kernel
theorem dX9_trusted_94 : decode cX9_trusted 94 = .ok (.iload 4, 2) := by decide +kernel
theorem dX9_trusted_96 : decode cX9_trusted 96 = .ok (.invokevirtual 219, 3) := by decide +kernel
theorem dX9_trusted_99 : decode cX9_trusted 99 = .ok (.ifCond .eq 10, 3) := by decide +kernel
theorem dX9_trusted_102 : decode cX9_trusted 102 = .ok (.iconst 1, 1) := by decide +kernel
theorem dX9_trusted_103 : decode cX9_trusted 103 = .ok (.iload 7, 2) := by decide +kernel
theorem dX9_trusted_105 : decode cX9_trusted 105 = .ok (.ishl, 1) := by decide +kernel
theorem dX9_trusted_106 : decode cX9_trusted 106 = .ok (.goto 4, 3) := by decide +kernel
theorem dX9_trusted_109 : decode cX9_trusted 109 = .ok (.iconst 0, 1) := by decide +kernel
theorem dX9_trusted_110 : decode cX9_trusted 110 = .ok (.ior, 1) := by decide +kernel
theorem dX9_trusted_111 : decode cX9_trusted 111 = .ok (.istore 6, 2) := by decide +kernel
theorem dX9_trusted_113 : decode cX9_trusted 113 = .ok (.iinc 7 1, 3) := by decide +kernel
theorem dX9_trusted_116 : decode cX9_trusted 116 = .ok (.goto (-49), 3) := by decide +kernel
theorem dX9_trusted_119 : decode cX9_trusted 119 = .ok (.aload_n 0, 1) := by decide +kernel
theorem dX9_trusted_120 : decode cX9_trusted 120 = .ok (.iload 6, 2) := by decide +kernel
theorem dX9_trusted_122 : decode cX9_trusted 122 = .ok (.invokevirtual 72, 3) := by decide +kernel
theorem dX9_trusted_125 : decode cX9_trusted 125 = .ok (.ireturn, 1) := by decide +kernel
theorem dX9_who_0 : decode cX9_who 0 = .ok (.aload_n 0, 1) := by decide +kernel
theorem dX9_who_1 : decode cX9_who 1 = .ok (.invokevirtual 222, 3) := by decide +kernel
theorem dX9_who_4 : decode cX9_who 4 = .ok (.ifCond .ne 6, 3) := by decide +kernel
theorem dX9_who_7 : decode cX9_who 7 = .ok (.ldc 172, 2) := by decide +kernel
theorem dX9_who_9 : decode cX9_who 9 = .ok (.ireturn, 1) := by decide +kernel
theorem dX9_who_10 : decode cX9_who 10 = .ok (.iload_n 1, 1) := by decide +kernel
theorem dX9_who_11 : decode cX9_who 11 = .ok (.invokestatic 63, 3) := by decide +kernel
theorem dX9_who_14 : decode cX9_who 14 = .ok (.ifCond .eq 13, 3) := by decide +kernel
theorem dX9_who_17 : decode cX9_who 17 = .ok (.iload_n 3, 1) := by decide +kernel
theorem dX9_who_18 : decode cX9_who 18 = .ok (.iconst 0, 1) := by decide +kernel
theorem dX9_who_19 : decode cX9_who 19 = .ok (.bipush 6, 2) := by decide +kernel
theorem dX9_who_21 : decode cX9_who 21 = .ok (.invokestatic 59, 3) := by decide +kernel
theorem dX9_who_24 : decode cX9_who 24 = .ok (.ifCond .ne 6, 3) := by decide +kernel
theorem dX9_who_27 : decode cX9_who 27 = .ok (.ldc 67, 2) := by decide +kernel
theorem dX9_who_29 : decode cX9_who 29 = .ok (.ireturn, 1) := by decide +kernel
theorem dX9_who_30 : decode cX9_who 30 = .ok (.aload_n 0, 1) := by decide +kernel
theorem dX9_who_31 : decode cX9_who 31 = .ok (.iload_n 1, 1) := by decide +kernel
theorem dX9_who_32 : decode cX9_who 32 = .ok (.iload_n 2, 1) := by decide +kernel
theorem dX9_who_33 : decode cX9_who 33 = .ok (.iload_n 3, 1) := by decide +kernel
theorem dX9_who_34 : decode cX9_who 34 = .ok (.invokevirtual 215, 3) := by decide +kernel
theorem dX9_who_37 : decode cX9_who 37 = .ok (.istore 4, 2) := by decide +kernel
theorem dX9_who_39 : decode cX9_who 39 = .ok (.iload 4, 2) := by decide +kernel
theorem dX9_who_41 : decode cX9_who 41 = .ok (.ifCond .eq 20, 3) := by decide +kernel
theorem dX9_who_44 : decode cX9_who 44 = .ok (.iload 4, 2) := by decide +kernel
theorem dX9_who_46 : decode cX9_who 46 = .ok (.ifCond .ge 8, 3) := by decide +kernel
theorem dX9_who_49 : decode cX9_who 49 = .ok (.ldc 67, 2) := by decide +kernel
theorem dX9_who_51 : decode cX9_who 51 = .ok (.goto 9, 3) := by decide +kernel
theorem dX9_who_54 : decode cX9_who 54 = .ok (.aload_n 0, 1) := by decide +kernel
theorem dX9_who_55 : decode cX9_who 55 = .ok (.iload 4, 2) := by decide +kernel
theorem dX9_who_57 : decode cX9_who 57 = .ok (.invokevirtual 68, 3) := by decide +kernel
theorem dX9_who_60 : decode cX9_who 60 = .ok (.ireturn, 1) := by decide +kernel
theorem dX9_who_61 : decode cX9_who 61 = .ok (.iconst 0, 1) := by decide +kernel
theorem dX9_who_62 : decode cX9_who 62 = .ok (.istore 5, 2) := by decide +kernel
theorem dX9_who_64 : decode cX9_who 64 = .ok (.iconst 0, 1) := by decide +kernel
theorem dX9_who_65 : decode cX9_who 65 = .ok (.istore 6, 2) := by decide +kernel
theorem dX9_who_67 : decode cX9_who 67 = .ok (.iload 6, 2) := by decide +kernel
theorem dX9_who_69 : decode cX9_who 69 = .ok (.aload_n 0, 1) := by decide +kernel
theorem dX9_who_70 : decode cX9_who 70 = .ok (.getfield 25, 3) := by decide +kernel
theorem dX9_who_73 : decode cX9_who 73 = .ok (.iconst 3, 1) := by decide +kernel
theorem dX9_who_74 : decode cX9_who 74 = .ok (.iaload, 1) := by decide +kernel
theorem dX9_who_75 : decode cX9_who 75 = .ok (.if_icmp .ge 42, 3) := by decide +kernel
theorem dX9_who_78 : decode cX9_who 78 = .ok (.aload_n 0, 1) := by decide +kernel
theorem dX9_who_79 : decode cX9_who 79 = .ok (.iload 6, 2) := by decide +kernel
theorem dX9_who_81 : decode cX9_who 81 = .ok (.invokevirtual 176, 3) := by decide +kernel
theorem dX9_who_84 : decode cX9_who 84 = .ok (.iload 5, 2) := by decide +kernel
theorem dX9_who_86 : decode cX9_who 86 = .ok (.aload_n 0, 1) := by decide +kernel
theorem dX9_who_87 : decode cX9_who 87 = .ok (.bipush 40, 2) := by decide +kernel
theorem dX9_who_89 : decode cX9_who 89 = .ok (.iload_n 1, 1) := by decide +kernel
theorem dX9_who_90 : decode cX9_who 90 = .ok (.imul, 1) := by decide +kernel
theorem dX9_who_91 : decode cX9_who 91 = .ok (.iload_n 2, 1) := by decide +kernel
theorem dX9_who_92 : decode cX9_who 92 = .ok (.iadd, 1) := by decide +kernel
theorem dX9_who_93 : decode cX9_who 93 = .ok (.iload_n 3, 1) := by decide +kernel
theorem dX9_who_94 : decode cX9_who 94 = .ok (.invokevirtual 219, 3) := by decide +kernel
theorem dX9_who_97 : decode cX9_who 97 = .ok (.ifCond .eq 10, 3) := by decide +kernel
theorem dX9_who_100 : decode cX9_who 100 = .ok (.iconst 1, 1) := by decide +kernel
theorem dX9_who_101 : decode cX9_who 101 = .ok (.iload 6, 2) := by decide +kernel
theorem dX9_who_103 : decode cX9_who 103 = .ok (.ishl, 1) := by decide +kernel
theorem dX9_who_104 : decode cX9_who 104 = .ok (.goto 4, 3) := by decide +kernel
theorem dX9_who_107 : decode cX9_who 107 = .ok (.iconst 0, 1) := by decide +kernel
theorem dX9_who_108 : decode cX9_who 108 = .ok (.ior, 1) := by decide +kernel
theorem dX9_who_109 : decode cX9_who 109 = .ok (.istore 5, 2) := by decide +kernel
theorem dX9_who_111 : decode cX9_who 111 = .ok (.iinc 6 1, 3) := by decide +kernel
theorem dX9_who_114 : decode cX9_who 114 = .ok (.goto (-47), 3) := by decide +kernel
theorem dX9_who_117 : decode cX9_who 117 = .ok (.aload_n 0, 1) := by decide +kernel
theorem dX9_who_118 : decode cX9_who 118 = .ok (.iload 5, 2) := by decide +kernel
theorem dX9_who_120 : decode cX9_who 120 = .ok (.invokevirtual 72, 3) := by decide +kernel
theorem dX9_who_123 : decode cX9_who 123 = .ok (.ireturn, 1) := by decide +kernel
theorem dX9_goesBy_0 : decode cX9_goesBy 0 = .ok (.aload_n 0, 1) := by decide +kernel
theorem dX9_goesBy_1 : decode cX9_goesBy 1 = .ok (.iload_n 1, 1) := by decide +kernel
theorem dX9_goesBy_2 : decode cX9_goesBy 2 = .ok (.invokevirtual 176, 3) := by decide +kernel
theorem dX9_goesBy_5 : decode cX9_goesBy 5 = .ok (.lconst 1, 1) := by decide +kernel
theorem dX9_goesBy_6 : decode cX9_goesBy 6 = .ok (.lstore 6, 2) := by decide +kernel
theorem dX9_goesBy_8 : decode cX9_goesBy 8 = .ok (.aload_n 0, 1) := by decide +kernel
theorem dX9_goesBy_9 : decode cX9_goesBy 9 = .ok (.iconst 0, 1) := by decide +kernel
theorem dX9_goesBy_10 : decode cX9_goesBy 10 = .ok (.putfield 200, 3) := by decide +kernel
theorem dX9_goesBy_13 : decode cX9_goesBy 13 = .ok (.iconst 0, 1) := by decide +kernel
theorem dX9_goesBy_14 : decode cX9_goesBy 14 = .ok (.istore 8, 2) := by decide +kernel
theorem dX9_goesBy_16 : decode cX9_goesBy 16 = .ok (.iload 8, 2) := by decide +kernel
theorem dX9_goesBy_18 : decode cX9_goesBy 18 = .ok (.iload_n 3, 1) := by decide +kernel
theorem dX9_goesBy_19 : decode cX9_goesBy 19 = .ok (.if_icmp .ge 126, 3) := by decide +kernel
theorem dX9_goesBy_22 : decode cX9_goesBy 22 = .ok (.aload_n 0, 1) := by decide +kernel
theorem dX9_goesBy_23 : decode cX9_goesBy 23 = .ok (.getfield 16, 3) := by decide +kernel
theorem dX9_goesBy_26 : decode cX9_goesBy 26 = .ok (.iload_n 2, 1) := by decide +kernel
theorem dX9_goesBy_27 : decode cX9_goesBy 27 = .ok (.iconst 2, 1) := by decide +kernel
theorem dX9_goesBy_28 : decode cX9_goesBy 28 = .ok (.iload 8, 2) := by decide +kernel
theorem dX9_goesBy_30 : decode cX9_goesBy 30 = .ok (.imul, 1) := by decide +kernel
theorem dX9_goesBy_31 : decode cX9_goesBy 31 = .ok (.iadd, 1) := by decide +kernel
theorem dX9_goesBy_32 : decode cX9_goesBy 32 = .ok (.iaload, 1) := by decide +kernel
theorem dX9_goesBy_33 : decode cX9_goesBy 33 = .ok (.istore 9, 2) := by decide +kernel
theorem dX9_goesBy_35 : decode cX9_goesBy 35 = .ok (.aload_n 0, 1) := by decide +kernel
theorem dX9_goesBy_36 : decode cX9_goesBy 36 = .ok (.iload 9, 2) := by decide +kernel
theorem dX9_goesBy_38 : decode cX9_goesBy 38 = .ok (.invokevirtual 180, 3) := by decide +kernel
theorem dX9_goesBy_41 : decode cX9_goesBy 41 = .ok (.istore 10, 2) := by decide +kernel
theorem dX9_goesBy_43 : decode cX9_goesBy 43 = .ok (.iload 4, 2) := by decide +kernel
theorem dX9_goesBy_45 : decode cX9_goesBy 45 = .ok (.iload 8, 2) := by decide +kernel
theorem dX9_goesBy_47 : decode cX9_goesBy 47 = .ok (.invokestatic 156, 3) := by decide +kernel
theorem dX9_goesBy_50 : decode cX9_goesBy 50 = .ok (.istore 11, 2) := by decide +kernel
theorem dX9_goesBy_52 : decode cX9_goesBy 52 = .ok (.lload 6, 2) := by decide +kernel
theorem dX9_goesBy_54 : decode cX9_goesBy 54 = .ok (.iload 10, 2) := by decide +kernel
theorem dX9_goesBy_56 : decode cX9_goesBy 56 = .ok (.ifCond .eq 23, 3) := by decide +kernel
theorem dX9_goesBy_59 : decode cX9_goesBy 59 = .ok (.iload 11, 2) := by decide +kernel
theorem dX9_goesBy_61 : decode cX9_goesBy 61 = .ok (.ifCond .eq 9, 3) := by decide +kernel
theorem dX9_goesBy_64 : decode cX9_goesBy 64 = .ok (.iload 5, 2) := by decide +kernel
theorem dX9_goesBy_66 : decode cX9_goesBy 66 = .ok (.i2l, 1) := by decide +kernel
theorem dX9_goesBy_67 : decode cX9_goesBy 67 = .ok (.goto 24, 3) := by decide +kernel
theorem dX9_goesBy_70 : decode cX9_goesBy 70 = .ok (.bipush 10, 2) := by decide +kernel
theorem dX9_goesBy_72 : decode cX9_goesBy 72 = .ok (.iload 5, 2) := by decide +kernel
theorem dX9_goesBy_74 : decode cX9_goesBy 74 = .ok (.isub, 1) := by decide +kernel
theorem dX9_goesBy_75 : decode cX9_goesBy 75 = .ok (.i2l, 1) := by decide +kernel
theorem dX9_goesBy_76 : decode cX9_goesBy 76 = .ok (.goto 15, 3) := by decide +kernel
theorem dX9_goesBy_79 : decode cX9_goesBy 79 = .ok (.iload 11, 2) := by decide +kernel
theorem dX9_goesBy_81 : decode cX9_goesBy 81 = .ok (.ifCond .eq 7, 3) := by decide +kernel
theorem dX9_goesBy_84 : decode cX9_goesBy 84 = .ok (.lconst 0, 1) := by decide +kernel
theorem dX9_goesBy_85 : decode cX9_goesBy 85 = .ok (.goto 6, 3) := by decide +kernel
theorem dX9_goesBy_88 : decode cX9_goesBy 88 = .ok (.ldc2_w 225, 3) := by decide +kernel
theorem dX9_goesBy_91 : decode cX9_goesBy 91 = .ok (.lmul, 1) := by decide +kernel
theorem dX9_goesBy_92 : decode cX9_goesBy 92 = .ok (.lstore 6, 2) := by decide +kernel
theorem dX9_goesBy_94 : decode cX9_goesBy 94 = .ok (.aload_n 0, 1) := by decide +kernel
theorem dX9_goesBy_95 : decode cX9_goesBy 95 = .ok (.iload 9, 2) := by decide +kernel
theorem dX9_goesBy_97 : decode cX9_goesBy 97 = .ok (.iload 10, 2) := by decide +kernel
theorem dX9_goesBy_99 : decode cX9_goesBy 99 = .ok (.ifCond .eq 12, 3) := by decide +kernel
theorem dX9_goesBy_102 : decode cX9_goesBy 102 = .ok (.iload 11, 2) := by decide +kernel
theorem dX9_goesBy_104 : decode cX9_goesBy 104 = .ok (.ifCond .ne 7, 3) := by decide +kernel
theorem dX9_goesBy_107 : decode cX9_goesBy 107 = .ok (.iconst 1, 1) := by decide +kernel
theorem dX9_goesBy_108 : decode cX9_goesBy 108 = .ok (.goto 4, 3) := by decide +kernel
theorem dX9_goesBy_111 : decode cX9_goesBy 111 = .ok (.iconst 0, 1) := by decide +kernel
theorem dX9_goesBy_112 : decode cX9_goesBy 112 = .ok (.invokevirtual 183, 3) := by decide +kernel
theorem dX9_goesBy_115 : decode cX9_goesBy 115 = .ok (.aload_n 0, 1) := by decide +kernel
theorem dX9_goesBy_116 : decode cX9_goesBy 116 = .ok (.dup, 1) := by decide +kernel
theorem dX9_goesBy_117 : decode cX9_goesBy 117 = .ok (.getfield 200, 3) := by decide +kernel
theorem dX9_goesBy_120 : decode cX9_goesBy 120 = .ok (.iload 10, 2) := by decide +kernel
theorem dX9_goesBy_122 : decode cX9_goesBy 122 = .ok (.ifCond .eq 12, 3) := by decide +kernel
theorem dX9_goesBy_125 : decode cX9_goesBy 125 = .ok (.iload 11, 2) := by decide +kernel
theorem dX9_goesBy_127 : decode cX9_goesBy 127 = .ok (.ifCond .ne 7, 3) := by decide +kernel
theorem dX9_goesBy_130 : decode cX9_goesBy 130 = .ok (.iconst 1, 1) := by decide +kernel
theorem dX9_goesBy_131 : decode cX9_goesBy 131 = .ok (.goto 4, 3) := by decide +kernel
theorem dX9_goesBy_134 : decode cX9_goesBy 134 = .ok (.iconst 0, 1) := by decide +kernel
theorem dX9_goesBy_135 : decode cX9_goesBy 135 = .ok (.iadd, 1) := by decide +kernel
theorem dX9_goesBy_136 : decode cX9_goesBy 136 = .ok (.putfield 200, 3) := by decide +kernel
theorem dX9_goesBy_139 : decode cX9_goesBy 139 = .ok (.iinc 8 1, 3) := by decide +kernel
theorem dX9_goesBy_142 : decode cX9_goesBy 142 = .ok (.goto (-126), 3) := by decide +kernel
theorem dX9_goesBy_145 : decode cX9_goesBy 145 = .ok (.lload 6, 2) := by decide +kernel
theorem dX9_goesBy_147 : decode cX9_goesBy 147 = .ok (.lreturn, 1) := by decide +kernel
theorem dX9_odds_0 : decode cX9_odds 0 = .ok (.aload_n 0, 1) := by decide +kernel
theorem dX9_odds_1 : decode cX9_odds 1 = .ok (.iload_n 1, 1) := by decide +kernel
theorem dX9_odds_2 : decode cX9_odds 2 = .ok (.invokevirtual 163, 3) := by decide +kernel
theorem dX9_odds_5 : decode cX9_odds 5 = .ok (.ifCond .eq 53, 3) := by decide +kernel
theorem dX9_odds_8 : decode cX9_odds 8 = .ok (.iload_n 2, 1) := by decide +kernel
theorem dX9_odds_9 : decode cX9_odds 9 = .ok (.invokestatic 63, 3) := by decide +kernel
theorem dX9_odds_12 : decode cX9_odds 12 = .ok (.ifCond .eq 46, 3) := by decide +kernel
theorem dX9_odds_15 : decode cX9_odds 15 = .ok (.iload 4, 2) := by decide +kernel
theorem dX9_odds_17 : decode cX9_odds 17 = .ok (.iconst 0, 1) := by decide +kernel
theorem dX9_odds_18 : decode cX9_odds 18 = .ok (.bipush 6, 2) := by decide +kernel
theorem dX9_odds_20 : decode cX9_odds 20 = .ok (.invokestatic 59, 3) := by decide +kernel
theorem dX9_odds_23 : decode cX9_odds 23 = .ok (.ifCond .eq 35, 3) := by decide +kernel
theorem dX9_odds_26 : decode cX9_odds 26 = .ok (.iload 5, 2) := by decide +kernel
theorem dX9_odds_28 : decode cX9_odds 28 = .ok (.iconst 0, 1) := by decide +kernel
theorem dX9_odds_29 : decode cX9_odds 29 = .ok (.bipush 6, 2) := by decide +kernel
theorem dX9_odds_31 : decode cX9_odds 31 = .ok (.invokestatic 59, 3) := by decide +kernel
theorem dX9_odds_34 : decode cX9_odds 34 = .ok (.ifCond .eq 24, 3) := by decide +kernel
theorem dX9_odds_37 : decode cX9_odds 37 = .ok (.iload 6, 2) := by decide +kernel
theorem dX9_odds_39 : decode cX9_odds 39 = .ok (.iconst 0, 1) := by decide +kernel
theorem dX9_odds_40 : decode cX9_odds 40 = .ok (.bipush 10, 2) := by decide +kernel
theorem dX9_odds_42 : decode cX9_odds 42 = .ok (.invokestatic 59, 3) := by decide +kernel
theorem dX9_odds_45 : decode cX9_odds 45 = .ok (.ifCond .eq 13, 3) := by decide +kernel
theorem dX9_odds_48 : decode cX9_odds 48 = .ok (.iload 7, 2) := by decide +kernel
theorem dX9_odds_50 : decode cX9_odds 50 = .ok (.iconst 0, 1) := by decide +kernel
theorem dX9_odds_51 : decode cX9_odds 51 = .ok (.iconst 1, 1) := by decide +kernel
theorem dX9_odds_52 : decode cX9_odds 52 = .ok (.invokestatic 59, 3) := by decide +kernel
theorem dX9_odds_55 : decode cX9_odds 55 = .ok (.ifCond .ne 6, 3) := by decide +kernel
theorem dX9_odds_58 : decode cX9_odds 58 = .ok (.ldc 67, 2) := by decide +kernel
theorem dX9_odds_60 : decode cX9_odds 60 = .ok (.ireturn, 1) := by decide +kernel
theorem dX9_odds_61 : decode cX9_odds 61 = .ok (.aload_n 0, 1) := by decide +kernel
theorem dX9_odds_62 : decode cX9_odds 62 = .ok (.iload_n 2, 1) := by decide +kernel
theorem dX9_odds_63 : decode cX9_odds 63 = .ok (.iload_n 3, 1) := by decide +kernel
theorem dX9_odds_64 : decode cX9_odds 64 = .ok (.iload 4, 2) := by decide +kernel
theorem dX9_odds_66 : decode cX9_odds 66 = .ok (.invokevirtual 215, 3) := by decide +kernel
theorem dX9_odds_69 : decode cX9_odds 69 = .ok (.istore 8, 2) := by decide +kernel
theorem dX9_odds_71 : decode cX9_odds 71 = .ok (.iload 8, 2) := by decide +kernel
theorem dX9_odds_73 : decode cX9_odds 73 = .ok (.ifCond .eq 20, 3) := by decide +kernel
theorem dX9_odds_76 : decode cX9_odds 76 = .ok (.iload 8, 2) := by decide +kernel
theorem dX9_odds_78 : decode cX9_odds 78 = .ok (.ifCond .ge 8, 3) := by decide +kernel
theorem dX9_odds_81 : decode cX9_odds 81 = .ok (.ldc 67, 2) := by decide +kernel
theorem dX9_odds_83 : decode cX9_odds 83 = .ok (.goto 9, 3) := by decide +kernel
theorem dX9_odds_86 : decode cX9_odds 86 = .ok (.aload_n 0, 1) := by decide +kernel
theorem dX9_odds_87 : decode cX9_odds 87 = .ok (.iload 8, 2) := by decide +kernel
theorem dX9_odds_89 : decode cX9_odds 89 = .ok (.invokevirtual 68, 3) := by decide +kernel
theorem dX9_odds_92 : decode cX9_odds 92 = .ok (.ireturn, 1) := by decide +kernel
theorem dX9_odds_93 : decode cX9_odds 93 = .ok (.lconst 0, 1) := by decide +kernel
theorem dX9_odds_94 : decode cX9_odds 94 = .ok (.lstore 9, 2) := by decide +kernel
theorem dX9_odds_96 : decode cX9_odds 96 = .ok (.lconst 1, 1) := by decide +kernel
theorem dX9_odds_97 : decode cX9_odds 97 = .ok (.lstore 11, 2) := by decide +kernel
theorem dX9_odds_99 : decode cX9_odds 99 = .ok (.iconst 0, 1) := by decide +kernel
theorem dX9_odds_100 : decode cX9_odds 100 = .ok (.istore 13, 2) := by decide +kernel
theorem dX9_odds_102 : decode cX9_odds 102 = .ok (.iload 13, 2) := by decide +kernel
theorem dX9_odds_104 : decode cX9_odds 104 = .ok (.iload 4, 2) := by decide +kernel
theorem dX9_odds_106 : decode cX9_odds 106 = .ok (.if_icmp .ge 17, 3) := by decide +kernel
theorem dX9_odds_109 : decode cX9_odds 109 = .ok (.lload 11, 2) := by decide +kernel
theorem dX9_odds_111 : decode cX9_odds 111 = .ok (.ldc2_w 225, 3) := by decide +kernel
theorem dX9_odds_114 : decode cX9_odds 114 = .ok (.lmul, 1) := by decide +kernel
theorem dX9_odds_115 : decode cX9_odds 115 = .ok (.lstore 11, 2) := by decide +kernel
theorem dX9_odds_117 : decode cX9_odds 117 = .ok (.iinc 13 1, 3) := by decide +kernel
theorem dX9_odds_120 : decode cX9_odds 120 = .ok (.goto (-18), 3) := by decide +kernel
theorem dX9_odds_123 : decode cX9_odds 123 = .ok (.iconst 0, 1) := by decide +kernel
theorem dX9_odds_124 : decode cX9_odds 124 = .ok (.istore 13, 2) := by decide +kernel
theorem dX9_odds_126 : decode cX9_odds 126 = .ok (.iload 13, 2) := by decide +kernel
theorem dX9_odds_128 : decode cX9_odds 128 = .ok (.iconst 1, 1) := by decide +kernel
theorem dX9_odds_129 : decode cX9_odds 129 = .ok (.iload 4, 2) := by decide +kernel
theorem dX9_odds_131 : decode cX9_odds 131 = .ok (.ishl, 1) := by decide +kernel
theorem dX9_odds_132 : decode cX9_odds 132 = .ok (.if_icmp .ge 48, 3) := by decide +kernel
theorem dX9_odds_135 : decode cX9_odds 135 = .ok (.aload_n 0, 1) := by decide +kernel
theorem dX9_odds_136 : decode cX9_odds 136 = .ok (.iload_n 1, 1) := by decide +kernel
theorem dX9_odds_137 : decode cX9_odds 137 = .ok (.bipush 40, 2) := by decide +kernel
theorem dX9_odds_139 : decode cX9_odds 139 = .ok (.iload_n 2, 1) := by decide +kernel
theorem dX9_odds_140 : decode cX9_odds 140 = .ok (.imul, 1) := by decide +kernel
theorem dX9_odds_141 : decode cX9_odds 141 = .ok (.iload_n 3, 1) := by decide +kernel
theorem dX9_odds_142 : decode cX9_odds 142 = .ok (.iadd, 1) := by decide +kernel
theorem dX9_odds_143 : decode cX9_odds 143 = .ok (.iload 4, 2) := by decide +kernel
theorem dX9_odds_145 : decode cX9_odds 145 = .ok (.iload 13, 2) := by decide +kernel
theorem dX9_odds_147 : decode cX9_odds 147 = .ok (.iload 6, 2) := by decide +kernel
theorem dX9_odds_149 : decode cX9_odds 149 = .ok (.invokevirtual 227, 3) := by decide +kernel
theorem dX9_odds_152 : decode cX9_odds 152 = .ok (.lstore 14, 2) := by decide +kernel
theorem dX9_odds_154 : decode cX9_odds 154 = .ok (.lload 9, 2) := by decide +kernel
theorem dX9_odds_156 : decode cX9_odds 156 = .ok (.aload_n 0, 1) := by decide +kernel
theorem dX9_odds_157 : decode cX9_odds 157 = .ok (.getfield 200, 3) := by decide +kernel
theorem dX9_odds_160 : decode cX9_odds 160 = .ok (.iload 5, 2) := by decide +kernel
theorem dX9_odds_162 : decode cX9_odds 162 = .ok (.if_icmp .lt 8, 3) := by decide +kernel
theorem dX9_odds_165 : decode cX9_odds 165 = .ok (.lload 14, 2) := by decide +kernel
theorem dX9_odds_167 : decode cX9_odds 167 = .ok (.goto 4, 3) := by decide +kernel
theorem dX9_odds_170 : decode cX9_odds 170 = .ok (.lconst 0, 1) := by decide +kernel
theorem dX9_odds_171 : decode cX9_odds 171 = .ok (.ladd, 1) := by decide +kernel
theorem dX9_odds_172 : decode cX9_odds 172 = .ok (.lstore 9, 2) := by decide +kernel
theorem dX9_odds_174 : decode cX9_odds 174 = .ok (.iinc 13 1, 3) := by decide +kernel
theorem dX9_odds_177 : decode cX9_odds 177 = .ok (.goto (-51), 3) := by decide +kernel
theorem dX9_odds_180 : decode cX9_odds 180 = .ok (.lload 9, 2) := by decide +kernel
theorem dX9_odds_182 : decode cX9_odds 182 = .ok (.lstore 13, 2) := by decide +kernel
theorem dX9_odds_184 : decode cX9_odds 184 = .ok (.lload 11, 2) := by decide +kernel
theorem dX9_odds_186 : decode cX9_odds 186 = .ok (.lstore 15, 2) := by decide +kernel
theorem dX9_odds_188 : decode cX9_odds 188 = .ok (.lload 15, 2) := by decide +kernel
theorem dX9_odds_190 : decode cX9_odds 190 = .ok (.lconst 0, 1) := by decide +kernel
theorem dX9_odds_191 : decode cX9_odds 191 = .ok (.lcmp, 1) := by decide +kernel
theorem dX9_odds_192 : decode cX9_odds 192 = .ok (.ifCond .eq 21, 3) := by decide +kernel
theorem dX9_odds_195 : decode cX9_odds 195 = .ok (.lload 13, 2) := by decide +kernel
theorem dX9_odds_197 : decode cX9_odds 197 = .ok (.lload 15, 2) := by decide +kernel
theorem dX9_odds_199 : decode cX9_odds 199 = .ok (.lrem, 1) := by decide +kernel
theorem dX9_odds_200 : decode cX9_odds 200 = .ok (.lstore 17, 2) := by decide +kernel
theorem dX9_odds_202 : decode cX9_odds 202 = .ok (.lload 15, 2) := by decide +kernel
theorem dX9_odds_204 : decode cX9_odds 204 = .ok (.lstore 13, 2) := by decide +kernel
theorem dX9_odds_206 : decode cX9_odds 206 = .ok (.lload 17, 2) := by decide +kernel
theorem dX9_odds_208 : decode cX9_odds 208 = .ok (.lstore 15, 2) := by decide +kernel
theorem dX9_odds_210 : decode cX9_odds 210 = .ok (.goto (-22), 3) := by decide +kernel
theorem dX9_odds_213 : decode cX9_odds 213 = .ok (.aload_n 0, 1) := by decide +kernel
theorem dX9_odds_214 : decode cX9_odds 214 = .ok (.iload 7, 2) := by decide +kernel
theorem dX9_odds_216 : decode cX9_odds 216 = .ok (.ifCond .ne 8, 3) := by decide +kernel
theorem dX9_odds_219 : decode cX9_odds 219 = .ok (.lload 9, 2) := by decide +kernel
theorem dX9_odds_221 : decode cX9_odds 221 = .ok (.goto 5, 3) := by decide +kernel
theorem dX9_odds_224 : decode cX9_odds 224 = .ok (.lload 11, 2) := by decide +kernel
theorem dX9_odds_226 : decode cX9_odds 226 = .ok (.lload 13, 2) := by decide +kernel
theorem dX9_odds_228 : decode cX9_odds 228 = .ok (.ldiv, 1) := by decide +kernel
theorem dX9_odds_229 : decode cX9_odds 229 = .ok (.l2i, 1) := by decide +kernel
theorem dX9_odds_230 : decode cX9_odds 230 = .ok (.invokevirtual 72, 3) := by decide +kernel
theorem dX9_odds_233 : decode cX9_odds 233 = .ok (.ireturn, 1) := by decide +kernel
theorem dX9_image_0 : decode cX9_image 0 = .ok (.iload_n 1, 1) := by decide +kernel
theorem dX9_image_1 : decode cX9_image 1 = .ok (.iconst 0, 1) := by decide +kernel
theorem dX9_image_2 : decode cX9_image 2 = .ok (.iconst 1, 1) := by decide +kernel
theorem dX9_image_3 : decode cX9_image 3 = .ok (.invokestatic 59, 3) := by decide +kernel
theorem dX9_image_6 : decode cX9_image 6 = .ok (.ifCond .ne 6, 3) := by decide +kernel
theorem dX9_image_9 : decode cX9_image 9 = .ok (.ldc 67, 2) := by decide +kernel
theorem dX9_image_11 : decode cX9_image 11 = .ok (.ireturn, 1) := by decide +kernel
theorem dX9_image_12 : decode cX9_image 12 = .ok (.aload_n 0, 1) := by decide +kernel
theorem dX9_image_13 : decode cX9_image 13 = .ok (.invokevirtual 222, 3) := by decide +kernel
theorem dX9_image_16 : decode cX9_image 16 = .ok (.ifCond .ne 6, 3) := by decide +kernel
theorem dX9_image_19 : decode cX9_image 19 = .ok (.ldc 172, 2) := by decide +kernel
theorem dX9_image_21 : decode cX9_image 21 = .ok (.ireturn, 1) := by decide +kernel
theorem dX9_image_22 : decode cX9_image 22 = .ok (.aload_n 0, 1) := by decide +kernel
theorem dX9_image_23 : decode cX9_image 23 = .ok (.getfield 25, 3) := by decide +kernel
theorem dX9_image_26 : decode cX9_image 26 = .ok (.iconst 0, 1) := by decide +kernel
theorem dX9_image_27 : decode cX9_image 27 = .ok (.aload_n 0, 1) := by decide +kernel
theorem dX9_image_28 : decode cX9_image 28 = .ok (.getfield 34, 3) := by decide +kernel
theorem dX9_image_31 : decode cX9_image 31 = .ok (.bipush 38, 2) := by decide +kernel
theorem dX9_image_33 : decode cX9_image 33 = .ok (.iload_n 1, 1) := by decide +kernel
theorem dX9_image_34 : decode cX9_image 34 = .ok (.imul, 1) := by decide +kernel
theorem dX9_image_35 : decode cX9_image 35 = .ok (.invokestatic 137, 3) := by decide +kernel
theorem dX9_image_38 : decode cX9_image 38 = .ok (.aload_n 0, 1) := by decide +kernel
theorem dX9_image_39 : decode cX9_image 39 = .ok (.getfield 37, 3) := by decide +kernel
theorem dX9_image_42 : decode cX9_image 42 = .ok (.iload_n 1, 1) := by decide +kernel
theorem dX9_image_43 : decode cX9_image 43 = .ok (.iconst 1, 1) := by decide +kernel
theorem dX9_image_44 : decode cX9_image 44 = .ok (.bastore, 1) := by decide +kernel
theorem dX9_image_45 : decode cX9_image 45 = .ok (.iconst 1, 1) := by decide +kernel
theorem dX9_image_46 : decode cX9_image 46 = .ok (.ireturn, 1) := by decide +kernel
theorem dX9_restore_0 : decode cX9_restore 0 = .ok (.iload_n 1, 1) := by decide +kernel
theorem dX9_restore_1 : decode cX9_restore 1 = .ok (.iconst 0, 1) := by decide +kernel
theorem dX9_restore_2 : decode cX9_restore 2 = .ok (.iconst 1, 1) := by decide +kernel
theorem dX9_restore_3 : decode cX9_restore 3 = .ok (.invokestatic 59, 3) := by decide +kernel
theorem dX9_restore_6 : decode cX9_restore 6 = .ok (.ifCond .ne 6, 3) := by decide +kernel
theorem dX9_restore_9 : decode cX9_restore 9 = .ok (.ldc 67, 2) := by decide +kernel
theorem dX9_restore_11 : decode cX9_restore 11 = .ok (.ireturn, 1) := by decide +kernel
theorem dX9_restore_12 : decode cX9_restore 12 = .ok (.aload_n 0, 1) := by decide +kernel
theorem dX9_restore_13 : decode cX9_restore 13 = .ok (.getfield 37, 3) := by decide +kernel
theorem dX9_restore_16 : decode cX9_restore 16 = .ok (.iload_n 1, 1) := by decide +kernel
theorem dX9_restore_17 : decode cX9_restore 17 = .ok (.baload, 1) := by decide +kernel
theorem dX9_restore_18 : decode cX9_restore 18 = .ok (.ifCond .ne 6, 3) := by decide +kernel
theorem dX9_restore_21 : decode cX9_restore 21 = .ok (.ldc 172, 2) := by decide +kernel
theorem dX9_restore_23 : decode cX9_restore 23 = .ok (.ireturn, 1) := by decide +kernel
theorem dX9_restore_24 : decode cX9_restore 24 = .ok (.aload_n 0, 1) := by decide +kernel
theorem dX9_restore_25 : decode cX9_restore 25 = .ok (.getfield 34, 3) := by decide +kernel
theorem dX9_restore_28 : decode cX9_restore 28 = .ok (.bipush 38, 2) := by decide +kernel
theorem dX9_restore_30 : decode cX9_restore 30 = .ok (.iload_n 1, 1) := by decide +kernel
theorem dX9_restore_31 : decode cX9_restore 31 = .ok (.imul, 1) := by decide +kernel
theorem dX9_restore_32 : decode cX9_restore 32 = .ok (.aload_n 0, 1) := by decide +kernel
theorem dX9_restore_33 : decode cX9_restore 33 = .ok (.getfield 25, 3) := by decide +kernel
theorem dX9_restore_36 : decode cX9_restore 36 = .ok (.iconst 0, 1) := by decide +kernel
theorem dX9_restore_37 : decode cX9_restore 37 = .ok (.invokestatic 137, 3) := by decide +kernel
theorem dX9_restore_40 : decode cX9_restore 40 = .ok (.aload_n 0, 1) := by decide +kernel
theorem dX9_restore_41 : decode cX9_restore 41 = .ok (.iconst 0, 1) := by decide +kernel
theorem dX9_restore_42 : decode cX9_restore 42 = .ok (.putfield 141, 3) := by decide +kernel
theorem dX9_restore_45 : decode cX9_restore 45 = .ok (.iconst 1, 1) := by decide +kernel
theorem dX9_restore_46 : decode cX9_restore 46 = .ok (.ireturn, 1) := by decide +kernel
theorem dX9_kindIn_0 : decode cX9_kindIn 0 = .ok (.aload_n 0, 1) := by decide +kernel
theorem dX9_kindIn_1 : decode cX9_kindIn 1 = .ok (.getfield 25, 3) := by decide +kernel
theorem dX9_kindIn_4 : decode cX9_kindIn 4 = .ok (.iconst 4, 1) := by decide +kernel
theorem dX9_kindIn_5 : decode cX9_kindIn 5 = .ok (.iconst 3, 1) := by decide +kernel
theorem dX9_kindIn_6 : decode cX9_kindIn 6 = .ok (.iload_n 1, 1) := by decide +kernel
theorem dX9_kindIn_7 : decode cX9_kindIn 7 = .ok (.imul, 1) := by decide +kernel
theorem dX9_kindIn_8 : decode cX9_kindIn 8 = .ok (.iadd, 1) := by decide +kernel
theorem dX9_kindIn_9 : decode cX9_kindIn 9 = .ok (.iaload, 1) := by decide +kernel
theorem dX9_kindIn_10 : decode cX9_kindIn 10 = .ok (.ireturn, 1) := by decide +kernel
theorem dX9_kind_0 : decode cX9_kind 0 = .ok (.aload_n 0, 1) := by decide +kernel
theorem dX9_kind_1 : decode cX9_kind 1 = .ok (.iload_n 1, 1) := by decide +kernel
theorem dX9_kind_2 : decode cX9_kind 2 = .ok (.invokevirtual 166, 3) := by decide +kernel
theorem dX9_kind_5 : decode cX9_kind 5 = .ok (.ifCond .eq 11, 3) := by decide +kernel
theorem dX9_kind_8 : decode cX9_kind 8 = .ok (.aload_n 0, 1) := by decide +kernel
theorem dX9_kind_9 : decode cX9_kind 9 = .ok (.iload_n 1, 1) := by decide +kernel
theorem dX9_kind_10 : decode cX9_kind 10 = .ok (.invokevirtual 231, 3) := by decide +kernel
theorem dX9_kind_13 : decode cX9_kind 13 = .ok (.goto 5, 3) := by decide +kernel
theorem dX9_kind_16 : decode cX9_kind 16 = .ok (.ldc 67, 2) := by decide +kernel
theorem dX9_kind_18 : decode cX9_kind 18 = .ok (.ireturn, 1) := by decide +kernel
theorem dX9_as_0 : decode cX9_as 0 = .ok (.aload_n 0, 1) := by decide +kernel
theorem dX9_as_1 : decode cX9_as 1 = .ok (.iload_n 1, 1) := by decide +kernel
theorem dX9_as_2 : decode cX9_as 2 = .ok (.invokevirtual 166, 3) := by decide +kernel
theorem dX9_as_5 : decode cX9_as 5 = .ok (.ifCond .eq 12, 3) := by decide +kernel
theorem dX9_as_8 : decode cX9_as 8 = .ok (.iload_n 2, 1) := by decide +kernel
theorem dX9_as_9 : decode cX9_as 9 = .ok (.iconst 0, 1) := by decide +kernel
theorem dX9_as_10 : decode cX9_as 10 = .ok (.iconst 5, 1) := by decide +kernel
theorem dX9_as_11 : decode cX9_as 11 = .ok (.invokestatic 59, 3) := by decide +kernel
theorem dX9_as_14 : decode cX9_as 14 = .ok (.ifCond .ne 6, 3) := by decide +kernel
theorem dX9_as_17 : decode cX9_as 17 = .ok (.ldc 67, 2) := by decide +kernel
theorem dX9_as_19 : decode cX9_as 19 = .ok (.ireturn, 1) := by decide +kernel
theorem dX9_as_20 : decode cX9_as 20 = .ok (.aload_n 0, 1) := by decide +kernel
theorem dX9_as_21 : decode cX9_as 21 = .ok (.iload_n 1, 1) := by decide +kernel
theorem dX9_as_22 : decode cX9_as 22 = .ok (.invokevirtual 231, 3) := by decide +kernel
theorem dX9_as_25 : decode cX9_as 25 = .ok (.istore_n 3, 1) := by decide +kernel
theorem dX9_as_26 : decode cX9_as 26 = .ok (.iload_n 2, 1) := by decide +kernel
theorem dX9_as_27 : decode cX9_as 27 = .ok (.ifCond .eq 28, 3) := by decide +kernel
theorem dX9_as_30 : decode cX9_as 30 = .ok (.iload_n 2, 1) := by decide +kernel
theorem dX9_as_31 : decode cX9_as 31 = .ok (.iload_n 3, 1) := by decide +kernel
theorem dX9_as_32 : decode cX9_as 32 = .ok (.if_icmp .eq 23, 3) := by decide +kernel
theorem dX9_as_35 : decode cX9_as 35 = .ok (.iload_n 2, 1) := by decide +kernel
theorem dX9_as_36 : decode cX9_as 36 = .ok (.iconst 1, 1) := by decide +kernel
theorem dX9_as_37 : decode cX9_as 37 = .ok (.if_icmp .ne 8, 3) := by decide +kernel
theorem dX9_as_40 : decode cX9_as 40 = .ok (.iload_n 3, 1) := by decide +kernel
theorem dX9_as_41 : decode cX9_as 41 = .ok (.iconst 4, 1) := by decide +kernel
theorem dX9_as_42 : decode cX9_as 42 = .ok (.if_icmp .lt 13, 3) := by decide +kernel
theorem dX9_as_45 : decode cX9_as 45 = .ok (.iload_n 2, 1) := by decide +kernel
theorem dX9_as_46 : decode cX9_as 46 = .ok (.iconst 4, 1) := by decide +kernel
theorem dX9_as_47 : decode cX9_as 47 = .ok (.if_icmp .ne 12, 3) := by decide +kernel
theorem dX9_as_50 : decode cX9_as 50 = .ok (.iload_n 3, 1) := by decide +kernel
theorem dX9_as_51 : decode cX9_as 51 = .ok (.iconst 5, 1) := by decide +kernel
theorem dX9_as_52 : decode cX9_as 52 = .ok (.if_icmp .ne 7, 3) := by decide +kernel
theorem dX9_as_55 : decode cX9_as 55 = .ok (.iconst 1, 1) := by decide +kernel
theorem dX9_as_56 : decode cX9_as 56 = .ok (.goto 4, 3) := by decide +kernel
theorem dX9_as_59 : decode cX9_as 59 = .ok (.iconst 0, 1) := by decide +kernel
theorem dX9_as_60 : decode cX9_as 60 = .ok (.istore 4, 2) := by decide +kernel
theorem dX9_as_62 : decode cX9_as 62 = .ok (.iload 4, 2) := by decide +kernel
theorem dX9_as_64 : decode cX9_as 64 = .ok (.ifCond .eq 11, 3) := by decide +kernel
theorem dX9_as_67 : decode cX9_as 67 = .ok (.aload_n 0, 1) := by decide +kernel
theorem dX9_as_68 : decode cX9_as 68 = .ok (.iload_n 1, 1) := by decide +kernel
theorem dX9_as_69 : decode cX9_as 69 = .ok (.invokevirtual 72, 3) := by decide +kernel
theorem dX9_as_72 : decode cX9_as 72 = .ok (.goto 8, 3) := by decide +kernel
theorem dX9_as_75 : decode cX9_as 75 = .ok (.aload_n 0, 1) := by decide +kernel
end
section
theorem dX9_as_76 : decode cX9_as 76 = .ok (.iconst 3, 1) := by decide +kernel
theorem dX9_as_77 : decode cX9_as 77 = .ok (.invokevirtual 68, 3) := by decide +kernel
theorem dX9_as_80 : decode cX9_as 80 = .ok (.ireturn, 1) := by decide +kernel
theorem dX9_begins_0 : decode cX9_begins 0 = .ok (.aload_n 0, 1) := by decide +kernel
theorem dX9_begins_1 : decode cX9_begins 1 = .ok (.getfield 234, 3) := by decide +kernel
theorem dX9_begins_4 : decode cX9_begins 4 = .ok (.bipush 16, 2) := by decide +kernel
theorem dX9_begins_6 : decode cX9_begins 6 = .ok (.if_icmp .ge 23, 3) := by decide +kernel
theorem dX9_begins_9 : decode cX9_begins 9 = .ok (.aload_n 0, 1) := by decide +kernel
theorem dX9_begins_10 : decode cX9_begins 10 = .ok (.getfield 41, 3) := by decide +kernel
theorem dX9_begins_13 : decode cX9_begins 13 = .ok (.aload_n 0, 1) := by decide +kernel
theorem dX9_begins_14 : decode cX9_begins 14 = .ok (.getfield 234, 3) := by decide +kernel
theorem dX9_begins_17 : decode cX9_begins 17 = .ok (.iload_n 1, 1) := by decide +kernel
theorem dX9_begins_18 : decode cX9_begins 18 = .ok (.iastore, 1) := by decide +kernel
theorem dX9_begins_19 : decode cX9_begins 19 = .ok (.aload_n 0, 1) := by decide +kernel
theorem dX9_begins_20 : decode cX9_begins 20 = .ok (.dup, 1) := by decide +kernel
theorem dX9_begins_21 : decode cX9_begins 21 = .ok (.getfield 234, 3) := by decide +kernel
theorem dX9_begins_24 : decode cX9_begins 24 = .ok (.iconst 1, 1) := by decide +kernel
theorem dX9_begins_25 : decode cX9_begins 25 = .ok (.iadd, 1) := by decide +kernel
theorem dX9_begins_26 : decode cX9_begins 26 = .ok (.putfield 234, 3) := by decide +kernel
theorem dX9_begins_29 : decode cX9_begins 29 = .ok (.return_, 1) := by decide +kernel
theorem dX9_easyMark_0 : decode cX9_easyMark 0 = .ok (.aload_n 0, 1) := by decide +kernel
theorem dX9_easyMark_1 : decode cX9_easyMark 1 = .ok (.iload_n 1, 1) := by decide +kernel
theorem dX9_easyMark_2 : decode cX9_easyMark 2 = .ok (.invokevirtual 231, 3) := by decide +kernel
theorem dX9_easyMark_5 : decode cX9_easyMark 5 = .ok (.istore_n 2, 1) := by decide +kernel
theorem dX9_easyMark_6 : decode cX9_easyMark 6 = .ok (.iload_n 2, 1) := by decide +kernel
theorem dX9_easyMark_7 : decode cX9_easyMark 7 = .ok (.iconst 1, 1) := by decide +kernel
theorem dX9_easyMark_8 : decode cX9_easyMark 8 = .ok (.if_icmp .eq 19, 3) := by decide +kernel
theorem dX9_easyMark_11 : decode cX9_easyMark 11 = .ok (.aload_n 0, 1) := by decide +kernel
theorem dX9_easyMark_12 : decode cX9_easyMark 12 = .ok (.iload_n 2, 1) := by decide +kernel
theorem dX9_easyMark_13 : decode cX9_easyMark 13 = .ok (.iconst 2, 1) := by decide +kernel
theorem dX9_easyMark_14 : decode cX9_easyMark 14 = .ok (.if_icmp .ne 8, 3) := by decide +kernel
theorem dX9_easyMark_17 : decode cX9_easyMark 17 = .ok (.bipush 24, 2) := by decide +kernel
theorem dX9_easyMark_19 : decode cX9_easyMark 19 = .ok (.goto 5, 3) := by decide +kernel
theorem dX9_easyMark_22 : decode cX9_easyMark 22 = .ok (.bipush 22, 2) := by decide +kernel
theorem dX9_easyMark_24 : decode cX9_easyMark 24 = .ok (.invokevirtual 237, 3) := by decide +kernel
theorem dX9_easyMark_27 : decode cX9_easyMark 27 = .ok (.aload_n 0, 1) := by decide +kernel
theorem dX9_easyMark_28 : decode cX9_easyMark 28 = .ok (.bipush 21, 2) := by decide +kernel
theorem dX9_easyMark_30 : decode cX9_easyMark 30 = .ok (.invokevirtual 237, 3) := by decide +kernel
theorem dX9_easyMark_33 : decode cX9_easyMark 33 = .ok (.aload_n 0, 1) := by decide +kernel
theorem dX9_easyMark_34 : decode cX9_easyMark 34 = .ok (.bipush 20, 2) := by decide +kernel
theorem dX9_easyMark_36 : decode cX9_easyMark 36 = .ok (.invokevirtual 237, 3) := by decide +kernel
theorem dX9_easyMark_39 : decode cX9_easyMark 39 = .ok (.iload_n 1, 1) := by decide +kernel
theorem dX9_easyMark_40 : decode cX9_easyMark 40 = .ok (.aload_n 0, 1) := by decide +kernel
theorem dX9_easyMark_41 : decode cX9_easyMark 41 = .ok (.iload_n 1, 1) := by decide +kernel
theorem dX9_easyMark_42 : decode cX9_easyMark 42 = .ok (.invokevirtual 190, 3) := by decide +kernel
theorem dX9_easyMark_45 : decode cX9_easyMark 45 = .ok (.iadd, 1) := by decide +kernel
theorem dX9_easyMark_46 : decode cX9_easyMark 46 = .ok (.istore_n 3, 1) := by decide +kernel
theorem dX9_easyMark_47 : decode cX9_easyMark 47 = .ok (.iload_n 2, 1) := by decide +kernel
theorem dX9_easyMark_48 : decode cX9_easyMark 48 = .ok (.iconst 2, 1) := by decide +kernel
theorem dX9_easyMark_49 : decode cX9_easyMark 49 = .ok (.if_icmp .ne 9, 3) := by decide +kernel
theorem dX9_easyMark_52 : decode cX9_easyMark 52 = .ok (.iconst 2, 1) := by decide +kernel
theorem dX9_easyMark_53 : decode cX9_easyMark 53 = .ok (.iload_n 3, 1) := by decide +kernel
theorem dX9_easyMark_54 : decode cX9_easyMark 54 = .ok (.imul, 1) := by decide +kernel
theorem dX9_easyMark_55 : decode cX9_easyMark 55 = .ok (.goto 17, 3) := by decide +kernel
theorem dX9_easyMark_58 : decode cX9_easyMark 58 = .ok (.iload_n 2, 1) := by decide +kernel
theorem dX9_easyMark_59 : decode cX9_easyMark 59 = .ok (.iconst 3, 1) := by decide +kernel
theorem dX9_easyMark_60 : decode cX9_easyMark 60 = .ok (.if_icmp .ne 11, 3) := by decide +kernel
theorem dX9_easyMark_63 : decode cX9_easyMark 63 = .ok (.iload_n 3, 1) := by decide +kernel
theorem dX9_easyMark_64 : decode cX9_easyMark 64 = .ok (.sipush 1000, 3) := by decide +kernel
theorem dX9_easyMark_67 : decode cX9_easyMark 67 = .ok (.isub, 1) := by decide +kernel
theorem dX9_easyMark_68 : decode cX9_easyMark 68 = .ok (.goto 4, 3) := by decide +kernel
theorem dX9_easyMark_71 : decode cX9_easyMark 71 = .ok (.iload_n 3, 1) := by decide +kernel
theorem dX9_easyMark_72 : decode cX9_easyMark 72 = .ok (.ireturn, 1) := by decide +kernel
theorem dX9_proofSize_0 : decode cX9_proofSize 0 = .ok (.aload_n 0, 1) := by decide +kernel
theorem dX9_proofSize_1 : decode cX9_proofSize 1 = .ok (.iload_n 1, 1) := by decide +kernel
theorem dX9_proofSize_2 : decode cX9_proofSize 2 = .ok (.invokevirtual 231, 3) := by decide +kernel
theorem dX9_proofSize_5 : decode cX9_proofSize 5 = .ok (.iconst 5, 1) := by decide +kernel
theorem dX9_proofSize_6 : decode cX9_proofSize 6 = .ok (.if_icmp .ne 7, 3) := by decide +kernel
theorem dX9_proofSize_9 : decode cX9_proofSize 9 = .ok (.iconst 1, 1) := by decide +kernel
theorem dX9_proofSize_10 : decode cX9_proofSize 10 = .ok (.goto 4, 3) := by decide +kernel
theorem dX9_proofSize_13 : decode cX9_proofSize 13 = .ok (.iconst 0, 1) := by decide +kernel
theorem dX9_proofSize_14 : decode cX9_proofSize 14 = .ok (.istore_n 2, 1) := by decide +kernel
theorem dX9_proofSize_15 : decode cX9_proofSize 15 = .ok (.iload_n 2, 1) := by decide +kernel
theorem dX9_proofSize_16 : decode cX9_proofSize 16 = .ok (.ifCond .eq 9, 3) := by decide +kernel
theorem dX9_proofSize_19 : decode cX9_proofSize 19 = .ok (.aload_n 0, 1) := by decide +kernel
theorem dX9_proofSize_20 : decode cX9_proofSize 20 = .ok (.bipush 14, 2) := by decide +kernel
theorem dX9_proofSize_22 : decode cX9_proofSize 22 = .ok (.invokevirtual 237, 3) := by decide +kernel
theorem dX9_proofSize_25 : decode cX9_proofSize 25 = .ok (.aload_n 0, 1) := by decide +kernel
theorem dX9_proofSize_26 : decode cX9_proofSize 26 = .ok (.bipush 13, 2) := by decide +kernel
theorem dX9_proofSize_28 : decode cX9_proofSize 28 = .ok (.invokevirtual 237, 3) := by decide +kernel
theorem dX9_proofSize_31 : decode cX9_proofSize 31 = .ok (.aload_n 0, 1) := by decide +kernel
theorem dX9_proofSize_32 : decode cX9_proofSize 32 = .ok (.bipush 10, 2) := by decide +kernel
theorem dX9_proofSize_34 : decode cX9_proofSize 34 = .ok (.invokevirtual 237, 3) := by decide +kernel
theorem dX9_proofSize_37 : decode cX9_proofSize 37 = .ok (.aload_n 0, 1) := by decide +kernel
theorem dX9_proofSize_38 : decode cX9_proofSize 38 = .ok (.getfield 25, 3) := by decide +kernel
theorem dX9_proofSize_41 : decode cX9_proofSize 41 = .ok (.iconst 4, 1) := by decide +kernel
theorem dX9_proofSize_42 : decode cX9_proofSize 42 = .ok (.iconst 3, 1) := by decide +kernel
theorem dX9_proofSize_43 : decode cX9_proofSize 43 = .ok (.iload_n 1, 1) := by decide +kernel
theorem dX9_proofSize_44 : decode cX9_proofSize 44 = .ok (.imul, 1) := by decide +kernel
theorem dX9_proofSize_45 : decode cX9_proofSize 45 = .ok (.iadd, 1) := by decide +kernel
theorem dX9_proofSize_46 : decode cX9_proofSize 46 = .ok (.iconst 1, 1) := by decide +kernel
theorem dX9_proofSize_47 : decode cX9_proofSize 47 = .ok (.iadd, 1) := by decide +kernel
theorem dX9_proofSize_48 : decode cX9_proofSize 48 = .ok (.iaload, 1) := by decide +kernel
theorem dX9_proofSize_49 : decode cX9_proofSize 49 = .ok (.bipush 100, 2) := by decide +kernel
theorem dX9_proofSize_51 : decode cX9_proofSize 51 = .ok (.isub, 1) := by decide +kernel
theorem dX9_proofSize_52 : decode cX9_proofSize 52 = .ok (.istore_n 3, 1) := by decide +kernel
theorem dX9_proofSize_53 : decode cX9_proofSize 53 = .ok (.iload_n 2, 1) := by decide +kernel
theorem dX9_proofSize_54 : decode cX9_proofSize 54 = .ok (.ifCond .eq 9, 3) := by decide +kernel
theorem dX9_proofSize_57 : decode cX9_proofSize 57 = .ok (.iconst 2, 1) := by decide +kernel
theorem dX9_proofSize_58 : decode cX9_proofSize 58 = .ok (.iload_n 3, 1) := by decide +kernel
theorem dX9_proofSize_59 : decode cX9_proofSize 59 = .ok (.imul, 1) := by decide +kernel
theorem dX9_proofSize_60 : decode cX9_proofSize 60 = .ok (.goto 4, 3) := by decide +kernel
theorem dX9_proofSize_63 : decode cX9_proofSize 63 = .ok (.iload_n 3, 1) := by decide +kernel
theorem dX9_proofSize_64 : decode cX9_proofSize 64 = .ok (.ireturn, 1) := by decide +kernel
theorem dX9_easySize_0 : decode cX9_easySize 0 = .ok (.aload_n 0, 1) := by decide +kernel
theorem dX9_easySize_1 : decode cX9_easySize 1 = .ok (.iload_n 1, 1) := by decide +kernel
theorem dX9_easySize_2 : decode cX9_easySize 2 = .ok (.invokevirtual 231, 3) := by decide +kernel
theorem dX9_easySize_5 : decode cX9_easySize 5 = .ok (.iconst 2, 1) := by decide +kernel
theorem dX9_easySize_6 : decode cX9_easySize 6 = .ok (.if_icmp .ne 7, 3) := by decide +kernel
theorem dX9_easySize_9 : decode cX9_easySize 9 = .ok (.iconst 1, 1) := by decide +kernel
theorem dX9_easySize_10 : decode cX9_easySize 10 = .ok (.goto 4, 3) := by decide +kernel
theorem dX9_easySize_13 : decode cX9_easySize 13 = .ok (.iconst 0, 1) := by decide +kernel
theorem dX9_easySize_14 : decode cX9_easySize 14 = .ok (.istore_n 2, 1) := by decide +kernel
theorem dX9_easySize_15 : decode cX9_easySize 15 = .ok (.iload_n 2, 1) := by decide +kernel
theorem dX9_easySize_16 : decode cX9_easySize 16 = .ok (.ifCond .eq 9, 3) := by decide +kernel
theorem dX9_easySize_19 : decode cX9_easySize 19 = .ok (.aload_n 0, 1) := by decide +kernel
theorem dX9_easySize_20 : decode cX9_easySize 20 = .ok (.bipush 12, 2) := by decide +kernel
theorem dX9_easySize_22 : decode cX9_easySize 22 = .ok (.invokevirtual 237, 3) := by decide +kernel
theorem dX9_easySize_25 : decode cX9_easySize 25 = .ok (.aload_n 0, 1) := by decide +kernel
theorem dX9_easySize_26 : decode cX9_easySize 26 = .ok (.bipush 11, 2) := by decide +kernel
theorem dX9_easySize_28 : decode cX9_easySize 28 = .ok (.invokevirtual 237, 3) := by decide +kernel
theorem dX9_easySize_31 : decode cX9_easySize 31 = .ok (.aload_n 0, 1) := by decide +kernel
theorem dX9_easySize_32 : decode cX9_easySize 32 = .ok (.bipush 10, 2) := by decide +kernel
theorem dX9_easySize_34 : decode cX9_easySize 34 = .ok (.invokevirtual 237, 3) := by decide +kernel
theorem dX9_easySize_37 : decode cX9_easySize 37 = .ok (.aload_n 0, 1) := by decide +kernel
theorem dX9_easySize_38 : decode cX9_easySize 38 = .ok (.getfield 25, 3) := by decide +kernel
theorem dX9_easySize_41 : decode cX9_easySize 41 = .ok (.iconst 4, 1) := by decide +kernel
theorem dX9_easySize_42 : decode cX9_easySize 42 = .ok (.iconst 3, 1) := by decide +kernel
theorem dX9_easySize_43 : decode cX9_easySize 43 = .ok (.iload_n 1, 1) := by decide +kernel
theorem dX9_easySize_44 : decode cX9_easySize 44 = .ok (.imul, 1) := by decide +kernel
theorem dX9_easySize_45 : decode cX9_easySize 45 = .ok (.iadd, 1) := by decide +kernel
theorem dX9_easySize_46 : decode cX9_easySize 46 = .ok (.iconst 1, 1) := by decide +kernel
theorem dX9_easySize_47 : decode cX9_easySize 47 = .ok (.iadd, 1) := by decide +kernel
theorem dX9_easySize_48 : decode cX9_easySize 48 = .ok (.iaload, 1) := by decide +kernel
theorem dX9_easySize_49 : decode cX9_easySize 49 = .ok (.aload_n 0, 1) := by decide +kernel
theorem dX9_easySize_50 : decode cX9_easySize 50 = .ok (.iload_n 1, 1) := by decide +kernel
theorem dX9_easySize_51 : decode cX9_easySize 51 = .ok (.invokevirtual 240, 3) := by decide +kernel
theorem dX9_easySize_54 : decode cX9_easySize 54 = .ok (.iadd, 1) := by decide +kernel
theorem dX9_easySize_55 : decode cX9_easySize 55 = .ok (.istore_n 3, 1) := by decide +kernel
theorem dX9_easySize_56 : decode cX9_easySize 56 = .ok (.iload_n 2, 1) := by decide +kernel
theorem dX9_easySize_57 : decode cX9_easySize 57 = .ok (.ifCond .eq 8, 3) := by decide +kernel
theorem dX9_easySize_60 : decode cX9_easySize 60 = .ok (.iload_n 3, 1) := by decide +kernel
theorem dX9_easySize_61 : decode cX9_easySize 61 = .ok (.ineg, 1) := by decide +kernel
theorem dX9_easySize_62 : decode cX9_easySize 62 = .ok (.goto 4, 3) := by decide +kernel
theorem dX9_easySize_65 : decode cX9_easySize 65 = .ok (.iload_n 3, 1) := by decide +kernel
theorem dX9_easySize_66 : decode cX9_easySize 66 = .ok (.ireturn, 1) := by decide +kernel
theorem dX9_proofMark_0 : decode cX9_proofMark 0 = .ok (.aload_n 0, 1) := by decide +kernel
theorem dX9_proofMark_1 : decode cX9_proofMark 1 = .ok (.bipush 23, 2) := by decide +kernel
theorem dX9_proofMark_3 : decode cX9_proofMark 3 = .ok (.invokevirtual 237, 3) := by decide +kernel
theorem dX9_proofMark_6 : decode cX9_proofMark 6 = .ok (.aload_n 0, 1) := by decide +kernel
theorem dX9_proofMark_7 : decode cX9_proofMark 7 = .ok (.bipush 20, 2) := by decide +kernel
theorem dX9_proofMark_9 : decode cX9_proofMark 9 = .ok (.invokevirtual 237, 3) := by decide +kernel
theorem dX9_proofMark_12 : decode cX9_proofMark 12 = .ok (.iload_n 1, 1) := by decide +kernel
theorem dX9_proofMark_13 : decode cX9_proofMark 13 = .ok (.aload_n 0, 1) := by decide +kernel
theorem dX9_proofMark_14 : decode cX9_proofMark 14 = .ok (.iload_n 1, 1) := by decide +kernel
theorem dX9_proofMark_15 : decode cX9_proofMark 15 = .ok (.invokevirtual 243, 3) := by decide +kernel
theorem dX9_proofMark_18 : decode cX9_proofMark 18 = .ok (.isub, 1) := by decide +kernel
theorem dX9_proofMark_19 : decode cX9_proofMark 19 = .ok (.ireturn, 1) := by decide +kernel
theorem dX9_ask_0 : decode cX9_ask 0 = .ok (.aload_n 0, 1) := by decide +kernel
theorem dX9_ask_1 : decode cX9_ask 1 = .ok (.iload_n 1, 1) := by decide +kernel
theorem dX9_ask_2 : decode cX9_ask 2 = .ok (.invokevirtual 166, 3) := by decide +kernel
theorem dX9_ask_5 : decode cX9_ask 5 = .ok (.ifCond .eq 12, 3) := by decide +kernel
theorem dX9_ask_8 : decode cX9_ask 8 = .ok (.iload_n 2, 1) := by decide +kernel
theorem dX9_ask_9 : decode cX9_ask 9 = .ok (.iconst 0, 1) := by decide +kernel
theorem dX9_ask_10 : decode cX9_ask 10 = .ok (.iconst 1, 1) := by decide +kernel
theorem dX9_ask_11 : decode cX9_ask 11 = .ok (.invokestatic 59, 3) := by decide +kernel
theorem dX9_ask_14 : decode cX9_ask 14 = .ok (.ifCond .ne 6, 3) := by decide +kernel
theorem dX9_ask_17 : decode cX9_ask 17 = .ok (.ldc 67, 2) := by decide +kernel
theorem dX9_ask_19 : decode cX9_ask 19 = .ok (.ireturn, 1) := by decide +kernel
theorem dX9_ask_20 : decode cX9_ask 20 = .ok (.aload_n 0, 1) := by decide +kernel
theorem dX9_ask_21 : decode cX9_ask 21 = .ok (.iconst 0, 1) := by decide +kernel
theorem dX9_ask_22 : decode cX9_ask 22 = .ok (.putfield 234, 3) := by decide +kernel
theorem dX9_ask_25 : decode cX9_ask 25 = .ok (.aload_n 0, 1) := by decide +kernel
theorem dX9_ask_26 : decode cX9_ask 26 = .ok (.iload_n 1, 1) := by decide +kernel
theorem dX9_ask_27 : decode cX9_ask 27 = .ok (.invokevirtual 231, 3) := by decide +kernel
theorem dX9_ask_30 : decode cX9_ask 30 = .ok (.iconst 4, 1) := by decide +kernel
theorem dX9_ask_31 : decode cX9_ask 31 = .ok (.if_icmp .lt 7, 3) := by decide +kernel
theorem dX9_ask_34 : decode cX9_ask 34 = .ok (.iconst 1, 1) := by decide +kernel
theorem dX9_ask_35 : decode cX9_ask 35 = .ok (.goto 4, 3) := by decide +kernel
theorem dX9_ask_38 : decode cX9_ask 38 = .ok (.iconst 0, 1) := by decide +kernel
theorem dX9_ask_39 : decode cX9_ask 39 = .ok (.istore_n 3, 1) := by decide +kernel
theorem dX9_ask_40 : decode cX9_ask 40 = .ok (.iload_n 2, 1) := by decide +kernel
theorem dX9_ask_41 : decode cX9_ask 41 = .ok (.ifCond .ne 21, 3) := by decide +kernel
theorem dX9_ask_44 : decode cX9_ask 44 = .ok (.iload_n 3, 1) := by decide +kernel
theorem dX9_ask_45 : decode cX9_ask 45 = .ok (.ifCond .eq 11, 3) := by decide +kernel
theorem dX9_ask_48 : decode cX9_ask 48 = .ok (.aload_n 0, 1) := by decide +kernel
theorem dX9_ask_49 : decode cX9_ask 49 = .ok (.iload_n 1, 1) := by decide +kernel
theorem dX9_ask_50 : decode cX9_ask 50 = .ok (.invokevirtual 243, 3) := by decide +kernel
theorem dX9_ask_53 : decode cX9_ask 53 = .ok (.goto 8, 3) := by decide +kernel
theorem dX9_ask_56 : decode cX9_ask 56 = .ok (.aload_n 0, 1) := by decide +kernel
theorem dX9_ask_57 : decode cX9_ask 57 = .ok (.iload_n 1, 1) := by decide +kernel
theorem dX9_ask_58 : decode cX9_ask 58 = .ok (.invokevirtual 246, 3) := by decide +kernel
theorem dX9_ask_61 : decode cX9_ask 61 = .ok (.ireturn, 1) := by decide +kernel
theorem dX9_ask_62 : decode cX9_ask 62 = .ok (.iload_n 3, 1) := by decide +kernel
theorem dX9_ask_63 : decode cX9_ask 63 = .ok (.ifCond .eq 11, 3) := by decide +kernel
theorem dX9_ask_66 : decode cX9_ask 66 = .ok (.aload_n 0, 1) := by decide +kernel
theorem dX9_ask_67 : decode cX9_ask 67 = .ok (.iload_n 1, 1) := by decide +kernel
theorem dX9_ask_68 : decode cX9_ask 68 = .ok (.invokevirtual 249, 3) := by decide +kernel
theorem dX9_ask_71 : decode cX9_ask 71 = .ok (.goto 8, 3) := by decide +kernel
theorem dX9_ask_74 : decode cX9_ask 74 = .ok (.aload_n 0, 1) := by decide +kernel
theorem dX9_ask_75 : decode cX9_ask 75 = .ok (.iload_n 1, 1) := by decide +kernel
theorem dX9_ask_76 : decode cX9_ask 76 = .ok (.invokevirtual 240, 3) := by decide +kernel
theorem dX9_ask_79 : decode cX9_ask 79 = .ok (.ireturn, 1) := by decide +kernel
theorem dX9_trace_0 : decode cX9_trace 0 = .ok (.iload_n 1, 1) := by decide +kernel
theorem dX9_trace_1 : decode cX9_trace 1 = .ok (.iconst 0, 1) := by decide +kernel
theorem dX9_trace_2 : decode cX9_trace 2 = .ok (.aload_n 0, 1) := by decide +kernel
theorem dX9_trace_3 : decode cX9_trace 3 = .ok (.getfield 234, 3) := by decide +kernel
theorem dX9_trace_6 : decode cX9_trace 6 = .ok (.iconst 1, 1) := by decide +kernel
theorem dX9_trace_7 : decode cX9_trace 7 = .ok (.isub, 1) := by decide +kernel
theorem dX9_trace_8 : decode cX9_trace 8 = .ok (.invokestatic 59, 3) := by decide +kernel
theorem dX9_trace_11 : decode cX9_trace 11 = .ok (.ifCond .eq 12, 3) := by decide +kernel
theorem dX9_trace_14 : decode cX9_trace 14 = .ok (.aload_n 0, 1) := by decide +kernel
theorem dX9_trace_15 : decode cX9_trace 15 = .ok (.getfield 41, 3) := by decide +kernel
theorem dX9_trace_18 : decode cX9_trace 18 = .ok (.iload_n 1, 1) := by decide +kernel
theorem dX9_trace_19 : decode cX9_trace 19 = .ok (.iaload, 1) := by decide +kernel
theorem dX9_trace_20 : decode cX9_trace 20 = .ok (.goto 5, 3) := by decide +kernel
theorem dX9_trace_23 : decode cX9_trace 23 = .ok (.ldc 53, 2) := by decide +kernel
theorem dX9_trace_25 : decode cX9_trace 25 = .ok (.ireturn, 1) := by decide +kernel
theorem dX9_count_0 : decode cX9_count 0 = .ok (.iconst 0, 1) := by decide +kernel
theorem dX9_count_1 : decode cX9_count 1 = .ok (.istore_n 2, 1) := by decide +kernel
theorem dX9_count_2 : decode cX9_count 2 = .ok (.iload_n 1, 1) := by decide +kernel
theorem dX9_count_3 : decode cX9_count 3 = .ok (.tableswitch 111 0 6 #[41, 73, 80, 87, 94, 101, 106], 41) := by decide +kernel
theorem dX9_count_44 : decode cX9_count 44 = .ok (.iconst 0, 1) := by decide +kernel
theorem dX9_count_45 : decode cX9_count 45 = .ok (.istore_n 3, 1) := by decide +kernel
theorem dX9_count_46 : decode cX9_count 46 = .ok (.iload_n 3, 1) := by decide +kernel
theorem dX9_count_47 : decode cX9_count 47 = .ok (.bipush 8, 2) := by decide +kernel
theorem dX9_count_49 : decode cX9_count 49 = .ok (.if_icmp .ge 25, 3) := by decide +kernel
theorem dX9_count_52 : decode cX9_count 52 = .ok (.iload_n 2, 1) := by decide +kernel
theorem dX9_count_53 : decode cX9_count 53 = .ok (.aload_n 0, 1) := by decide +kernel
theorem dX9_count_54 : decode cX9_count 54 = .ok (.iload_n 3, 1) := by decide +kernel
theorem dX9_count_55 : decode cX9_count 55 = .ok (.invokevirtual 75, 3) := by decide +kernel
theorem dX9_count_58 : decode cX9_count 58 = .ok (.ifCond .eq 7, 3) := by decide +kernel
theorem dX9_count_61 : decode cX9_count 61 = .ok (.iconst 0, 1) := by decide +kernel
theorem dX9_count_62 : decode cX9_count 62 = .ok (.goto 4, 3) := by decide +kernel
theorem dX9_count_65 : decode cX9_count 65 = .ok (.iconst 1, 1) := by decide +kernel
theorem dX9_count_66 : decode cX9_count 66 = .ok (.iadd, 1) := by decide +kernel
theorem dX9_count_67 : decode cX9_count 67 = .ok (.istore_n 2, 1) := by decide +kernel
theorem dX9_count_68 : decode cX9_count 68 = .ok (.iinc 3 1, 3) := by decide +kernel
theorem dX9_count_71 : decode cX9_count 71 = .ok (.goto (-25), 3) := by decide +kernel
theorem dX9_count_74 : decode cX9_count 74 = .ok (.iload_n 2, 1) := by decide +kernel
theorem dX9_count_75 : decode cX9_count 75 = .ok (.ireturn, 1) := by decide +kernel
theorem dX9_count_76 : decode cX9_count 76 = .ok (.aload_n 0, 1) := by decide +kernel
theorem dX9_count_77 : decode cX9_count 77 = .ok (.getfield 25, 3) := by decide +kernel
theorem dX9_count_80 : decode cX9_count 80 = .ok (.iconst 2, 1) := by decide +kernel
theorem dX9_count_81 : decode cX9_count 81 = .ok (.iaload, 1) := by decide +kernel
theorem dX9_count_82 : decode cX9_count 82 = .ok (.ireturn, 1) := by decide +kernel
theorem dX9_count_83 : decode cX9_count 83 = .ok (.aload_n 0, 1) := by decide +kernel
theorem dX9_count_84 : decode cX9_count 84 = .ok (.getfield 25, 3) := by decide +kernel
theorem dX9_count_87 : decode cX9_count 87 = .ok (.iconst 3, 1) := by decide +kernel
theorem dX9_count_88 : decode cX9_count 88 = .ok (.iaload, 1) := by decide +kernel
theorem dX9_count_89 : decode cX9_count 89 = .ok (.ireturn, 1) := by decide +kernel
theorem dX9_count_90 : decode cX9_count 90 = .ok (.aload_n 0, 1) := by decide +kernel
theorem dX9_count_91 : decode cX9_count 91 = .ok (.getfield 25, 3) := by decide +kernel
theorem dX9_count_94 : decode cX9_count 94 = .ok (.iconst 0, 1) := by decide +kernel
theorem dX9_count_95 : decode cX9_count 95 = .ok (.iaload, 1) := by decide +kernel
theorem dX9_count_96 : decode cX9_count 96 = .ok (.ireturn, 1) := by decide +kernel
theorem dX9_count_97 : decode cX9_count 97 = .ok (.aload_n 0, 1) := by decide +kernel
theorem dX9_count_98 : decode cX9_count 98 = .ok (.getfield 25, 3) := by decide +kernel
theorem dX9_count_101 : decode cX9_count 101 = .ok (.iconst 1, 1) := by decide +kernel
theorem dX9_count_102 : decode cX9_count 102 = .ok (.iaload, 1) := by decide +kernel
theorem dX9_count_103 : decode cX9_count 103 = .ok (.ireturn, 1) := by decide +kernel
theorem dX9_count_104 : decode cX9_count 104 = .ok (.aload_n 0, 1) := by decide +kernel
theorem dX9_count_105 : decode cX9_count 105 = .ok (.getfield 141, 3) := by decide +kernel
theorem dX9_count_108 : decode cX9_count 108 = .ok (.ireturn, 1) := by decide +kernel
theorem dX9_count_109 : decode cX9_count 109 = .ok (.aload_n 0, 1) := by decide +kernel
theorem dX9_count_110 : decode cX9_count 110 = .ok (.getfield 85, 3) := by decide +kernel
theorem dX9_count_113 : decode cX9_count 113 = .ok (.ireturn, 1) := by decide +kernel
theorem dX9_count_114 : decode cX9_count 114 = .ok (.ldc 67, 2) := by decide +kernel
theorem dX9_count_116 : decode cX9_count 116 = .ok (.ireturn, 1) := by decide +kernel
theorem dX9_status_0 : decode cX9_status 0 = .ok (.aload_n 0, 1) := by decide +kernel
theorem dX9_status_1 : decode cX9_status 1 = .ok (.getfield 54, 3) := by decide +kernel
theorem dX9_status_4 : decode cX9_status 4 = .ok (.ireturn, 1) := by decide +kernel
theorem dJ6_bitCount_0f7a4_0 : decode cJ6_bitCount_0f7a4 0 = .ok (.iload_n 0, 1) := by decide +kernel
theorem dJ6_bitCount_0f7a4_1 : decode cJ6_bitCount_0f7a4 1 = .ok (.iload_n 0, 1) := by decide +kernel
theorem dJ6_bitCount_0f7a4_2 : decode cJ6_bitCount_0f7a4 2 = .ok (.iconst 1, 1) := by decide +kernel
theorem dJ6_bitCount_0f7a4_3 : decode cJ6_bitCount_0f7a4 3 = .ok (.iushr, 1) := by decide +kernel
theorem dJ6_bitCount_0f7a4_4 : decode cJ6_bitCount_0f7a4 4 = .ok (.ldc_w 265, 3) := by decide +kernel
theorem dJ6_bitCount_0f7a4_7 : decode cJ6_bitCount_0f7a4 7 = .ok (.iand, 1) := by decide +kernel
theorem dJ6_bitCount_0f7a4_8 : decode cJ6_bitCount_0f7a4 8 = .ok (.isub, 1) := by decide +kernel
theorem dJ6_bitCount_0f7a4_9 : decode cJ6_bitCount_0f7a4 9 = .ok (.istore_n 0, 1) := by decide +kernel
theorem dJ6_bitCount_0f7a4_10 : decode cJ6_bitCount_0f7a4 10 = .ok (.iload_n 0, 1) := by decide +kernel
theorem dJ6_bitCount_0f7a4_11 : decode cJ6_bitCount_0f7a4 11 = .ok (.ldc_w 266, 3) := by decide +kernel
theorem dJ6_bitCount_0f7a4_14 : decode cJ6_bitCount_0f7a4 14 = .ok (.iand, 1) := by decide +kernel
theorem dJ6_bitCount_0f7a4_15 : decode cJ6_bitCount_0f7a4 15 = .ok (.iload_n 0, 1) := by decide +kernel
theorem dJ6_bitCount_0f7a4_16 : decode cJ6_bitCount_0f7a4 16 = .ok (.iconst 2, 1) := by decide +kernel
theorem dJ6_bitCount_0f7a4_17 : decode cJ6_bitCount_0f7a4 17 = .ok (.iushr, 1) := by decide +kernel
theorem dJ6_bitCount_0f7a4_18 : decode cJ6_bitCount_0f7a4 18 = .ok (.ldc_w 266, 3) := by decide +kernel
theorem dJ6_bitCount_0f7a4_21 : decode cJ6_bitCount_0f7a4 21 = .ok (.iand, 1) := by decide +kernel
theorem dJ6_bitCount_0f7a4_22 : decode cJ6_bitCount_0f7a4 22 = .ok (.iadd, 1) := by decide +kernel
theorem dJ6_bitCount_0f7a4_23 : decode cJ6_bitCount_0f7a4 23 = .ok (.istore_n 0, 1) := by decide +kernel
theorem dJ6_bitCount_0f7a4_24 : decode cJ6_bitCount_0f7a4 24 = .ok (.iload_n 0, 1) := by decide +kernel
theorem dJ6_bitCount_0f7a4_25 : decode cJ6_bitCount_0f7a4 25 = .ok (.iload_n 0, 1) := by decide +kernel
theorem dJ6_bitCount_0f7a4_26 : decode cJ6_bitCount_0f7a4 26 = .ok (.iconst 4, 1) := by decide +kernel
theorem dJ6_bitCount_0f7a4_27 : decode cJ6_bitCount_0f7a4 27 = .ok (.iushr, 1) := by decide +kernel
theorem dJ6_bitCount_0f7a4_28 : decode cJ6_bitCount_0f7a4 28 = .ok (.iadd, 1) := by decide +kernel
theorem dJ6_bitCount_0f7a4_29 : decode cJ6_bitCount_0f7a4 29 = .ok (.ldc_w 267, 3) := by decide +kernel
theorem dJ6_bitCount_0f7a4_32 : decode cJ6_bitCount_0f7a4 32 = .ok (.iand, 1) := by decide +kernel
theorem dJ6_bitCount_0f7a4_33 : decode cJ6_bitCount_0f7a4 33 = .ok (.istore_n 0, 1) := by decide +kernel
theorem dJ6_bitCount_0f7a4_34 : decode cJ6_bitCount_0f7a4 34 = .ok (.iload_n 0, 1) := by decide +kernel
theorem dJ6_bitCount_0f7a4_35 : decode cJ6_bitCount_0f7a4 35 = .ok (.iload_n 0, 1) := by decide +kernel
theorem dJ6_bitCount_0f7a4_36 : decode cJ6_bitCount_0f7a4 36 = .ok (.bipush 8, 2) := by decide +kernel
theorem dJ6_bitCount_0f7a4_38 : decode cJ6_bitCount_0f7a4 38 = .ok (.iushr, 1) := by decide +kernel
theorem dJ6_bitCount_0f7a4_39 : decode cJ6_bitCount_0f7a4 39 = .ok (.iadd, 1) := by decide +kernel
theorem dJ6_bitCount_0f7a4_40 : decode cJ6_bitCount_0f7a4 40 = .ok (.istore_n 0, 1) := by decide +kernel
theorem dJ6_bitCount_0f7a4_41 : decode cJ6_bitCount_0f7a4 41 = .ok (.iload_n 0, 1) := by decide +kernel
theorem dJ6_bitCount_0f7a4_42 : decode cJ6_bitCount_0f7a4 42 = .ok (.iload_n 0, 1) := by decide +kernel
theorem dJ6_bitCount_0f7a4_43 : decode cJ6_bitCount_0f7a4 43 = .ok (.bipush 16, 2) := by decide +kernel
theorem dJ6_bitCount_0f7a4_45 : decode cJ6_bitCount_0f7a4 45 = .ok (.iushr, 1) := by decide +kernel
theorem dJ6_bitCount_0f7a4_46 : decode cJ6_bitCount_0f7a4 46 = .ok (.iadd, 1) := by decide +kernel
theorem dJ6_bitCount_0f7a4_47 : decode cJ6_bitCount_0f7a4 47 = .ok (.istore_n 0, 1) := by decide +kernel
theorem dJ6_bitCount_0f7a4_48 : decode cJ6_bitCount_0f7a4 48 = .ok (.iload_n 0, 1) := by decide +kernel
theorem dJ6_bitCount_0f7a4_49 : decode cJ6_bitCount_0f7a4 49 = .ok (.bipush 63, 2) := by decide +kernel
theorem dJ6_bitCount_0f7a4_51 : decode cJ6_bitCount_0f7a4 51 = .ok (.iand, 1) := by decide +kernel
theorem dJ6_bitCount_0f7a4_52 : decode cJ6_bitCount_0f7a4 52 = .ok (.ireturn, 1) := by decide +kernel
theorem dJ9_max_7cf53_0 : decode cJ9_max_7cf53 0 = .ok (.iload_n 0, 1) := by decide +kernel
theorem dJ9_max_7cf53_1 : decode cJ9_max_7cf53 1 = .ok (.iload_n 1, 1) := by decide +kernel
theorem dJ9_max_7cf53_2 : decode cJ9_max_7cf53 2 = .ok (.if_icmp .lt 7, 3) := by decide +kernel
theorem dJ9_max_7cf53_5 : decode cJ9_max_7cf53 5 = .ok (.iload_n 0, 1) := by decide +kernel
theorem dJ9_max_7cf53_6 : decode cJ9_max_7cf53 6 = .ok (.goto 4, 3) := by decide +kernel
theorem dJ9_max_7cf53_9 : decode cJ9_max_7cf53 9 = .ok (.iload_n 1, 1) := by decide +kernel
theorem dJ9_max_7cf53_10 : decode cJ9_max_7cf53 10 = .ok (.ireturn, 1) := by decide +kernel
theorem dJ9_min_7cf53_0 : decode cJ9_min_7cf53 0 = .ok (.iload_n 0, 1) := by decide +kernel
theorem dJ9_min_7cf53_1 : decode cJ9_min_7cf53 1 = .ok (.iload_n 1, 1) := by decide +kernel
theorem dJ9_min_7cf53_2 : decode cJ9_min_7cf53 2 = .ok (.if_icmp .gt 7, 3) := by decide +kernel
theorem dJ9_min_7cf53_5 : decode cJ9_min_7cf53 5 = .ok (.iload_n 0, 1) := by decide +kernel
theorem dJ9_min_7cf53_6 : decode cJ9_min_7cf53 6 = .ok (.goto 4, 3) := by decide +kernel
theorem dJ9_min_7cf53_9 : decode cJ9_min_7cf53 9 = .ok (.iload_n 1, 1) := by decide +kernel
theorem dJ9_min_7cf53_10 : decode cJ9_min_7cf53 10 = .ok (.ireturn, 1) := by decide +kernel
theorem dL_law_0 : decode cL_law 0 = .ok (.new 7, 3) := by decide +kernel
theorem dL_law_3 : decode cL_law 3 = .ok (.dup, 1) := by decide +kernel
theorem dL_law_4 : decode cL_law 4 = .ok (.invokespecial 9, 3) := by decide +kernel
theorem dL_law_7 : decode cL_law 7 = .ok (.astore_n 1, 1) := by decide +kernel
theorem dL_law_8 : decode cL_law 8 = .ok (.new 10, 3) := by decide +kernel
theorem dL_law_11 : decode cL_law 11 = .ok (.dup, 1) := by decide +kernel
theorem dL_law_12 : decode cL_law 12 = .ok (.invokespecial 12, 3) := by decide +kernel
theorem dL_law_15 : decode cL_law 15 = .ok (.astore_n 2, 1) := by decide +kernel
theorem dL_law_16 : decode cL_law 16 = .ok (.iconst 0, 1) := by decide +kernel
theorem dL_law_17 : decode cL_law 17 = .ok (.istore_n 3, 1) := by decide +kernel
theorem dL_law_18 : decode cL_law 18 = .ok (.iload_n 3, 1) := by decide +kernel
theorem dL_law_19 : decode cL_law 19 = .ok (.aload_n 0, 1) := by decide +kernel
theorem dL_law_20 : decode cL_law 20 = .ok (.arraylength, 1) := by decide +kernel
theorem dL_law_21 : decode cL_law 21 = .ok (.bipush 8, 2) := by decide +kernel
theorem dL_law_23 : decode cL_law 23 = .ok (.isub, 1) := by decide +kernel
theorem dL_law_24 : decode cL_law 24 = .ok (.if_icmp .gt 1218, 3) := by decide +kernel
theorem dL_law_27 : decode cL_law 27 = .ok (.aload_n 0, 1) := by decide +kernel
theorem dL_law_28 : decode cL_law 28 = .ok (.iload_n 3, 1) := by decide +kernel
theorem dL_law_29 : decode cL_law 29 = .ok (.iaload, 1) := by decide +kernel
theorem dL_law_30 : decode cL_law 30 = .ok (.bipush 31, 2) := by decide +kernel
theorem dL_law_32 : decode cL_law 32 = .ok (.iand, 1) := by decide +kernel
theorem dL_law_33 : decode cL_law 33 = .ok (.tableswitch 1203 0 31 #[143, 186, 229, 292, 315, 338, 351, 364, 397, 420, 453, 466, 499, 532, 565, 588, 631, 674, 697, 730, 763, 826, 879, 922, 1009, 1032, 1055, 1078, 1111, 1144, 1167, 1190], 143) := by decide +kernel
theorem dL_law_176 : decode cL_law 176 = .ok (.aload_n 1, 1) := by decide +kernel
theorem dL_law_177 : decode cL_law 177 = .ok (.aload_n 0, 1) := by decide +kernel
theorem dL_law_178 : decode cL_law 178 = .ok (.iload_n 3, 1) := by decide +kernel
theorem dL_law_179 : decode cL_law 179 = .ok (.iconst 1, 1) := by decide +kernel
theorem dL_law_180 : decode cL_law 180 = .ok (.iadd, 1) := by decide +kernel
theorem dL_law_181 : decode cL_law 181 = .ok (.iaload, 1) := by decide +kernel
theorem dL_law_182 : decode cL_law 182 = .ok (.aload_n 0, 1) := by decide +kernel
theorem dL_law_183 : decode cL_law 183 = .ok (.iload_n 3, 1) := by decide +kernel
theorem dL_law_184 : decode cL_law 184 = .ok (.iconst 2, 1) := by decide +kernel
theorem dL_law_185 : decode cL_law 185 = .ok (.iadd, 1) := by decide +kernel
theorem dL_law_186 : decode cL_law 186 = .ok (.iaload, 1) := by decide +kernel
theorem dL_law_187 : decode cL_law 187 = .ok (.aload_n 0, 1) := by decide +kernel
theorem dL_law_188 : decode cL_law 188 = .ok (.iload_n 3, 1) := by decide +kernel
theorem dL_law_189 : decode cL_law 189 = .ok (.iconst 3, 1) := by decide +kernel
theorem dL_law_190 : decode cL_law 190 = .ok (.iadd, 1) := by decide +kernel
theorem dL_law_191 : decode cL_law 191 = .ok (.iaload, 1) := by decide +kernel
theorem dL_law_192 : decode cL_law 192 = .ok (.invokevirtual 13, 3) := by decide +kernel
theorem dL_law_195 : decode cL_law 195 = .ok (.aload_n 2, 1) := by decide +kernel
theorem dL_law_196 : decode cL_law 196 = .ok (.aload_n 0, 1) := by decide +kernel
theorem dL_law_197 : decode cL_law 197 = .ok (.iload_n 3, 1) := by decide +kernel
theorem dL_law_198 : decode cL_law 198 = .ok (.iconst 1, 1) := by decide +kernel
theorem dL_law_199 : decode cL_law 199 = .ok (.iadd, 1) := by decide +kernel
theorem dL_law_200 : decode cL_law 200 = .ok (.iaload, 1) := by decide +kernel
theorem dL_law_201 : decode cL_law 201 = .ok (.aload_n 0, 1) := by decide +kernel
theorem dL_law_202 : decode cL_law 202 = .ok (.iload_n 3, 1) := by decide +kernel
theorem dL_law_203 : decode cL_law 203 = .ok (.iconst 2, 1) := by decide +kernel
theorem dL_law_204 : decode cL_law 204 = .ok (.iadd, 1) := by decide +kernel
theorem dL_law_205 : decode cL_law 205 = .ok (.iaload, 1) := by decide +kernel
theorem dL_law_206 : decode cL_law 206 = .ok (.aload_n 0, 1) := by decide +kernel
theorem dL_law_207 : decode cL_law 207 = .ok (.iload_n 3, 1) := by decide +kernel
theorem dL_law_208 : decode cL_law 208 = .ok (.iconst 3, 1) := by decide +kernel
theorem dL_law_209 : decode cL_law 209 = .ok (.iadd, 1) := by decide +kernel
theorem dL_law_210 : decode cL_law 210 = .ok (.iaload, 1) := by decide +kernel
theorem dL_law_211 : decode cL_law 211 = .ok (.invokevirtual 17, 3) := by decide +kernel
theorem dL_law_214 : decode cL_law 214 = .ok (.if_icmp .eq 1022, 3) := by decide +kernel
theorem dL_law_217 : decode cL_law 217 = .ok (.iconst 0, 1) := by decide +kernel
theorem dL_law_218 : decode cL_law 218 = .ok (.ireturn, 1) := by decide +kernel
theorem dL_law_219 : decode cL_law 219 = .ok (.aload_n 1, 1) := by decide +kernel
theorem dL_law_220 : decode cL_law 220 = .ok (.aload_n 0, 1) := by decide +kernel
theorem dL_law_221 : decode cL_law 221 = .ok (.iload_n 3, 1) := by decide +kernel
theorem dL_law_222 : decode cL_law 222 = .ok (.iconst 1, 1) := by decide +kernel
theorem dL_law_223 : decode cL_law 223 = .ok (.iadd, 1) := by decide +kernel
theorem dL_law_224 : decode cL_law 224 = .ok (.iaload, 1) := by decide +kernel
theorem dL_law_225 : decode cL_law 225 = .ok (.aload_n 0, 1) := by decide +kernel
theorem dL_law_226 : decode cL_law 226 = .ok (.iload_n 3, 1) := by decide +kernel
theorem dL_law_227 : decode cL_law 227 = .ok (.iconst 2, 1) := by decide +kernel
theorem dL_law_228 : decode cL_law 228 = .ok (.iadd, 1) := by decide +kernel
theorem dL_law_229 : decode cL_law 229 = .ok (.iaload, 1) := by decide +kernel
theorem dL_law_230 : decode cL_law 230 = .ok (.aload_n 0, 1) := by decide +kernel
theorem dL_law_231 : decode cL_law 231 = .ok (.iload_n 3, 1) := by decide +kernel
theorem dL_law_232 : decode cL_law 232 = .ok (.iconst 3, 1) := by decide +kernel
theorem dL_law_233 : decode cL_law 233 = .ok (.iadd, 1) := by decide +kernel
theorem dL_law_234 : decode cL_law 234 = .ok (.iaload, 1) := by decide +kernel
theorem dL_law_235 : decode cL_law 235 = .ok (.invokevirtual 18, 3) := by decide +kernel
theorem dL_law_238 : decode cL_law 238 = .ok (.aload_n 2, 1) := by decide +kernel
theorem dL_law_239 : decode cL_law 239 = .ok (.aload_n 0, 1) := by decide +kernel
theorem dL_law_240 : decode cL_law 240 = .ok (.iload_n 3, 1) := by decide +kernel
theorem dL_law_241 : decode cL_law 241 = .ok (.iconst 1, 1) := by decide +kernel
theorem dL_law_242 : decode cL_law 242 = .ok (.iadd, 1) := by decide +kernel
theorem dL_law_243 : decode cL_law 243 = .ok (.iaload, 1) := by decide +kernel
theorem dL_law_244 : decode cL_law 244 = .ok (.aload_n 0, 1) := by decide +kernel
theorem dL_law_245 : decode cL_law 245 = .ok (.iload_n 3, 1) := by decide +kernel
theorem dL_law_246 : decode cL_law 246 = .ok (.iconst 2, 1) := by decide +kernel
theorem dL_law_247 : decode cL_law 247 = .ok (.iadd, 1) := by decide +kernel
theorem dL_law_248 : decode cL_law 248 = .ok (.iaload, 1) := by decide +kernel
theorem dL_law_249 : decode cL_law 249 = .ok (.aload_n 0, 1) := by decide +kernel
theorem dL_law_250 : decode cL_law 250 = .ok (.iload_n 3, 1) := by decide +kernel
theorem dL_law_251 : decode cL_law 251 = .ok (.iconst 3, 1) := by decide +kernel
theorem dL_law_252 : decode cL_law 252 = .ok (.iadd, 1) := by decide +kernel
theorem dL_law_253 : decode cL_law 253 = .ok (.iaload, 1) := by decide +kernel
theorem dL_law_254 : decode cL_law 254 = .ok (.invokevirtual 21, 3) := by decide +kernel
theorem dL_law_257 : decode cL_law 257 = .ok (.if_icmp .eq 979, 3) := by decide +kernel
theorem dL_law_260 : decode cL_law 260 = .ok (.iconst 0, 1) := by decide +kernel
theorem dL_law_261 : decode cL_law 261 = .ok (.ireturn, 1) := by decide +kernel
theorem dL_law_262 : decode cL_law 262 = .ok (.aload_n 1, 1) := by decide +kernel
theorem dL_law_263 : decode cL_law 263 = .ok (.aload_n 0, 1) := by decide +kernel
theorem dL_law_264 : decode cL_law 264 = .ok (.iload_n 3, 1) := by decide +kernel
theorem dL_law_265 : decode cL_law 265 = .ok (.iconst 1, 1) := by decide +kernel
theorem dL_law_266 : decode cL_law 266 = .ok (.iadd, 1) := by decide +kernel
theorem dL_law_267 : decode cL_law 267 = .ok (.iaload, 1) := by decide +kernel
theorem dL_law_268 : decode cL_law 268 = .ok (.aload_n 0, 1) := by decide +kernel
theorem dL_law_269 : decode cL_law 269 = .ok (.iload_n 3, 1) := by decide +kernel
theorem dL_law_270 : decode cL_law 270 = .ok (.iconst 2, 1) := by decide +kernel
theorem dL_law_271 : decode cL_law 271 = .ok (.iadd, 1) := by decide +kernel
theorem dL_law_272 : decode cL_law 272 = .ok (.iaload, 1) := by decide +kernel
theorem dL_law_273 : decode cL_law 273 = .ok (.aload_n 0, 1) := by decide +kernel
theorem dL_law_274 : decode cL_law 274 = .ok (.iload_n 3, 1) := by decide +kernel
theorem dL_law_275 : decode cL_law 275 = .ok (.iconst 3, 1) := by decide +kernel
theorem dL_law_276 : decode cL_law 276 = .ok (.iadd, 1) := by decide +kernel
theorem dL_law_277 : decode cL_law 277 = .ok (.iaload, 1) := by decide +kernel
theorem dL_law_278 : decode cL_law 278 = .ok (.aload_n 0, 1) := by decide +kernel
theorem dL_law_279 : decode cL_law 279 = .ok (.iload_n 3, 1) := by decide +kernel
theorem dL_law_280 : decode cL_law 280 = .ok (.iconst 4, 1) := by decide +kernel
theorem dL_law_281 : decode cL_law 281 = .ok (.iadd, 1) := by decide +kernel
theorem dL_law_282 : decode cL_law 282 = .ok (.iaload, 1) := by decide +kernel
theorem dL_law_283 : decode cL_law 283 = .ok (.aload_n 0, 1) := by decide +kernel
theorem dL_law_284 : decode cL_law 284 = .ok (.iload_n 3, 1) := by decide +kernel
theorem dL_law_285 : decode cL_law 285 = .ok (.iconst 5, 1) := by decide +kernel
theorem dL_law_286 : decode cL_law 286 = .ok (.iadd, 1) := by decide +kernel
theorem dL_law_287 : decode cL_law 287 = .ok (.iaload, 1) := by decide +kernel
theorem dL_law_288 : decode cL_law 288 = .ok (.invokevirtual 22, 3) := by decide +kernel
theorem dL_law_291 : decode cL_law 291 = .ok (.aload_n 2, 1) := by decide +kernel
theorem dL_law_292 : decode cL_law 292 = .ok (.aload_n 0, 1) := by decide +kernel
theorem dL_law_293 : decode cL_law 293 = .ok (.iload_n 3, 1) := by decide +kernel
theorem dL_law_294 : decode cL_law 294 = .ok (.iconst 1, 1) := by decide +kernel
theorem dL_law_295 : decode cL_law 295 = .ok (.iadd, 1) := by decide +kernel
theorem dL_law_296 : decode cL_law 296 = .ok (.iaload, 1) := by decide +kernel
theorem dL_law_297 : decode cL_law 297 = .ok (.aload_n 0, 1) := by decide +kernel
theorem dL_law_298 : decode cL_law 298 = .ok (.iload_n 3, 1) := by decide +kernel
theorem dL_law_299 : decode cL_law 299 = .ok (.iconst 2, 1) := by decide +kernel
theorem dL_law_300 : decode cL_law 300 = .ok (.iadd, 1) := by decide +kernel
theorem dL_law_301 : decode cL_law 301 = .ok (.iaload, 1) := by decide +kernel
theorem dL_law_302 : decode cL_law 302 = .ok (.aload_n 0, 1) := by decide +kernel
theorem dL_law_303 : decode cL_law 303 = .ok (.iload_n 3, 1) := by decide +kernel
theorem dL_law_304 : decode cL_law 304 = .ok (.iconst 3, 1) := by decide +kernel
theorem dL_law_305 : decode cL_law 305 = .ok (.iadd, 1) := by decide +kernel
theorem dL_law_306 : decode cL_law 306 = .ok (.iaload, 1) := by decide +kernel
theorem dL_law_307 : decode cL_law 307 = .ok (.aload_n 0, 1) := by decide +kernel
theorem dL_law_308 : decode cL_law 308 = .ok (.iload_n 3, 1) := by decide +kernel
theorem dL_law_309 : decode cL_law 309 = .ok (.iconst 4, 1) := by decide +kernel
theorem dL_law_310 : decode cL_law 310 = .ok (.iadd, 1) := by decide +kernel
theorem dL_law_311 : decode cL_law 311 = .ok (.iaload, 1) := by decide +kernel
theorem dL_law_312 : decode cL_law 312 = .ok (.aload_n 0, 1) := by decide +kernel
theorem dL_law_313 : decode cL_law 313 = .ok (.iload_n 3, 1) := by decide +kernel
theorem dL_law_314 : decode cL_law 314 = .ok (.iconst 5, 1) := by decide +kernel
theorem dL_law_315 : decode cL_law 315 = .ok (.iadd, 1) := by decide +kernel
theorem dL_law_316 : decode cL_law 316 = .ok (.iaload, 1) := by decide +kernel
theorem dL_law_317 : decode cL_law 317 = .ok (.invokevirtual 26, 3) := by decide +kernel
theorem dL_law_320 : decode cL_law 320 = .ok (.if_icmp .eq 916, 3) := by decide +kernel
theorem dL_law_323 : decode cL_law 323 = .ok (.iconst 0, 1) := by decide +kernel
theorem dL_law_324 : decode cL_law 324 = .ok (.ireturn, 1) := by decide +kernel
theorem dL_law_325 : decode cL_law 325 = .ok (.aload_n 1, 1) := by decide +kernel
theorem dL_law_326 : decode cL_law 326 = .ok (.aload_n 0, 1) := by decide +kernel
theorem dL_law_327 : decode cL_law 327 = .ok (.iload_n 3, 1) := by decide +kernel
theorem dL_law_328 : decode cL_law 328 = .ok (.iconst 1, 1) := by decide +kernel
theorem dL_law_329 : decode cL_law 329 = .ok (.iadd, 1) := by decide +kernel
theorem dL_law_330 : decode cL_law 330 = .ok (.iaload, 1) := by decide +kernel
theorem dL_law_331 : decode cL_law 331 = .ok (.invokevirtual 27, 3) := by decide +kernel
theorem dL_law_334 : decode cL_law 334 = .ok (.aload_n 2, 1) := by decide +kernel
theorem dL_law_335 : decode cL_law 335 = .ok (.aload_n 0, 1) := by decide +kernel
theorem dL_law_336 : decode cL_law 336 = .ok (.iload_n 3, 1) := by decide +kernel
theorem dL_law_337 : decode cL_law 337 = .ok (.iconst 1, 1) := by decide +kernel
theorem dL_law_338 : decode cL_law 338 = .ok (.iadd, 1) := by decide +kernel
theorem dL_law_339 : decode cL_law 339 = .ok (.iaload, 1) := by decide +kernel
theorem dL_law_340 : decode cL_law 340 = .ok (.invokevirtual 31, 3) := by decide +kernel
theorem dL_law_343 : decode cL_law 343 = .ok (.if_icmp .eq 893, 3) := by decide +kernel
theorem dL_law_346 : decode cL_law 346 = .ok (.iconst 0, 1) := by decide +kernel
theorem dL_law_347 : decode cL_law 347 = .ok (.ireturn, 1) := by decide +kernel
theorem dL_law_348 : decode cL_law 348 = .ok (.aload_n 1, 1) := by decide +kernel
theorem dL_law_349 : decode cL_law 349 = .ok (.aload_n 0, 1) := by decide +kernel
theorem dL_law_350 : decode cL_law 350 = .ok (.iload_n 3, 1) := by decide +kernel
theorem dL_law_351 : decode cL_law 351 = .ok (.iconst 1, 1) := by decide +kernel
theorem dL_law_352 : decode cL_law 352 = .ok (.iadd, 1) := by decide +kernel
theorem dL_law_353 : decode cL_law 353 = .ok (.iaload, 1) := by decide +kernel
theorem dL_law_354 : decode cL_law 354 = .ok (.invokevirtual 32, 3) := by decide +kernel
theorem dL_law_357 : decode cL_law 357 = .ok (.aload_n 2, 1) := by decide +kernel
theorem dL_law_358 : decode cL_law 358 = .ok (.aload_n 0, 1) := by decide +kernel
theorem dL_law_359 : decode cL_law 359 = .ok (.iload_n 3, 1) := by decide +kernel
theorem dL_law_360 : decode cL_law 360 = .ok (.iconst 1, 1) := by decide +kernel
theorem dL_law_361 : decode cL_law 361 = .ok (.iadd, 1) := by decide +kernel
theorem dL_law_362 : decode cL_law 362 = .ok (.iaload, 1) := by decide +kernel
theorem dL_law_363 : decode cL_law 363 = .ok (.invokevirtual 35, 3) := by decide +kernel
theorem dL_law_366 : decode cL_law 366 = .ok (.if_icmp .eq 870, 3) := by decide +kernel
theorem dL_law_369 : decode cL_law 369 = .ok (.iconst 0, 1) := by decide +kernel
theorem dL_law_370 : decode cL_law 370 = .ok (.ireturn, 1) := by decide +kernel
theorem dL_law_371 : decode cL_law 371 = .ok (.aload_n 1, 1) := by decide +kernel
theorem dL_law_372 : decode cL_law 372 = .ok (.invokevirtual 36, 3) := by decide +kernel
theorem dL_law_375 : decode cL_law 375 = .ok (.aload_n 2, 1) := by decide +kernel
theorem dL_law_376 : decode cL_law 376 = .ok (.invokevirtual 40, 3) := by decide +kernel
theorem dL_law_379 : decode cL_law 379 = .ok (.if_icmp .eq 857, 3) := by decide +kernel
theorem dL_law_382 : decode cL_law 382 = .ok (.iconst 0, 1) := by decide +kernel
theorem dL_law_383 : decode cL_law 383 = .ok (.ireturn, 1) := by decide +kernel
theorem dL_law_384 : decode cL_law 384 = .ok (.aload_n 1, 1) := by decide +kernel
theorem dL_law_385 : decode cL_law 385 = .ok (.invokevirtual 41, 3) := by decide +kernel
theorem dL_law_388 : decode cL_law 388 = .ok (.aload_n 2, 1) := by decide +kernel
theorem dL_law_389 : decode cL_law 389 = .ok (.invokevirtual 44, 3) := by decide +kernel
theorem dL_law_392 : decode cL_law 392 = .ok (.if_icmp .eq 844, 3) := by decide +kernel
theorem dL_law_395 : decode cL_law 395 = .ok (.iconst 0, 1) := by decide +kernel
theorem dL_law_396 : decode cL_law 396 = .ok (.ireturn, 1) := by decide +kernel
theorem dL_law_397 : decode cL_law 397 = .ok (.aload_n 1, 1) := by decide +kernel
theorem dL_law_398 : decode cL_law 398 = .ok (.aload_n 0, 1) := by decide +kernel
theorem dL_law_399 : decode cL_law 399 = .ok (.iload_n 3, 1) := by decide +kernel
theorem dL_law_400 : decode cL_law 400 = .ok (.iconst 1, 1) := by decide +kernel
theorem dL_law_401 : decode cL_law 401 = .ok (.iadd, 1) := by decide +kernel
theorem dL_law_402 : decode cL_law 402 = .ok (.iaload, 1) := by decide +kernel
theorem dL_law_403 : decode cL_law 403 = .ok (.aload_n 0, 1) := by decide +kernel
theorem dL_law_404 : decode cL_law 404 = .ok (.iload_n 3, 1) := by decide +kernel
theorem dL_law_405 : decode cL_law 405 = .ok (.iconst 2, 1) := by decide +kernel
theorem dL_law_406 : decode cL_law 406 = .ok (.iadd, 1) := by decide +kernel
theorem dL_law_407 : decode cL_law 407 = .ok (.iaload, 1) := by decide +kernel
theorem dL_law_408 : decode cL_law 408 = .ok (.invokevirtual 45, 3) := by decide +kernel
theorem dL_law_411 : decode cL_law 411 = .ok (.aload_n 2, 1) := by decide +kernel
theorem dL_law_412 : decode cL_law 412 = .ok (.aload_n 0, 1) := by decide +kernel
theorem dL_law_413 : decode cL_law 413 = .ok (.iload_n 3, 1) := by decide +kernel
theorem dL_law_414 : decode cL_law 414 = .ok (.iconst 1, 1) := by decide +kernel
theorem dL_law_415 : decode cL_law 415 = .ok (.iadd, 1) := by decide +kernel
theorem dL_law_416 : decode cL_law 416 = .ok (.iaload, 1) := by decide +kernel
theorem dL_law_417 : decode cL_law 417 = .ok (.aload_n 0, 1) := by decide +kernel
theorem dL_law_418 : decode cL_law 418 = .ok (.iload_n 3, 1) := by decide +kernel
theorem dL_law_419 : decode cL_law 419 = .ok (.iconst 2, 1) := by decide +kernel
theorem dL_law_420 : decode cL_law 420 = .ok (.iadd, 1) := by decide +kernel
theorem dL_law_421 : decode cL_law 421 = .ok (.iaload, 1) := by decide +kernel
theorem dL_law_422 : decode cL_law 422 = .ok (.invokevirtual 49, 3) := by decide +kernel
theorem dL_law_425 : decode cL_law 425 = .ok (.if_icmp .eq 811, 3) := by decide +kernel
theorem dL_law_428 : decode cL_law 428 = .ok (.iconst 0, 1) := by decide +kernel
theorem dL_law_429 : decode cL_law 429 = .ok (.ireturn, 1) := by decide +kernel
theorem dL_law_430 : decode cL_law 430 = .ok (.aload_n 1, 1) := by decide +kernel
theorem dL_law_431 : decode cL_law 431 = .ok (.aload_n 0, 1) := by decide +kernel
theorem dL_law_432 : decode cL_law 432 = .ok (.iload_n 3, 1) := by decide +kernel
theorem dL_law_433 : decode cL_law 433 = .ok (.iconst 1, 1) := by decide +kernel
theorem dL_law_434 : decode cL_law 434 = .ok (.iadd, 1) := by decide +kernel
theorem dL_law_435 : decode cL_law 435 = .ok (.iaload, 1) := by decide +kernel
theorem dL_law_436 : decode cL_law 436 = .ok (.invokevirtual 50, 3) := by decide +kernel
theorem dL_law_439 : decode cL_law 439 = .ok (.aload_n 2, 1) := by decide +kernel
theorem dL_law_440 : decode cL_law 440 = .ok (.aload_n 0, 1) := by decide +kernel
theorem dL_law_441 : decode cL_law 441 = .ok (.iload_n 3, 1) := by decide +kernel
theorem dL_law_442 : decode cL_law 442 = .ok (.iconst 1, 1) := by decide +kernel
theorem dL_law_443 : decode cL_law 443 = .ok (.iadd, 1) := by decide +kernel
theorem dL_law_444 : decode cL_law 444 = .ok (.iaload, 1) := by decide +kernel
theorem dL_law_445 : decode cL_law 445 = .ok (.invokevirtual 53, 3) := by decide +kernel
theorem dL_law_448 : decode cL_law 448 = .ok (.if_icmp .eq 788, 3) := by decide +kernel
theorem dL_law_451 : decode cL_law 451 = .ok (.iconst 0, 1) := by decide +kernel
theorem dL_law_452 : decode cL_law 452 = .ok (.ireturn, 1) := by decide +kernel
theorem dL_law_453 : decode cL_law 453 = .ok (.aload_n 1, 1) := by decide +kernel
theorem dL_law_454 : decode cL_law 454 = .ok (.aload_n 0, 1) := by decide +kernel
theorem dL_law_455 : decode cL_law 455 = .ok (.iload_n 3, 1) := by decide +kernel
theorem dL_law_456 : decode cL_law 456 = .ok (.iconst 1, 1) := by decide +kernel
theorem dL_law_457 : decode cL_law 457 = .ok (.iadd, 1) := by decide +kernel
theorem dL_law_458 : decode cL_law 458 = .ok (.iaload, 1) := by decide +kernel
theorem dL_law_459 : decode cL_law 459 = .ok (.aload_n 0, 1) := by decide +kernel
theorem dL_law_460 : decode cL_law 460 = .ok (.iload_n 3, 1) := by decide +kernel
theorem dL_law_461 : decode cL_law 461 = .ok (.iconst 2, 1) := by decide +kernel
theorem dL_law_462 : decode cL_law 462 = .ok (.iadd, 1) := by decide +kernel
theorem dL_law_463 : decode cL_law 463 = .ok (.iaload, 1) := by decide +kernel
theorem dL_law_464 : decode cL_law 464 = .ok (.invokevirtual 54, 3) := by decide +kernel
theorem dL_law_467 : decode cL_law 467 = .ok (.aload_n 2, 1) := by decide +kernel
theorem dL_law_468 : decode cL_law 468 = .ok (.aload_n 0, 1) := by decide +kernel
theorem dL_law_469 : decode cL_law 469 = .ok (.iload_n 3, 1) := by decide +kernel
theorem dL_law_470 : decode cL_law 470 = .ok (.iconst 1, 1) := by decide +kernel
theorem dL_law_471 : decode cL_law 471 = .ok (.iadd, 1) := by decide +kernel
theorem dL_law_472 : decode cL_law 472 = .ok (.iaload, 1) := by decide +kernel
theorem dL_law_473 : decode cL_law 473 = .ok (.aload_n 0, 1) := by decide +kernel
theorem dL_law_474 : decode cL_law 474 = .ok (.iload_n 3, 1) := by decide +kernel
theorem dL_law_475 : decode cL_law 475 = .ok (.iconst 2, 1) := by decide +kernel
theorem dL_law_476 : decode cL_law 476 = .ok (.iadd, 1) := by decide +kernel
theorem dL_law_477 : decode cL_law 477 = .ok (.iaload, 1) := by decide +kernel
theorem dL_law_478 : decode cL_law 478 = .ok (.invokevirtual 57, 3) := by decide +kernel
theorem dL_law_481 : decode cL_law 481 = .ok (.if_icmp .eq 755, 3) := by decide +kernel
theorem dL_law_484 : decode cL_law 484 = .ok (.iconst 0, 1) := by decide +kernel
theorem dL_law_485 : decode cL_law 485 = .ok (.ireturn, 1) := by decide +kernel
theorem dL_law_486 : decode cL_law 486 = .ok (.aload_n 1, 1) := by decide +kernel
theorem dL_law_487 : decode cL_law 487 = .ok (.invokevirtual 58, 3) := by decide +kernel
theorem dL_law_490 : decode cL_law 490 = .ok (.aload_n 2, 1) := by decide +kernel
theorem dL_law_491 : decode cL_law 491 = .ok (.invokevirtual 61, 3) := by decide +kernel
theorem dL_law_494 : decode cL_law 494 = .ok (.if_icmp .eq 742, 3) := by decide +kernel
theorem dL_law_497 : decode cL_law 497 = .ok (.iconst 0, 1) := by decide +kernel
theorem dL_law_498 : decode cL_law 498 = .ok (.ireturn, 1) := by decide +kernel
theorem dL_law_499 : decode cL_law 499 = .ok (.aload_n 1, 1) := by decide +kernel
theorem dL_law_500 : decode cL_law 500 = .ok (.aload_n 0, 1) := by decide +kernel
theorem dL_law_501 : decode cL_law 501 = .ok (.iload_n 3, 1) := by decide +kernel
theorem dL_law_502 : decode cL_law 502 = .ok (.iconst 1, 1) := by decide +kernel
theorem dL_law_503 : decode cL_law 503 = .ok (.iadd, 1) := by decide +kernel
theorem dL_law_504 : decode cL_law 504 = .ok (.iaload, 1) := by decide +kernel
theorem dL_law_505 : decode cL_law 505 = .ok (.aload_n 0, 1) := by decide +kernel
theorem dL_law_506 : decode cL_law 506 = .ok (.iload_n 3, 1) := by decide +kernel
theorem dL_law_507 : decode cL_law 507 = .ok (.iconst 2, 1) := by decide +kernel
theorem dL_law_508 : decode cL_law 508 = .ok (.iadd, 1) := by decide +kernel
theorem dL_law_509 : decode cL_law 509 = .ok (.iaload, 1) := by decide +kernel
theorem dL_law_510 : decode cL_law 510 = .ok (.invokevirtual 62, 3) := by decide +kernel
theorem dL_law_513 : decode cL_law 513 = .ok (.aload_n 2, 1) := by decide +kernel
theorem dL_law_514 : decode cL_law 514 = .ok (.aload_n 0, 1) := by decide +kernel
theorem dL_law_515 : decode cL_law 515 = .ok (.iload_n 3, 1) := by decide +kernel
theorem dL_law_516 : decode cL_law 516 = .ok (.iconst 1, 1) := by decide +kernel
theorem dL_law_517 : decode cL_law 517 = .ok (.iadd, 1) := by decide +kernel
theorem dL_law_518 : decode cL_law 518 = .ok (.iaload, 1) := by decide +kernel
theorem dL_law_519 : decode cL_law 519 = .ok (.aload_n 0, 1) := by decide +kernel
theorem dL_law_520 : decode cL_law 520 = .ok (.iload_n 3, 1) := by decide +kernel
theorem dL_law_521 : decode cL_law 521 = .ok (.iconst 2, 1) := by decide +kernel
theorem dL_law_522 : decode cL_law 522 = .ok (.iadd, 1) := by decide +kernel
theorem dL_law_523 : decode cL_law 523 = .ok (.iaload, 1) := by decide +kernel
theorem dL_law_524 : decode cL_law 524 = .ok (.invokevirtual 65, 3) := by decide +kernel
theorem dL_law_527 : decode cL_law 527 = .ok (.if_icmp .eq 709, 3) := by decide +kernel
theorem dL_law_530 : decode cL_law 530 = .ok (.iconst 0, 1) := by decide +kernel
theorem dL_law_531 : decode cL_law 531 = .ok (.ireturn, 1) := by decide +kernel
theorem dL_law_532 : decode cL_law 532 = .ok (.aload_n 1, 1) := by decide +kernel
theorem dL_law_533 : decode cL_law 533 = .ok (.aload_n 0, 1) := by decide +kernel
theorem dL_law_534 : decode cL_law 534 = .ok (.iload_n 3, 1) := by decide +kernel
theorem dL_law_535 : decode cL_law 535 = .ok (.iconst 1, 1) := by decide +kernel
theorem dL_law_536 : decode cL_law 536 = .ok (.iadd, 1) := by decide +kernel
theorem dL_law_537 : decode cL_law 537 = .ok (.iaload, 1) := by decide +kernel
theorem dL_law_538 : decode cL_law 538 = .ok (.aload_n 0, 1) := by decide +kernel
theorem dL_law_539 : decode cL_law 539 = .ok (.iload_n 3, 1) := by decide +kernel
theorem dL_law_540 : decode cL_law 540 = .ok (.iconst 2, 1) := by decide +kernel
theorem dL_law_541 : decode cL_law 541 = .ok (.iadd, 1) := by decide +kernel
theorem dL_law_542 : decode cL_law 542 = .ok (.iaload, 1) := by decide +kernel
theorem dL_law_543 : decode cL_law 543 = .ok (.invokevirtual 66, 3) := by decide +kernel
theorem dL_law_546 : decode cL_law 546 = .ok (.aload_n 2, 1) := by decide +kernel
theorem dL_law_547 : decode cL_law 547 = .ok (.aload_n 0, 1) := by decide +kernel
theorem dL_law_548 : decode cL_law 548 = .ok (.iload_n 3, 1) := by decide +kernel
theorem dL_law_549 : decode cL_law 549 = .ok (.iconst 1, 1) := by decide +kernel
theorem dL_law_550 : decode cL_law 550 = .ok (.iadd, 1) := by decide +kernel
theorem dL_law_551 : decode cL_law 551 = .ok (.iaload, 1) := by decide +kernel
theorem dL_law_552 : decode cL_law 552 = .ok (.aload_n 0, 1) := by decide +kernel
theorem dL_law_553 : decode cL_law 553 = .ok (.iload_n 3, 1) := by decide +kernel
theorem dL_law_554 : decode cL_law 554 = .ok (.iconst 2, 1) := by decide +kernel
theorem dL_law_555 : decode cL_law 555 = .ok (.iadd, 1) := by decide +kernel
theorem dL_law_556 : decode cL_law 556 = .ok (.iaload, 1) := by decide +kernel
theorem dL_law_557 : decode cL_law 557 = .ok (.invokevirtual 69, 3) := by decide +kernel
theorem dL_law_560 : decode cL_law 560 = .ok (.if_icmp .eq 676, 3) := by decide +kernel
theorem dL_law_563 : decode cL_law 563 = .ok (.iconst 0, 1) := by decide +kernel
theorem dL_law_564 : decode cL_law 564 = .ok (.ireturn, 1) := by decide +kernel
theorem dL_law_565 : decode cL_law 565 = .ok (.aload_n 1, 1) := by decide +kernel
theorem dL_law_566 : decode cL_law 566 = .ok (.aload_n 0, 1) := by decide +kernel
theorem dL_law_567 : decode cL_law 567 = .ok (.iload_n 3, 1) := by decide +kernel
theorem dL_law_568 : decode cL_law 568 = .ok (.iconst 1, 1) := by decide +kernel
theorem dL_law_569 : decode cL_law 569 = .ok (.iadd, 1) := by decide +kernel
theorem dL_law_570 : decode cL_law 570 = .ok (.iaload, 1) := by decide +kernel
theorem dL_law_571 : decode cL_law 571 = .ok (.aload_n 0, 1) := by decide +kernel
theorem dL_law_572 : decode cL_law 572 = .ok (.iload_n 3, 1) := by decide +kernel
theorem dL_law_573 : decode cL_law 573 = .ok (.iconst 2, 1) := by decide +kernel
theorem dL_law_574 : decode cL_law 574 = .ok (.iadd, 1) := by decide +kernel
theorem dL_law_575 : decode cL_law 575 = .ok (.iaload, 1) := by decide +kernel
theorem dL_law_576 : decode cL_law 576 = .ok (.invokevirtual 70, 3) := by decide +kernel
theorem dL_law_579 : decode cL_law 579 = .ok (.aload_n 2, 1) := by decide +kernel
theorem dL_law_580 : decode cL_law 580 = .ok (.aload_n 0, 1) := by decide +kernel
theorem dL_law_581 : decode cL_law 581 = .ok (.iload_n 3, 1) := by decide +kernel
theorem dL_law_582 : decode cL_law 582 = .ok (.iconst 1, 1) := by decide +kernel
theorem dL_law_583 : decode cL_law 583 = .ok (.iadd, 1) := by decide +kernel
theorem dL_law_584 : decode cL_law 584 = .ok (.iaload, 1) := by decide +kernel
theorem dL_law_585 : decode cL_law 585 = .ok (.aload_n 0, 1) := by decide +kernel
theorem dL_law_586 : decode cL_law 586 = .ok (.iload_n 3, 1) := by decide +kernel
theorem dL_law_587 : decode cL_law 587 = .ok (.iconst 2, 1) := by decide +kernel
theorem dL_law_588 : decode cL_law 588 = .ok (.iadd, 1) := by decide +kernel
theorem dL_law_589 : decode cL_law 589 = .ok (.iaload, 1) := by decide +kernel
theorem dL_law_590 : decode cL_law 590 = .ok (.invokevirtual 73, 3) := by decide +kernel
theorem dL_law_593 : decode cL_law 593 = .ok (.if_icmp .eq 643, 3) := by decide +kernel
theorem dL_law_596 : decode cL_law 596 = .ok (.iconst 0, 1) := by decide +kernel
theorem dL_law_597 : decode cL_law 597 = .ok (.ireturn, 1) := by decide +kernel
theorem dL_law_598 : decode cL_law 598 = .ok (.aload_n 1, 1) := by decide +kernel
theorem dL_law_599 : decode cL_law 599 = .ok (.aload_n 0, 1) := by decide +kernel
theorem dL_law_600 : decode cL_law 600 = .ok (.iload_n 3, 1) := by decide +kernel
theorem dL_law_601 : decode cL_law 601 = .ok (.iconst 1, 1) := by decide +kernel
theorem dL_law_602 : decode cL_law 602 = .ok (.iadd, 1) := by decide +kernel
theorem dL_law_603 : decode cL_law 603 = .ok (.iaload, 1) := by decide +kernel
theorem dL_law_604 : decode cL_law 604 = .ok (.invokevirtual 74, 3) := by decide +kernel
theorem dL_law_607 : decode cL_law 607 = .ok (.aload_n 2, 1) := by decide +kernel
theorem dL_law_608 : decode cL_law 608 = .ok (.aload_n 0, 1) := by decide +kernel
theorem dL_law_609 : decode cL_law 609 = .ok (.iload_n 3, 1) := by decide +kernel
theorem dL_law_610 : decode cL_law 610 = .ok (.iconst 1, 1) := by decide +kernel
theorem dL_law_611 : decode cL_law 611 = .ok (.iadd, 1) := by decide +kernel
theorem dL_law_612 : decode cL_law 612 = .ok (.iaload, 1) := by decide +kernel
theorem dL_law_613 : decode cL_law 613 = .ok (.invokevirtual 77, 3) := by decide +kernel
theorem dL_law_616 : decode cL_law 616 = .ok (.if_icmp .eq 620, 3) := by decide +kernel
theorem dL_law_619 : decode cL_law 619 = .ok (.iconst 0, 1) := by decide +kernel
theorem dL_law_620 : decode cL_law 620 = .ok (.ireturn, 1) := by decide +kernel
theorem dL_law_621 : decode cL_law 621 = .ok (.aload_n 1, 1) := by decide +kernel
theorem dL_law_622 : decode cL_law 622 = .ok (.aload_n 0, 1) := by decide +kernel
theorem dL_law_623 : decode cL_law 623 = .ok (.iload_n 3, 1) := by decide +kernel
theorem dL_law_624 : decode cL_law 624 = .ok (.iconst 1, 1) := by decide +kernel
theorem dL_law_625 : decode cL_law 625 = .ok (.iadd, 1) := by decide +kernel
theorem dL_law_626 : decode cL_law 626 = .ok (.iaload, 1) := by decide +kernel
theorem dL_law_627 : decode cL_law 627 = .ok (.aload_n 0, 1) := by decide +kernel
theorem dL_law_628 : decode cL_law 628 = .ok (.iload_n 3, 1) := by decide +kernel
theorem dL_law_629 : decode cL_law 629 = .ok (.iconst 2, 1) := by decide +kernel
theorem dL_law_630 : decode cL_law 630 = .ok (.iadd, 1) := by decide +kernel
theorem dL_law_631 : decode cL_law 631 = .ok (.iaload, 1) := by decide +kernel
theorem dL_law_632 : decode cL_law 632 = .ok (.aload_n 0, 1) := by decide +kernel
theorem dL_law_633 : decode cL_law 633 = .ok (.iload_n 3, 1) := by decide +kernel
theorem dL_law_634 : decode cL_law 634 = .ok (.iconst 3, 1) := by decide +kernel
theorem dL_law_635 : decode cL_law 635 = .ok (.iadd, 1) := by decide +kernel
theorem dL_law_636 : decode cL_law 636 = .ok (.iaload, 1) := by decide +kernel
theorem dL_law_637 : decode cL_law 637 = .ok (.invokevirtual 78, 3) := by decide +kernel
theorem dL_law_640 : decode cL_law 640 = .ok (.aload_n 2, 1) := by decide +kernel
theorem dL_law_641 : decode cL_law 641 = .ok (.aload_n 0, 1) := by decide +kernel
theorem dL_law_642 : decode cL_law 642 = .ok (.iload_n 3, 1) := by decide +kernel
theorem dL_law_643 : decode cL_law 643 = .ok (.iconst 1, 1) := by decide +kernel
theorem dL_law_644 : decode cL_law 644 = .ok (.iadd, 1) := by decide +kernel
theorem dL_law_645 : decode cL_law 645 = .ok (.iaload, 1) := by decide +kernel
theorem dL_law_646 : decode cL_law 646 = .ok (.aload_n 0, 1) := by decide +kernel
theorem dL_law_647 : decode cL_law 647 = .ok (.iload_n 3, 1) := by decide +kernel
theorem dL_law_648 : decode cL_law 648 = .ok (.iconst 2, 1) := by decide +kernel
theorem dL_law_649 : decode cL_law 649 = .ok (.iadd, 1) := by decide +kernel
theorem dL_law_650 : decode cL_law 650 = .ok (.iaload, 1) := by decide +kernel
theorem dL_law_651 : decode cL_law 651 = .ok (.aload_n 0, 1) := by decide +kernel
theorem dL_law_652 : decode cL_law 652 = .ok (.iload_n 3, 1) := by decide +kernel
theorem dL_law_653 : decode cL_law 653 = .ok (.iconst 3, 1) := by decide +kernel
theorem dL_law_654 : decode cL_law 654 = .ok (.iadd, 1) := by decide +kernel
theorem dL_law_655 : decode cL_law 655 = .ok (.iaload, 1) := by decide +kernel
theorem dL_law_656 : decode cL_law 656 = .ok (.invokevirtual 81, 3) := by decide +kernel
theorem dL_law_659 : decode cL_law 659 = .ok (.if_icmp .eq 577, 3) := by decide +kernel
theorem dL_law_662 : decode cL_law 662 = .ok (.iconst 0, 1) := by decide +kernel
theorem dL_law_663 : decode cL_law 663 = .ok (.ireturn, 1) := by decide +kernel
theorem dL_law_664 : decode cL_law 664 = .ok (.aload_n 1, 1) := by decide +kernel
theorem dL_law_665 : decode cL_law 665 = .ok (.aload_n 0, 1) := by decide +kernel
theorem dL_law_666 : decode cL_law 666 = .ok (.iload_n 3, 1) := by decide +kernel
theorem dL_law_667 : decode cL_law 667 = .ok (.iconst 1, 1) := by decide +kernel
theorem dL_law_668 : decode cL_law 668 = .ok (.iadd, 1) := by decide +kernel
theorem dL_law_669 : decode cL_law 669 = .ok (.iaload, 1) := by decide +kernel
theorem dL_law_670 : decode cL_law 670 = .ok (.aload_n 0, 1) := by decide +kernel
theorem dL_law_671 : decode cL_law 671 = .ok (.iload_n 3, 1) := by decide +kernel
theorem dL_law_672 : decode cL_law 672 = .ok (.iconst 2, 1) := by decide +kernel
theorem dL_law_673 : decode cL_law 673 = .ok (.iadd, 1) := by decide +kernel
theorem dL_law_674 : decode cL_law 674 = .ok (.iaload, 1) := by decide +kernel
theorem dL_law_675 : decode cL_law 675 = .ok (.aload_n 0, 1) := by decide +kernel
theorem dL_law_676 : decode cL_law 676 = .ok (.iload_n 3, 1) := by decide +kernel
theorem dL_law_677 : decode cL_law 677 = .ok (.iconst 3, 1) := by decide +kernel
theorem dL_law_678 : decode cL_law 678 = .ok (.iadd, 1) := by decide +kernel
theorem dL_law_679 : decode cL_law 679 = .ok (.iaload, 1) := by decide +kernel
theorem dL_law_680 : decode cL_law 680 = .ok (.invokevirtual 82, 3) := by decide +kernel
theorem dL_law_683 : decode cL_law 683 = .ok (.aload_n 2, 1) := by decide +kernel
theorem dL_law_684 : decode cL_law 684 = .ok (.aload_n 0, 1) := by decide +kernel
theorem dL_law_685 : decode cL_law 685 = .ok (.iload_n 3, 1) := by decide +kernel
theorem dL_law_686 : decode cL_law 686 = .ok (.iconst 1, 1) := by decide +kernel
theorem dL_law_687 : decode cL_law 687 = .ok (.iadd, 1) := by decide +kernel
theorem dL_law_688 : decode cL_law 688 = .ok (.iaload, 1) := by decide +kernel
theorem dL_law_689 : decode cL_law 689 = .ok (.aload_n 0, 1) := by decide +kernel
theorem dL_law_690 : decode cL_law 690 = .ok (.iload_n 3, 1) := by decide +kernel
theorem dL_law_691 : decode cL_law 691 = .ok (.iconst 2, 1) := by decide +kernel
theorem dL_law_692 : decode cL_law 692 = .ok (.iadd, 1) := by decide +kernel
theorem dL_law_693 : decode cL_law 693 = .ok (.iaload, 1) := by decide +kernel
theorem dL_law_694 : decode cL_law 694 = .ok (.aload_n 0, 1) := by decide +kernel
theorem dL_law_695 : decode cL_law 695 = .ok (.iload_n 3, 1) := by decide +kernel
theorem dL_law_696 : decode cL_law 696 = .ok (.iconst 3, 1) := by decide +kernel
theorem dL_law_697 : decode cL_law 697 = .ok (.iadd, 1) := by decide +kernel
theorem dL_law_698 : decode cL_law 698 = .ok (.iaload, 1) := by decide +kernel
theorem dL_law_699 : decode cL_law 699 = .ok (.invokevirtual 85, 3) := by decide +kernel
theorem dL_law_702 : decode cL_law 702 = .ok (.if_icmp .eq 534, 3) := by decide +kernel
theorem dL_law_705 : decode cL_law 705 = .ok (.iconst 0, 1) := by decide +kernel
theorem dL_law_706 : decode cL_law 706 = .ok (.ireturn, 1) := by decide +kernel
theorem dL_law_707 : decode cL_law 707 = .ok (.aload_n 1, 1) := by decide +kernel
theorem dL_law_708 : decode cL_law 708 = .ok (.aload_n 0, 1) := by decide +kernel
theorem dL_law_709 : decode cL_law 709 = .ok (.iload_n 3, 1) := by decide +kernel
theorem dL_law_710 : decode cL_law 710 = .ok (.iconst 1, 1) := by decide +kernel
theorem dL_law_711 : decode cL_law 711 = .ok (.iadd, 1) := by decide +kernel
theorem dL_law_712 : decode cL_law 712 = .ok (.iaload, 1) := by decide +kernel
theorem dL_law_713 : decode cL_law 713 = .ok (.invokevirtual 86, 3) := by decide +kernel
theorem dL_law_716 : decode cL_law 716 = .ok (.aload_n 2, 1) := by decide +kernel
theorem dL_law_717 : decode cL_law 717 = .ok (.aload_n 0, 1) := by decide +kernel
theorem dL_law_718 : decode cL_law 718 = .ok (.iload_n 3, 1) := by decide +kernel
theorem dL_law_719 : decode cL_law 719 = .ok (.iconst 1, 1) := by decide +kernel
theorem dL_law_720 : decode cL_law 720 = .ok (.iadd, 1) := by decide +kernel
theorem dL_law_721 : decode cL_law 721 = .ok (.iaload, 1) := by decide +kernel
theorem dL_law_722 : decode cL_law 722 = .ok (.invokevirtual 89, 3) := by decide +kernel
theorem dL_law_725 : decode cL_law 725 = .ok (.if_icmp .eq 511, 3) := by decide +kernel
theorem dL_law_728 : decode cL_law 728 = .ok (.iconst 0, 1) := by decide +kernel
theorem dL_law_729 : decode cL_law 729 = .ok (.ireturn, 1) := by decide +kernel
theorem dL_law_730 : decode cL_law 730 = .ok (.aload_n 1, 1) := by decide +kernel
theorem dL_law_731 : decode cL_law 731 = .ok (.aload_n 0, 1) := by decide +kernel
theorem dL_law_732 : decode cL_law 732 = .ok (.iload_n 3, 1) := by decide +kernel
theorem dL_law_733 : decode cL_law 733 = .ok (.iconst 1, 1) := by decide +kernel
theorem dL_law_734 : decode cL_law 734 = .ok (.iadd, 1) := by decide +kernel
theorem dL_law_735 : decode cL_law 735 = .ok (.iaload, 1) := by decide +kernel
theorem dL_law_736 : decode cL_law 736 = .ok (.aload_n 0, 1) := by decide +kernel
theorem dL_law_737 : decode cL_law 737 = .ok (.iload_n 3, 1) := by decide +kernel
theorem dL_law_738 : decode cL_law 738 = .ok (.iconst 2, 1) := by decide +kernel
theorem dL_law_739 : decode cL_law 739 = .ok (.iadd, 1) := by decide +kernel
theorem dL_law_740 : decode cL_law 740 = .ok (.iaload, 1) := by decide +kernel
theorem dL_law_741 : decode cL_law 741 = .ok (.invokevirtual 90, 3) := by decide +kernel
theorem dL_law_744 : decode cL_law 744 = .ok (.aload_n 2, 1) := by decide +kernel
theorem dL_law_745 : decode cL_law 745 = .ok (.aload_n 0, 1) := by decide +kernel
theorem dL_law_746 : decode cL_law 746 = .ok (.iload_n 3, 1) := by decide +kernel
theorem dL_law_747 : decode cL_law 747 = .ok (.iconst 1, 1) := by decide +kernel
theorem dL_law_748 : decode cL_law 748 = .ok (.iadd, 1) := by decide +kernel
theorem dL_law_749 : decode cL_law 749 = .ok (.iaload, 1) := by decide +kernel
theorem dL_law_750 : decode cL_law 750 = .ok (.aload_n 0, 1) := by decide +kernel
theorem dL_law_751 : decode cL_law 751 = .ok (.iload_n 3, 1) := by decide +kernel
theorem dL_law_752 : decode cL_law 752 = .ok (.iconst 2, 1) := by decide +kernel
theorem dL_law_753 : decode cL_law 753 = .ok (.iadd, 1) := by decide +kernel
theorem dL_law_754 : decode cL_law 754 = .ok (.iaload, 1) := by decide +kernel
theorem dL_law_755 : decode cL_law 755 = .ok (.invokevirtual 93, 3) := by decide +kernel
theorem dL_law_758 : decode cL_law 758 = .ok (.if_icmp .eq 478, 3) := by decide +kernel
theorem dL_law_761 : decode cL_law 761 = .ok (.iconst 0, 1) := by decide +kernel
theorem dL_law_762 : decode cL_law 762 = .ok (.ireturn, 1) := by decide +kernel
theorem dL_law_763 : decode cL_law 763 = .ok (.aload_n 1, 1) := by decide +kernel
theorem dL_law_764 : decode cL_law 764 = .ok (.aload_n 0, 1) := by decide +kernel
theorem dL_law_765 : decode cL_law 765 = .ok (.iload_n 3, 1) := by decide +kernel
theorem dL_law_766 : decode cL_law 766 = .ok (.iconst 1, 1) := by decide +kernel
theorem dL_law_767 : decode cL_law 767 = .ok (.iadd, 1) := by decide +kernel
theorem dL_law_768 : decode cL_law 768 = .ok (.iaload, 1) := by decide +kernel
theorem dL_law_769 : decode cL_law 769 = .ok (.aload_n 0, 1) := by decide +kernel
theorem dL_law_770 : decode cL_law 770 = .ok (.iload_n 3, 1) := by decide +kernel
theorem dL_law_771 : decode cL_law 771 = .ok (.iconst 2, 1) := by decide +kernel
theorem dL_law_772 : decode cL_law 772 = .ok (.iadd, 1) := by decide +kernel
theorem dL_law_773 : decode cL_law 773 = .ok (.iaload, 1) := by decide +kernel
theorem dL_law_774 : decode cL_law 774 = .ok (.invokevirtual 94, 3) := by decide +kernel
theorem dL_law_777 : decode cL_law 777 = .ok (.aload_n 2, 1) := by decide +kernel
theorem dL_law_778 : decode cL_law 778 = .ok (.aload_n 0, 1) := by decide +kernel
theorem dL_law_779 : decode cL_law 779 = .ok (.iload_n 3, 1) := by decide +kernel
theorem dL_law_780 : decode cL_law 780 = .ok (.iconst 1, 1) := by decide +kernel
theorem dL_law_781 : decode cL_law 781 = .ok (.iadd, 1) := by decide +kernel
theorem dL_law_782 : decode cL_law 782 = .ok (.iaload, 1) := by decide +kernel
theorem dL_law_783 : decode cL_law 783 = .ok (.aload_n 0, 1) := by decide +kernel
theorem dL_law_784 : decode cL_law 784 = .ok (.iload_n 3, 1) := by decide +kernel
theorem dL_law_785 : decode cL_law 785 = .ok (.iconst 2, 1) := by decide +kernel
theorem dL_law_786 : decode cL_law 786 = .ok (.iadd, 1) := by decide +kernel
theorem dL_law_787 : decode cL_law 787 = .ok (.iaload, 1) := by decide +kernel
theorem dL_law_788 : decode cL_law 788 = .ok (.invokevirtual 97, 3) := by decide +kernel
theorem dL_law_791 : decode cL_law 791 = .ok (.if_icmp .eq 445, 3) := by decide +kernel
theorem dL_law_794 : decode cL_law 794 = .ok (.iconst 0, 1) := by decide +kernel
theorem dL_law_795 : decode cL_law 795 = .ok (.ireturn, 1) := by decide +kernel
theorem dL_law_796 : decode cL_law 796 = .ok (.aload_n 1, 1) := by decide +kernel
theorem dL_law_797 : decode cL_law 797 = .ok (.aload_n 0, 1) := by decide +kernel
theorem dL_law_798 : decode cL_law 798 = .ok (.iload_n 3, 1) := by decide +kernel
theorem dL_law_799 : decode cL_law 799 = .ok (.iconst 1, 1) := by decide +kernel
theorem dL_law_800 : decode cL_law 800 = .ok (.iadd, 1) := by decide +kernel
theorem dL_law_801 : decode cL_law 801 = .ok (.iaload, 1) := by decide +kernel
theorem dL_law_802 : decode cL_law 802 = .ok (.aload_n 0, 1) := by decide +kernel
theorem dL_law_803 : decode cL_law 803 = .ok (.iload_n 3, 1) := by decide +kernel
theorem dL_law_804 : decode cL_law 804 = .ok (.iconst 2, 1) := by decide +kernel
theorem dL_law_805 : decode cL_law 805 = .ok (.iadd, 1) := by decide +kernel
theorem dL_law_806 : decode cL_law 806 = .ok (.iaload, 1) := by decide +kernel
theorem dL_law_807 : decode cL_law 807 = .ok (.aload_n 0, 1) := by decide +kernel
theorem dL_law_808 : decode cL_law 808 = .ok (.iload_n 3, 1) := by decide +kernel
theorem dL_law_809 : decode cL_law 809 = .ok (.iconst 3, 1) := by decide +kernel
theorem dL_law_810 : decode cL_law 810 = .ok (.iadd, 1) := by decide +kernel
theorem dL_law_811 : decode cL_law 811 = .ok (.iaload, 1) := by decide +kernel
theorem dL_law_812 : decode cL_law 812 = .ok (.aload_n 0, 1) := by decide +kernel
theorem dL_law_813 : decode cL_law 813 = .ok (.iload_n 3, 1) := by decide +kernel
theorem dL_law_814 : decode cL_law 814 = .ok (.iconst 4, 1) := by decide +kernel
theorem dL_law_815 : decode cL_law 815 = .ok (.iadd, 1) := by decide +kernel
theorem dL_law_816 : decode cL_law 816 = .ok (.iaload, 1) := by decide +kernel
theorem dL_law_817 : decode cL_law 817 = .ok (.aload_n 0, 1) := by decide +kernel
theorem dL_law_818 : decode cL_law 818 = .ok (.iload_n 3, 1) := by decide +kernel
theorem dL_law_819 : decode cL_law 819 = .ok (.iconst 5, 1) := by decide +kernel
theorem dL_law_820 : decode cL_law 820 = .ok (.iadd, 1) := by decide +kernel
theorem dL_law_821 : decode cL_law 821 = .ok (.iaload, 1) := by decide +kernel
theorem dL_law_822 : decode cL_law 822 = .ok (.invokevirtual 98, 3) := by decide +kernel
theorem dL_law_825 : decode cL_law 825 = .ok (.aload_n 2, 1) := by decide +kernel
theorem dL_law_826 : decode cL_law 826 = .ok (.aload_n 0, 1) := by decide +kernel
theorem dL_law_827 : decode cL_law 827 = .ok (.iload_n 3, 1) := by decide +kernel
theorem dL_law_828 : decode cL_law 828 = .ok (.iconst 1, 1) := by decide +kernel
theorem dL_law_829 : decode cL_law 829 = .ok (.iadd, 1) := by decide +kernel
theorem dL_law_830 : decode cL_law 830 = .ok (.iaload, 1) := by decide +kernel
theorem dL_law_831 : decode cL_law 831 = .ok (.aload_n 0, 1) := by decide +kernel
theorem dL_law_832 : decode cL_law 832 = .ok (.iload_n 3, 1) := by decide +kernel
theorem dL_law_833 : decode cL_law 833 = .ok (.iconst 2, 1) := by decide +kernel
theorem dL_law_834 : decode cL_law 834 = .ok (.iadd, 1) := by decide +kernel
theorem dL_law_835 : decode cL_law 835 = .ok (.iaload, 1) := by decide +kernel
theorem dL_law_836 : decode cL_law 836 = .ok (.aload_n 0, 1) := by decide +kernel
theorem dL_law_837 : decode cL_law 837 = .ok (.iload_n 3, 1) := by decide +kernel
theorem dL_law_838 : decode cL_law 838 = .ok (.iconst 3, 1) := by decide +kernel
theorem dL_law_839 : decode cL_law 839 = .ok (.iadd, 1) := by decide +kernel
theorem dL_law_840 : decode cL_law 840 = .ok (.iaload, 1) := by decide +kernel
theorem dL_law_841 : decode cL_law 841 = .ok (.aload_n 0, 1) := by decide +kernel
theorem dL_law_842 : decode cL_law 842 = .ok (.iload_n 3, 1) := by decide +kernel
theorem dL_law_843 : decode cL_law 843 = .ok (.iconst 4, 1) := by decide +kernel
theorem dL_law_844 : decode cL_law 844 = .ok (.iadd, 1) := by decide +kernel
theorem dL_law_845 : decode cL_law 845 = .ok (.iaload, 1) := by decide +kernel
theorem dL_law_846 : decode cL_law 846 = .ok (.aload_n 0, 1) := by decide +kernel
theorem dL_law_847 : decode cL_law 847 = .ok (.iload_n 3, 1) := by decide +kernel
end
section
theorem dL_law_848 : decode cL_law 848 = .ok (.iconst 5, 1) := by decide +kernel
theorem dL_law_849 : decode cL_law 849 = .ok (.iadd, 1) := by decide +kernel
theorem dL_law_850 : decode cL_law 850 = .ok (.iaload, 1) := by decide +kernel
theorem dL_law_851 : decode cL_law 851 = .ok (.invokevirtual 101, 3) := by decide +kernel
theorem dL_law_854 : decode cL_law 854 = .ok (.if_icmp .eq 382, 3) := by decide +kernel
theorem dL_law_857 : decode cL_law 857 = .ok (.iconst 0, 1) := by decide +kernel
theorem dL_law_858 : decode cL_law 858 = .ok (.ireturn, 1) := by decide +kernel
theorem dL_law_859 : decode cL_law 859 = .ok (.aload_n 1, 1) := by decide +kernel
theorem dL_law_860 : decode cL_law 860 = .ok (.aload_n 0, 1) := by decide +kernel
theorem dL_law_861 : decode cL_law 861 = .ok (.iload_n 3, 1) := by decide +kernel
theorem dL_law_862 : decode cL_law 862 = .ok (.iconst 1, 1) := by decide +kernel
theorem dL_law_863 : decode cL_law 863 = .ok (.iadd, 1) := by decide +kernel
theorem dL_law_864 : decode cL_law 864 = .ok (.iaload, 1) := by decide +kernel
theorem dL_law_865 : decode cL_law 865 = .ok (.aload_n 0, 1) := by decide +kernel
theorem dL_law_866 : decode cL_law 866 = .ok (.iload_n 3, 1) := by decide +kernel
theorem dL_law_867 : decode cL_law 867 = .ok (.iconst 2, 1) := by decide +kernel
theorem dL_law_868 : decode cL_law 868 = .ok (.iadd, 1) := by decide +kernel
theorem dL_law_869 : decode cL_law 869 = .ok (.iaload, 1) := by decide +kernel
theorem dL_law_870 : decode cL_law 870 = .ok (.aload_n 0, 1) := by decide +kernel
theorem dL_law_871 : decode cL_law 871 = .ok (.iload_n 3, 1) := by decide +kernel
theorem dL_law_872 : decode cL_law 872 = .ok (.iconst 3, 1) := by decide +kernel
theorem dL_law_873 : decode cL_law 873 = .ok (.iadd, 1) := by decide +kernel
theorem dL_law_874 : decode cL_law 874 = .ok (.iaload, 1) := by decide +kernel
theorem dL_law_875 : decode cL_law 875 = .ok (.aload_n 0, 1) := by decide +kernel
theorem dL_law_876 : decode cL_law 876 = .ok (.iload_n 3, 1) := by decide +kernel
theorem dL_law_877 : decode cL_law 877 = .ok (.iconst 4, 1) := by decide +kernel
theorem dL_law_878 : decode cL_law 878 = .ok (.iadd, 1) := by decide +kernel
theorem dL_law_879 : decode cL_law 879 = .ok (.iaload, 1) := by decide +kernel
theorem dL_law_880 : decode cL_law 880 = .ok (.invokevirtual 102, 3) := by decide +kernel
theorem dL_law_883 : decode cL_law 883 = .ok (.aload_n 2, 1) := by decide +kernel
theorem dL_law_884 : decode cL_law 884 = .ok (.aload_n 0, 1) := by decide +kernel
theorem dL_law_885 : decode cL_law 885 = .ok (.iload_n 3, 1) := by decide +kernel
theorem dL_law_886 : decode cL_law 886 = .ok (.iconst 1, 1) := by decide +kernel
theorem dL_law_887 : decode cL_law 887 = .ok (.iadd, 1) := by decide +kernel
theorem dL_law_888 : decode cL_law 888 = .ok (.iaload, 1) := by decide +kernel
theorem dL_law_889 : decode cL_law 889 = .ok (.aload_n 0, 1) := by decide +kernel
theorem dL_law_890 : decode cL_law 890 = .ok (.iload_n 3, 1) := by decide +kernel
theorem dL_law_891 : decode cL_law 891 = .ok (.iconst 2, 1) := by decide +kernel
theorem dL_law_892 : decode cL_law 892 = .ok (.iadd, 1) := by decide +kernel
theorem dL_law_893 : decode cL_law 893 = .ok (.iaload, 1) := by decide +kernel
theorem dL_law_894 : decode cL_law 894 = .ok (.aload_n 0, 1) := by decide +kernel
theorem dL_law_895 : decode cL_law 895 = .ok (.iload_n 3, 1) := by decide +kernel
theorem dL_law_896 : decode cL_law 896 = .ok (.iconst 3, 1) := by decide +kernel
theorem dL_law_897 : decode cL_law 897 = .ok (.iadd, 1) := by decide +kernel
theorem dL_law_898 : decode cL_law 898 = .ok (.iaload, 1) := by decide +kernel
theorem dL_law_899 : decode cL_law 899 = .ok (.aload_n 0, 1) := by decide +kernel
theorem dL_law_900 : decode cL_law 900 = .ok (.iload_n 3, 1) := by decide +kernel
theorem dL_law_901 : decode cL_law 901 = .ok (.iconst 4, 1) := by decide +kernel
theorem dL_law_902 : decode cL_law 902 = .ok (.iadd, 1) := by decide +kernel
theorem dL_law_903 : decode cL_law 903 = .ok (.iaload, 1) := by decide +kernel
theorem dL_law_904 : decode cL_law 904 = .ok (.invokevirtual 106, 3) := by decide +kernel
theorem dL_law_907 : decode cL_law 907 = .ok (.if_icmp .eq 329, 3) := by decide +kernel
theorem dL_law_910 : decode cL_law 910 = .ok (.iconst 0, 1) := by decide +kernel
theorem dL_law_911 : decode cL_law 911 = .ok (.ireturn, 1) := by decide +kernel
theorem dL_law_912 : decode cL_law 912 = .ok (.aload_n 1, 1) := by decide +kernel
theorem dL_law_913 : decode cL_law 913 = .ok (.aload_n 0, 1) := by decide +kernel
theorem dL_law_914 : decode cL_law 914 = .ok (.iload_n 3, 1) := by decide +kernel
theorem dL_law_915 : decode cL_law 915 = .ok (.iconst 1, 1) := by decide +kernel
theorem dL_law_916 : decode cL_law 916 = .ok (.iadd, 1) := by decide +kernel
theorem dL_law_917 : decode cL_law 917 = .ok (.iaload, 1) := by decide +kernel
theorem dL_law_918 : decode cL_law 918 = .ok (.aload_n 0, 1) := by decide +kernel
theorem dL_law_919 : decode cL_law 919 = .ok (.iload_n 3, 1) := by decide +kernel
theorem dL_law_920 : decode cL_law 920 = .ok (.iconst 2, 1) := by decide +kernel
theorem dL_law_921 : decode cL_law 921 = .ok (.iadd, 1) := by decide +kernel
theorem dL_law_922 : decode cL_law 922 = .ok (.iaload, 1) := by decide +kernel
theorem dL_law_923 : decode cL_law 923 = .ok (.aload_n 0, 1) := by decide +kernel
theorem dL_law_924 : decode cL_law 924 = .ok (.iload_n 3, 1) := by decide +kernel
theorem dL_law_925 : decode cL_law 925 = .ok (.iconst 3, 1) := by decide +kernel
theorem dL_law_926 : decode cL_law 926 = .ok (.iadd, 1) := by decide +kernel
theorem dL_law_927 : decode cL_law 927 = .ok (.iaload, 1) := by decide +kernel
theorem dL_law_928 : decode cL_law 928 = .ok (.invokevirtual 107, 3) := by decide +kernel
theorem dL_law_931 : decode cL_law 931 = .ok (.aload_n 2, 1) := by decide +kernel
theorem dL_law_932 : decode cL_law 932 = .ok (.aload_n 0, 1) := by decide +kernel
theorem dL_law_933 : decode cL_law 933 = .ok (.iload_n 3, 1) := by decide +kernel
theorem dL_law_934 : decode cL_law 934 = .ok (.iconst 1, 1) := by decide +kernel
theorem dL_law_935 : decode cL_law 935 = .ok (.iadd, 1) := by decide +kernel
theorem dL_law_936 : decode cL_law 936 = .ok (.iaload, 1) := by decide +kernel
theorem dL_law_937 : decode cL_law 937 = .ok (.aload_n 0, 1) := by decide +kernel
theorem dL_law_938 : decode cL_law 938 = .ok (.iload_n 3, 1) := by decide +kernel
theorem dL_law_939 : decode cL_law 939 = .ok (.iconst 2, 1) := by decide +kernel
theorem dL_law_940 : decode cL_law 940 = .ok (.iadd, 1) := by decide +kernel
theorem dL_law_941 : decode cL_law 941 = .ok (.iaload, 1) := by decide +kernel
theorem dL_law_942 : decode cL_law 942 = .ok (.aload_n 0, 1) := by decide +kernel
theorem dL_law_943 : decode cL_law 943 = .ok (.iload_n 3, 1) := by decide +kernel
theorem dL_law_944 : decode cL_law 944 = .ok (.iconst 3, 1) := by decide +kernel
theorem dL_law_945 : decode cL_law 945 = .ok (.iadd, 1) := by decide +kernel
theorem dL_law_946 : decode cL_law 946 = .ok (.iaload, 1) := by decide +kernel
theorem dL_law_947 : decode cL_law 947 = .ok (.invokevirtual 110, 3) := by decide +kernel
theorem dL_law_950 : decode cL_law 950 = .ok (.if_icmp .eq 286, 3) := by decide +kernel
theorem dL_law_953 : decode cL_law 953 = .ok (.iconst 0, 1) := by decide +kernel
theorem dL_law_954 : decode cL_law 954 = .ok (.ireturn, 1) := by decide +kernel
theorem dL_law_955 : decode cL_law 955 = .ok (.aload_n 1, 1) := by decide +kernel
theorem dL_law_956 : decode cL_law 956 = .ok (.aload_n 0, 1) := by decide +kernel
theorem dL_law_957 : decode cL_law 957 = .ok (.iload_n 3, 1) := by decide +kernel
theorem dL_law_958 : decode cL_law 958 = .ok (.iconst 1, 1) := by decide +kernel
theorem dL_law_959 : decode cL_law 959 = .ok (.iadd, 1) := by decide +kernel
theorem dL_law_960 : decode cL_law 960 = .ok (.iaload, 1) := by decide +kernel
theorem dL_law_961 : decode cL_law 961 = .ok (.aload_n 0, 1) := by decide +kernel
theorem dL_law_962 : decode cL_law 962 = .ok (.iload_n 3, 1) := by decide +kernel
theorem dL_law_963 : decode cL_law 963 = .ok (.iconst 2, 1) := by decide +kernel
theorem dL_law_964 : decode cL_law 964 = .ok (.iadd, 1) := by decide +kernel
theorem dL_law_965 : decode cL_law 965 = .ok (.iaload, 1) := by decide +kernel
theorem dL_law_966 : decode cL_law 966 = .ok (.aload_n 0, 1) := by decide +kernel
theorem dL_law_967 : decode cL_law 967 = .ok (.iload_n 3, 1) := by decide +kernel
theorem dL_law_968 : decode cL_law 968 = .ok (.iconst 3, 1) := by decide +kernel
theorem dL_law_969 : decode cL_law 969 = .ok (.iadd, 1) := by decide +kernel
theorem dL_law_970 : decode cL_law 970 = .ok (.iaload, 1) := by decide +kernel
theorem dL_law_971 : decode cL_law 971 = .ok (.aload_n 0, 1) := by decide +kernel
theorem dL_law_972 : decode cL_law 972 = .ok (.iload_n 3, 1) := by decide +kernel
theorem dL_law_973 : decode cL_law 973 = .ok (.iconst 4, 1) := by decide +kernel
theorem dL_law_974 : decode cL_law 974 = .ok (.iadd, 1) := by decide +kernel
theorem dL_law_975 : decode cL_law 975 = .ok (.iaload, 1) := by decide +kernel
theorem dL_law_976 : decode cL_law 976 = .ok (.aload_n 0, 1) := by decide +kernel
theorem dL_law_977 : decode cL_law 977 = .ok (.iload_n 3, 1) := by decide +kernel
theorem dL_law_978 : decode cL_law 978 = .ok (.iconst 5, 1) := by decide +kernel
theorem dL_law_979 : decode cL_law 979 = .ok (.iadd, 1) := by decide +kernel
theorem dL_law_980 : decode cL_law 980 = .ok (.iaload, 1) := by decide +kernel
theorem dL_law_981 : decode cL_law 981 = .ok (.aload_n 0, 1) := by decide +kernel
theorem dL_law_982 : decode cL_law 982 = .ok (.iload_n 3, 1) := by decide +kernel
theorem dL_law_983 : decode cL_law 983 = .ok (.bipush 6, 2) := by decide +kernel
theorem dL_law_985 : decode cL_law 985 = .ok (.iadd, 1) := by decide +kernel
theorem dL_law_986 : decode cL_law 986 = .ok (.iaload, 1) := by decide +kernel
theorem dL_law_987 : decode cL_law 987 = .ok (.aload_n 0, 1) := by decide +kernel
theorem dL_law_988 : decode cL_law 988 = .ok (.iload_n 3, 1) := by decide +kernel
theorem dL_law_989 : decode cL_law 989 = .ok (.bipush 7, 2) := by decide +kernel
theorem dL_law_991 : decode cL_law 991 = .ok (.iadd, 1) := by decide +kernel
theorem dL_law_992 : decode cL_law 992 = .ok (.iaload, 1) := by decide +kernel
theorem dL_law_993 : decode cL_law 993 = .ok (.invokevirtual 111, 3) := by decide +kernel
theorem dL_law_996 : decode cL_law 996 = .ok (.aload_n 2, 1) := by decide +kernel
theorem dL_law_997 : decode cL_law 997 = .ok (.aload_n 0, 1) := by decide +kernel
theorem dL_law_998 : decode cL_law 998 = .ok (.iload_n 3, 1) := by decide +kernel
theorem dL_law_999 : decode cL_law 999 = .ok (.iconst 1, 1) := by decide +kernel
theorem dL_law_1000 : decode cL_law 1000 = .ok (.iadd, 1) := by decide +kernel
theorem dL_law_1001 : decode cL_law 1001 = .ok (.iaload, 1) := by decide +kernel
theorem dL_law_1002 : decode cL_law 1002 = .ok (.aload_n 0, 1) := by decide +kernel
theorem dL_law_1003 : decode cL_law 1003 = .ok (.iload_n 3, 1) := by decide +kernel
theorem dL_law_1004 : decode cL_law 1004 = .ok (.iconst 2, 1) := by decide +kernel
theorem dL_law_1005 : decode cL_law 1005 = .ok (.iadd, 1) := by decide +kernel
theorem dL_law_1006 : decode cL_law 1006 = .ok (.iaload, 1) := by decide +kernel
theorem dL_law_1007 : decode cL_law 1007 = .ok (.aload_n 0, 1) := by decide +kernel
theorem dL_law_1008 : decode cL_law 1008 = .ok (.iload_n 3, 1) := by decide +kernel
theorem dL_law_1009 : decode cL_law 1009 = .ok (.iconst 3, 1) := by decide +kernel
theorem dL_law_1010 : decode cL_law 1010 = .ok (.iadd, 1) := by decide +kernel
theorem dL_law_1011 : decode cL_law 1011 = .ok (.iaload, 1) := by decide +kernel
theorem dL_law_1012 : decode cL_law 1012 = .ok (.aload_n 0, 1) := by decide +kernel
theorem dL_law_1013 : decode cL_law 1013 = .ok (.iload_n 3, 1) := by decide +kernel
theorem dL_law_1014 : decode cL_law 1014 = .ok (.iconst 4, 1) := by decide +kernel
theorem dL_law_1015 : decode cL_law 1015 = .ok (.iadd, 1) := by decide +kernel
theorem dL_law_1016 : decode cL_law 1016 = .ok (.iaload, 1) := by decide +kernel
theorem dL_law_1017 : decode cL_law 1017 = .ok (.aload_n 0, 1) := by decide +kernel
theorem dL_law_1018 : decode cL_law 1018 = .ok (.iload_n 3, 1) := by decide +kernel
theorem dL_law_1019 : decode cL_law 1019 = .ok (.iconst 5, 1) := by decide +kernel
theorem dL_law_1020 : decode cL_law 1020 = .ok (.iadd, 1) := by decide +kernel
theorem dL_law_1021 : decode cL_law 1021 = .ok (.iaload, 1) := by decide +kernel
theorem dL_law_1022 : decode cL_law 1022 = .ok (.aload_n 0, 1) := by decide +kernel
theorem dL_law_1023 : decode cL_law 1023 = .ok (.iload_n 3, 1) := by decide +kernel
theorem dL_law_1024 : decode cL_law 1024 = .ok (.bipush 6, 2) := by decide +kernel
theorem dL_law_1026 : decode cL_law 1026 = .ok (.iadd, 1) := by decide +kernel
theorem dL_law_1027 : decode cL_law 1027 = .ok (.iaload, 1) := by decide +kernel
theorem dL_law_1028 : decode cL_law 1028 = .ok (.aload_n 0, 1) := by decide +kernel
theorem dL_law_1029 : decode cL_law 1029 = .ok (.iload_n 3, 1) := by decide +kernel
theorem dL_law_1030 : decode cL_law 1030 = .ok (.bipush 7, 2) := by decide +kernel
theorem dL_law_1032 : decode cL_law 1032 = .ok (.iadd, 1) := by decide +kernel
theorem dL_law_1033 : decode cL_law 1033 = .ok (.iaload, 1) := by decide +kernel
theorem dL_law_1034 : decode cL_law 1034 = .ok (.invokevirtual 115, 3) := by decide +kernel
theorem dL_law_1037 : decode cL_law 1037 = .ok (.if_icmp .eq 199, 3) := by decide +kernel
theorem dL_law_1040 : decode cL_law 1040 = .ok (.iconst 0, 1) := by decide +kernel
theorem dL_law_1041 : decode cL_law 1041 = .ok (.ireturn, 1) := by decide +kernel
theorem dL_law_1042 : decode cL_law 1042 = .ok (.aload_n 1, 1) := by decide +kernel
theorem dL_law_1043 : decode cL_law 1043 = .ok (.aload_n 0, 1) := by decide +kernel
theorem dL_law_1044 : decode cL_law 1044 = .ok (.iload_n 3, 1) := by decide +kernel
theorem dL_law_1045 : decode cL_law 1045 = .ok (.iconst 1, 1) := by decide +kernel
theorem dL_law_1046 : decode cL_law 1046 = .ok (.iadd, 1) := by decide +kernel
theorem dL_law_1047 : decode cL_law 1047 = .ok (.iaload, 1) := by decide +kernel
theorem dL_law_1048 : decode cL_law 1048 = .ok (.invokevirtual 116, 3) := by decide +kernel
theorem dL_law_1051 : decode cL_law 1051 = .ok (.aload_n 2, 1) := by decide +kernel
theorem dL_law_1052 : decode cL_law 1052 = .ok (.aload_n 0, 1) := by decide +kernel
theorem dL_law_1053 : decode cL_law 1053 = .ok (.iload_n 3, 1) := by decide +kernel
theorem dL_law_1054 : decode cL_law 1054 = .ok (.iconst 1, 1) := by decide +kernel
theorem dL_law_1055 : decode cL_law 1055 = .ok (.iadd, 1) := by decide +kernel
theorem dL_law_1056 : decode cL_law 1056 = .ok (.iaload, 1) := by decide +kernel
theorem dL_law_1057 : decode cL_law 1057 = .ok (.invokevirtual 119, 3) := by decide +kernel
theorem dL_law_1060 : decode cL_law 1060 = .ok (.if_icmp .eq 176, 3) := by decide +kernel
theorem dL_law_1063 : decode cL_law 1063 = .ok (.iconst 0, 1) := by decide +kernel
theorem dL_law_1064 : decode cL_law 1064 = .ok (.ireturn, 1) := by decide +kernel
theorem dL_law_1065 : decode cL_law 1065 = .ok (.aload_n 1, 1) := by decide +kernel
theorem dL_law_1066 : decode cL_law 1066 = .ok (.aload_n 0, 1) := by decide +kernel
theorem dL_law_1067 : decode cL_law 1067 = .ok (.iload_n 3, 1) := by decide +kernel
theorem dL_law_1068 : decode cL_law 1068 = .ok (.iconst 1, 1) := by decide +kernel
theorem dL_law_1069 : decode cL_law 1069 = .ok (.iadd, 1) := by decide +kernel
theorem dL_law_1070 : decode cL_law 1070 = .ok (.iaload, 1) := by decide +kernel
theorem dL_law_1071 : decode cL_law 1071 = .ok (.invokevirtual 120, 3) := by decide +kernel
theorem dL_law_1074 : decode cL_law 1074 = .ok (.aload_n 2, 1) := by decide +kernel
theorem dL_law_1075 : decode cL_law 1075 = .ok (.aload_n 0, 1) := by decide +kernel
theorem dL_law_1076 : decode cL_law 1076 = .ok (.iload_n 3, 1) := by decide +kernel
theorem dL_law_1077 : decode cL_law 1077 = .ok (.iconst 1, 1) := by decide +kernel
theorem dL_law_1078 : decode cL_law 1078 = .ok (.iadd, 1) := by decide +kernel
theorem dL_law_1079 : decode cL_law 1079 = .ok (.iaload, 1) := by decide +kernel
theorem dL_law_1080 : decode cL_law 1080 = .ok (.invokevirtual 123, 3) := by decide +kernel
theorem dL_law_1083 : decode cL_law 1083 = .ok (.if_icmp .eq 153, 3) := by decide +kernel
theorem dL_law_1086 : decode cL_law 1086 = .ok (.iconst 0, 1) := by decide +kernel
theorem dL_law_1087 : decode cL_law 1087 = .ok (.ireturn, 1) := by decide +kernel
theorem dL_law_1088 : decode cL_law 1088 = .ok (.aload_n 1, 1) := by decide +kernel
theorem dL_law_1089 : decode cL_law 1089 = .ok (.aload_n 0, 1) := by decide +kernel
theorem dL_law_1090 : decode cL_law 1090 = .ok (.iload_n 3, 1) := by decide +kernel
theorem dL_law_1091 : decode cL_law 1091 = .ok (.iconst 1, 1) := by decide +kernel
theorem dL_law_1092 : decode cL_law 1092 = .ok (.iadd, 1) := by decide +kernel
theorem dL_law_1093 : decode cL_law 1093 = .ok (.iaload, 1) := by decide +kernel
theorem dL_law_1094 : decode cL_law 1094 = .ok (.invokevirtual 124, 3) := by decide +kernel
theorem dL_law_1097 : decode cL_law 1097 = .ok (.aload_n 2, 1) := by decide +kernel
theorem dL_law_1098 : decode cL_law 1098 = .ok (.aload_n 0, 1) := by decide +kernel
theorem dL_law_1099 : decode cL_law 1099 = .ok (.iload_n 3, 1) := by decide +kernel
theorem dL_law_1100 : decode cL_law 1100 = .ok (.iconst 1, 1) := by decide +kernel
theorem dL_law_1101 : decode cL_law 1101 = .ok (.iadd, 1) := by decide +kernel
theorem dL_law_1102 : decode cL_law 1102 = .ok (.iaload, 1) := by decide +kernel
theorem dL_law_1103 : decode cL_law 1103 = .ok (.invokevirtual 127, 3) := by decide +kernel
theorem dL_law_1106 : decode cL_law 1106 = .ok (.if_icmp .eq 130, 3) := by decide +kernel
theorem dL_law_1109 : decode cL_law 1109 = .ok (.iconst 0, 1) := by decide +kernel
theorem dL_law_1110 : decode cL_law 1110 = .ok (.ireturn, 1) := by decide +kernel
theorem dL_law_1111 : decode cL_law 1111 = .ok (.aload_n 1, 1) := by decide +kernel
theorem dL_law_1112 : decode cL_law 1112 = .ok (.aload_n 0, 1) := by decide +kernel
theorem dL_law_1113 : decode cL_law 1113 = .ok (.iload_n 3, 1) := by decide +kernel
theorem dL_law_1114 : decode cL_law 1114 = .ok (.iconst 1, 1) := by decide +kernel
theorem dL_law_1115 : decode cL_law 1115 = .ok (.iadd, 1) := by decide +kernel
theorem dL_law_1116 : decode cL_law 1116 = .ok (.iaload, 1) := by decide +kernel
theorem dL_law_1117 : decode cL_law 1117 = .ok (.aload_n 0, 1) := by decide +kernel
theorem dL_law_1118 : decode cL_law 1118 = .ok (.iload_n 3, 1) := by decide +kernel
theorem dL_law_1119 : decode cL_law 1119 = .ok (.iconst 2, 1) := by decide +kernel
theorem dL_law_1120 : decode cL_law 1120 = .ok (.iadd, 1) := by decide +kernel
theorem dL_law_1121 : decode cL_law 1121 = .ok (.iaload, 1) := by decide +kernel
theorem dL_law_1122 : decode cL_law 1122 = .ok (.invokevirtual 128, 3) := by decide +kernel
theorem dL_law_1125 : decode cL_law 1125 = .ok (.aload_n 2, 1) := by decide +kernel
theorem dL_law_1126 : decode cL_law 1126 = .ok (.aload_n 0, 1) := by decide +kernel
theorem dL_law_1127 : decode cL_law 1127 = .ok (.iload_n 3, 1) := by decide +kernel
theorem dL_law_1128 : decode cL_law 1128 = .ok (.iconst 1, 1) := by decide +kernel
theorem dL_law_1129 : decode cL_law 1129 = .ok (.iadd, 1) := by decide +kernel
theorem dL_law_1130 : decode cL_law 1130 = .ok (.iaload, 1) := by decide +kernel
theorem dL_law_1131 : decode cL_law 1131 = .ok (.aload_n 0, 1) := by decide +kernel
theorem dL_law_1132 : decode cL_law 1132 = .ok (.iload_n 3, 1) := by decide +kernel
theorem dL_law_1133 : decode cL_law 1133 = .ok (.iconst 2, 1) := by decide +kernel
theorem dL_law_1134 : decode cL_law 1134 = .ok (.iadd, 1) := by decide +kernel
theorem dL_law_1135 : decode cL_law 1135 = .ok (.iaload, 1) := by decide +kernel
theorem dL_law_1136 : decode cL_law 1136 = .ok (.invokevirtual 131, 3) := by decide +kernel
theorem dL_law_1139 : decode cL_law 1139 = .ok (.if_icmp .eq 97, 3) := by decide +kernel
theorem dL_law_1142 : decode cL_law 1142 = .ok (.iconst 0, 1) := by decide +kernel
theorem dL_law_1143 : decode cL_law 1143 = .ok (.ireturn, 1) := by decide +kernel
theorem dL_law_1144 : decode cL_law 1144 = .ok (.aload_n 1, 1) := by decide +kernel
theorem dL_law_1145 : decode cL_law 1145 = .ok (.aload_n 0, 1) := by decide +kernel
theorem dL_law_1146 : decode cL_law 1146 = .ok (.iload_n 3, 1) := by decide +kernel
theorem dL_law_1147 : decode cL_law 1147 = .ok (.iconst 1, 1) := by decide +kernel
theorem dL_law_1148 : decode cL_law 1148 = .ok (.iadd, 1) := by decide +kernel
theorem dL_law_1149 : decode cL_law 1149 = .ok (.iaload, 1) := by decide +kernel
theorem dL_law_1150 : decode cL_law 1150 = .ok (.aload_n 0, 1) := by decide +kernel
theorem dL_law_1151 : decode cL_law 1151 = .ok (.iload_n 3, 1) := by decide +kernel
theorem dL_law_1152 : decode cL_law 1152 = .ok (.iconst 2, 1) := by decide +kernel
theorem dL_law_1153 : decode cL_law 1153 = .ok (.iadd, 1) := by decide +kernel
theorem dL_law_1154 : decode cL_law 1154 = .ok (.iaload, 1) := by decide +kernel
theorem dL_law_1155 : decode cL_law 1155 = .ok (.invokevirtual 132, 3) := by decide +kernel
theorem dL_law_1158 : decode cL_law 1158 = .ok (.aload_n 2, 1) := by decide +kernel
theorem dL_law_1159 : decode cL_law 1159 = .ok (.aload_n 0, 1) := by decide +kernel
theorem dL_law_1160 : decode cL_law 1160 = .ok (.iload_n 3, 1) := by decide +kernel
theorem dL_law_1161 : decode cL_law 1161 = .ok (.iconst 1, 1) := by decide +kernel
theorem dL_law_1162 : decode cL_law 1162 = .ok (.iadd, 1) := by decide +kernel
theorem dL_law_1163 : decode cL_law 1163 = .ok (.iaload, 1) := by decide +kernel
theorem dL_law_1164 : decode cL_law 1164 = .ok (.aload_n 0, 1) := by decide +kernel
theorem dL_law_1165 : decode cL_law 1165 = .ok (.iload_n 3, 1) := by decide +kernel
theorem dL_law_1166 : decode cL_law 1166 = .ok (.iconst 2, 1) := by decide +kernel
theorem dL_law_1167 : decode cL_law 1167 = .ok (.iadd, 1) := by decide +kernel
theorem dL_law_1168 : decode cL_law 1168 = .ok (.iaload, 1) := by decide +kernel
theorem dL_law_1169 : decode cL_law 1169 = .ok (.invokevirtual 135, 3) := by decide +kernel
theorem dL_law_1172 : decode cL_law 1172 = .ok (.if_icmp .eq 64, 3) := by decide +kernel
theorem dL_law_1175 : decode cL_law 1175 = .ok (.iconst 0, 1) := by decide +kernel
theorem dL_law_1176 : decode cL_law 1176 = .ok (.ireturn, 1) := by decide +kernel
theorem dL_law_1177 : decode cL_law 1177 = .ok (.aload_n 1, 1) := by decide +kernel
theorem dL_law_1178 : decode cL_law 1178 = .ok (.aload_n 0, 1) := by decide +kernel
theorem dL_law_1179 : decode cL_law 1179 = .ok (.iload_n 3, 1) := by decide +kernel
theorem dL_law_1180 : decode cL_law 1180 = .ok (.iconst 1, 1) := by decide +kernel
theorem dL_law_1181 : decode cL_law 1181 = .ok (.iadd, 1) := by decide +kernel
theorem dL_law_1182 : decode cL_law 1182 = .ok (.iaload, 1) := by decide +kernel
theorem dL_law_1183 : decode cL_law 1183 = .ok (.invokevirtual 136, 3) := by decide +kernel
theorem dL_law_1186 : decode cL_law 1186 = .ok (.aload_n 2, 1) := by decide +kernel
theorem dL_law_1187 : decode cL_law 1187 = .ok (.aload_n 0, 1) := by decide +kernel
theorem dL_law_1188 : decode cL_law 1188 = .ok (.iload_n 3, 1) := by decide +kernel
theorem dL_law_1189 : decode cL_law 1189 = .ok (.iconst 1, 1) := by decide +kernel
theorem dL_law_1190 : decode cL_law 1190 = .ok (.iadd, 1) := by decide +kernel
theorem dL_law_1191 : decode cL_law 1191 = .ok (.iaload, 1) := by decide +kernel
theorem dL_law_1192 : decode cL_law 1192 = .ok (.invokevirtual 139, 3) := by decide +kernel
theorem dL_law_1195 : decode cL_law 1195 = .ok (.if_icmp .eq 41, 3) := by decide +kernel
theorem dL_law_1198 : decode cL_law 1198 = .ok (.iconst 0, 1) := by decide +kernel
theorem dL_law_1199 : decode cL_law 1199 = .ok (.ireturn, 1) := by decide +kernel
theorem dL_law_1200 : decode cL_law 1200 = .ok (.aload_n 1, 1) := by decide +kernel
theorem dL_law_1201 : decode cL_law 1201 = .ok (.aload_n 0, 1) := by decide +kernel
theorem dL_law_1202 : decode cL_law 1202 = .ok (.iload_n 3, 1) := by decide +kernel
theorem dL_law_1203 : decode cL_law 1203 = .ok (.iconst 1, 1) := by decide +kernel
theorem dL_law_1204 : decode cL_law 1204 = .ok (.iadd, 1) := by decide +kernel
theorem dL_law_1205 : decode cL_law 1205 = .ok (.iaload, 1) := by decide +kernel
theorem dL_law_1206 : decode cL_law 1206 = .ok (.invokevirtual 140, 3) := by decide +kernel
theorem dL_law_1209 : decode cL_law 1209 = .ok (.aload_n 2, 1) := by decide +kernel
theorem dL_law_1210 : decode cL_law 1210 = .ok (.aload_n 0, 1) := by decide +kernel
theorem dL_law_1211 : decode cL_law 1211 = .ok (.iload_n 3, 1) := by decide +kernel
theorem dL_law_1212 : decode cL_law 1212 = .ok (.iconst 1, 1) := by decide +kernel
theorem dL_law_1213 : decode cL_law 1213 = .ok (.iadd, 1) := by decide +kernel
theorem dL_law_1214 : decode cL_law 1214 = .ok (.iaload, 1) := by decide +kernel
theorem dL_law_1215 : decode cL_law 1215 = .ok (.invokevirtual 143, 3) := by decide +kernel
theorem dL_law_1218 : decode cL_law 1218 = .ok (.if_icmp .eq 18, 3) := by decide +kernel
theorem dL_law_1221 : decode cL_law 1221 = .ok (.iconst 0, 1) := by decide +kernel
theorem dL_law_1222 : decode cL_law 1222 = .ok (.ireturn, 1) := by decide +kernel
theorem dL_law_1223 : decode cL_law 1223 = .ok (.aload_n 1, 1) := by decide +kernel
theorem dL_law_1224 : decode cL_law 1224 = .ok (.invokevirtual 144, 3) := by decide +kernel
theorem dL_law_1227 : decode cL_law 1227 = .ok (.aload_n 2, 1) := by decide +kernel
theorem dL_law_1228 : decode cL_law 1228 = .ok (.invokevirtual 147, 3) := by decide +kernel
theorem dL_law_1231 : decode cL_law 1231 = .ok (.if_icmp .eq 5, 3) := by decide +kernel
theorem dL_law_1234 : decode cL_law 1234 = .ok (.iconst 0, 1) := by decide +kernel
theorem dL_law_1235 : decode cL_law 1235 = .ok (.ireturn, 1) := by decide +kernel
theorem dL_law_1236 : decode cL_law 1236 = .ok (.iinc 3 8, 3) := by decide +kernel
theorem dL_law_1239 : decode cL_law 1239 = .ok (.goto (-1221), 3) := by decide +kernel
theorem dL_law_1242 : decode cL_law 1242 = .ok (.iconst 1, 1) := by decide +kernel
theorem dL_law_1243 : decode cL_law 1243 = .ok (.ireturn, 1) := by decide +kernel
end
section
/-! A program logic over W: ints as Int, the heap a function of cell and slot, all references fixed (nothing is made after the constructors). -/
abbrev SV_ : Type := Int ⊕ (Int ⊕ ((Nat × Nat) × Int))
abbrev SH_ : Type := Int → Int → Int
abbrev SG_ : Type := Launch × va_G × (Nat → Nat) × (Nat → Nat) × (Nat → Nat × (Nat → Int)) × (ClassId × ClassId × ClassId × ClassId) × Nat
abbrev MD_ : Type := MethodName × ByteArray × Nat × Option FieldType × Nat
abbrev sv_i (x : Int) : SV_ := .inl x
abbrev sv_l (x : Int) : SV_ := .inr (.inl x)
abbrev sv_r (c n : Nat) (k : Int) : SV_ := .inr (.inr ((c, n), k))
def sg_l (g : SG_) : Launch := g.1
def sg_D (g : SG_) : va_G := g.2.1
def sg_a (g : SG_) : Nat → Nat := g.2.2.1
def sg_x (g : SG_) : Nat → Nat := g.2.2.2.1
def sg_X (g : SG_) : Nat → Nat × (Nat → Int) := g.2.2.2.2.1
def sg_I (g : SG_) : ClassId := g.2.2.2.2.2.1.1
def sg_Z (g : SG_) : ClassId := g.2.2.2.2.2.1.2.1
def sg_M (g : SG_) : ClassId := g.2.2.2.2.2.1.2.2.1
def sg_T (g : SG_) : ClassId := g.2.2.2.2.2.1.2.2.2
def sg_B (g : SG_) : Nat := g.2.2.2.2.2.2
def sg_A (g : SG_) : Nat → Prop := fun q => sg_B g ≤ q
def sg_t (g : SG_) : List (ClassId × FieldType) := [(sg_I g, .int), (sg_Z g, .boolean), (sg_M g, .object "NodBets$Mind"), (sg_T g, .object "NodBets$Town")]
def sr_32 (x : Int) : Prop := -2147483648 ≤ x ∧ x < 2147483648
def sr_64 (x : Int) : Prop := -9223372036854775808 ≤ x ∧ x < 9223372036854775808
def sw_32 (x : Int) : Int := (Int32.ofInt x).toInt
def sw_64 (x : Int) : Int := (Int64.ofInt x).toInt
theorem sr_32w (x : Int) : sr_32 (sw_32 x) := by
  have h1 := Int32.le_toInt (Int32.ofInt x)
  have h2 := Int32.toInt_lt (Int32.ofInt x)
  exact ⟨h1, h2⟩
theorem sr_64w (x : Int) : sr_64 (sw_64 x) := by
  have h1 := Int64.le_toInt (Int64.ofInt x)
  have h2 := Int64.toInt_lt (Int64.ofInt x)
  exact ⟨h1, h2⟩
theorem sr_32t (x : Int32) : sr_32 x.toInt := ⟨Int32.le_toInt x, Int32.toInt_lt x⟩
theorem sr_64t (x : Int64) : sr_64 x.toInt := ⟨Int64.le_toInt x, Int64.toInt_lt x⟩
theorem sw_32i {x : Int} (h : sr_32 x) : sw_32 x = x := Int32.toInt_ofInt_of_le h.1 h.2
theorem sw_64i {x : Int} (h : sr_64 x) : sw_64 x = x := Int64.toInt_ofInt_of_le h.1 h.2
theorem sw_32o (x : Int) : Int32.ofInt (sw_32 x) = Int32.ofInt x := Int32.ofInt_toInt _
theorem sw_64o (x : Int) : Int64.ofInt (sw_64 x) = Int64.ofInt x := Int64.ofInt_toInt _
theorem si_t {x : Int} (h : sr_32 x) : (Int32.ofInt x).toInt = x := sw_32i h
theorem si_lt {x y : Int} (hx : sr_32 x) (hy : sr_32 y) : Int32.ofInt x < Int32.ofInt y ↔ x < y := by
  rw [Int32.lt_iff_toInt_lt, si_t hx, si_t hy]
theorem si_le {x y : Int} (hx : sr_32 x) (hy : sr_32 y) : Int32.ofInt x ≤ Int32.ofInt y ↔ x ≤ y := by
  rw [Int32.le_iff_toInt_le, si_t hx, si_t hy]
theorem si_eq {x y : Int} (hx : sr_32 x) (hy : sr_32 y) : Int32.ofInt x = Int32.ofInt y ↔ x = y := by
  rw [← Int32.toInt_inj, si_t hx, si_t hy]
theorem sr_320 : sr_32 0 := ⟨by decide, by decide⟩
theorem si_in {x : Int} {n : Nat} (hx : sr_32 x) (h0 : 0 ≤ x) (hn : x < n) : vp_in (Int32.ofInt x) n := by
  rw [vp_in_iff, si_t hx]
  exact ⟨h0, hn⟩
theorem si_cl {x : Int} (hx : sr_32 x) : (Int32.ofInt x).toNatClampNeg = x.toNat := by
  show (Int32.ofInt x).toInt.toNat = x.toNat
  rw [si_t hx]
/-- the value in the machine -/
def sv_v (g : SG_) : SV_ → Value
  | .inl x => .int (Int32.ofInt x)
  | .inr (.inl x) => .long (Int64.ofInt x)
  | .inr (.inr ((c, n), k)) => .ref (if c = 5 then sg_x g n else sg_a g k.toNat)
/-- the kinds of the cells: (0, n) ints, (1, n) booleans, (2, n) minds, (3, n) towns, (4, c) an object of class c -/
def sl_y : List (Nat × Nat) := [(4, 7), (4, 5), (0, 8), (0, 8), (0, 320), (4, 4), (0, 120),
  (4, 6), (0, 6), (0, 6), (0, 6), (0, 4), (0, 4), (0, 4), (0, 4), (4, 6), (0, 6), (0, 6), (0, 6), (0, 4), (0, 4), (0, 4), (0, 4),
  (4, 6), (0, 6), (0, 6), (0, 6), (0, 4), (0, 4), (0, 4), (0, 4), (4, 6), (0, 6), (0, 6), (0, 6), (0, 4), (0, 4), (0, 4), (0, 4), (3, 2),
  (4, 0), (0, 24), (0, 24), (0, 24), (0, 24), (0, 24), (4, 2), (2, 7), (0, 6), (0, 6), (0, 6), (0, 6),
  (4, 3), (0, 4), (4, 3), (0, 4), (4, 3), (0, 4), (4, 3), (0, 4), (4, 3), (0, 4), (4, 3), (0, 4), (4, 3), (0, 4), (4, 1), (0, 16),
  (4, 8), (0, 8), (0, 8), (0, 320), (0, 40), (0, 120), (0, 38), (0, 38), (0, 912), (0, 76), (1, 2), (0, 16), (0, 4), (0, 6), (0, 6)]
/-- the fields: none an int; else a cell's kind, and where it is (true: so many behind the object; false: there) -/
def sf_t : List (List (Option ((Nat × Nat) × Bool × Int))) := [
  [some ((0, 24), true, 1), some ((0, 24), true, 2), some ((0, 24), true, 3), some ((0, 24), true, 4), some ((0, 24), true, 5), none, none],
  [some ((4, 6), false, 7), some ((0, 16), true, 1), none],
  [some ((4, 6), false, 7), some ((2, 7), true, 1), some ((0, 6), true, 2), some ((0, 6), true, 3), none, none, some ((0, 6), true, 4), some ((0, 6), true, 5), none],
  [none, none, none, some ((0, 4), true, 1)],
  [some ((0, 120), true, 1), none, none, none],
  [some ((0, 8), true, 1), some ((0, 8), true, 2), some ((0, 320), true, 3)],
  [none, none, none, none, some ((0, 6), true, 1), some ((0, 6), true, 2), some ((0, 6), true, 3), some ((0, 4), true, 4), some ((0, 4), true, 5), some ((0, 4), true, 6), some ((0, 4), true, 7)],
  [some ((4, 5), false, 1), some ((4, 4), false, 5), some ((4, 6), false, 7), some ((4, 6), false, 15), some ((3, 2), false, 39), some ((4, 0), false, 40), some ((4, 2), false, 46), some ((4, 1), false, 66), none],
  [some ((0, 8), true, 1), some ((0, 8), true, 2), some ((0, 320), true, 3), some ((0, 40), true, 4), none, some ((0, 120), true, 5), none, none, none, none, none, none, none, some ((0, 38), true, 6), some ((0, 38), true, 7), some ((0, 912), true, 8), none, some ((0, 76), true, 9), some ((1, 2), true, 10), some ((0, 16), true, 11), none, none, none, none, some ((0, 4), true, 12), some ((0, 6), true, 13), some ((0, 6), true, 14), none]]
def sf_c (c : Nat) : List (Option ((Nat × Nat) × Bool × Int)) := sf_t.getD c []
def sf_v (c : Nat) (k : Int) (j : Nat) (h : SH_) : SV_ := match (sf_c c).getD j none with
  | none => .inl (h k j)
  | some (kd, true, o) => .inr (.inr (kd, k + o))
  | some (kd, false, o) => .inr (.inr (kd, o))
def sw_e (g : SG_) (kd : Nat × Nat) (k : Int) (h : SH_) : va_E := match kd.1 with
  | 0 => .inl (sg_I g, kd.2, .inl (fun j => Int32.ofInt (h k j)))
  | 1 => .inl (sg_Z g, kd.2, .inl (fun j => Int32.ofInt (h k j)))
  | 2 => .inl (sg_M g, kd.2, .inr (.inr (.inr (.inr (fun j => some (sg_a g (52 + 2 * j)))))))
  | 3 => .inl (sg_T g, kd.2, .inr (.inr (.inr (.inr (fun j => some (sg_a g (23 + 8 * j)))))))
  | _ => .inr (kd.2, (List.range (sf_c kd.2).length).map (fun j => sv_v g (sf_v kd.2 k j h)))
def sw_l (g : SG_) (h : SH_) : va_W := (List.range 83).map (fun k => (sg_a g k, sw_e g (sl_y.getD k (0, 0)) k h))
/-- a slot becomes v -/
def hs_ (h : SH_) (k j v : Int) : SH_ := fun a b => if a = k ∧ b = j then v else h a b
theorem hs_e (h : SH_) (k j v : Int) : hs_ h k j v k j = v := by simp [hs_]
theorem hs_n {h : SH_} {k j v a b : Int} (hn : ¬ (a = k ∧ b = j)) : hs_ h k j v a b = h a b := by simp [hs_, hn]
theorem hs_k {h : SH_} {k j v a : Int} (hn : a ≠ k) : hs_ h k j v a = h a := by funext b; simp [hs_, hn]
theorem sw_len : sl_y.length = 83 := by decide
theorem sw_get {g : SG_} {h : SH_} {k : Int} {kd : Nat × Nat} (h0 : 0 ≤ k) (hk : sl_y[k.toNat]? = some kd) : (sw_l g h)[k.toNat]? = some (sg_a g k.toNat, sw_e g kd k h) := by
  have hlt : k.toNat < 83 := by
    have h1 := (List.getElem?_eq_some_iff.mp hk).1
    rw [sw_len] at h1
    exact h1
  have hg : sl_y.getD k.toNat (0, 0) = kd := by rw [List.getD_eq_getElem?_getD, hk]; rfl
  rw [sw_l, List.getElem?_map, List.getElem?_range hlt]
  show some (sg_a g k.toNat, sw_e g (sl_y.getD k.toNat (0, 0)) ((k.toNat : Nat) : Int) h) = _
  rw [hg, Int.toNat_of_nonneg h0]
theorem sw_ec {g : SG_} {kd : Nat × Nat} {k : Int} {h1 h2 : SH_} (e : h1 k = h2 k) : sw_e g kd k h1 = sw_e g kd k h2 := by
  have hf : ∀ c j, sf_v c k j h1 = sf_v c k j h2 := fun c j => by
    unfold sf_v
    rw [e]
  unfold sw_e
  simp only [e, hf]
theorem sw_set {g : SG_} {h h2 : SH_} {k : Int} {kd : Nat × Nat} (h0 : 0 ≤ k) (hk : sl_y[k.toNat]? = some kd) (ho : ∀ a : Int, a ≠ k → h2 a = h a) {E : va_E} (hE : E = sw_e g kd k h2) : (sw_l g h).set k.toNat (sg_a g k.toNat, E) = sw_l g h2 := by
  subst hE
  apply List.ext_getElem?
  intro i
  by_cases hi : k.toNat = i
  · subst hi
    have h1 := sw_get (g := g) (h := h) h0 hk
    rw [List.getElem?_set_self (List.getElem?_eq_some_iff.mp h1).1, sw_get h0 hk]
  · rw [List.getElem?_set_ne hi]
    unfold sw_l
    rw [List.getElem?_map, List.getElem?_map]
    by_cases hl : i < 83
    · rw [List.getElem?_range hl]
      show some (_, _) = some (_, _)
      rw [sw_ec (h1 := h2) (h2 := h) (ho i (fun q => hi (by omega)))]
    · rw [List.getElem?_eq_none (by simpa using hl)]
      rfl
end
section
/-! the judgement -/
def sv_ok : SV_ → Prop
  | .inl x => sr_32 x
  | .inr (.inl x) => sr_64 x
  | .inr (.inr ((c, n), k)) => (c = 5 ∧ n < 4) ∨ (c ≠ 5 ∧ 0 ≤ k ∧ sl_y[k.toNat]? = some (c, n))
def sv_oks (st : List SV_) : Prop := ∀ v ∈ st, sv_ok v
def sl_ok (ls : List (Option SV_)) : Prop := ∀ v, some v ∈ ls → sv_ok v
def sh_ok (h : SH_) : Prop := ∀ k j, sr_32 (h k j)
def sl_v (g : SG_) : Nat → List (Option SV_) → List (Nat × Value)
  | _, [] => []
  | i, none :: l => sl_v g (i + 1) l
  | i, some v :: l => (i, sv_v g v) :: sl_v g (i + 1) l
theorem sl_mem {g : SG_} {q : Nat × Value} : ∀ {l : List (Option SV_)} {i : Nat}, q ∈ sl_v g i l ↔ ∃ (j : Nat) (v : SV_), l[j]? = some (some v) ∧ q = (i + j, sv_v g v) := by
  intro l
  induction l with
  | nil => intro i; simp [sl_v]
  | cons a l ih =>
    intro i
    have key : (∃ (j : Nat) (v : SV_), l[j]? = some (some v) ∧ q = (i + 1 + j, sv_v g v)) ↔ ∃ (j : Nat) (v : SV_), (a :: l)[j + 1]? = some (some v) ∧ q = (i + (j + 1), sv_v g v) := by
      constructor
      · rintro ⟨j, v, h1, h2⟩; exact ⟨j, v, by simpa using h1, by rw [h2]; congr 1; omega⟩
      · rintro ⟨j, v, h1, h2⟩; exact ⟨j, v, by simpa using h1, by rw [h2]; congr 1; omega⟩
    cases a with
    | none =>
      show q ∈ sl_v g (i + 1) l ↔ _
      rw [ih, key]
      constructor
      · rintro ⟨j, v, h1, h2⟩; exact ⟨j + 1, v, h1, h2⟩
      · rintro ⟨j, v, h1, h2⟩
        cases j with
        | zero => simp at h1
        | succ j => exact ⟨j, v, h1, h2⟩
    | some w =>
      show q ∈ (i, sv_v g w) :: sl_v g (i + 1) l ↔ _
      rw [List.mem_cons, ih, key]
      constructor
      · rintro (h | ⟨j, v, h1, h2⟩)
        · exact ⟨0, w, by simp, by simpa using h⟩
        · exact ⟨j + 1, v, h1, h2⟩
      · rintro ⟨j, v, h1, h2⟩
        cases j with
        | zero =>
          left
          simp at h1
          rw [h2, h1]
          rfl
        | succ j => exact Or.inr ⟨j, v, h1, h2⟩
theorem sl_at {g : SG_} {lsA : Array Slot} {n i : Nat} {ls : List (Option SV_)} {v : SV_} (h : lv_has lsA n (sl_v g 0 ls)) (hv : ls[i]? = some (some v)) : lsA[i]? = some (.val (sv_v g v)) := by
  have h1 := h.2.2 (i, sv_v g v) (sl_mem.mpr ⟨i, v, hv, by simp⟩)
  exact h1
def ss_C (i : Nat) : String := if i = 0 then "NodBets$Kinds" else "NodBets$Asks"
def ss_N (i : Nat) : String := if i = 0 then "ABOVE" else if i = 1 then "SIZE_BODIES" else "MARK_BODIES"
/-- what holds of the machine's tables and of what lies outside the world -/
def sg_K (g : SG_) (U : State) : Prop := va_K (sg_D g) vwCl (sg_t g) U ∧ (∀ i j, i < 83 → j < 83 → sg_a g i = sg_a g j → i = j) ∧ (∀ i, i < 83 → sg_B g ≤ sg_a g i) ∧ sg_B g ≤ U.heap.size ∧
  (∀ i, i < 3 → va_Z (ss_C i) (ss_N i) "[I" (.ref (sg_x g i)) (sg_A g) U U.heap) ∧ (∀ i, i < 4 → va_T .int (sg_x g i) (sg_X g i).1 (fun j => .int (Int32.ofInt ((sg_X g i).2 j))) (sg_A g) U U.heap) ∧ (∀ i, i < 4 → (sg_X g i).1 < 2147483648 ∧ ∀ j, sr_32 ((sg_X g i).2 j))
theorem sg_K.moved {g : SG_} {u U : State} (hvm : u.vm.Alike U.vm) (hz : u.heap.size ≤ U.heap.size) (hh : ∀ q : Nat, q < u.heap.size → ¬ sg_A g q → U.heap[q]? = u.heap[q]?) (h : sg_K g u) : sg_K g U := by
  obtain ⟨h1, h2, h3, h4, h5, h6, h7⟩ := h
  exact ⟨va_K.moved hvm h1, h2, h3, Nat.le_trans h4 hz, fun i hi => ((h5 i hi).moved hvm).kept hh, fun i hi => ((h6 i hi).moved hvm).kept hh, h7⟩
theorem sg_Dw {g : SG_} {U : State} (hK : sg_K g U) (h : SH_) : va_D (sg_A g) (sw_l g h) := by
  have key : ∀ (i : Nat) (p : Nat × va_E), (sw_l g h)[i]? = some p → i < 83 ∧ p.1 = sg_a g i := by
    intro i p hp
    unfold sw_l at hp
    rw [List.getElem?_map] at hp
    by_cases hi : i < 83
    · rw [List.getElem?_range hi] at hp
      cases hp
      exact ⟨hi, rfl⟩
    · rw [List.getElem?_eq_none (by simpa using hi)] at hp
      cases hp
  refine ⟨fun i j p q hp hq e => ?_, fun k q hq => ?_⟩
  · obtain ⟨a1, a2⟩ := key i p hp
    obtain ⟨b1, b2⟩ := key j q hq
    exact hK.2.1 i j a1 b1 (by rw [← a2, ← b2, e])
  · obtain ⟨a1, a2⟩ := key k q hq
    show sg_B g ≤ q.1
    rw [a2]
    exact hK.2.2.1 k a1
/-- a frame's surroundings -/
def sc_x (g : SG_) (d : Nat) (M : MD_) (p : Program) (R : Room) (s : State) (m : MethodId) (args : Array Value) (c : Code) (cells slots : Nat) : Prop :=
  p.tables.exec = Jvm.exec ∧ c.code = M.2.1 ∧ c.maxLocals = M.2.2.1 ∧ s.vm.findClass M.1.cls = some m.cls ∧ (∀ w ∈ lw_tbl, w.before args s = true) ∧ sg_K g s ∧ d ≤ R.frames ∧ 64 * d ≤ R.locals ∧ cells ≤ R.cells ∧ slots ≤ R.slots
/-- which return instruction stands there: rt 0 none, 1 int, 2 boolean, 3 long, 4 a reference -/
def sc_t (M : MD_) (pc : Nat) : Option SV_ → Prop
  | none => M.2.2.2.2 = 0 ∧ decode M.2.1 pc = .ok (.return_, 1)
  | some (.inl x) => decode M.2.1 pc = .ok (.ireturn, 1) ∧ (M.2.2.2.2 = 1 ∨ (M.2.2.2.2 = 2 ∧ (x = 0 ∨ x = 1)))
  | some (.inr (.inl _)) => M.2.2.2.2 = 3 ∧ decode M.2.1 pc = .ok (.lreturn, 1)
  | some (.inr (.inr _)) => M.2.2.2.2 = 4 ∧ decode M.2.1 pc = .ok (.areturn, 1)
def so_ok (r : Option SV_) : Prop := ∀ v, r = some v → sv_ok v
def sc_r (g : SG_) (M : MD_) (Post : Option SV_ → SH_ → Prop) (p : Program) (e : Env) (R : Room) (s : State) (m : MethodId) (args : Array Value) (below : List Frame) (meth : Method) (c : Code) (cells slots : Nat) (QQ : State → Prop) : Prop :=
  ∀ (pc : Nat) (lsA : Array Slot) (H : Heap) (locs : List Loc) (r : Option SV_) (h : SH_), Post r h → so_ok r → sh_ok h → va_P (sg_D g) vwCl (sw_l g h) H → va_S (sg_A g) s.heap H locs → sc_t M pc r → W p (sg_l g) e R s m args below meth c H locs cells slots QQ (F0 m pc lsA (r.toList.map (sv_v g)))
/-- from this frame the method returns, and Post holds of its answer and of the heap then -/
def V_ (g : SG_) (d : Nat) (M : MD_) (pc : Nat) (ls : List (Option SV_)) (st : List SV_) (h : SH_) (Post : Option SV_ → SH_ → Prop) : Prop :=
  ∀ (p : Program) (e : Env) (R : Room) (s : State) (m : MethodId) (args : Array Value) (below : List Frame) (meth : Method) (c : Code) (cells slots : Nat) (QQ : State → Prop),
    sc_x g d M p R s m args c cells slots → sc_r g M Post p e R s m args below meth c cells slots QQ →
    ∀ (H : Heap) (locs : List Loc) (lsA : Array Slot), sl_ok ls → sv_oks st → sh_ok h → va_P (sg_D g) vwCl (sw_l g h) H → va_S (sg_A g) s.heap H locs → lv_has lsA M.2.2.1 (sl_v g 0 ls) →
      W p (sg_l g) e R s m args below meth c H locs cells slots QQ (F0 m pc lsA (st.map (sv_v g)))
section VR_
variable {g : SG_} {d : Nat} {M : MD_} {pc q : Nat} {ls : List (Option SV_)} {st : List SV_} {h : SH_} {Post : Option SV_ → SH_ → Prop}
/-- what is known of the values that a frame has -/
theorem V_know (k : sl_ok ls → sv_oks st → sh_ok h → V_ g d M pc ls st h Post) : V_ g d M pc ls st h Post := by
  intro p e R s m args below meth c cells slots QQ C hr H locs lsA oL oS oH hP hS hl
  exact k oL oS oH p e R s m args below meth c cells slots QQ C hr H locs lsA oL oS oH hP hS hl
theorem V_pure {st2 : List SV_} (ok : sv_oks st → sv_oks st2)
    (hw : sv_oks st → ∀ (p : Program) (e : Env) (R : Room) (s : State) (m : MethodId) (args : Array Value) (below : List Frame) (meth : Method) (c : Code) (H : Heap) (locs : List Loc) (cells slots : Nat) (QQ : State → Prop) (lsA : Array Slot), p.tables.exec = Jvm.exec → c.code = M.2.1 → W p (sg_l g) e R s m args below meth c H locs cells slots QQ (F0 m q lsA (st2.map (sv_v g))) → W p (sg_l g) e R s m args below meth c H locs cells slots QQ (F0 m pc lsA (st.map (sv_v g))))
    (k : V_ g d M q ls st2 h Post) : V_ g d M pc ls st h Post := by
  intro p e R s m args below meth c cells slots QQ C hr H locs lsA oL oS oH hP hS hl
  exact hw oS p e R s m args below meth c H locs cells slots QQ lsA C.1 C.2.1 (k p e R s m args below meth c cells slots QQ C hr H locs lsA oL (ok oS) oH hP hS hl)
theorem so_1 {v : SV_} (hv : sv_ok v) (hs : sv_oks st) : sv_oks (v :: st) := fun w hw => (List.mem_cons.mp hw).elim (fun e => e ▸ hv) (hs w)
theorem so_t {v : SV_} (hs : sv_oks (v :: st)) : sv_oks st := fun w hw => hs w (List.mem_cons_of_mem _ hw)
theorem so_h {v : SV_} (hs : sv_oks (v :: st)) : sv_ok v := hs v List.mem_cons_self
theorem so_i {n : Int} (hn : sr_32 n) (hs : sv_oks st) : sv_oks (sv_i n :: st) := so_1 (v := sv_i n) hn hs
theorem so_l {n : Int} (hn : sr_64 n) (hs : sv_oks st) : sv_oks (sv_l n :: st) := so_1 (v := sv_l n) hn hs
theorem so_hi {n : Int} (hs : sv_oks (sv_i n :: st)) : sr_32 n := so_h hs
theorem so_hl {n : Int} (hs : sv_oks (sv_l n :: st)) : sr_64 n := so_h hs
/-- a value's words -/
def sv_c : SV_ → Nat
  | .inl _ => 1
  | .inr (.inl _) => 2
  | .inr (.inr _) => 1
theorem sv_ce (v : SV_) : (sv_v g v).category = sv_c v := by
  obtain x | x | ⟨⟨c, n⟩, k⟩ := v <;> rfl
theorem sv_c1 {v : SV_} {n : Nat} (h : sv_c v = n) : (sv_v g v).category = n := by rw [sv_ce, h]
def sb_i2b (x : Int) : Int := (Int32.ofInt x).toInt8.toInt32.toInt
def sb_i2s (x : Int) : Int := (Int32.ofInt x).toInt16.toInt32.toInt
theorem sr_46 {x : Int} (h : sr_32 x) : sr_64 x := ⟨by have := h.1; omega, by have := h.2; omega⟩
theorem sj_t {x : Int} (h : sr_64 x) : (Int64.ofInt x).toInt = x := sw_64i h
theorem si_64 {x : Int} (h : sr_32 x) : (Int32.ofInt x).toInt64 = Int64.ofInt x := by
  rw [← Int64.toInt_inj, sj_t (sr_46 h), Int32.toInt_toInt64, si_t h]
theorem si_46 {x : Int} (h : sr_64 x) (h2 : sr_32 x) : (Int64.ofInt x).toInt32 = Int32.ofInt x := by
  rw [← Int32.toInt_inj, Int64.toInt_toInt32, sj_t h, Int32.toInt_ofInt]
theorem sj_tdr {x y : Int} (hx : sr_64 x) (h : 0 < y) : sr_64 (x.tdiv y) := by
  unfold sr_64 at *
  by_cases h0 : 0 ≤ x
  · rw [Int.tdiv_eq_ediv_of_nonneg h0]
    have h1 := Int.ediv_nonneg h0 (Int.le_of_lt h)
    have h2 := Int.ediv_le_self y h0
    omega
  · have e : x.tdiv y = -((-x) / y) := by
      rw [← Int.tdiv_eq_ediv_of_nonneg (by omega), Int.neg_tdiv, Int.neg_neg]
    rw [e]
    have h1 := Int.ediv_nonneg (a := -x) (by omega) (Int.le_of_lt h)
    have h2 := Int.ediv_le_self (a := -x) y (by omega)
    omega
theorem sj_div {x y : Int} (hx : sr_64 x) (hy : sr_64 y) (h : 0 < y) : Int64.ofInt (x.tdiv y) = Int64.ofInt x / Int64.ofInt y := by
  rw [← Int64.toInt_inj, Int64.toInt_div_of_ne_right _ _ (fun e => by
    have e2 := congrArg Int64.toInt e
    rw [sj_t hy] at e2
    have e3 : (-1 : Int64).toInt = -1 := by decide
    omega), sj_t hx, sj_t hy, sj_t (sj_tdr hx h)]
theorem sj_ne {y : Int} (hy : sr_64 y) (h : 0 < y) : ¬ Int64.ofInt y = 0 := fun e => by
  have e2 := congrArg Int64.toInt e
  rw [sj_t hy] at e2
  have e3 : (0 : Int64).toInt = 0 := by decide
  omega
theorem vr_iconst {n : Int} (hd : decode M.2.1 pc = .ok (.iconst n, 1)) (hq : pc + 1 = q) (hn : sr_32 n) (k : V_ g d M q ls (sv_i n :: st) h Post) : V_ g d M pc ls (st) h Post := by
  subst hq
  exact V_pure (st2 := sv_i n :: st) (fun oS => so_i hn oS) (fun _ p e R s m args below meth c H locs cells slots QQ lsA hx hb w => lv_iconst hx hb hd rfl w) k
theorem vr_bipush {n : Int} (hd : decode M.2.1 pc = .ok (.bipush n, 2)) (hq : pc + 2 = q) (hn : sr_32 n) (hv : (Int8.ofInt n).toInt32 = Int32.ofInt n) (k : V_ g d M q ls (sv_i n :: st) h Post) : V_ g d M pc ls (st) h Post := by
  subst hq
  exact V_pure (st2 := sv_i n :: st) (fun oS => so_i hn oS) (fun _ p e R s m args below meth c H locs cells slots QQ lsA hx hb w => lv_bipush hx hb hd hv w) k
theorem vr_sipush {n : Int} (hd : decode M.2.1 pc = .ok (.sipush n, 3)) (hq : pc + 3 = q) (hn : sr_32 n) (hv : (Int16.ofInt n).toInt32 = Int32.ofInt n) (k : V_ g d M q ls (sv_i n :: st) h Post) : V_ g d M pc ls (st) h Post := by
  subst hq
  exact V_pure (st2 := sv_i n :: st) (fun oS => so_i hn oS) (fun _ p e R s m args below meth c H locs cells slots QQ lsA hx hb w => lv_sipush hx hb hd hv w) k
theorem vr_lconst {n : Fin 2} (hd : decode M.2.1 pc = .ok (.lconst n, 1)) (hq : pc + 1 = q) (k : V_ g d M q ls (sv_l ((n : Nat) : Int) :: st) h Post) : V_ g d M pc ls (st) h Post := by
  subst hq
  exact V_pure (st2 := sv_l ((n : Nat) : Int) :: st) (fun oS => so_l ⟨by have := n.isLt; omega, by have := n.isLt; omega⟩ oS) (fun _ p e R s m args below meth c H locs cells slots QQ lsA hx hb w => lv_lconst hx hb hd Int64.ofInt_eq_ofNat.symm w) k
theorem vr_iadd {x y : Int} (hd : decode M.2.1 pc = .ok (.iadd, 1)) (hq : pc + 1 = q) (k : V_ g d M q ls (sv_i (sw_32 (x + y)) :: st) h Post) : V_ g d M pc ls (sv_i y :: sv_i x :: st) h Post := by
  subst hq
  exact V_pure (st2 := sv_i (sw_32 (x + y)) :: st) (fun oS => so_i (sr_32w _) (so_t (so_t oS))) (fun _ p e R s m args below meth c H locs cells slots QQ lsA hx hb w => lv_iadd hx hb hd (by simpa [sv_v, sw_32o, Int32.ofInt_add] using w)) k
theorem vr_iaddN {x y : Int} (hd : decode M.2.1 pc = .ok (.iadd, 1)) (hq : pc + 1 = q) (hr : sr_32 (x + y)) (k : V_ g d M q ls (sv_i (x + y) :: st) h Post) : V_ g d M pc ls (sv_i y :: sv_i x :: st) h Post := by
  subst hq
  exact V_pure (st2 := sv_i (x + y) :: st) (fun oS => so_i hr (so_t (so_t oS))) (fun _ p e R s m args below meth c H locs cells slots QQ lsA hx hb w => lv_iadd hx hb hd (by simpa [sv_v, Int32.ofInt_add] using w)) k
theorem vr_isub {x y : Int} (hd : decode M.2.1 pc = .ok (.isub, 1)) (hq : pc + 1 = q) (k : V_ g d M q ls (sv_i (sw_32 (x - y)) :: st) h Post) : V_ g d M pc ls (sv_i y :: sv_i x :: st) h Post := by
  subst hq
  exact V_pure (st2 := sv_i (sw_32 (x - y)) :: st) (fun oS => so_i (sr_32w _) (so_t (so_t oS))) (fun _ p e R s m args below meth c H locs cells slots QQ lsA hx hb w => lv_isub hx hb hd (by simpa [sv_v, sw_32o, Int32.ofInt_sub] using w)) k
theorem vr_isubN {x y : Int} (hd : decode M.2.1 pc = .ok (.isub, 1)) (hq : pc + 1 = q) (hr : sr_32 (x - y)) (k : V_ g d M q ls (sv_i (x - y) :: st) h Post) : V_ g d M pc ls (sv_i y :: sv_i x :: st) h Post := by
  subst hq
  exact V_pure (st2 := sv_i (x - y) :: st) (fun oS => so_i hr (so_t (so_t oS))) (fun _ p e R s m args below meth c H locs cells slots QQ lsA hx hb w => lv_isub hx hb hd (by simpa [sv_v, Int32.ofInt_sub] using w)) k
theorem vr_imul {x y : Int} (hd : decode M.2.1 pc = .ok (.imul, 1)) (hq : pc + 1 = q) (k : V_ g d M q ls (sv_i (sw_32 (x * y)) :: st) h Post) : V_ g d M pc ls (sv_i y :: sv_i x :: st) h Post := by
  subst hq
  exact V_pure (st2 := sv_i (sw_32 (x * y)) :: st) (fun oS => so_i (sr_32w _) (so_t (so_t oS))) (fun _ p e R s m args below meth c H locs cells slots QQ lsA hx hb w => lv_imul hx hb hd (by simpa [sv_v, sw_32o, Int32.ofInt_mul] using w)) k
theorem vr_imulN {x y : Int} (hd : decode M.2.1 pc = .ok (.imul, 1)) (hq : pc + 1 = q) (hr : sr_32 (x * y)) (k : V_ g d M q ls (sv_i (x * y) :: st) h Post) : V_ g d M pc ls (sv_i y :: sv_i x :: st) h Post := by
  subst hq
  exact V_pure (st2 := sv_i (x * y) :: st) (fun oS => so_i hr (so_t (so_t oS))) (fun _ p e R s m args below meth c H locs cells slots QQ lsA hx hb w => lv_imul hx hb hd (by simpa [sv_v, Int32.ofInt_mul] using w)) k
theorem vr_ineg {x : Int} (hd : decode M.2.1 pc = .ok (.ineg, 1)) (hq : pc + 1 = q) (hr : sr_32 (-x)) (k : V_ g d M q ls (sv_i (-x) :: st) h Post) : V_ g d M pc ls (sv_i x :: st) h Post := by
  subst hq
  exact V_pure (st2 := sv_i (-x) :: st) (fun oS => so_i hr (so_t oS)) (fun _ p e R s m args below meth c H locs cells slots QQ lsA hx hb w => lv_ineg hx hb hd (by simpa [sv_v, Int32.ofInt_neg] using w)) k
def sb_iand (x y : Int) : Int := (Int32.ofInt x &&& Int32.ofInt y).toInt
theorem vr_iand {x y : Int} (hd : decode M.2.1 pc = .ok (.iand, 1)) (hq : pc + 1 = q) (k : V_ g d M q ls (sv_i (sb_iand x y) :: st) h Post) : V_ g d M pc ls (sv_i y :: sv_i x :: st) h Post := by
  subst hq
  exact V_pure (st2 := sv_i (sb_iand x y) :: st) (fun oS => so_i (sr_32t _) (so_t (so_t oS))) (fun _ p e R s m args below meth c H locs cells slots QQ lsA hx hb w => lv_iand hx hb hd (by simpa [sv_v, sb_iand, Int32.ofInt_toInt] using w)) k
def sb_ior (x y : Int) : Int := (Int32.ofInt x ||| Int32.ofInt y).toInt
theorem vr_ior {x y : Int} (hd : decode M.2.1 pc = .ok (.ior, 1)) (hq : pc + 1 = q) (k : V_ g d M q ls (sv_i (sb_ior x y) :: st) h Post) : V_ g d M pc ls (sv_i y :: sv_i x :: st) h Post := by
  subst hq
  exact V_pure (st2 := sv_i (sb_ior x y) :: st) (fun oS => so_i (sr_32t _) (so_t (so_t oS))) (fun _ p e R s m args below meth c H locs cells slots QQ lsA hx hb w => lv_ior hx hb hd (by simpa [sv_v, sb_ior, Int32.ofInt_toInt] using w)) k
def sb_ixor (x y : Int) : Int := (Int32.ofInt x ^^^ Int32.ofInt y).toInt
theorem vr_ixor {x y : Int} (hd : decode M.2.1 pc = .ok (.ixor, 1)) (hq : pc + 1 = q) (k : V_ g d M q ls (sv_i (sb_ixor x y) :: st) h Post) : V_ g d M pc ls (sv_i y :: sv_i x :: st) h Post := by
  subst hq
  exact V_pure (st2 := sv_i (sb_ixor x y) :: st) (fun oS => so_i (sr_32t _) (so_t (so_t oS))) (fun _ p e R s m args below meth c H locs cells slots QQ lsA hx hb w => lv_ixor hx hb hd (by simpa [sv_v, sb_ixor, Int32.ofInt_toInt] using w)) k
def sb_ishl (x y : Int) : Int := (Int32.ofInt x <<< (Int32.ofInt y &&& 31)).toInt
theorem vr_ishl {x y : Int} (hd : decode M.2.1 pc = .ok (.ishl, 1)) (hq : pc + 1 = q) (k : V_ g d M q ls (sv_i (sb_ishl x y) :: st) h Post) : V_ g d M pc ls (sv_i y :: sv_i x :: st) h Post := by
  subst hq
  exact V_pure (st2 := sv_i (sb_ishl x y) :: st) (fun oS => so_i (sr_32t _) (so_t (so_t oS))) (fun _ p e R s m args below meth c H locs cells slots QQ lsA hx hb w => lv_ishl hx hb hd (by simpa [sv_v, sb_ishl, Int32.ofInt_toInt] using w)) k
def sb_ishr (x y : Int) : Int := (Int32.ofInt x >>> (Int32.ofInt y &&& 31)).toInt
theorem vr_ishr {x y : Int} (hd : decode M.2.1 pc = .ok (.ishr, 1)) (hq : pc + 1 = q) (k : V_ g d M q ls (sv_i (sb_ishr x y) :: st) h Post) : V_ g d M pc ls (sv_i y :: sv_i x :: st) h Post := by
  subst hq
  exact V_pure (st2 := sv_i (sb_ishr x y) :: st) (fun oS => so_i (sr_32t _) (so_t (so_t oS))) (fun _ p e R s m args below meth c H locs cells slots QQ lsA hx hb w => lv_ishr hx hb hd (by simpa [sv_v, sb_ishr, Int32.ofInt_toInt] using w)) k
def sb_iushr (x y : Int) : Int := ((Int32.ofInt x).toUInt32 >>> ((Int32.ofInt y).toUInt32 &&& Int32.toUInt32 31)).toInt32.toInt
theorem vr_iushr {x y : Int} (hd : decode M.2.1 pc = .ok (.iushr, 1)) (hq : pc + 1 = q) (k : V_ g d M q ls (sv_i (sb_iushr x y) :: st) h Post) : V_ g d M pc ls (sv_i y :: sv_i x :: st) h Post := by
  subst hq
  exact V_pure (st2 := sv_i (sb_iushr x y) :: st) (fun oS => so_i (sr_32t _) (so_t (so_t oS))) (fun _ p e R s m args below meth c H locs cells slots QQ lsA hx hb w => lv_iushr hx hb hd (Int32.ofInt_toInt _).symm w) k
theorem si_tdr {x y : Int} (hx : sr_32 x) (h : 0 < y) : sr_32 (x.tdiv y) := by
  unfold sr_32 at *
  by_cases h0 : 0 ≤ x
  · rw [Int.tdiv_eq_ediv_of_nonneg h0]
    have h1 := Int.ediv_nonneg h0 (Int.le_of_lt h)
    have h2 := Int.ediv_le_self y h0
    omega
  · have e : x.tdiv y = -((-x) / y) := by
      rw [← Int.tdiv_eq_ediv_of_nonneg (by omega), Int.neg_tdiv, Int.neg_neg]
    rw [e]
    have h1 := Int.ediv_nonneg (a := -x) (by omega) (Int.le_of_lt h)
    have h2 := Int.ediv_le_self (a := -x) y (by omega)
    omega
theorem si_div {x y : Int} (hx : sr_32 x) (hy : sr_32 y) (h : 0 < y) : Int32.ofInt (x.tdiv y) = Int32.ofInt x / Int32.ofInt y := by
  rw [← Int32.toInt_inj, Int32.toInt_div_of_ne_right _ _ (fun e => by
    have e2 := congrArg Int32.toInt e
    rw [si_t hy] at e2
    have e3 : (-1 : Int32).toInt = -1 := by decide
    omega), si_t hx, si_t hy, si_t (si_tdr hx h)]
theorem si_ne {y : Int} (hy : sr_32 y) (h : 0 < y) : ¬ Int32.ofInt y = 0 := fun e => by
  have e2 := congrArg Int32.toInt e
  rw [si_t hy] at e2
  have e3 : (0 : Int32).toInt = 0 := by decide
  omega
theorem vr_idiv {x y : Int} (hd : decode M.2.1 pc = .ok (.idiv, 1)) (hq : pc + 1 = q) (hy : 0 < y) (k : V_ g d M q ls (sv_i (x.tdiv y) :: st) h Post) : V_ g d M pc ls (sv_i y :: sv_i x :: st) h Post := by
  subst hq
  exact V_pure (st2 := sv_i (x.tdiv y) :: st) (fun oS => so_i (si_tdr (so_hi (so_t oS)) hy) (so_t (so_t oS))) (fun oS p e R s m args below meth c H locs cells slots QQ lsA hx hb w => lv_idiv hx hb hd (si_ne (so_hi oS) hy) (by rw [← si_div (so_hi (so_t oS)) (so_hi oS) hy]; exact w)) k
theorem vr_irem {x y : Int} (hd : decode M.2.1 pc = .ok (.irem, 1)) (hq : pc + 1 = q) (hy : 0 < y) (hr : sr_32 x → sr_32 y → sr_32 (x - x.tdiv y * y)) (k : V_ g d M q ls (sv_i (x - x.tdiv y * y) :: st) h Post) : V_ g d M pc ls (sv_i y :: sv_i x :: st) h Post := by
  subst hq
  exact V_pure (st2 := sv_i (x - x.tdiv y * y) :: st) (fun oS => so_i (hr (so_hi (so_t oS)) (so_hi oS)) (so_t (so_t oS))) (fun oS p e R s m args below meth c H locs cells slots QQ lsA hx hb w => lv_irem hx hb hd (si_ne (so_hi oS) hy) (by rw [← si_div (so_hi (so_t oS)) (so_hi oS) hy, ← Int32.ofInt_mul, ← Int32.ofInt_sub]; exact w)) k
theorem vr_dup {v : SV_} (hd : decode M.2.1 pc = .ok (.dup, 1)) (hq : pc + 1 = q) (hv : sv_c v = 1) (k : V_ g d M q ls (v :: v :: st) h Post) : V_ g d M pc ls (v :: st) h Post := by
  subst hq
  exact V_pure (st2 := v :: v :: st) (fun oS => so_1 (so_h oS) oS) (fun _ p e R s m args below meth c H locs cells slots QQ lsA hx hb w => lv_dup hx hb hd (sv_c1 hv) w) k
theorem vr_pop {v : SV_} (hd : decode M.2.1 pc = .ok (.pop, 1)) (hq : pc + 1 = q) (hv : sv_c v = 1) (k : V_ g d M q ls (st) h Post) : V_ g d M pc ls (v :: st) h Post := by
  subst hq
  exact V_pure (st2 := st) (fun oS => so_t oS) (fun _ p e R s m args below meth c H locs cells slots QQ lsA hx hb w => lv_pop hx hb hd (sv_c1 hv) w) k
theorem vr_dup2 {v u : SV_} (hd : decode M.2.1 pc = .ok (.dup2, 1)) (hq : pc + 1 = q) (hv : sv_c v = 1) (hu : sv_c u = 1) (k : V_ g d M q ls (v :: u :: v :: u :: st) h Post) : V_ g d M pc ls (v :: u :: st) h Post := by
  subst hq
  exact V_pure (st2 := v :: u :: v :: u :: st) (fun oS => so_1 (so_h oS) (so_1 (so_h (so_t oS)) oS)) (fun _ p e R s m args below meth c H locs cells slots QQ lsA hx hb w => lv_dup2_11 hx hb hd (sv_c1 hv) (sv_c1 hu) w) k
theorem vr_i2b {x : Int} (hd : decode M.2.1 pc = .ok (.i2b, 1)) (hq : pc + 1 = q) (k : V_ g d M q ls (sv_i (sb_i2b x) :: st) h Post) : V_ g d M pc ls (sv_i x :: st) h Post := by
  subst hq
  exact V_pure (st2 := sv_i (sb_i2b x) :: st) (fun oS => so_i (sr_32t _) (so_t oS)) (fun _ p e R s m args below meth c H locs cells slots QQ lsA hx hb w => lv_i2b hx hb hd (Int32.ofInt_toInt _).symm w) k
theorem vr_i2s {x : Int} (hd : decode M.2.1 pc = .ok (.i2s, 1)) (hq : pc + 1 = q) (k : V_ g d M q ls (sv_i (sb_i2s x) :: st) h Post) : V_ g d M pc ls (sv_i x :: st) h Post := by
  subst hq
  exact V_pure (st2 := sv_i (sb_i2s x) :: st) (fun oS => so_i (sr_32t _) (so_t oS)) (fun _ p e R s m args below meth c H locs cells slots QQ lsA hx hb w => lv_i2s hx hb hd (Int32.ofInt_toInt _).symm w) k
theorem vr_i2l {x : Int} (hd : decode M.2.1 pc = .ok (.i2l, 1)) (hq : pc + 1 = q) (k : V_ g d M q ls (sv_l x :: st) h Post) : V_ g d M pc ls (sv_i x :: st) h Post := by
  subst hq
  exact V_pure (st2 := sv_l x :: st) (fun oS => so_l (sr_46 (so_hi oS)) (so_t oS)) (fun oS p e R s m args below meth c H locs cells slots QQ lsA hx hb w => lv_i2l hx hb hd (si_64 (so_hi oS)) w) k
theorem vr_l2i {x : Int} (hd : decode M.2.1 pc = .ok (.l2i, 1)) (hq : pc + 1 = q) (hr : sr_32 x) (k : V_ g d M q ls (sv_i x :: st) h Post) : V_ g d M pc ls (sv_l x :: st) h Post := by
  subst hq
  exact V_pure (st2 := sv_i x :: st) (fun oS => so_i hr (so_t oS)) (fun oS p e R s m args below meth c H locs cells slots QQ lsA hx hb w => lv_l2i hx hb hd (si_46 (so_hl oS) hr) w) k
theorem vr_ladd {x y : Int} (hd : decode M.2.1 pc = .ok (.ladd, 1)) (hq : pc + 1 = q) (hr : sr_64 (x + y)) (k : V_ g d M q ls (sv_l (x + y) :: st) h Post) : V_ g d M pc ls (sv_l y :: sv_l x :: st) h Post := by
  subst hq
  exact V_pure (st2 := sv_l (x + y) :: st) (fun oS => so_l hr (so_t (so_t oS))) (fun _ p e R s m args below meth c H locs cells slots QQ lsA hx hb w => lv_ladd hx hb hd (by simpa [sv_v, Int64.ofInt_add] using w)) k
theorem vr_lmul {x y : Int} (hd : decode M.2.1 pc = .ok (.lmul, 1)) (hq : pc + 1 = q) (hr : sr_64 (x * y)) (k : V_ g d M q ls (sv_l (x * y) :: st) h Post) : V_ g d M pc ls (sv_l y :: sv_l x :: st) h Post := by
  subst hq
  exact V_pure (st2 := sv_l (x * y) :: st) (fun oS => so_l hr (so_t (so_t oS))) (fun _ p e R s m args below meth c H locs cells slots QQ lsA hx hb w => lv_lmul hx hb hd (by simpa [sv_v, Int64.ofInt_mul] using w)) k
theorem vr_ldiv {x y : Int} (hd : decode M.2.1 pc = .ok (.ldiv, 1)) (hq : pc + 1 = q) (hy : 0 < y) (k : V_ g d M q ls (sv_l (x.tdiv y) :: st) h Post) : V_ g d M pc ls (sv_l y :: sv_l x :: st) h Post := by
  subst hq
  exact V_pure (st2 := sv_l (x.tdiv y) :: st) (fun oS => so_l (sj_tdr (so_hl (so_t oS)) hy) (so_t (so_t oS))) (fun oS p e R s m args below meth c H locs cells slots QQ lsA hx hb w => lv_ldiv hx hb hd (sj_ne (so_hl oS) hy) (by rw [← sj_div (so_hl (so_t oS)) (so_hl oS) hy]; exact w)) k
theorem vr_lrem {x y : Int} (hd : decode M.2.1 pc = .ok (.lrem, 1)) (hq : pc + 1 = q) (hy : 0 < y) (hr : sr_64 x → sr_64 y → sr_64 (x - x.tdiv y * y)) (k : V_ g d M q ls (sv_l (x - x.tdiv y * y) :: st) h Post) : V_ g d M pc ls (sv_l y :: sv_l x :: st) h Post := by
  subst hq
  exact V_pure (st2 := sv_l (x - x.tdiv y * y) :: st) (fun oS => so_l (hr (so_hl (so_t oS)) (so_hl oS)) (so_t (so_t oS))) (fun oS p e R s m args below meth c H locs cells slots QQ lsA hx hb w => lv_lrem hx hb hd (sj_ne (so_hl oS) hy) (by rw [← sj_div (so_hl (so_t oS)) (so_hl oS) hy, ← Int64.ofInt_mul, ← Int64.ofInt_sub]; exact w)) k
theorem vr_pc {q2 : Nat} (hq : q2 = pc) (k : V_ g d M q2 ls st h Post) : V_ g d M pc ls st h Post := hq ▸ k
end VR_
end
section
section VB_
variable {g : SG_} {d : Nat} {M : MD_} {pc q : Nat} {ls : List (Option SV_)} {st : List SV_} {h : SH_} {Post : Option SV_ → SH_ → Prop}
theorem si_0 : (0 : Int32) = Int32.ofInt 0 := by decide
theorem vr_if_eq {x off : Int} {t : Nat} (hd : decode M.2.1 pc = .ok (.ifCond .eq off, 3)) (ht : (pc : Int) + off = (t : Int)) (hq : pc + 3 = q) (kt : x = 0 → V_ g d M t ls st h Post) (kf : ¬ x = 0 → V_ g d M q ls st h Post) : V_ g d M pc ls (sv_i x :: st) h Post := by
  subst hq
  intro p e R s m args below meth c cells slots QQ C hr H locs lsA oL oS oH hP hS hl
  exact lv_if_eq C.1 C.2.1 hd ht (fun z => kt ((si_eq (so_hi oS) sr_320).mp (by rw [si_0] at z; exact z)) p e R s m args below meth c cells slots QQ C hr H locs lsA oL (so_t oS) oH hP hS hl) (fun z => kf ((not_congr (si_eq (so_hi oS) sr_320)).mp (by rw [si_0] at z; exact z)) p e R s m args below meth c cells slots QQ C hr H locs lsA oL (so_t oS) oH hP hS hl)
theorem vr_if_ne {x off : Int} {t : Nat} (hd : decode M.2.1 pc = .ok (.ifCond .ne off, 3)) (ht : (pc : Int) + off = (t : Int)) (hq : pc + 3 = q) (kt : ¬ x = 0 → V_ g d M t ls st h Post) (kf : x = 0 → V_ g d M q ls st h Post) : V_ g d M pc ls (sv_i x :: st) h Post := by
  subst hq
  intro p e R s m args below meth c cells slots QQ C hr H locs lsA oL oS oH hP hS hl
  exact lv_if_ne C.1 C.2.1 hd ht (fun z => kt ((not_congr (si_eq (so_hi oS) sr_320)).mp (by rw [si_0] at z; exact z)) p e R s m args below meth c cells slots QQ C hr H locs lsA oL (so_t oS) oH hP hS hl) (fun z => kf ((si_eq (so_hi oS) sr_320).mp (by rw [si_0] at z; exact z)) p e R s m args below meth c cells slots QQ C hr H locs lsA oL (so_t oS) oH hP hS hl)
theorem vr_if_lt {x off : Int} {t : Nat} (hd : decode M.2.1 pc = .ok (.ifCond .lt off, 3)) (ht : (pc : Int) + off = (t : Int)) (hq : pc + 3 = q) (kt : x < 0 → V_ g d M t ls st h Post) (kf : ¬ x < 0 → V_ g d M q ls st h Post) : V_ g d M pc ls (sv_i x :: st) h Post := by
  subst hq
  intro p e R s m args below meth c cells slots QQ C hr H locs lsA oL oS oH hP hS hl
  exact lv_if_lt C.1 C.2.1 hd ht (fun z => kt ((si_lt (so_hi oS) sr_320).mp (by rw [si_0] at z; exact z)) p e R s m args below meth c cells slots QQ C hr H locs lsA oL (so_t oS) oH hP hS hl) (fun z => kf ((not_congr (si_lt (so_hi oS) sr_320)).mp (by rw [si_0] at z; exact z)) p e R s m args below meth c cells slots QQ C hr H locs lsA oL (so_t oS) oH hP hS hl)
theorem vr_if_ge {x off : Int} {t : Nat} (hd : decode M.2.1 pc = .ok (.ifCond .ge off, 3)) (ht : (pc : Int) + off = (t : Int)) (hq : pc + 3 = q) (kt : 0 ≤ x → V_ g d M t ls st h Post) (kf : ¬ 0 ≤ x → V_ g d M q ls st h Post) : V_ g d M pc ls (sv_i x :: st) h Post := by
  subst hq
  intro p e R s m args below meth c cells slots QQ C hr H locs lsA oL oS oH hP hS hl
  exact lv_if_ge C.1 C.2.1 hd ht (fun z => kt ((si_le sr_320 (so_hi oS)).mp (by rw [si_0] at z; exact z)) p e R s m args below meth c cells slots QQ C hr H locs lsA oL (so_t oS) oH hP hS hl) (fun z => kf ((not_congr (si_le sr_320 (so_hi oS))).mp (by rw [si_0] at z; exact z)) p e R s m args below meth c cells slots QQ C hr H locs lsA oL (so_t oS) oH hP hS hl)
theorem vr_if_gt {x off : Int} {t : Nat} (hd : decode M.2.1 pc = .ok (.ifCond .gt off, 3)) (ht : (pc : Int) + off = (t : Int)) (hq : pc + 3 = q) (kt : 0 < x → V_ g d M t ls st h Post) (kf : ¬ 0 < x → V_ g d M q ls st h Post) : V_ g d M pc ls (sv_i x :: st) h Post := by
  subst hq
  intro p e R s m args below meth c cells slots QQ C hr H locs lsA oL oS oH hP hS hl
  exact lv_if_gt C.1 C.2.1 hd ht (fun z => kt ((si_lt sr_320 (so_hi oS)).mp (by rw [si_0] at z; exact z)) p e R s m args below meth c cells slots QQ C hr H locs lsA oL (so_t oS) oH hP hS hl) (fun z => kf ((not_congr (si_lt sr_320 (so_hi oS))).mp (by rw [si_0] at z; exact z)) p e R s m args below meth c cells slots QQ C hr H locs lsA oL (so_t oS) oH hP hS hl)
theorem vr_if_le {x off : Int} {t : Nat} (hd : decode M.2.1 pc = .ok (.ifCond .le off, 3)) (ht : (pc : Int) + off = (t : Int)) (hq : pc + 3 = q) (kt : x ≤ 0 → V_ g d M t ls st h Post) (kf : ¬ x ≤ 0 → V_ g d M q ls st h Post) : V_ g d M pc ls (sv_i x :: st) h Post := by
  subst hq
  intro p e R s m args below meth c cells slots QQ C hr H locs lsA oL oS oH hP hS hl
  exact lv_if_le C.1 C.2.1 hd ht (fun z => kt ((si_le (so_hi oS) sr_320).mp (by rw [si_0] at z; exact z)) p e R s m args below meth c cells slots QQ C hr H locs lsA oL (so_t oS) oH hP hS hl) (fun z => kf ((not_congr (si_le (so_hi oS) sr_320)).mp (by rw [si_0] at z; exact z)) p e R s m args below meth c cells slots QQ C hr H locs lsA oL (so_t oS) oH hP hS hl)
theorem vr_ic_eq {x y off : Int} {t : Nat} (hd : decode M.2.1 pc = .ok (.if_icmp .eq off, 3)) (ht : (pc : Int) + off = (t : Int)) (hq : pc + 3 = q) (kt : x = y → V_ g d M t ls st h Post) (kf : ¬ x = y → V_ g d M q ls st h Post) : V_ g d M pc ls (sv_i y :: sv_i x :: st) h Post := by
  subst hq
  intro p e R s m args below meth c cells slots QQ C hr H locs lsA oL oS oH hP hS hl
  exact lv_icmp_eq C.1 C.2.1 hd ht (fun z => kt ((si_eq (so_hi (so_t oS)) (so_hi oS)).mp z) p e R s m args below meth c cells slots QQ C hr H locs lsA oL (so_t (so_t oS)) oH hP hS hl) (fun z => kf ((not_congr (si_eq (so_hi (so_t oS)) (so_hi oS))).mp z) p e R s m args below meth c cells slots QQ C hr H locs lsA oL (so_t (so_t oS)) oH hP hS hl)
theorem vr_ic_ne {x y off : Int} {t : Nat} (hd : decode M.2.1 pc = .ok (.if_icmp .ne off, 3)) (ht : (pc : Int) + off = (t : Int)) (hq : pc + 3 = q) (kt : ¬ x = y → V_ g d M t ls st h Post) (kf : x = y → V_ g d M q ls st h Post) : V_ g d M pc ls (sv_i y :: sv_i x :: st) h Post := by
  subst hq
  intro p e R s m args below meth c cells slots QQ C hr H locs lsA oL oS oH hP hS hl
  exact lv_icmp_ne C.1 C.2.1 hd ht (fun z => kt ((not_congr (si_eq (so_hi (so_t oS)) (so_hi oS))).mp z) p e R s m args below meth c cells slots QQ C hr H locs lsA oL (so_t (so_t oS)) oH hP hS hl) (fun z => kf ((si_eq (so_hi (so_t oS)) (so_hi oS)).mp z) p e R s m args below meth c cells slots QQ C hr H locs lsA oL (so_t (so_t oS)) oH hP hS hl)
theorem vr_ic_lt {x y off : Int} {t : Nat} (hd : decode M.2.1 pc = .ok (.if_icmp .lt off, 3)) (ht : (pc : Int) + off = (t : Int)) (hq : pc + 3 = q) (kt : x < y → V_ g d M t ls st h Post) (kf : ¬ x < y → V_ g d M q ls st h Post) : V_ g d M pc ls (sv_i y :: sv_i x :: st) h Post := by
  subst hq
  intro p e R s m args below meth c cells slots QQ C hr H locs lsA oL oS oH hP hS hl
  exact lv_icmp_lt C.1 C.2.1 hd ht (fun z => kt ((si_lt (so_hi (so_t oS)) (so_hi oS)).mp z) p e R s m args below meth c cells slots QQ C hr H locs lsA oL (so_t (so_t oS)) oH hP hS hl) (fun z => kf ((not_congr (si_lt (so_hi (so_t oS)) (so_hi oS))).mp z) p e R s m args below meth c cells slots QQ C hr H locs lsA oL (so_t (so_t oS)) oH hP hS hl)
theorem vr_ic_ge {x y off : Int} {t : Nat} (hd : decode M.2.1 pc = .ok (.if_icmp .ge off, 3)) (ht : (pc : Int) + off = (t : Int)) (hq : pc + 3 = q) (kt : y ≤ x → V_ g d M t ls st h Post) (kf : ¬ y ≤ x → V_ g d M q ls st h Post) : V_ g d M pc ls (sv_i y :: sv_i x :: st) h Post := by
  subst hq
  intro p e R s m args below meth c cells slots QQ C hr H locs lsA oL oS oH hP hS hl
  exact lv_icmp_ge C.1 C.2.1 hd ht (fun z => kt ((si_le (so_hi oS) (so_hi (so_t oS))).mp z) p e R s m args below meth c cells slots QQ C hr H locs lsA oL (so_t (so_t oS)) oH hP hS hl) (fun z => kf ((not_congr (si_le (so_hi oS) (so_hi (so_t oS)))).mp z) p e R s m args below meth c cells slots QQ C hr H locs lsA oL (so_t (so_t oS)) oH hP hS hl)
theorem vr_ic_gt {x y off : Int} {t : Nat} (hd : decode M.2.1 pc = .ok (.if_icmp .gt off, 3)) (ht : (pc : Int) + off = (t : Int)) (hq : pc + 3 = q) (kt : y < x → V_ g d M t ls st h Post) (kf : ¬ y < x → V_ g d M q ls st h Post) : V_ g d M pc ls (sv_i y :: sv_i x :: st) h Post := by
  subst hq
  intro p e R s m args below meth c cells slots QQ C hr H locs lsA oL oS oH hP hS hl
  exact lv_icmp_gt C.1 C.2.1 hd ht (fun z => kt ((si_lt (so_hi oS) (so_hi (so_t oS))).mp z) p e R s m args below meth c cells slots QQ C hr H locs lsA oL (so_t (so_t oS)) oH hP hS hl) (fun z => kf ((not_congr (si_lt (so_hi oS) (so_hi (so_t oS)))).mp z) p e R s m args below meth c cells slots QQ C hr H locs lsA oL (so_t (so_t oS)) oH hP hS hl)
theorem vr_ic_le {x y off : Int} {t : Nat} (hd : decode M.2.1 pc = .ok (.if_icmp .le off, 3)) (ht : (pc : Int) + off = (t : Int)) (hq : pc + 3 = q) (kt : x ≤ y → V_ g d M t ls st h Post) (kf : ¬ x ≤ y → V_ g d M q ls st h Post) : V_ g d M pc ls (sv_i y :: sv_i x :: st) h Post := by
  subst hq
  intro p e R s m args below meth c cells slots QQ C hr H locs lsA oL oS oH hP hS hl
  exact lv_icmp_le C.1 C.2.1 hd ht (fun z => kt ((si_le (so_hi (so_t oS)) (so_hi oS)).mp z) p e R s m args below meth c cells slots QQ C hr H locs lsA oL (so_t (so_t oS)) oH hP hS hl) (fun z => kf ((not_congr (si_le (so_hi (so_t oS)) (so_hi oS))).mp z) p e R s m args below meth c cells slots QQ C hr H locs lsA oL (so_t (so_t oS)) oH hP hS hl)
theorem vr_goto {off : Int} (hd : decode M.2.1 pc = .ok (.goto off, 3)) (ht : (pc : Int) + off = (q : Int)) (k : V_ g d M q ls st h Post) : V_ g d M pc ls st h Post :=
  V_pure id (fun _ p e R s m args below meth c H locs cells slots QQ lsA hx hb w => lv_goto hx hb hd ht w) k
theorem vr_tsO {dflt lo hi : Int} {offs : Array Int} {len : Nat} {x : Int} (hd : decode M.2.1 pc = .ok (.tableswitch dflt lo hi offs, len)) (hx0 : x < lo ∨ hi < x) (ht : (pc : Int) + dflt = (q : Int)) (k : V_ g d M q ls st h Post) : V_ g d M pc ls (sv_i x :: st) h Post :=
  V_pure (st2 := st) (fun oS => so_t oS) (fun oS p e R s m args below meth c H locs cells slots QQ lsA hx hb w => lv_tableOut hx hb hd (by rw [si_t (so_hi oS)]; exact hx0) ht w) k
theorem vr_tsI {dflt lo hi : Int} {offs : Array Int} {len : Nat} {x off : Int} (hd : decode M.2.1 pc = .ok (.tableswitch dflt lo hi offs, len)) (h1 : ¬ x < lo) (h2 : ¬ hi < x) (ho : offs[(x - lo).toNat]? = some off) (ht : (pc : Int) + off = (q : Int)) (k : V_ g d M q ls st h Post) : V_ g d M pc ls (sv_i x :: st) h Post :=
  V_pure (st2 := st) (fun oS => so_t oS) (fun oS p e R s m args below meth c H locs cells slots QQ lsA hx hb w => lv_tableIn hx hb hd (by rw [si_t (so_hi oS)]; exact h1) (by rw [si_t (so_hi oS)]; exact h2) (by rw [si_t (so_hi oS)]; exact ho) ht w) k
theorem vr_lsw {dflt : Int} {ps : Array (Int × Int)} {len : Nat} {x off : Int} (hd : decode M.2.1 pc = .ok (.lookupswitch dflt ps, len)) (hp : (ps.toList.zip (ps.toList.drop 1)).all (fun (a, next) => a.1 < next.1) = true) (ho : Op.lookupswitch.offset ps.toList dflt x = off) (ht : (pc : Int) + off = (q : Int)) (k : V_ g d M q ls st h Post) : V_ g d M pc ls (sv_i x :: st) h Post :=
  V_pure (st2 := st) (fun oS => so_t oS) (fun oS p e R s m args below meth c H locs cells slots QQ lsA hx hb w => lv_lookup hx hb hd hp (by rw [si_t (so_hi oS)]; exact ho) ht w) k
/-! locals -/
theorem sl_in {i : Nat} {v : SV_} (o : sl_ok ls) (hl : ls[i]? = some (some v)) : sv_ok v := o v (List.mem_of_getElem? hl)
theorem vr_iload_n {j : Fin 4} {x : Int} (hd : decode M.2.1 pc = .ok (.iload_n j, 1)) (hq : pc + 1 = q) (hv : ls[(j : Nat)]? = some (some (sv_i x))) (k : V_ g d M q ls (sv_i x :: st) h Post) : V_ g d M pc ls st h Post := by
  subst hq
  intro p e R s m args below meth c cells slots QQ C hr H locs lsA oL oS oH hP hS hl
  exact lv_iload_n C.1 C.2.1 hd rfl (sl_at hl hv) (k p e R s m args below meth c cells slots QQ C hr H locs lsA oL (so_1 (sl_in oL hv) oS) oH hP hS hl)
theorem vr_iload {j : Nat} {x : Int} (hd : decode M.2.1 pc = .ok (.iload j, 2)) (hq : pc + 2 = q) (hv : ls[j]? = some (some (sv_i x))) (k : V_ g d M q ls (sv_i x :: st) h Post) : V_ g d M pc ls st h Post := by
  subst hq
  intro p e R s m args below meth c cells slots QQ C hr H locs lsA oL oS oH hP hS hl
  exact lv_iload C.1 C.2.1 hd (sl_at hl hv) (k p e R s m args below meth c cells slots QQ C hr H locs lsA oL (so_1 (sl_in oL hv) oS) oH hP hS hl)
theorem vr_lload_n {j : Fin 4} {x : Int} (hd : decode M.2.1 pc = .ok (.lload_n j, 1)) (hq : pc + 1 = q) (hv : ls[(j : Nat)]? = some (some (sv_l x))) (k : V_ g d M q ls (sv_l x :: st) h Post) : V_ g d M pc ls st h Post := by
  subst hq
  intro p e R s m args below meth c cells slots QQ C hr H locs lsA oL oS oH hP hS hl
  exact lv_lload_n C.1 C.2.1 hd rfl (sl_at hl hv) (k p e R s m args below meth c cells slots QQ C hr H locs lsA oL (so_1 (sl_in oL hv) oS) oH hP hS hl)
theorem vr_lload {j : Nat} {x : Int} (hd : decode M.2.1 pc = .ok (.lload j, 2)) (hq : pc + 2 = q) (hv : ls[j]? = some (some (sv_l x))) (k : V_ g d M q ls (sv_l x :: st) h Post) : V_ g d M pc ls st h Post := by
  subst hq
  intro p e R s m args below meth c cells slots QQ C hr H locs lsA oL oS oH hP hS hl
  exact lv_lload C.1 C.2.1 hd (sl_at hl hv) (k p e R s m args below meth c cells slots QQ C hr H locs lsA oL (so_1 (sl_in oL hv) oS) oH hP hS hl)
theorem vr_aload_n {j : Fin 4} {a n : Nat} {x : Int} (hd : decode M.2.1 pc = .ok (.aload_n j, 1)) (hq : pc + 1 = q) (hv : ls[(j : Nat)]? = some (some (sv_r a n x))) (k : V_ g d M q ls (sv_r a n x :: st) h Post) : V_ g d M pc ls st h Post := by
  subst hq
  intro p e R s m args below meth c cells slots QQ C hr H locs lsA oL oS oH hP hS hl
  exact lv_aload_n C.1 C.2.1 hd rfl (sl_at hl hv) (k p e R s m args below meth c cells slots QQ C hr H locs lsA oL (so_1 (sl_in oL hv) oS) oH hP hS hl)
theorem vr_aload {j a n : Nat} {x : Int} (hd : decode M.2.1 pc = .ok (.aload j, 2)) (hq : pc + 2 = q) (hv : ls[j]? = some (some (sv_r a n x))) (k : V_ g d M q ls (sv_r a n x :: st) h Post) : V_ g d M pc ls st h Post := by
  subst hq
  intro p e R s m args below meth c cells slots QQ C hr H locs lsA oL oS oH hP hS hl
  exact lv_aload C.1 C.2.1 hd (sl_at hl hv) (k p e R s m args below meth c cells slots QQ C hr H locs lsA oL (so_1 (sl_in oL hv) oS) oH hP hS hl)
def sl_nl (ls : List (Option SV_)) : Nat → Bool
  | 0 => true
  | i + 1 => match ls[i]? with
    | some (some (.inr (.inl _))) => false
    | _ => true
theorem sl_nlc {i j : Nat} {v : SV_} (hn : sl_nl ls i = true) (hj : j + 1 = i) (hv : ls[j]? = some (some v)) : sv_c v = 1 := by
  subst hj
  simp only [sl_nl, hv] at hn
  obtain x | x | x := v
  · rfl
  · simp at hn
  · rfl
theorem sl_oks {i : Nat} {v : SV_} (o : sl_ok ls) (hv : sv_ok v) : sl_ok (ls.set i (some v)) := fun w hw => by
  rcases List.mem_or_eq_of_mem_set hw with h1 | h1
  · exact o w h1
  · cases h1; exact hv
theorem sl_st1 {lsA : Array Slot} {n i : Nat} {v : SV_} (hn : sl_nl ls i = true) (hl : lv_has lsA n ((i, sv_v g v) :: (sl_v g 0 ls).filter (fun q => !(q.1 == i) && !(q.1 + 1 == i && q.2.category == 2)))) : lv_has lsA n (sl_v g 0 (ls.set i (some v))) := by
  refine ⟨hl.1, hl.2.1, fun q hq => hl.2.2 q ?_⟩
  obtain ⟨j, w, h1, h2⟩ := sl_mem.mp hq
  by_cases hj : i = j
  · subst hj
    have hlt : i < (ls.set i (some v)).length := (List.getElem?_eq_some_iff.mp h1).1
    rw [List.length_set] at hlt
    rw [List.getElem?_set_self hlt] at h1
    cases h1
    rw [h2]
    simp
  · rw [List.getElem?_set_ne hj] at h1
    refine List.mem_cons_of_mem _ (List.mem_filter.mpr ⟨sl_mem.mpr ⟨j, w, h1, h2⟩, ?_⟩)
    rw [h2]
    simp only [Nat.zero_add, Bool.and_eq_true, Bool.not_eq_true', beq_eq_false_iff_ne, ne_eq, Bool.and_eq_false_iff]
    refine ⟨fun e => hj e.symm, ?_⟩
    by_cases h3 : j + 1 = i
    · right
      rw [sv_ce, sl_nlc hn h3 h1]
      decide
    · exact Or.inl h3
theorem sl_st2 {lsA : Array Slot} {n i : Nat} {v : SV_} (hn : sl_nl ls i = true) (hl : lv_has lsA n ((i, sv_v g v) :: (sl_v g 0 ls).filter (fun q => !(q.1 == i) && (!(q.1 == i + 1) && !(q.1 + 1 == i && q.2.category == 2))))) : lv_has lsA n (sl_v g 0 ((ls.set (i + 1) none).set i (some v))) := by
  refine ⟨hl.1, hl.2.1, fun q hq => hl.2.2 q ?_⟩
  obtain ⟨j, w, h1, h2⟩ := sl_mem.mp hq
  by_cases hj : i = j
  · subst hj
    have hlt : i < ((ls.set (i + 1) none).set i (some v)).length := (List.getElem?_eq_some_iff.mp h1).1
    rw [List.length_set] at hlt
    rw [List.getElem?_set_self hlt] at h1
    cases h1
    rw [h2]
    simp
  · rw [List.getElem?_set_ne hj] at h1
    by_cases hj1 : i + 1 = j
    · subst hj1
      have hlt : i + 1 < (ls.set (i + 1) none).length := (List.getElem?_eq_some_iff.mp h1).1
      rw [List.length_set] at hlt
      rw [List.getElem?_set_self hlt] at h1
      cases h1
    rw [List.getElem?_set_ne hj1] at h1
    refine List.mem_cons_of_mem _ (List.mem_filter.mpr ⟨sl_mem.mpr ⟨j, w, h1, h2⟩, ?_⟩)
    rw [h2]
    simp only [Nat.zero_add, Bool.and_eq_true, Bool.not_eq_true', beq_eq_false_iff_ne, ne_eq, Bool.and_eq_false_iff]
    refine ⟨fun e => hj e.symm, fun e => hj1 e.symm, ?_⟩
    by_cases h3 : j + 1 = i
    · right
      rw [sv_ce, sl_nlc hn h3 h1]
      decide
    · exact Or.inl h3
theorem vr_istore_n {j : Fin 4} {i : Nat} {x : Int} {ls2 : List (Option SV_)} (hd : decode M.2.1 pc = .ok (.istore_n j, 1)) (hq : pc + 1 = q) (hi : (j : Nat) = i) (hn : i < M.2.2.1) (hc : sl_nl ls i = true) (h2 : ls.set i (some (sv_i x)) = ls2) (k : V_ g d M q ls2 st h Post) : V_ g d M pc ls (sv_i x :: st) h Post := by
  subst hq
  subst h2
  intro p e R s m args below meth c cells slots QQ C hr H locs lsA oL oS oH hP hS hl
  exact lv_istore_n C.1 C.2.1 hd hi hl hn rfl (fun ls' hl' => k p e R s m args below meth c cells slots QQ C hr H locs ls' (sl_oks oL (so_h oS)) (so_t oS) oH hP hS (sl_st1 (v := sv_i x) hc hl'))
theorem vr_istore {i : Nat} {x : Int} {ls2 : List (Option SV_)} (hd : decode M.2.1 pc = .ok (.istore i, 2)) (hq : pc + 2 = q) (hn : i < M.2.2.1) (hc : sl_nl ls i = true) (h2 : ls.set i (some (sv_i x)) = ls2) (k : V_ g d M q ls2 st h Post) : V_ g d M pc ls (sv_i x :: st) h Post := by
  subst hq
  subst h2
  intro p e R s m args below meth c cells slots QQ C hr H locs lsA oL oS oH hP hS hl
  exact lv_istore C.1 C.2.1 hd hl hn rfl (fun ls' hl' => k p e R s m args below meth c cells slots QQ C hr H locs ls' (sl_oks oL (so_h oS)) (so_t oS) oH hP hS (sl_st1 (v := sv_i x) hc hl'))
theorem vr_astore_n {j : Fin 4} {i a b : Nat} {x : Int} {ls2 : List (Option SV_)} (hd : decode M.2.1 pc = .ok (.astore_n j, 1)) (hq : pc + 1 = q) (hi : (j : Nat) = i) (hn : i < M.2.2.1) (hc : sl_nl ls i = true) (h2 : ls.set i (some (sv_r a b x)) = ls2) (k : V_ g d M q ls2 st h Post) : V_ g d M pc ls (sv_r a b x :: st) h Post := by
  subst hq
  subst h2
  intro p e R s m args below meth c cells slots QQ C hr H locs lsA oL oS oH hP hS hl
  exact lv_astore_n C.1 C.2.1 hd hi hl hn rfl (fun ls' hl' => k p e R s m args below meth c cells slots QQ C hr H locs ls' (sl_oks oL (so_h oS)) (so_t oS) oH hP hS (sl_st1 (v := sv_r a b x) hc hl'))
theorem vr_astore {i a b : Nat} {x : Int} {ls2 : List (Option SV_)} (hd : decode M.2.1 pc = .ok (.astore i, 2)) (hq : pc + 2 = q) (hn : i < M.2.2.1) (hc : sl_nl ls i = true) (h2 : ls.set i (some (sv_r a b x)) = ls2) (k : V_ g d M q ls2 st h Post) : V_ g d M pc ls (sv_r a b x :: st) h Post := by
  subst hq
  subst h2
  intro p e R s m args below meth c cells slots QQ C hr H locs lsA oL oS oH hP hS hl
  exact lv_astore C.1 C.2.1 hd hl hn rfl (fun ls' hl' => k p e R s m args below meth c cells slots QQ C hr H locs ls' (sl_oks oL (so_h oS)) (so_t oS) oH hP hS (sl_st1 (v := sv_r a b x) hc hl'))
theorem vr_lstore {i : Nat} {x : Int} {ls2 : List (Option SV_)} (hd : decode M.2.1 pc = .ok (.lstore i, 2)) (hq : pc + 2 = q) (hn : i + 1 < M.2.2.1) (hc : sl_nl ls i = true) (h2 : (ls.set (i + 1) none).set i (some (sv_l x)) = ls2) (k : V_ g d M q ls2 st h Post) : V_ g d M pc ls (sv_l x :: st) h Post := by
  subst hq
  subst h2
  intro p e R s m args below meth c cells slots QQ C hr H locs lsA oL oS oH hP hS hl
  refine lv_lstore C.1 C.2.1 hd hl hn rfl (fun ls' hl' => k p e R s m args below meth c cells slots QQ C hr H locs ls' (sl_oks (fun w hw => ?_) (so_h oS)) (so_t oS) oH hP hS (sl_st2 (v := sv_l x) hc hl'))
  rcases List.mem_or_eq_of_mem_set hw with h1 | h1
  · exact oL w h1
  · cases h1
theorem vr_iinc {i : Nat} {n x : Int} {ls2 : List (Option SV_)} (hd : decode M.2.1 pc = .ok (.iinc i n, 3)) (hq : pc + 3 = q) (hv : ls[i]? = some (some (sv_i x))) (hr : sr_32 (x + n)) (hn : i < M.2.2.1) (hc : sl_nl ls i = true) (h2 : ls.set i (some (sv_i (x + n))) = ls2) (k : V_ g d M q ls2 st h Post) : V_ g d M pc ls st h Post := by
  subst hq
  subst h2
  intro p e R s m args below meth c cells slots QQ C hr2 H locs lsA oL oS oH hP hS hl
  obtain ⟨j, hj⟩ := List.getElem?_of_mem (sl_mem (g := g) (i := 0).mpr ⟨i, _, hv, rfl⟩)
  rw [Nat.zero_add] at hj
  exact lv_iinc (v := Int32.ofInt (x + n)) C.1 C.2.1 hd hl hj (Int32.ofInt_add _ _).symm hn rfl (fun ls' hl' => k p e R s m args below meth c cells slots QQ C hr2 H locs ls' (sl_oks (v := sv_i (x + n)) oL hr) oS oH hP hS (sl_st1 (v := sv_i (x + n)) hc hl'))
theorem vr_lcmp {x y : Int} (hd : decode M.2.1 pc = .ok (.lcmp, 1)) (hq : pc + 1 = q) (k : V_ g d M q ls (sv_i (if y < x then 1 else if x = y then 0 else -1) :: st) h Post) : V_ g d M pc ls (sv_l y :: sv_l x :: st) h Post := by
  subst hq
  refine V_pure (st2 := sv_i (if y < x then 1 else if x = y then 0 else -1) :: st) (fun oS => so_i ?_ (so_t (so_t oS))) (fun oS p e R s m args below meth c H locs cells slots QQ lsA hx hb w => W.lcmp hx hb hd ?_) k
  · split
    · exact ⟨by decide, by decide⟩
    · split
      · exact ⟨by decide, by decide⟩
      · exact ⟨by decide, by decide⟩
  · have hxx := so_hl (so_t oS)
    have hyy := so_hl oS
    have e : lg_cmp (Int64.ofInt x) (Int64.ofInt y) = Int32.ofInt (if y < x then 1 else if x = y then 0 else -1) := by
      have h1 : Int64.ofInt y < Int64.ofInt x ↔ y < x := by rw [Int64.lt_iff_toInt_lt, sj_t hxx, sj_t hyy]
      have h2 : Int64.ofInt x = Int64.ofInt y ↔ x = y := by rw [← Int64.toInt_inj, sj_t hxx, sj_t hyy]
      unfold lg_cmp
      simp only [gt_iff_lt, h1, h2]
      split
      · rfl
      · split
        · rfl
        · rfl
    rw [e]
    exact w
end VB_
end
