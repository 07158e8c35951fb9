section
-- ===== PART A: goes FIRST, ahead of the names: the tables' words, and 'selects' of the private methods out of them =====
/-- a private method of a class that the tables say can be made, by its rows of tables_1 -/
def lw_okq (q : MethodName × Nat) : Prop := (q.1.cls ≠ "java/lang/invoke/MethodHandle" ∧ q.1.cls ≠ "java/lang/invoke/VarHandle") ∧ Cond.instantiable q.1.cls q.2 ∈ tables_1 ∧ Cond.privateMethod q.1 ∈ tables_1 ∧ Cond.instanceMethod q.1 ∈ tables_1
theorem lw_p0 : lw_okq (⟨"NodBets", "found", "(I)I"⟩, 9) := ⟨⟨by decide +kernel, by decide +kernel⟩, List.mem_of_getElem? (i := 15) (by decide +kernel), List.mem_of_getElem? (i := 267) (by decide +kernel), List.mem_of_getElem? (i := 268) (by decide +kernel)⟩
theorem lw_p1 : lw_okq (⟨"NodBets", "unfound", "(I)I"⟩, 9) := ⟨⟨by decide +kernel, by decide +kernel⟩, List.mem_of_getElem? (i := 15) (by decide +kernel), List.mem_of_getElem? (i := 276) (by decide +kernel), List.mem_of_getElem? (i := 277) (by decide +kernel)⟩
theorem lw_p2 : lw_okq (⟨"NodBets$Reader", "readLaw", "(LNodBets$Town;)Z"⟩, 4) := ⟨⟨by decide +kernel, by decide +kernel⟩, List.mem_of_getElem? (i := 40) (by decide +kernel), List.mem_of_getElem? (i := 343) (by decide +kernel), List.mem_of_getElem? (i := 344) (by decide +kernel)⟩
theorem lw_p3 : lw_okq (⟨"NodBets$Reader", "passed", "(I)Z"⟩, 4) := ⟨⟨by decide +kernel, by decide +kernel⟩, List.mem_of_getElem? (i := 40) (by decide +kernel), List.mem_of_getElem? (i := 347) (by decide +kernel), List.mem_of_getElem? (i := 348) (by decide +kernel)⟩
theorem lw_p4 : lw_okq (⟨"NodBets$Reader", "here", "()I"⟩, 4) := ⟨⟨by decide +kernel, by decide +kernel⟩, List.mem_of_getElem? (i := 40) (by decide +kernel), List.mem_of_getElem? (i := 351) (by decide +kernel), List.mem_of_getElem? (i := 352) (by decide +kernel)⟩
theorem lw_p5 : lw_okq (⟨"NodBets$Reader", "byteAt", "(I)I"⟩, 4) := ⟨⟨by decide +kernel, by decide +kernel⟩, List.mem_of_getElem? (i := 40) (by decide +kernel), List.mem_of_getElem? (i := 355) (by decide +kernel), List.mem_of_getElem? (i := 356) (by decide +kernel)⟩
theorem lw_p6 : lw_okq (⟨"NodBets$Reader", "refuse", "(I)Z"⟩, 4) := ⟨⟨by decide +kernel, by decide +kernel⟩, List.mem_of_getElem? (i := 40) (by decide +kernel), List.mem_of_getElem? (i := 359) (by decide +kernel), List.mem_of_getElem? (i := 360) (by decide +kernel)⟩
theorem lw_p7 : lw_okq (⟨"NodBets$Reader", "readNumber", "(II)I"⟩, 4) := ⟨⟨by decide +kernel, by decide +kernel⟩, List.mem_of_getElem? (i := 40) (by decide +kernel), List.mem_of_getElem? (i := 363) (by decide +kernel), List.mem_of_getElem? (i := 364) (by decide +kernel)⟩
theorem lw_p8 : lw_okq (⟨"NodBets$Reader", "readLies", "(LNodBets$Town;)Z"⟩, 4) := ⟨⟨by decide +kernel, by decide +kernel⟩, List.mem_of_getElem? (i := 40) (by decide +kernel), List.mem_of_getElem? (i := 374) (by decide +kernel), List.mem_of_getElem? (i := 375) (by decide +kernel)⟩
theorem lw_p9 : lw_okq (⟨"NodBets$Reader", "readStrangers", "(LNodBets$Town;)Z"⟩, 4) := ⟨⟨by decide +kernel, by decide +kernel⟩, List.mem_of_getElem? (i := 40) (by decide +kernel), List.mem_of_getElem? (i := 385) (by decide +kernel), List.mem_of_getElem? (i := 386) (by decide +kernel)⟩
theorem lw_p10 : lw_okq (⟨"NodBets$Mind", "undoubtedNeed", "(III)I"⟩, 4) := ⟨⟨by decide +kernel, by decide +kernel⟩, List.mem_of_getElem? (i := 162) (by decide +kernel), List.mem_of_getElem? (i := 464) (by decide +kernel), List.mem_of_getElem? (i := 465) (by decide +kernel)⟩
theorem lw_p11 : lw_okq (⟨"NodBets$Foresight", "seekOrderFrom", "(III)V"⟩, 9) := ⟨⟨by decide +kernel, by decide +kernel⟩, List.mem_of_getElem? (i := 155) (by decide +kernel), List.mem_of_getElem? (i := 559) (by decide +kernel), List.mem_of_getElem? (i := 560) (by decide +kernel)⟩
theorem lw_p12 : lw_okq (⟨"NodBets$Foresight", "keepBest", "(II)V"⟩, 9) := ⟨⟨by decide +kernel, by decide +kernel⟩, List.mem_of_getElem? (i := 155) (by decide +kernel), List.mem_of_getElem? (i := 564) (by decide +kernel), List.mem_of_getElem? (i := 565) (by decide +kernel)⟩
theorem lw_p13 : lw_okq (⟨"NodBets$Foresight", "tryNext", "(II)Z"⟩, 9) := ⟨⟨by decide +kernel, by decide +kernel⟩, List.mem_of_getElem? (i := 155) (by decide +kernel), List.mem_of_getElem? (i := 568) (by decide +kernel), List.mem_of_getElem? (i := 569) (by decide +kernel)⟩
theorem lw_p14 : lw_okq (⟨"NodBets$Foresight", "comesInFrom", "(IIII)Z"⟩, 9) := ⟨⟨by decide +kernel, by decide +kernel⟩, List.mem_of_getElem? (i := 155) (by decide +kernel), List.mem_of_getElem? (i := 594) (by decide +kernel), List.mem_of_getElem? (i := 595) (by decide +kernel)⟩
theorem lw_p15 : lw_okq (⟨"NodBets$Foresight", "deadFrom", "(III)I"⟩, 9) := ⟨⟨by decide +kernel, by decide +kernel⟩, List.mem_of_getElem? (i := 155) (by decide +kernel), List.mem_of_getElem? (i := 611) (by decide +kernel), List.mem_of_getElem? (i := 612) (by decide +kernel)⟩
def lw_privs_1 : List (MethodName × Nat) := [(⟨"NodBets", "found", "(I)I"⟩, 9), (⟨"NodBets", "unfound", "(I)I"⟩, 9), (⟨"NodBets$Reader", "readLaw", "(LNodBets$Town;)Z"⟩, 4), (⟨"NodBets$Reader", "passed", "(I)Z"⟩, 4), (⟨"NodBets$Reader", "here", "()I"⟩, 4), (⟨"NodBets$Reader", "byteAt", "(I)I"⟩, 4), (⟨"NodBets$Reader", "refuse", "(I)Z"⟩, 4), (⟨"NodBets$Reader", "readNumber", "(II)I"⟩, 4), (⟨"NodBets$Reader", "readLies", "(LNodBets$Town;)Z"⟩, 4), (⟨"NodBets$Reader", "readStrangers", "(LNodBets$Town;)Z"⟩, 4), (⟨"NodBets$Mind", "undoubtedNeed", "(III)I"⟩, 4), (⟨"NodBets$Foresight", "seekOrderFrom", "(III)V"⟩, 9), (⟨"NodBets$Foresight", "keepBest", "(II)V"⟩, 9), (⟨"NodBets$Foresight", "tryNext", "(II)Z"⟩, 9), (⟨"NodBets$Foresight", "comesInFrom", "(IIII)Z"⟩, 9), (⟨"NodBets$Foresight", "deadFrom", "(III)I"⟩, 9)]
theorem lw_r1 : ∀ q ∈ lw_privs_1, lw_okq q := List.forall_mem_cons.mpr ⟨lw_p0, List.forall_mem_cons.mpr ⟨lw_p1, List.forall_mem_cons.mpr ⟨lw_p2, List.forall_mem_cons.mpr ⟨lw_p3, List.forall_mem_cons.mpr ⟨lw_p4, List.forall_mem_cons.mpr ⟨lw_p5, List.forall_mem_cons.mpr ⟨lw_p6, List.forall_mem_cons.mpr ⟨lw_p7, List.forall_mem_cons.mpr ⟨lw_p8, List.forall_mem_cons.mpr ⟨lw_p9, List.forall_mem_cons.mpr ⟨lw_p10, List.forall_mem_cons.mpr ⟨lw_p11, List.forall_mem_cons.mpr ⟨lw_p12, List.forall_mem_cons.mpr ⟨lw_p13, List.forall_mem_cons.mpr ⟨lw_p14, List.forall_mem_cons.mpr ⟨lw_p15, fun _ h => absurd h List.not_mem_nil⟩⟩⟩⟩⟩⟩⟩⟩⟩⟩⟩⟩⟩⟩⟩⟩
theorem lw_p16 : lw_okq (⟨"NodBets$Foresight", "bringsIn", "(II)Z"⟩, 9) := ⟨⟨by decide +kernel, by decide +kernel⟩, List.mem_of_getElem? (i := 155) (by decide +kernel), List.mem_of_getElem? (i := 624) (by decide +kernel), List.mem_of_getElem? (i := 625) (by decide +kernel)⟩
theorem lw_p17 : lw_okq (⟨"NodBets", "takeTelling", "(III)I"⟩, 9) := ⟨⟨by decide +kernel, by decide +kernel⟩, List.mem_of_getElem? (i := 15) (by decide +kernel), List.mem_of_getElem? (i := 640) (by decide +kernel), List.mem_of_getElem? (i := 641) (by decide +kernel)⟩
theorem lw_p18 : lw_okq (⟨"NodBets$Foresight", "waysFrom", "(III)I"⟩, 9) := ⟨⟨by decide +kernel, by decide +kernel⟩, List.mem_of_getElem? (i := 155) (by decide +kernel), List.mem_of_getElem? (i := 677) (by decide +kernel), List.mem_of_getElem? (i := 678) (by decide +kernel)⟩
theorem lw_p19 : lw_okq (⟨"NodBets$Asks", "sizeOf", "(II)I"⟩, 3) := ⟨⟨by decide +kernel, by decide +kernel⟩, List.mem_of_getElem? (i := 212) (by decide +kernel), List.mem_of_getElem? (i := 727) (by decide +kernel), List.mem_of_getElem? (i := 728) (by decide +kernel)⟩
theorem lw_p20 : lw_okq (⟨"NodBets$Asks", "run", "(III)I"⟩, 3) := ⟨⟨by decide +kernel, by decide +kernel⟩, List.mem_of_getElem? (i := 212) (by decide +kernel), List.mem_of_getElem? (i := 737) (by decide +kernel), List.mem_of_getElem? (i := 738) (by decide +kernel)⟩
theorem lw_p21 : lw_okq (⟨"NodBets$Asks", "leaveTrace", "(I)V"⟩, 3) := ⟨⟨by decide +kernel, by decide +kernel⟩, List.mem_of_getElem? (i := 212) (by decide +kernel), List.mem_of_getElem? (i := 741) (by decide +kernel), List.mem_of_getElem? (i := 742) (by decide +kernel)⟩
theorem lw_p22 : lw_okq (⟨"NodBets$Asks", "markOf", "(II)I"⟩, 3) := ⟨⟨by decide +kernel, by decide +kernel⟩, List.mem_of_getElem? (i := 212) (by decide +kernel), List.mem_of_getElem? (i := 745) (by decide +kernel), List.mem_of_getElem? (i := 746) (by decide +kernel)⟩
theorem lw_p23 : lw_okq (⟨"NodBetsModel", "found", "(I)I"⟩, 28) := ⟨⟨by decide +kernel, by decide +kernel⟩, List.mem_of_getElem? (i := 777) (by decide +kernel), List.mem_of_getElem? (i := 881) (by decide +kernel), List.mem_of_getElem? (i := 882) (by decide +kernel)⟩
theorem lw_p24 : lw_okq (⟨"NodBetsModel", "well", "(I)I"⟩, 28) := ⟨⟨by decide +kernel, by decide +kernel⟩, List.mem_of_getElem? (i := 777) (by decide +kernel), List.mem_of_getElem? (i := 886) (by decide +kernel), List.mem_of_getElem? (i := 887) (by decide +kernel)⟩
theorem lw_p25 : lw_okq (⟨"NodBetsModel", "isMissing", "(I)Z"⟩, 28) := ⟨⟨by decide +kernel, by decide +kernel⟩, List.mem_of_getElem? (i := 777) (by decide +kernel), List.mem_of_getElem? (i := 894) (by decide +kernel), List.mem_of_getElem? (i := 895) (by decide +kernel)⟩
theorem lw_p26 : lw_okq (⟨"NodBetsModel", "isPart", "(III)Z"⟩, 28) := ⟨⟨by decide +kernel, by decide +kernel⟩, List.mem_of_getElem? (i := 777) (by decide +kernel), List.mem_of_getElem? (i := 905) (by decide +kernel), List.mem_of_getElem? (i := 906) (by decide +kernel)⟩
theorem lw_p27 : lw_okq (⟨"NodBetsModel", "advances", "()V"⟩, 28) := ⟨⟨by decide +kernel, by decide +kernel⟩, List.mem_of_getElem? (i := 777) (by decide +kernel), List.mem_of_getElem? (i := 922) (by decide +kernel), List.mem_of_getElem? (i := 923) (by decide +kernel)⟩
theorem lw_p28 : lw_okq (⟨"NodBetsModel", "byteAt", "(I)I"⟩, 28) := ⟨⟨by decide +kernel, by decide +kernel⟩, List.mem_of_getElem? (i := 777) (by decide +kernel), List.mem_of_getElem? (i := 926) (by decide +kernel), List.mem_of_getElem? (i := 927) (by decide +kernel)⟩
theorem lw_p29 : lw_okq (⟨"NodBetsModel", "takes", "(ZI)I"⟩, 28) := ⟨⟨by decide +kernel, by decide +kernel⟩, List.mem_of_getElem? (i := 777) (by decide +kernel), List.mem_of_getElem? (i := 930) (by decide +kernel), List.mem_of_getElem? (i := 931) (by decide +kernel)⟩
theorem lw_p30 : lw_okq (⟨"NodBetsModel", "isWell", "()Z"⟩, 28) := ⟨⟨by decide +kernel, by decide +kernel⟩, List.mem_of_getElem? (i := 777) (by decide +kernel), List.mem_of_getElem? (i := 934) (by decide +kernel), List.mem_of_getElem? (i := 935) (by decide +kernel)⟩
theorem lw_p31 : lw_okq (⟨"NodBetsModel", "figure", "(II)I"⟩, 28) := ⟨⟨by decide +kernel, by decide +kernel⟩, List.mem_of_getElem? (i := 777) (by decide +kernel), List.mem_of_getElem? (i := 938) (by decide +kernel), List.mem_of_getElem? (i := 939) (by decide +kernel)⟩
def lw_privs_2 : List (MethodName × Nat) := [(⟨"NodBets$Foresight", "bringsIn", "(II)Z"⟩, 9), (⟨"NodBets", "takeTelling", "(III)I"⟩, 9), (⟨"NodBets$Foresight", "waysFrom", "(III)I"⟩, 9), (⟨"NodBets$Asks", "sizeOf", "(II)I"⟩, 3), (⟨"NodBets$Asks", "run", "(III)I"⟩, 3), (⟨"NodBets$Asks", "leaveTrace", "(I)V"⟩, 3), (⟨"NodBets$Asks", "markOf", "(II)I"⟩, 3), (⟨"NodBetsModel", "found", "(I)I"⟩, 28), (⟨"NodBetsModel", "well", "(I)I"⟩, 28), (⟨"NodBetsModel", "isMissing", "(I)Z"⟩, 28), (⟨"NodBetsModel", "isPart", "(III)Z"⟩, 28), (⟨"NodBetsModel", "advances", "()V"⟩, 28), (⟨"NodBetsModel", "byteAt", "(I)I"⟩, 28), (⟨"NodBetsModel", "takes", "(ZI)I"⟩, 28), (⟨"NodBetsModel", "isWell", "()Z"⟩, 28), (⟨"NodBetsModel", "figure", "(II)I"⟩, 28)]
theorem lw_r2 : ∀ q ∈ lw_privs_2, lw_okq q := List.forall_mem_cons.mpr ⟨lw_p16, List.forall_mem_cons.mpr ⟨lw_p17, List.forall_mem_cons.mpr ⟨lw_p18, List.forall_mem_cons.mpr ⟨lw_p19, List.forall_mem_cons.mpr ⟨lw_p20, List.forall_mem_cons.mpr ⟨lw_p21, List.forall_mem_cons.mpr ⟨lw_p22, List.forall_mem_cons.mpr ⟨lw_p23, List.forall_mem_cons.mpr ⟨lw_p24, List.forall_mem_cons.mpr ⟨lw_p25, List.forall_mem_cons.mpr ⟨lw_p26, List.forall_mem_cons.mpr ⟨lw_p27, List.forall_mem_cons.mpr ⟨lw_p28, List.forall_mem_cons.mpr ⟨lw_p29, List.forall_mem_cons.mpr ⟨lw_p30, List.forall_mem_cons.mpr ⟨lw_p31, fun _ h => absurd h List.not_mem_nil⟩⟩⟩⟩⟩⟩⟩⟩⟩⟩⟩⟩⟩⟩⟩⟩
theorem lw_p32 : lw_okq (⟨"NodBetsModel", "readsLie", "()V"⟩, 28) := ⟨⟨by decide +kernel, by decide +kernel⟩, List.mem_of_getElem? (i := 777) (by decide +kernel), List.mem_of_getElem? (i := 945) (by decide +kernel), List.mem_of_getElem? (i := 946) (by decide +kernel)⟩
theorem lw_p33 : lw_okq (⟨"NodBetsModel", "next", "(II)I"⟩, 28) := ⟨⟨by decide +kernel, by decide +kernel⟩, List.mem_of_getElem? (i := 777) (by decide +kernel), List.mem_of_getElem? (i := 949) (by decide +kernel), List.mem_of_getElem? (i := 950) (by decide +kernel)⟩
theorem lw_p34 : lw_okq (⟨"NodBetsModel", "readsStranger", "()V"⟩, 28) := ⟨⟨by decide +kernel, by decide +kernel⟩, List.mem_of_getElem? (i := 777) (by decide +kernel), List.mem_of_getElem? (i := 953) (by decide +kernel), List.mem_of_getElem? (i := 954) (by decide +kernel)⟩
theorem lw_p35 : lw_okq (⟨"NodBetsModel", "isStranger", "(I)Z"⟩, 28) := ⟨⟨by decide +kernel, by decide +kernel⟩, List.mem_of_getElem? (i := 777) (by decide +kernel), List.mem_of_getElem? (i := 969) (by decide +kernel), List.mem_of_getElem? (i := 970) (by decide +kernel)⟩
theorem lw_p36 : lw_okq (⟨"NodBetsModel", "isLie", "(I)Z"⟩, 28) := ⟨⟨by decide +kernel, by decide +kernel⟩, List.mem_of_getElem? (i := 777) (by decide +kernel), List.mem_of_getElem? (i := 973) (by decide +kernel), List.mem_of_getElem? (i := 974) (by decide +kernel)⟩
theorem lw_p37 : lw_okq (⟨"NodBetsModel", "wasTold", "(II)Z"⟩, 28) := ⟨⟨by decide +kernel, by decide +kernel⟩, List.mem_of_getElem? (i := 777) (by decide +kernel), List.mem_of_getElem? (i := 977) (by decide +kernel), List.mem_of_getElem? (i := 978) (by decide +kernel)⟩
theorem lw_p38 : lw_okq (⟨"NodBetsModel", "notes", "()V"⟩, 28) := ⟨⟨by decide +kernel, by decide +kernel⟩, List.mem_of_getElem? (i := 777) (by decide +kernel), List.mem_of_getElem? (i := 985) (by decide +kernel), List.mem_of_getElem? (i := 986) (by decide +kernel)⟩
theorem lw_p39 : lw_okq (⟨"NodBetsModel", "tries", "(I)V"⟩, 28) := ⟨⟨by decide +kernel, by decide +kernel⟩, List.mem_of_getElem? (i := 777) (by decide +kernel), List.mem_of_getElem? (i := 989) (by decide +kernel), List.mem_of_getElem? (i := 990) (by decide +kernel)⟩
theorem lw_p40 : lw_okq (⟨"NodBetsModel", "wouldNod", "(I)Z"⟩, 28) := ⟨⟨by decide +kernel, by decide +kernel⟩, List.mem_of_getElem? (i := 777) (by decide +kernel), List.mem_of_getElem? (i := 996) (by decide +kernel), List.mem_of_getElem? (i := 997) (by decide +kernel)⟩
theorem lw_p41 : lw_okq (⟨"NodBetsModel", "needs", "(I)I"⟩, 28) := ⟨⟨by decide +kernel, by decide +kernel⟩, List.mem_of_getElem? (i := 777) (by decide +kernel), List.mem_of_getElem? (i := 1000) (by decide +kernel), List.mem_of_getElem? (i := 1001) (by decide +kernel)⟩
theorem lw_p42 : lw_okq (⟨"NodBetsModel", "hears", "(IZ)V"⟩, 28) := ⟨⟨by decide +kernel, by decide +kernel⟩, List.mem_of_getElem? (i := 777) (by decide +kernel), List.mem_of_getElem? (i := 1004) (by decide +kernel), List.mem_of_getElem? (i := 1005) (by decide +kernel)⟩
theorem lw_p43 : lw_okq (⟨"NodBetsModel", "strangersWith", "(II)I"⟩, 28) := ⟨⟨by decide +kernel, by decide +kernel⟩, List.mem_of_getElem? (i := 777) (by decide +kernel), List.mem_of_getElem? (i := 1024) (by decide +kernel), List.mem_of_getElem? (i := 1025) (by decide +kernel)⟩
theorem lw_p44 : lw_okq (⟨"NodBetsModel", "noddedAt", "(I)I"⟩, 28) := ⟨⟨by decide +kernel, by decide +kernel⟩, List.mem_of_getElem? (i := 777) (by decide +kernel), List.mem_of_getElem? (i := 1028) (by decide +kernel), List.mem_of_getElem? (i := 1029) (by decide +kernel)⟩
theorem lw_p45 : lw_okq (⟨"NodBetsModel", "untold", "(I)I"⟩, 28) := ⟨⟨by decide +kernel, by decide +kernel⟩, List.mem_of_getElem? (i := 777) (by decide +kernel), List.mem_of_getElem? (i := 1044) (by decide +kernel), List.mem_of_getElem? (i := 1045) (by decide +kernel)⟩
theorem lw_p46 : lw_okq (⟨"NodBetsModel", "fills", "(IIII)V"⟩, 28) := ⟨⟨by decide +kernel, by decide +kernel⟩, List.mem_of_getElem? (i := 777) (by decide +kernel), List.mem_of_getElem? (i := 1052) (by decide +kernel), List.mem_of_getElem? (i := 1053) (by decide +kernel)⟩
theorem lw_p47 : lw_okq (⟨"NodBetsModel", "nodsAt", "(II)I"⟩, 28) := ⟨⟨by decide +kernel, by decide +kernel⟩, List.mem_of_getElem? (i := 777) (by decide +kernel), List.mem_of_getElem? (i := 1056) (by decide +kernel), List.mem_of_getElem? (i := 1057) (by decide +kernel)⟩
def lw_privs_3 : List (MethodName × Nat) := [(⟨"NodBetsModel", "readsLie", "()V"⟩, 28), (⟨"NodBetsModel", "next", "(II)I"⟩, 28), (⟨"NodBetsModel", "readsStranger", "()V"⟩, 28), (⟨"NodBetsModel", "isStranger", "(I)Z"⟩, 28), (⟨"NodBetsModel", "isLie", "(I)Z"⟩, 28), (⟨"NodBetsModel", "wasTold", "(II)Z"⟩, 28), (⟨"NodBetsModel", "notes", "()V"⟩, 28), (⟨"NodBetsModel", "tries", "(I)V"⟩, 28), (⟨"NodBetsModel", "wouldNod", "(I)Z"⟩, 28), (⟨"NodBetsModel", "needs", "(I)I"⟩, 28), (⟨"NodBetsModel", "hears", "(IZ)V"⟩, 28), (⟨"NodBetsModel", "strangersWith", "(II)I"⟩, 28), (⟨"NodBetsModel", "noddedAt", "(I)I"⟩, 28), (⟨"NodBetsModel", "untold", "(I)I"⟩, 28), (⟨"NodBetsModel", "fills", "(IIII)V"⟩, 28), (⟨"NodBetsModel", "nodsAt", "(II)I"⟩, 28)]
theorem lw_r3 : ∀ q ∈ lw_privs_3, lw_okq q := List.forall_mem_cons.mpr ⟨lw_p32, List.forall_mem_cons.mpr ⟨lw_p33, List.forall_mem_cons.mpr ⟨lw_p34, List.forall_mem_cons.mpr ⟨lw_p35, List.forall_mem_cons.mpr ⟨lw_p36, List.forall_mem_cons.mpr ⟨lw_p37, List.forall_mem_cons.mpr ⟨lw_p38, List.forall_mem_cons.mpr ⟨lw_p39, List.forall_mem_cons.mpr ⟨lw_p40, List.forall_mem_cons.mpr ⟨lw_p41, List.forall_mem_cons.mpr ⟨lw_p42, List.forall_mem_cons.mpr ⟨lw_p43, List.forall_mem_cons.mpr ⟨lw_p44, List.forall_mem_cons.mpr ⟨lw_p45, List.forall_mem_cons.mpr ⟨lw_p46, List.forall_mem_cons.mpr ⟨lw_p47, fun _ h => absurd h List.not_mem_nil⟩⟩⟩⟩⟩⟩⟩⟩⟩⟩⟩⟩⟩⟩⟩⟩
theorem lw_p48 : lw_okq (⟨"NodBetsModel", "goesOn", "(II)Z"⟩, 28) := ⟨⟨by decide +kernel, by decide +kernel⟩, List.mem_of_getElem? (i := 777) (by decide +kernel), List.mem_of_getElem? (i := 1060) (by decide +kernel), List.mem_of_getElem? (i := 1061) (by decide +kernel)⟩
theorem lw_p49 : lw_okq (⟨"NodBetsModel", "aheadOf", "(II)I"⟩, 28) := ⟨⟨by decide +kernel, by decide +kernel⟩, List.mem_of_getElem? (i := 777) (by decide +kernel), List.mem_of_getElem? (i := 1068) (by decide +kernel), List.mem_of_getElem? (i := 1069) (by decide +kernel)⟩
theorem lw_p50 : lw_okq (⟨"NodBetsModel", "helps", "(III)Z"⟩, 28) := ⟨⟨by decide +kernel, by decide +kernel⟩, List.mem_of_getElem? (i := 777) (by decide +kernel), List.mem_of_getElem? (i := 1080) (by decide +kernel), List.mem_of_getElem? (i := 1081) (by decide +kernel)⟩
theorem lw_p51 : lw_okq (⟨"NodBetsModel", "wrongIn", "(III)I"⟩, 28) := ⟨⟨by decide +kernel, by decide +kernel⟩, List.mem_of_getElem? (i := 777) (by decide +kernel), List.mem_of_getElem? (i := 1092) (by decide +kernel), List.mem_of_getElem? (i := 1093) (by decide +kernel)⟩
theorem lw_p52 : lw_okq (⟨"NodBetsModel", "goesSo", "(II)Z"⟩, 28) := ⟨⟨by decide +kernel, by decide +kernel⟩, List.mem_of_getElem? (i := 777) (by decide +kernel), List.mem_of_getElem? (i := 1096) (by decide +kernel), List.mem_of_getElem? (i := 1097) (by decide +kernel)⟩
theorem lw_p53 : lw_okq (⟨"NodBetsModel", "isTown", "()Z"⟩, 28) := ⟨⟨by decide +kernel, by decide +kernel⟩, List.mem_of_getElem? (i := 777) (by decide +kernel), List.mem_of_getElem? (i := 1108) (by decide +kernel), List.mem_of_getElem? (i := 1109) (by decide +kernel)⟩
theorem lw_p54 : lw_okq (⟨"NodBetsModel", "goesBy", "(IIIII)J"⟩, 28) := ⟨⟨by decide +kernel, by decide +kernel⟩, List.mem_of_getElem? (i := 777) (by decide +kernel), List.mem_of_getElem? (i := 1117) (by decide +kernel), List.mem_of_getElem? (i := 1118) (by decide +kernel)⟩
theorem lw_p55 : lw_okq (⟨"NodBetsModel", "kindIn", "(I)I"⟩, 28) := ⟨⟨by decide +kernel, by decide +kernel⟩, List.mem_of_getElem? (i := 777) (by decide +kernel), List.mem_of_getElem? (i := 1133) (by decide +kernel), List.mem_of_getElem? (i := 1134) (by decide +kernel)⟩
theorem lw_p56 : lw_okq (⟨"NodBetsModel", "proofSize", "(I)I"⟩, 28) := ⟨⟨by decide +kernel, by decide +kernel⟩, List.mem_of_getElem? (i := 777) (by decide +kernel), List.mem_of_getElem? (i := 1145) (by decide +kernel), List.mem_of_getElem? (i := 1146) (by decide +kernel)⟩
theorem lw_p57 : lw_okq (⟨"NodBetsModel", "begins", "(I)V"⟩, 28) := ⟨⟨by decide +kernel, by decide +kernel⟩, List.mem_of_getElem? (i := 777) (by decide +kernel), List.mem_of_getElem? (i := 1149) (by decide +kernel), List.mem_of_getElem? (i := 1150) (by decide +kernel)⟩
theorem lw_p58 : lw_okq (⟨"NodBetsModel", "easySize", "(I)I"⟩, 28) := ⟨⟨by decide +kernel, by decide +kernel⟩, List.mem_of_getElem? (i := 777) (by decide +kernel), List.mem_of_getElem? (i := 1153) (by decide +kernel), List.mem_of_getElem? (i := 1154) (by decide +kernel)⟩
theorem lw_p59 : lw_okq (⟨"NodBetsModel", "easyMark", "(I)I"⟩, 28) := ⟨⟨by decide +kernel, by decide +kernel⟩, List.mem_of_getElem? (i := 777) (by decide +kernel), List.mem_of_getElem? (i := 1157) (by decide +kernel), List.mem_of_getElem? (i := 1158) (by decide +kernel)⟩
theorem lw_p60 : lw_okq (⟨"NodBetsModel", "proofMark", "(I)I"⟩, 28) := ⟨⟨by decide +kernel, by decide +kernel⟩, List.mem_of_getElem? (i := 777) (by decide +kernel), List.mem_of_getElem? (i := 1161) (by decide +kernel), List.mem_of_getElem? (i := 1162) (by decide +kernel)⟩
def lw_privs_4 : List (MethodName × Nat) := [(⟨"NodBetsModel", "goesOn", "(II)Z"⟩, 28), (⟨"NodBetsModel", "aheadOf", "(II)I"⟩, 28), (⟨"NodBetsModel", "helps", "(III)Z"⟩, 28), (⟨"NodBetsModel", "wrongIn", "(III)I"⟩, 28), (⟨"NodBetsModel", "goesSo", "(II)Z"⟩, 28), (⟨"NodBetsModel", "isTown", "()Z"⟩, 28), (⟨"NodBetsModel", "goesBy", "(IIIII)J"⟩, 28), (⟨"NodBetsModel", "kindIn", "(I)I"⟩, 28), (⟨"NodBetsModel", "proofSize", "(I)I"⟩, 28), (⟨"NodBetsModel", "begins", "(I)V"⟩, 28), (⟨"NodBetsModel", "easySize", "(I)I"⟩, 28), (⟨"NodBetsModel", "easyMark", "(I)I"⟩, 28), (⟨"NodBetsModel", "proofMark", "(I)I"⟩, 28)]
theorem lw_r4 : ∀ q ∈ lw_privs_4, lw_okq q := List.forall_mem_cons.mpr ⟨lw_p48, List.forall_mem_cons.mpr ⟨lw_p49, List.forall_mem_cons.mpr ⟨lw_p50, List.forall_mem_cons.mpr ⟨lw_p51, List.forall_mem_cons.mpr ⟨lw_p52, List.forall_mem_cons.mpr ⟨lw_p53, List.forall_mem_cons.mpr ⟨lw_p54, List.forall_mem_cons.mpr ⟨lw_p55, List.forall_mem_cons.mpr ⟨lw_p56, List.forall_mem_cons.mpr ⟨lw_p57, List.forall_mem_cons.mpr ⟨lw_p58, List.forall_mem_cons.mpr ⟨lw_p59, List.forall_mem_cons.mpr ⟨lw_p60, fun _ h => absurd h List.not_mem_nil⟩⟩⟩⟩⟩⟩⟩⟩⟩⟩⟩⟩⟩
def lw_privs : List (MethodName × Nat) := lw_privs_1 ++ (lw_privs_2 ++ (lw_privs_3 ++ (lw_privs_4)))
def lw_tbl : List Cond := k2_sels lw_privs ++ tables_1
theorem lw_privs_ok : ∀ q ∈ lw_privs, lw_okq q := by
  show ∀ q ∈ lw_privs_1 ++ (lw_privs_2 ++ (lw_privs_3 ++ (lw_privs_4))), lw_okq q
  exact List.forall_mem_append.mpr ⟨lw_r1, List.forall_mem_append.mpr ⟨lw_r2, List.forall_mem_append.mpr ⟨lw_r3, lw_r4⟩⟩⟩
def RX0 : String := "NodBets$Acts"
def TX0 : u_T := fun k => match k with
  | 0 => ("NodBets$Acts", "strangers", "[I", true)
  | 1 => ("NodBets$Acts", "trusts", "[I", true)
  | 2 => ("NodBets$Acts", "told", "[I", true)
  | 3 => ("NodBets$Acts", "nodded", "[I", true)
  | 4 => ("NodBets$Acts", "purses", "[I", true)
  | 5 => ("NodBets$Acts", "next", "I", false)
  | _ => ("NodBets$Acts", "kept", "I", false)
def tyX0 : Nat → FieldType := fun k => match k with
  | 0 => .array .int
  | 1 => .array .int
  | 2 => .array .int
  | 3 => .array .int
  | 4 => .array .int
  | 5 => .int
  | _ => .int
abbrev wsX00 : List Cond := u_ws RX0 TX0 7
theorem nmX0 : ∀ a, a < 7 → ∀ b, b < 7 → a ≠ b → (TX0 a).2.1 ≠ (TX0 b).2.1 := by decide +kernel
theorem tyX0_ok : ∀ k, k < 7 → parseFieldDescriptor (TX0 k).2.2.1 = some (tyX0 k) := by decide +kernel
abbrev cX0_init : ByteArray := prog_2_method_1_code
def yX0_init : MethodName := ⟨RX0, "<init>", "()V"⟩
abbrev cX0_kept : ByteArray := prog_2_method_2_code
def yX0_kept : MethodName := ⟨RX0, "kept", "()I"⟩
abbrev cX0_clear : ByteArray := prog_2_method_3_code
def yX0_clear : MethodName := ⟨RX0, "clear", "()V"⟩
abbrev cX0_keepAhead : ByteArray := prog_2_method_4_code
def yX0_keepAhead : MethodName := ⟨RX0, "keepAhead", "(LNodBets$Town;I)V"⟩
abbrev cX0_undoLatest : ByteArray := prog_2_method_5_code
def yX0_undoLatest : MethodName := ⟨RX0, "undoLatest", "(LNodBets$Town;)V"⟩
def RX1 : String := "NodBets$Asks"
def TX1 : u_T := fun k => match k with
  | 0 => ("NodBets$Asks", "town", "LNodBets$Town;", true)
  | 1 => ("NodBets$Asks", "traced", "[I", true)
  | _ => ("NodBets$Asks", "tracedLength", "I", false)
def tyX1 : Nat → FieldType := fun k => match k with
  | 0 => .object "NodBets$Town"
  | 1 => .array .int
  | _ => .int
abbrev wsX10 : List Cond := u_ws RX1 TX1 3
theorem nmX1 : ∀ a, a < 3 → ∀ b, b < 3 → a ≠ b → (TX1 a).2.1 ≠ (TX1 b).2.1 := by decide +kernel
theorem tyX1_ok : ∀ k, k < 3 → parseFieldDescriptor (TX1 k).2.2.1 = some (tyX1 k) := by decide +kernel
abbrev cX1_init : ByteArray := prog_3_method_1_code
def yX1_init : MethodName := ⟨RX1, "<init>", "(LNodBets$Town;)V"⟩
abbrev cX1_answer : ByteArray := prog_3_method_2_code
def yX1_answer : MethodName := ⟨RX1, "answer", "(II)I"⟩
abbrev cX1_traceAt : ByteArray := prog_3_method_3_code
def yX1_traceAt : MethodName := ⟨RX1, "traceAt", "(I)I"⟩
abbrev cX1_sizeOf : ByteArray := prog_3_method_4_code
def yX1_sizeOf : MethodName := ⟨RX1, "sizeOf", "(II)I"⟩
abbrev cX1_markOf : ByteArray := prog_3_method_5_code
def yX1_markOf : MethodName := ⟨RX1, "markOf", "(II)I"⟩
abbrev cX1_nearestBody : ByteArray := prog_3_method_6_code
def yX1_nearestBody : MethodName := ⟨RX1, "nearestBody", "([II)I"⟩
abbrev cX1_run : ByteArray := prog_3_method_7_code
def yX1_run : MethodName := ⟨RX1, "run", "(III)I"⟩
abbrev cX1_leaveTrace : ByteArray := prog_3_method_8_code
def yX1_leaveTrace : MethodName := ⟨RX1, "leaveTrace", "(I)V"⟩
def RX2 : String := "NodBets$Foresight"
def TX2 : u_T := fun k => match k with
  | 0 => ("NodBets$Foresight", "town", "LNodBets$Town;", true)
  | 1 => ("NodBets$Foresight", "minds", "[LNodBets$Mind;", true)
  | 2 => ("NodBets$Foresight", "path", "[I", true)
  | 3 => ("NodBets$Foresight", "best", "[I", true)
  | 4 => ("NodBets$Foresight", "bestLength", "I", false)
  | 5 => ("NodBets$Foresight", "bestNodded", "I", false)
  | 6 => ("NodBets$Foresight", "tellingLies", "[I", true)
  | 7 => ("NodBets$Foresight", "tellingNods", "[I", true)
  | _ => ("NodBets$Foresight", "tellingLength", "I", false)
def tyX2 : Nat → FieldType := fun k => match k with
  | 0 => .object "NodBets$Town"
  | 1 => .array (.object "NodBets$Mind")
  | 2 => .array .int
  | 3 => .array .int
  | 4 => .int
  | 5 => .int
  | 6 => .array .int
  | 7 => .array .int
  | _ => .int
abbrev wsX20 : List Cond := u_ws RX2 TX2 9
theorem nmX2 : ∀ a, a < 9 → ∀ b, b < 9 → a ≠ b → (TX2 a).2.1 ≠ (TX2 b).2.1 := by decide +kernel
theorem tyX2_ok : ∀ k, k < 9 → parseFieldDescriptor (TX2 k).2.2.1 = some (tyX2 k) := by decide +kernel
abbrev cX2_init : ByteArray := prog_4_method_1_code
def yX2_init : MethodName := ⟨RX2, "<init>", "(LNodBets$Town;)V"⟩
abbrev cX2_mindOf : ByteArray := prog_4_method_2_code
def yX2_mindOf : MethodName := ⟨RX2, "mindOf", "(I)LNodBets$Mind;"⟩
abbrev cX2_nodsNow : ByteArray := prog_4_method_3_code
def yX2_nodsNow : MethodName := ⟨RX2, "nodsNow", "(I)I"⟩
abbrev cX2_seekOrder : ByteArray := prog_4_method_4_code
def yX2_seekOrder : MethodName := ⟨RX2, "seekOrder", "(II)V"⟩
abbrev cX2_bestNods : ByteArray := prog_4_method_5_code
def yX2_bestNods : MethodName := ⟨RX2, "bestNods", "()I"⟩
abbrev cX2_bestAt : ByteArray := prog_4_method_6_code
def yX2_bestAt : MethodName := ⟨RX2, "bestAt", "(I)I"⟩
abbrev cX2_seekOrderFrom : ByteArray := prog_4_method_7_code
def yX2_seekOrderFrom : MethodName := ⟨RX2, "seekOrderFrom", "(III)V"⟩
abbrev cX2_keepBest : ByteArray := prog_4_method_8_code
def yX2_keepBest : MethodName := ⟨RX2, "keepBest", "(II)V"⟩
abbrev cX2_tryNext : ByteArray := prog_4_method_9_code
def yX2_tryNext : MethodName := ⟨RX2, "tryNext", "(II)Z"⟩
abbrev cX2_fewestAhead : ByteArray := prog_4_method_10_code
def yX2_fewestAhead : MethodName := ⟨RX2, "fewestAhead", "(II)I"⟩
abbrev cX2_firstAhead : ByteArray := prog_4_method_11_code
def yX2_firstAhead : MethodName := ⟨RX2, "firstAhead", "()I"⟩
abbrev cX2_comesInFrom : ByteArray := prog_4_method_12_code
def yX2_comesInFrom : MethodName := ⟨RX2, "comesInFrom", "(IIII)Z"⟩
abbrev cX2_deadLies : ByteArray := prog_4_method_13_code
def yX2_deadLies : MethodName := ⟨RX2, "deadLies", "(I)I"⟩
abbrev cX2_deadFrom : ByteArray := prog_4_method_14_code
def yX2_deadFrom : MethodName := ⟨RX2, "deadFrom", "(III)I"⟩
abbrev cX2_helpEachOther : ByteArray := prog_4_method_15_code
def yX2_helpEachOther : MethodName := ⟨RX2, "helpEachOther", "(III)Z"⟩
abbrev cX2_bringsIn : ByteArray := prog_4_method_16_code
def yX2_bringsIn : MethodName := ⟨RX2, "bringsIn", "(II)Z"⟩
abbrev cX2_takeTelling : ByteArray := prog_4_method_17_code
def yX2_takeTelling : MethodName := ⟨RX2, "takeTelling", "(LNodBets$Rows;III)Z"⟩
abbrev cX2_goesSo : ByteArray := prog_4_method_18_code
def yX2_goesSo : MethodName := ⟨RX2, "goesSo", "(III)Z"⟩
abbrev cX2_waysToNod : ByteArray := prog_4_method_19_code
def yX2_waysToNod : MethodName := ⟨RX2, "waysToNod", "(III)I"⟩
abbrev cX2_waysInAll : ByteArray := prog_4_method_20_code
def yX2_waysInAll : MethodName := ⟨RX2, "waysInAll", "()I"⟩
abbrev cX2_waysFrom : ByteArray := prog_4_method_21_code
def yX2_waysFrom : MethodName := ⟨RX2, "waysFrom", "(III)I"⟩
def RX3 : String := "NodBets$Kinds"
def TX3 : u_T := fun k => match k with
  | _ => ("", "", "", false)
def tyX3 : Nat → FieldType := fun k => match k with
  | _ => .int
abbrev wsX30 : List Cond := u_ws RX3 TX3 0
theorem nmX3 : ∀ a, a < 0 → ∀ b, b < 0 → a ≠ b → (TX3 a).2.1 ≠ (TX3 b).2.1 := by decide +kernel
theorem tyX3_ok : ∀ k, k < 0 → parseFieldDescriptor (TX3 k).2.2.1 = some (tyX3 k) := by decide +kernel
abbrev cX3_isKind : ByteArray := prog_5_method_2_code
def yX3_isKind : MethodName := ⟨RX3, "isKind", "(I)Z"⟩
abbrev cX3_isOne : ByteArray := prog_5_method_3_code
def yX3_isOne : MethodName := ⟨RX3, "isOne", "(II)Z"⟩
abbrev cX3_above : ByteArray := prog_5_method_4_code
def yX3_above : MethodName := ⟨RX3, "above", "(I)I"⟩
abbrev cX3_ofLetter : ByteArray := prog_5_method_5_code
def yX3_ofLetter : MethodName := ⟨RX3, "ofLetter", "(I)I"⟩
def RX4 : String := "NodBets$Mind"
def TX4 : u_T := fun k => match k with
  | 0 => ("NodBets$Mind", "trust", "I", false)
  | 1 => ("NodBets$Mind", "doubts", "I", false)
  | 2 => ("NodBets$Mind", "toldSoFar", "I", false)
  | _ => ("NodBets$Mind", "nodsOfTopic", "[I", true)
def tyX4 : Nat → FieldType := fun k => match k with
  | 0 => .int
  | 1 => .int
  | 2 => .int
  | _ => .array .int
abbrev wsX40 : List Cond := u_ws RX4 TX4 4
theorem nmX4 : ∀ a, a < 4 → ∀ b, b < 4 → a ≠ b → (TX4 a).2.1 ≠ (TX4 b).2.1 := by decide +kernel
theorem tyX4_ok : ∀ k, k < 4 → parseFieldDescriptor (TX4 k).2.2.1 = some (tyX4 k) := by decide +kernel
abbrev cX4_init : ByteArray := prog_6_method_1_code
def yX4_init : MethodName := ⟨RX4, "<init>", "()V"⟩
abbrev cX4_enter : ByteArray := prog_6_method_2_code
def yX4_enter : MethodName := ⟨RX4, "enter", "(LNodBets$Town;I)V"⟩
abbrev cX4_become : ByteArray := prog_6_method_3_code
def yX4_become : MethodName := ⟨RX4, "become", "(LNodBets$Mind;)V"⟩
abbrev cX4_needOf : ByteArray := prog_6_method_4_code
def yX4_needOf : MethodName := ⟨RX4, "needOf", "(LNodBets$Town;I)I"⟩
abbrev cX4_wouldNod : ByteArray := prog_6_method_5_code
def yX4_wouldNod : MethodName := ⟨RX4, "wouldNod", "(LNodBets$Town;I)Z"⟩
abbrev cX4_hear : ByteArray := prog_6_method_6_code
def yX4_hear : MethodName := ⟨RX4, "hear", "(LNodBets$Town;I)Z"⟩
abbrev cX4_hearAs : ByteArray := prog_6_method_7_code
def yX4_hearAs : MethodName := ⟨RX4, "hearAs", "(LNodBets$Town;IZ)V"⟩
abbrev cX4_dine : ByteArray := prog_6_method_8_code
def yX4_dine : MethodName := ⟨RX4, "dine", "()V"⟩
abbrev cX4_undoubtedNeed : ByteArray := prog_6_method_9_code
def yX4_undoubtedNeed : MethodName := ⟨RX4, "undoubtedNeed", "(III)I"⟩
abbrev cX4_proofNeed : ByteArray := prog_6_method_10_code
def yX4_proofNeed : MethodName := ⟨RX4, "proofNeed", "(II)I"⟩
def RX5 : String := "NodBets$Reader"
def TX5 : u_T := fun k => match k with
  | 0 => ("NodBets$Reader", "tape", "[I", true)
  | 1 => ("NodBets$Reader", "bytes", "I", false)
  | 2 => ("NodBets$Reader", "at", "I", false)
  | _ => ("NodBets$Reader", "latest", "I", false)
def tyX5 : Nat → FieldType := fun k => match k with
  | 0 => .array .int
  | 1 => .int
  | 2 => .int
  | _ => .int
abbrev wsX50 : List Cond := u_ws RX5 TX5 4
theorem nmX5 : ∀ a, a < 4 → ∀ b, b < 4 → a ≠ b → (TX5 a).2.1 ≠ (TX5 b).2.1 := by decide +kernel
theorem tyX5_ok : ∀ k, k < 4 → parseFieldDescriptor (TX5 k).2.2.1 = some (tyX5 k) := by decide +kernel
abbrev cX5_init : ByteArray := prog_7_method_1_code
def yX5_init : MethodName := ⟨RX5, "<init>", "()V"⟩
abbrev cX5_isFull : ByteArray := prog_7_method_2_code
def yX5_isFull : MethodName := ⟨RX5, "isFull", "()Z"⟩
abbrev cX5_append : ByteArray := prog_7_method_3_code
def yX5_append : MethodName := ⟨RX5, "append", "(I)I"⟩
abbrev cX5_length : ByteArray := prog_7_method_4_code
def yX5_length : MethodName := ⟨RX5, "length", "()I"⟩
abbrev cX5_faultPlace : ByteArray := prog_7_method_5_code
def yX5_faultPlace : MethodName := ⟨RX5, "faultPlace", "()I"⟩
abbrev cX5_latestFault : ByteArray := prog_7_method_6_code
def yX5_latestFault : MethodName := ⟨RX5, "latestFault", "()I"⟩
abbrev cX5_readInto : ByteArray := prog_7_method_7_code
def yX5_readInto : MethodName := ⟨RX5, "readInto", "(LNodBets$Town;)Z"⟩
abbrev cX5_readLaw : ByteArray := prog_7_method_8_code
def yX5_readLaw : MethodName := ⟨RX5, "readLaw", "(LNodBets$Town;)Z"⟩
abbrev cX5_readLies : ByteArray := prog_7_method_9_code
def yX5_readLies : MethodName := ⟨RX5, "readLies", "(LNodBets$Town;)Z"⟩
abbrev cX5_readStrangers : ByteArray := prog_7_method_10_code
def yX5_readStrangers : MethodName := ⟨RX5, "readStrangers", "(LNodBets$Town;)Z"⟩
abbrev cX5_readNumber : ByteArray := prog_7_method_11_code
def yX5_readNumber : MethodName := ⟨RX5, "readNumber", "(II)I"⟩
abbrev cX5_passed : ByteArray := prog_7_method_12_code
def yX5_passed : MethodName := ⟨RX5, "passed", "(I)Z"⟩
abbrev cX5_refuse : ByteArray := prog_7_method_13_code
def yX5_refuse : MethodName := ⟨RX5, "refuse", "(I)Z"⟩
abbrev cX5_here : ByteArray := prog_7_method_14_code
def yX5_here : MethodName := ⟨RX5, "here", "()I"⟩
abbrev cX5_byteAt : ByteArray := prog_7_method_15_code
def yX5_byteAt : MethodName := ⟨RX5, "byteAt", "(I)I"⟩
abbrev cX5_isFigure : ByteArray := prog_7_method_16_code
def yX5_isFigure : MethodName := ⟨RX5, "isFigure", "(I)Z"⟩
def RX6 : String := "NodBets$Rows"
def TX6 : u_T := fun k => match k with
  | 0 => ("NodBets$Rows", "lanes", "[I", true)
  | 1 => ("NodBets$Rows", "lengths", "[I", true)
  | _ => ("NodBets$Rows", "items", "[I", true)
def tyX6 : Nat → FieldType := fun k => match k with
  | 0 => .array .int
  | 1 => .array .int
  | _ => .array .int
abbrev wsX60 : List Cond := u_ws RX6 TX6 3
theorem nmX6 : ∀ a, a < 3 → ∀ b, b < 3 → a ≠ b → (TX6 a).2.1 ≠ (TX6 b).2.1 := by decide +kernel
theorem tyX6_ok : ∀ k, k < 3 → parseFieldDescriptor (TX6 k).2.2.1 = some (tyX6 k) := by decide +kernel
abbrev cX6_init : ByteArray := prog_8_method_1_code
def yX6_init : MethodName := ⟨RX6, "<init>", "()V"⟩
abbrev cX6_isRow : ByteArray := prog_8_method_2_code
def yX6_isRow : MethodName := ⟨RX6, "isRow", "(I)Z"⟩
abbrev cX6_isLane : ByteArray := prog_8_method_3_code
def yX6_isLane : MethodName := ⟨RX6, "isLane", "(I)Z"⟩
abbrev cX6_isMissing : ByteArray := prog_8_method_4_code
def yX6_isMissing : MethodName := ⟨RX6, "isMissing", "(I)Z"⟩
abbrev cX6_laneOf : ByteArray := prog_8_method_5_code
def yX6_laneOf : MethodName := ⟨RX6, "laneOf", "(I)I"⟩
abbrev cX6_hasPlaces : ByteArray := prog_8_method_6_code
def yX6_hasPlaces : MethodName := ⟨RX6, "hasPlaces", "(III)Z"⟩
abbrev cX6_make : ByteArray := prog_8_method_7_code
def yX6_make : MethodName := ⟨RX6, "make", "(III)V"⟩
abbrev cX6_put : ByteArray := prog_8_method_8_code
def yX6_put : MethodName := ⟨RX6, "put", "(III)I"⟩
abbrev cX6_itemAt : ByteArray := prog_8_method_9_code
def yX6_itemAt : MethodName := ⟨RX6, "itemAt", "(II)I"⟩
abbrev cX6_move : ByteArray := prog_8_method_10_code
def yX6_move : MethodName := ⟨RX6, "move", "(IIIII)V"⟩
abbrev cX6_remove : ByteArray := prog_8_method_11_code
def yX6_remove : MethodName := ⟨RX6, "remove", "(I)I"⟩
abbrev cX6_present : ByteArray := prog_8_method_12_code
def yX6_present : MethodName := ⟨RX6, "present", "()I"⟩
abbrev cX6_cutToLane : ByteArray := prog_8_method_13_code
def yX6_cutToLane : MethodName := ⟨RX6, "cutToLane", "(II)I"⟩
def RX7 : String := "NodBets$Town"
def TX7 : u_T := fun k => match k with
  | 0 => ("NodBets$Town", "stake", "I", false)
  | 1 => ("NodBets$Town", "purse", "I", false)
  | 2 => ("NodBets$Town", "lies", "I", false)
  | 3 => ("NodBets$Town", "strangers", "I", false)
  | 4 => ("NodBets$Town", "kinds", "[I", true)
  | 5 => ("NodBets$Town", "weights", "[I", true)
  | 6 => ("NodBets$Town", "topics", "[I", true)
  | 7 => ("NodBets$Town", "trusts", "[I", true)
  | 8 => ("NodBets$Town", "doubts", "[I", true)
  | 9 => ("NodBets$Town", "told", "[I", true)
  | _ => ("NodBets$Town", "nodded", "[I", true)
def tyX7 : Nat → FieldType := fun k => match k with
  | 0 => .int
  | 1 => .int
  | 2 => .int
  | 3 => .int
  | 4 => .array .int
  | 5 => .array .int
  | 6 => .array .int
  | 7 => .array .int
  | 8 => .array .int
  | 9 => .array .int
  | _ => .array .int
abbrev wsX70 : List Cond := u_ws RX7 TX7 11
theorem nmX7 : ∀ a, a < 11 → ∀ b, b < 11 → a ≠ b → (TX7 a).2.1 ≠ (TX7 b).2.1 := by decide +kernel
theorem tyX7_ok : ∀ k, k < 11 → parseFieldDescriptor (TX7 k).2.2.1 = some (tyX7 k) := by decide +kernel
abbrev cX7_init : ByteArray := prog_9_method_1_code
def yX7_init : MethodName := ⟨RX7, "<init>", "()V"⟩
abbrev cX7_stands : ByteArray := prog_9_method_2_code
def yX7_stands : MethodName := ⟨RX7, "stands", "()Z"⟩
abbrev cX7_hasLie : ByteArray := prog_9_method_3_code
def yX7_hasLie : MethodName := ⟨RX7, "hasLie", "(I)Z"⟩
abbrev cX7_hasStranger : ByteArray := prog_9_method_4_code
def yX7_hasStranger : MethodName := ⟨RX7, "hasStranger", "(I)Z"⟩
abbrev cX7_isSetOfLies : ByteArray := prog_9_method_5_code
def yX7_isSetOfLies : MethodName := ⟨RX7, "isSetOfLies", "(I)Z"⟩
abbrev cX7_wasTold : ByteArray := prog_9_method_6_code
def yX7_wasTold : MethodName := ⟨RX7, "wasTold", "(II)Z"⟩
abbrev cX7_untold : ByteArray := prog_9_method_7_code
def yX7_untold : MethodName := ⟨RX7, "untold", "(I)I"⟩
abbrev cX7_strangersWith : ByteArray := prog_9_method_8_code
def yX7_strangersWith : MethodName := ⟨RX7, "strangersWith", "([II)I"⟩
abbrev cX7_begin : ByteArray := prog_9_method_9_code
def yX7_begin : MethodName := ⟨RX7, "begin", "(I)V"⟩
abbrev cX7_addLie : ByteArray := prog_9_method_10_code
def yX7_addLie : MethodName := ⟨RX7, "addLie", "(III)V"⟩
abbrev cX7_addStranger : ByteArray := prog_9_method_11_code
def yX7_addStranger : MethodName := ⟨RX7, "addStranger", "(II)V"⟩
abbrev cX7_become : ByteArray := prog_9_method_12_code
def yX7_become : MethodName := ⟨RX7, "become", "(LNodBets$Town;)V"⟩
abbrev cX7_noteTold : ByteArray := prog_9_method_13_code
def yX7_noteTold : MethodName := ⟨RX7, "noteTold", "(IIZI)V"⟩
abbrev cX7_noteSupper : ByteArray := prog_9_method_14_code
def yX7_noteSupper : MethodName := ⟨RX7, "noteSupper", "(II)V"⟩
abbrev cX7_noteForgotten : ByteArray := prog_9_method_15_code
def yX7_noteForgotten : MethodName := ⟨RX7, "noteForgotten", "(II)V"⟩
def RX8 : String := "NodBets"
def TX8 : u_T := fun k => match k with
  | 0 => ("NodBets", "rows", "LNodBets$Rows;", true)
  | 1 => ("NodBets", "reader", "LNodBets$Reader;", true)
  | 2 => ("NodBets", "current", "LNodBets$Town;", true)
  | 3 => ("NodBets", "draft", "LNodBets$Town;", true)
  | 4 => ("NodBets", "images", "[LNodBets$Town;", true)
  | 5 => ("NodBets", "acts", "LNodBets$Acts;", true)
  | 6 => ("NodBets", "foresight", "LNodBets$Foresight;", true)
  | 7 => ("NodBets", "asks", "LNodBets$Asks;", true)
  | _ => ("NodBets", "latestFinding", "I", false)
def tyX8 : Nat → FieldType := fun k => match k with
  | 0 => .object "NodBets$Rows"
  | 1 => .object "NodBets$Reader"
  | 2 => .object "NodBets$Town"
  | 3 => .object "NodBets$Town"
  | 4 => .array (.object "NodBets$Town")
  | 5 => .object "NodBets$Acts"
  | 6 => .object "NodBets$Foresight"
  | 7 => .object "NodBets$Asks"
  | _ => .int
abbrev wsX80 : List Cond := u_ws RX8 TX8 9
theorem nmX8 : ∀ a, a < 9 → ∀ b, b < 9 → a ≠ b → (TX8 a).2.1 ≠ (TX8 b).2.1 := by decide +kernel
theorem tyX8_ok : ∀ k, k < 9 → parseFieldDescriptor (TX8 k).2.2.1 = some (tyX8 k) := by decide +kernel
abbrev cX8_init : ByteArray := prog_1_method_1_code
def yX8_init : MethodName := ⟨RX8, "<init>", "()V"⟩
abbrev cX8_row : ByteArray := prog_1_method_2_code
def yX8_row : MethodName := ⟨RX8, "row", "(III)I"⟩
abbrev cX8_set : ByteArray := prog_1_method_3_code
def yX8_set : MethodName := ⟨RX8, "set", "(III)I"⟩
abbrev cX8_copy : ByteArray := prog_1_method_4_code
def yX8_copy : MethodName := ⟨RX8, "copy", "(IIIII)I"⟩
abbrev cX8_drop : ByteArray := prog_1_method_5_code
def yX8_drop : MethodName := ⟨RX8, "drop", "(I)I"⟩
abbrev cX8_feed : ByteArray := prog_1_method_6_code
def yX8_feed : MethodName := ⟨RX8, "feed", "(I)I"⟩
abbrev cX8_town : ByteArray := prog_1_method_7_code
def yX8_town : MethodName := ⟨RX8, "town", "()I"⟩
abbrev cX8_fault : ByteArray := prog_1_method_8_code
def yX8_fault : MethodName := ⟨RX8, "fault", "()I"⟩
abbrev cX8_tell : ByteArray := prog_1_method_9_code
def yX8_tell : MethodName := ⟨RX8, "tell", "(II)I"⟩
abbrev cX8_supper : ByteArray := prog_1_method_10_code
def yX8_supper : MethodName := ⟨RX8, "supper", "(I)I"⟩
abbrev cX8_forget : ByteArray := prog_1_method_11_code
def yX8_forget : MethodName := ⟨RX8, "forget", "(II)I"⟩
abbrev cX8_undo : ByteArray := prog_1_method_12_code
def yX8_undo : MethodName := ⟨RX8, "undo", "()I"⟩
abbrev cX8_lie : ByteArray := prog_1_method_13_code
def yX8_lie : MethodName := ⟨RX8, "lie", "(II)I"⟩
abbrev cX8_stranger : ByteArray := prog_1_method_14_code
def yX8_stranger : MethodName := ⟨RX8, "stranger", "(II)I"⟩
abbrev cX8_need : ByteArray := prog_1_method_15_code
def yX8_need : MethodName := ⟨RX8, "need", "(II)I"⟩
abbrev cX8_nods : ByteArray := prog_1_method_16_code
def yX8_nods : MethodName := ⟨RX8, "nods", "(I)I"⟩
abbrev cX8_order : ByteArray := prog_1_method_17_code
def yX8_order : MethodName := ⟨RX8, "order", "(III)I"⟩
abbrev cX8_comesIn : ByteArray := prog_1_method_18_code
def yX8_comesIn : MethodName := ⟨RX8, "comesIn", "(III)I"⟩
abbrev cX8_dead : ByteArray := prog_1_method_19_code
def yX8_dead : MethodName := ⟨RX8, "dead", "(I)I"⟩
abbrev cX8_help : ByteArray := prog_1_method_20_code
def yX8_help : MethodName := ⟨RX8, "help", "(II)I"⟩
abbrev cX8_suppers : ByteArray := prog_1_method_21_code
def yX8_suppers : MethodName := ⟨RX8, "suppers", "(II)I"⟩
abbrev cX8_doubted : ByteArray := prog_1_method_22_code
def yX8_doubted : MethodName := ⟨RX8, "doubted", "(IIIII)I"⟩
abbrev cX8_trusted : ByteArray := prog_1_method_23_code
def yX8_trusted : MethodName := ⟨RX8, "trusted", "(IIII)I"⟩
abbrev cX8_who : ByteArray := prog_1_method_24_code
def yX8_who : MethodName := ⟨RX8, "who", "(III)I"⟩
abbrev cX8_odds : ByteArray := prog_1_method_25_code
def yX8_odds : MethodName := ⟨RX8, "odds", "(IIIIIII)I"⟩
abbrev cX8_image : ByteArray := prog_1_method_26_code
def yX8_image : MethodName := ⟨RX8, "image", "(I)I"⟩
abbrev cX8_restore : ByteArray := prog_1_method_27_code
def yX8_restore : MethodName := ⟨RX8, "restore", "(I)I"⟩
abbrev cX8_kind : ByteArray := prog_1_method_28_code
def yX8_kind : MethodName := ⟨RX8, "kind", "(I)I"⟩
abbrev cX8_as : ByteArray := prog_1_method_29_code
def yX8_as : MethodName := ⟨RX8, "as", "(II)I"⟩
abbrev cX8_ask : ByteArray := prog_1_method_30_code
def yX8_ask : MethodName := ⟨RX8, "ask", "(II)I"⟩
abbrev cX8_trace : ByteArray := prog_1_method_31_code
def yX8_trace : MethodName := ⟨RX8, "trace", "(I)I"⟩
abbrev cX8_count : ByteArray := prog_1_method_32_code
def yX8_count : MethodName := ⟨RX8, "count", "(I)I"⟩
abbrev cX8_status : ByteArray := prog_1_method_33_code
def yX8_status : MethodName := ⟨RX8, "status", "()I"⟩
abbrev cX8_found : ByteArray := prog_1_method_34_code
def yX8_found : MethodName := ⟨RX8, "found", "(I)I"⟩
abbrev cX8_unfound : ByteArray := prog_1_method_35_code
def yX8_unfound : MethodName := ⟨RX8, "unfound", "(I)I"⟩
abbrev cX8_isTelling : ByteArray := prog_1_method_36_code
def yX8_isTelling : MethodName := ⟨RX8, "isTelling", "(II)Z"⟩
abbrev cX8_takeTelling : ByteArray := prog_1_method_37_code
def yX8_takeTelling : MethodName := ⟨RX8, "takeTelling", "(III)I"⟩
abbrev cX8_commonDivisor : ByteArray := prog_1_method_38_code
def yX8_commonDivisor : MethodName := ⟨RX8, "commonDivisor", "(II)I"⟩
def RX9 : String := "NodBetsModel"
def TX9 : u_T := fun k => match k with
  | 0 => ("NodBetsModel", "lane", "[I", true)
  | 1 => ("NodBetsModel", "many", "[I", true)
  | 2 => ("NodBetsModel", "items", "[I", true)
  | 3 => ("NodBetsModel", "spare", "[I", true)
  | 4 => ("NodBetsModel", "status", "I", false)
  | 5 => ("NodBetsModel", "tape", "[I", true)
  | 6 => ("NodBetsModel", "taped", "I", false)
  | 7 => ("NodBetsModel", "faultKind", "I", false)
  | 8 => ("NodBetsModel", "faultPlace", "I", false)
  | 9 => ("NodBetsModel", "at", "I", false)
  | 10 => ("NodBetsModel", "start", "I", false)
  | 11 => ("NodBetsModel", "token", "I", false)
  | 12 => ("NodBetsModel", "value", "I", false)
  | 13 => ("NodBetsModel", "now", "[I", true)
  | 14 => ("NodBetsModel", "draft", "[I", true)
  | 15 => ("NodBetsModel", "past", "[I", true)
  | 16 => ("NodBetsModel", "acts", "I", false)
  | 17 => ("NodBetsModel", "images", "[I", true)
  | 18 => ("NodBetsModel", "kept", "[Z", true)
  | 19 => ("NodBetsModel", "trace", "[I", true)
  | 20 => ("NodBetsModel", "traced", "I", false)
  | 21 => ("NodBetsModel", "trust", "I", false)
  | 22 => ("NodBetsModel", "doubts", "I", false)
  | 23 => ("NodBetsModel", "heard", "I", false)
  | 24 => ("NodBetsModel", "nodded", "[I", true)
  | 25 => ("NodBetsModel", "row", "[I", true)
  | 26 => ("NodBetsModel", "best", "[I", true)
  | _ => ("NodBetsModel", "most", "I", false)
def tyX9 : Nat → FieldType := fun k => match k with
  | 0 => .array .int
  | 1 => .array .int
  | 2 => .array .int
  | 3 => .array .int
  | 4 => .int
  | 5 => .array .int
  | 6 => .int
  | 7 => .int
  | 8 => .int
  | 9 => .int
  | 10 => .int
  | 11 => .int
  | 12 => .int
  | 13 => .array .int
  | 14 => .array .int
  | 15 => .array .int
  | 16 => .int
  | 17 => .array .int
  | 18 => .array .boolean
  | 19 => .array .int
  | 20 => .int
  | 21 => .int
  | 22 => .int
  | 23 => .int
  | 24 => .array .int
  | 25 => .array .int
  | 26 => .array .int
  | _ => .int
abbrev wsX90 : List Cond := u_ws RX9 TX9 28
theorem nmX9 : ∀ a, a < 28 → ∀ b, b < 28 → a ≠ b → (TX9 a).2.1 ≠ (TX9 b).2.1 := by decide +kernel
theorem tyX9_ok : ∀ k, k < 28 → parseFieldDescriptor (TX9 k).2.2.1 = some (tyX9 k) := by decide +kernel
abbrev cX9_init : ByteArray := prog_11_method_1_code
def yX9_init : MethodName := ⟨RX9, "<init>", "()V"⟩
abbrev cX9_in : ByteArray := prog_11_method_3_code
def yX9_in : MethodName := ⟨RX9, "in", "(III)Z"⟩
abbrev cX9_has : ByteArray := prog_11_method_4_code
def yX9_has : MethodName := ⟨RX9, "has", "(II)Z"⟩
abbrev cX9_ones : ByteArray := prog_11_method_5_code
def yX9_ones : MethodName := ⟨RX9, "ones", "(I)I"⟩
abbrev cX9_found : ByteArray := prog_11_method_6_code
def yX9_found : MethodName := ⟨RX9, "found", "(I)I"⟩
abbrev cX9_well : ByteArray := prog_11_method_7_code
def yX9_well : MethodName := ⟨RX9, "well", "(I)I"⟩
abbrev cX9_copies : ByteArray := prog_11_method_8_code
def yX9_copies : MethodName := ⟨RX9, "copies", "([II[II)V"⟩
abbrev cX9_isRow : ByteArray := prog_11_method_9_code
def yX9_isRow : MethodName := ⟨RX9, "isRow", "(I)Z"⟩
abbrev cX9_isMissing : ByteArray := prog_11_method_10_code
def yX9_isMissing : MethodName := ⟨RX9, "isMissing", "(I)Z"⟩
abbrev cX9_cut : ByteArray := prog_11_method_11_code
def yX9_cut : MethodName := ⟨RX9, "cut", "(II)I"⟩
abbrev cX9_row : ByteArray := prog_11_method_12_code
def yX9_row : MethodName := ⟨RX9, "row", "(III)I"⟩
abbrev cX9_set : ByteArray := prog_11_method_13_code
def yX9_set : MethodName := ⟨RX9, "set", "(III)I"⟩
abbrev cX9_isPart : ByteArray := prog_11_method_14_code
def yX9_isPart : MethodName := ⟨RX9, "isPart", "(III)Z"⟩
abbrev cX9_copy : ByteArray := prog_11_method_15_code
def yX9_copy : MethodName := ⟨RX9, "copy", "(IIIII)I"⟩
abbrev cX9_drop : ByteArray := prog_11_method_16_code
def yX9_drop : MethodName := ⟨RX9, "drop", "(I)I"⟩
abbrev cX9_feed : ByteArray := prog_11_method_17_code
def yX9_feed : MethodName := ⟨RX9, "feed", "(I)I"⟩
abbrev cX9_byteAt : ByteArray := prog_11_method_18_code
def yX9_byteAt : MethodName := ⟨RX9, "byteAt", "(I)I"⟩
abbrev cX9_advances : ByteArray := prog_11_method_19_code
def yX9_advances : MethodName := ⟨RX9, "advances", "()V"⟩
abbrev cX9_isWell : ByteArray := prog_11_method_20_code
def yX9_isWell : MethodName := ⟨RX9, "isWell", "()Z"⟩
abbrev cX9_takes : ByteArray := prog_11_method_21_code
def yX9_takes : MethodName := ⟨RX9, "takes", "(ZI)I"⟩
abbrev cX9_figure : ByteArray := prog_11_method_22_code
def yX9_figure : MethodName := ⟨RX9, "figure", "(II)I"⟩
abbrev cX9_kindOf : ByteArray := prog_11_method_23_code
def yX9_kindOf : MethodName := ⟨RX9, "kindOf", "(I)I"⟩
abbrev cX9_next : ByteArray := prog_11_method_24_code
def yX9_next : MethodName := ⟨RX9, "next", "(II)I"⟩
abbrev cX9_readsLie : ByteArray := prog_11_method_25_code
def yX9_readsLie : MethodName := ⟨RX9, "readsLie", "()V"⟩
abbrev cX9_readsStranger : ByteArray := prog_11_method_26_code
def yX9_readsStranger : MethodName := ⟨RX9, "readsStranger", "()V"⟩
abbrev cX9_town : ByteArray := prog_11_method_27_code
def yX9_town : MethodName := ⟨RX9, "town", "()I"⟩
abbrev cX9_fault : ByteArray := prog_11_method_28_code
def yX9_fault : MethodName := ⟨RX9, "fault", "()I"⟩
abbrev cX9_isTown : ByteArray := prog_11_method_29_code
def yX9_isTown : MethodName := ⟨RX9, "isTown", "()Z"⟩
abbrev cX9_isLie : ByteArray := prog_11_method_30_code
def yX9_isLie : MethodName := ⟨RX9, "isLie", "(I)Z"⟩
abbrev cX9_isStranger : ByteArray := prog_11_method_31_code
def yX9_isStranger : MethodName := ⟨RX9, "isStranger", "(I)Z"⟩
abbrev cX9_tries : ByteArray := prog_11_method_32_code
def yX9_tries : MethodName := ⟨RX9, "tries", "(I)V"⟩
abbrev cX9_needs : ByteArray := prog_11_method_33_code
def yX9_needs : MethodName := ⟨RX9, "needs", "(I)I"⟩
abbrev cX9_wouldNod : ByteArray := prog_11_method_34_code
def yX9_wouldNod : MethodName := ⟨RX9, "wouldNod", "(I)Z"⟩
abbrev cX9_hears : ByteArray := prog_11_method_35_code
def yX9_hears : MethodName := ⟨RX9, "hears", "(IZ)V"⟩
abbrev cX9_notes : ByteArray := prog_11_method_36_code
def yX9_notes : MethodName := ⟨RX9, "notes", "()V"⟩
abbrev cX9_wasTold : ByteArray := prog_11_method_37_code
def yX9_wasTold : MethodName := ⟨RX9, "wasTold", "(II)Z"⟩
abbrev cX9_tell : ByteArray := prog_11_method_38_code
def yX9_tell : MethodName := ⟨RX9, "tell", "(II)I"⟩
abbrev cX9_supper : ByteArray := prog_11_method_39_code
def yX9_supper : MethodName := ⟨RX9, "supper", "(I)I"⟩
abbrev cX9_forget : ByteArray := prog_11_method_40_code
def yX9_forget : MethodName := ⟨RX9, "forget", "(II)I"⟩
abbrev cX9_undo : ByteArray := prog_11_method_41_code
def yX9_undo : MethodName := ⟨RX9, "undo", "()I"⟩
abbrev cX9_strangersWith : ByteArray := prog_11_method_42_code
def yX9_strangersWith : MethodName := ⟨RX9, "strangersWith", "(II)I"⟩
abbrev cX9_noddedAt : ByteArray := prog_11_method_43_code
def yX9_noddedAt : MethodName := ⟨RX9, "noddedAt", "(I)I"⟩
abbrev cX9_lie : ByteArray := prog_11_method_44_code
def yX9_lie : MethodName := ⟨RX9, "lie", "(II)I"⟩
abbrev cX9_stranger : ByteArray := prog_11_method_45_code
def yX9_stranger : MethodName := ⟨RX9, "stranger", "(II)I"⟩
abbrev cX9_need : ByteArray := prog_11_method_46_code
def yX9_need : MethodName := ⟨RX9, "need", "(II)I"⟩
abbrev cX9_untold : ByteArray := prog_11_method_47_code
def yX9_untold : MethodName := ⟨RX9, "untold", "(I)I"⟩
abbrev cX9_nods : ByteArray := prog_11_method_48_code
def yX9_nods : MethodName := ⟨RX9, "nods", "(I)I"⟩
abbrev cX9_nodsAt : ByteArray := prog_11_method_49_code
def yX9_nodsAt : MethodName := ⟨RX9, "nodsAt", "(II)I"⟩
abbrev cX9_goesOn : ByteArray := prog_11_method_50_code
def yX9_goesOn : MethodName := ⟨RX9, "goesOn", "(II)Z"⟩
abbrev cX9_fills : ByteArray := prog_11_method_51_code
def yX9_fills : MethodName := ⟨RX9, "fills", "(IIII)V"⟩
abbrev cX9_order : ByteArray := prog_11_method_52_code
def yX9_order : MethodName := ⟨RX9, "order", "(III)I"⟩
abbrev cX9_aheadOf : ByteArray := prog_11_method_53_code
def yX9_aheadOf : MethodName := ⟨RX9, "aheadOf", "(II)I"⟩
abbrev cX9_comesIn : ByteArray := prog_11_method_54_code
def yX9_comesIn : MethodName := ⟨RX9, "comesIn", "(III)I"⟩
abbrev cX9_dead : ByteArray := prog_11_method_55_code
def yX9_dead : MethodName := ⟨RX9, "dead", "(I)I"⟩
abbrev cX9_helps : ByteArray := prog_11_method_56_code
def yX9_helps : MethodName := ⟨RX9, "helps", "(III)Z"⟩
abbrev cX9_help : ByteArray := prog_11_method_57_code
def yX9_help : MethodName := ⟨RX9, "help", "(II)I"⟩
abbrev cX9_suppers : ByteArray := prog_11_method_58_code
def yX9_suppers : MethodName := ⟨RX9, "suppers", "(II)I"⟩
abbrev cX9_wrongIn : ByteArray := prog_11_method_59_code
def yX9_wrongIn : MethodName := ⟨RX9, "wrongIn", "(III)I"⟩
abbrev cX9_goesSo : ByteArray := prog_11_method_60_code
def yX9_goesSo : MethodName := ⟨RX9, "goesSo", "(II)Z"⟩
abbrev cX9_doubted : ByteArray := prog_11_method_61_code
def yX9_doubted : MethodName := ⟨RX9, "doubted", "(IIIII)I"⟩
abbrev cX9_trusted : ByteArray := prog_11_method_62_code
def yX9_trusted : MethodName := ⟨RX9, "trusted", "(IIII)I"⟩
abbrev cX9_who : ByteArray := prog_11_method_63_code
def yX9_who : MethodName := ⟨RX9, "who", "(III)I"⟩
abbrev cX9_goesBy : ByteArray := prog_11_method_64_code
def yX9_goesBy : MethodName := ⟨RX9, "goesBy", "(IIIII)J"⟩
abbrev cX9_odds : ByteArray := prog_11_method_65_code
def yX9_odds : MethodName := ⟨RX9, "odds", "(IIIIIII)I"⟩
abbrev cX9_image : ByteArray := prog_11_method_66_code
def yX9_image : MethodName := ⟨RX9, "image", "(I)I"⟩
abbrev cX9_restore : ByteArray := prog_11_method_67_code
def yX9_restore : MethodName := ⟨RX9, "restore", "(I)I"⟩
abbrev cX9_kindIn : ByteArray := prog_11_method_68_code
def yX9_kindIn : MethodName := ⟨RX9, "kindIn", "(I)I"⟩
abbrev cX9_kind : ByteArray := prog_11_method_69_code
def yX9_kind : MethodName := ⟨RX9, "kind", "(I)I"⟩
abbrev cX9_as : ByteArray := prog_11_method_70_code
def yX9_as : MethodName := ⟨RX9, "as", "(II)I"⟩
abbrev cX9_begins : ByteArray := prog_11_method_71_code
def yX9_begins : MethodName := ⟨RX9, "begins", "(I)V"⟩
abbrev cX9_easyMark : ByteArray := prog_11_method_72_code
def yX9_easyMark : MethodName := ⟨RX9, "easyMark", "(I)I"⟩
abbrev cX9_proofSize : ByteArray := prog_11_method_73_code
def yX9_proofSize : MethodName := ⟨RX9, "proofSize", "(I)I"⟩
abbrev cX9_easySize : ByteArray := prog_11_method_74_code
def yX9_easySize : MethodName := ⟨RX9, "easySize", "(I)I"⟩
abbrev cX9_proofMark : ByteArray := prog_11_method_75_code
def yX9_proofMark : MethodName := ⟨RX9, "proofMark", "(I)I"⟩
abbrev cX9_ask : ByteArray := prog_11_method_76_code
def yX9_ask : MethodName := ⟨RX9, "ask", "(II)I"⟩
abbrev cX9_trace : ByteArray := prog_11_method_77_code
def yX9_trace : MethodName := ⟨RX9, "trace", "(I)I"⟩
abbrev cX9_count : ByteArray := prog_11_method_78_code
def yX9_count : MethodName := ⟨RX9, "count", "(I)I"⟩
abbrev cX9_status : ByteArray := prog_11_method_79_code
def yX9_status : MethodName := ⟨RX9, "status", "()I"⟩
def RJ6 : String := "java/lang/Integer"
def TJ6 : u_T := fun k => match k with
  | _ => ("", "", "", false)
def tyJ6 : Nat → FieldType := fun k => match k with
  | _ => .int
abbrev wsJ60 : List Cond := u_ws RJ6 TJ6 0
theorem nmJ6 : ∀ a, a < 0 → ∀ b, b < 0 → a ≠ b → (TJ6 a).2.1 ≠ (TJ6 b).2.1 := by decide +kernel
theorem tyJ6_ok : ∀ k, k < 0 → parseFieldDescriptor (TJ6 k).2.2.1 = some (tyJ6 k) := by decide +kernel
abbrev cJ6_bitCount_0f7a4 : ByteArray := prog_12_method_49_code
def yJ6_bitCount_0f7a4 : MethodName := ⟨RJ6, "bitCount", "(I)I"⟩
def RJ9 : String := "java/lang/Math"
def TJ9 : u_T := fun k => match k with
  | _ => ("", "", "", false)
def tyJ9 : Nat → FieldType := fun k => match k with
  | _ => .int
abbrev wsJ90 : List Cond := u_ws RJ9 TJ9 0
theorem nmJ9 : ∀ a, a < 0 → ∀ b, b < 0 → a ≠ b → (TJ9 a).2.1 ≠ (TJ9 b).2.1 := by decide +kernel
theorem tyJ9_ok : ∀ k, k < 0 → parseFieldDescriptor (TJ9 k).2.2.1 = some (tyJ9 k) := by decide +kernel
abbrev cJ9_max_7cf53 : ByteArray := prog_13_method_65_code
def yJ9_max_7cf53 : MethodName := ⟨RJ9, "max", "(II)I"⟩
abbrev cJ9_min_7cf53 : ByteArray := prog_13_method_69_code
def yJ9_min_7cf53 : MethodName := ⟨RJ9, "min", "(II)I"⟩
def RJ10 : String := "java/lang/System"
def TJ10 : u_T := fun k => match k with
  | _ => ("", "", "", false)
def tyJ10 : Nat → FieldType := fun k => match k with
  | _ => .int
abbrev wsJ100 : List Cond := u_ws RJ10 TJ10 0
theorem nmJ10 : ∀ a, a < 0 → ∀ b, b < 0 → a ≠ b → (TJ10 a).2.1 ≠ (TJ10 b).2.1 := by decide +kernel
theorem tyJ10_ok : ∀ k, k < 0 → parseFieldDescriptor (TJ10 k).2.2.1 = some (tyJ10 k) := by decide +kernel
def RL : String := "NodBetsLaw"
abbrev cL_law : ByteArray := code
def yL_law : MethodName := ⟨RL, "law", "([I)Z"⟩
abbrev vwCl : List vw_C := [(RX0, TX0, 7), (RX1, TX1, 3), (RX2, TX2, 9), (RX4, TX4, 4), (RX5, TX5, 4), (RX6, TX6, 3), (RX7, TX7, 11), (RX8, TX8, 9), (RX9, TX9, 28)]
end
section
/-! A program logic over W: ints as Int, the heap a function of cell and slot, all references fixed (nothing is made after the constructors). -/
/-- the tables' words that last -/
def lw_g : List Cond := lw_tbl.filter goodWord
theorem lw_gm {w : Cond} (i : Nat) (h : lw_tbl[i]? = some w) (hg : goodWord w = true) : w ∈ lw_g := List.mem_filter.mpr ⟨List.mem_of_getElem? h, hg⟩
theorem lw_gt : ∀ w ∈ lw_g, w ∈ lw_tbl := fun _ h => (List.mem_filter.mp h).1
theorem lw_gg : ∀ w ∈ lw_g, goodWord w = true := fun _ h => (List.mem_filter.mp h).2
abbrev SV_ : Type := Int ⊕ (Int ⊕ ((Nat × Nat) × Int))
abbrev SH_ : Type := Int → Int → Int
abbrev SG_ : Type := Launch × va_G × (Nat → Nat) × (Nat → Nat) × (Nat → Nat × (Nat → Int)) × (ClassId × ClassId × ClassId × ClassId) × Nat
abbrev MD_ : Type := MethodName × ByteArray × Nat × Option FieldType × Nat
abbrev sv_i (x : Int) : SV_ := .inl x
abbrev sv_l (x : Int) : SV_ := .inr (.inl x)
abbrev sv_r (c n : Nat) (k : Int) : SV_ := .inr (.inr ((c, n), k))
def sg_l (g : SG_) : Launch := g.1
def sg_D (g : SG_) : va_G := g.2.1
def sg_a (g : SG_) : Nat → Nat := g.2.2.1
def sg_x (g : SG_) : Nat → Nat := g.2.2.2.1
def sg_X (g : SG_) : Nat → Nat × (Nat → Int) := g.2.2.2.2.1
def sg_I (g : SG_) : ClassId := g.2.2.2.2.2.1.1
def sg_Z (g : SG_) : ClassId := g.2.2.2.2.2.1.2.1
def sg_M (g : SG_) : ClassId := g.2.2.2.2.2.1.2.2.1
def sg_T (g : SG_) : ClassId := g.2.2.2.2.2.1.2.2.2
def sg_B (g : SG_) : Nat := g.2.2.2.2.2.2
def sg_A (g : SG_) : Nat → Prop := fun q => sg_B g ≤ q
def sg_t (g : SG_) : List (ClassId × FieldType) := [(sg_I g, .int), (sg_Z g, .boolean), (sg_M g, .object "NodBets$Mind"), (sg_T g, .object "NodBets$Town")]
def sr_32 (x : Int) : Prop := -2147483648 ≤ x ∧ x < 2147483648
def sr_64 (x : Int) : Prop := -9223372036854775808 ≤ x ∧ x < 9223372036854775808
def sw_32 (x : Int) : Int := (Int32.ofInt x).toInt
def sw_64 (x : Int) : Int := (Int64.ofInt x).toInt
theorem sr_32w (x : Int) : sr_32 (sw_32 x) := by
  have h1 := Int32.le_toInt (Int32.ofInt x)
  have h2 := Int32.toInt_lt (Int32.ofInt x)
  exact ⟨h1, h2⟩
theorem sr_64w (x : Int) : sr_64 (sw_64 x) := by
  have h1 := Int64.le_toInt (Int64.ofInt x)
  have h2 := Int64.toInt_lt (Int64.ofInt x)
  exact ⟨h1, h2⟩
theorem sr_32t (x : Int32) : sr_32 x.toInt := ⟨Int32.le_toInt x, Int32.toInt_lt x⟩
theorem sr_64t (x : Int64) : sr_64 x.toInt := ⟨Int64.le_toInt x, Int64.toInt_lt x⟩
theorem sw_32i {x : Int} (h : sr_32 x) : sw_32 x = x := Int32.toInt_ofInt_of_le h.1 h.2
theorem sw_64i {x : Int} (h : sr_64 x) : sw_64 x = x := Int64.toInt_ofInt_of_le h.1 h.2
theorem sw_32o (x : Int) : Int32.ofInt (sw_32 x) = Int32.ofInt x := Int32.ofInt_toInt _
theorem sw_64o (x : Int) : Int64.ofInt (sw_64 x) = Int64.ofInt x := Int64.ofInt_toInt _
theorem si_t {x : Int} (h : sr_32 x) : (Int32.ofInt x).toInt = x := sw_32i h
theorem si_lt {x y : Int} (hx : sr_32 x) (hy : sr_32 y) : Int32.ofInt x < Int32.ofInt y ↔ x < y := by
  rw [Int32.lt_iff_toInt_lt, si_t hx, si_t hy]
theorem si_le {x y : Int} (hx : sr_32 x) (hy : sr_32 y) : Int32.ofInt x ≤ Int32.ofInt y ↔ x ≤ y := by
  rw [Int32.le_iff_toInt_le, si_t hx, si_t hy]
theorem si_eq {x y : Int} (hx : sr_32 x) (hy : sr_32 y) : Int32.ofInt x = Int32.ofInt y ↔ x = y := by
  rw [← Int32.toInt_inj, si_t hx, si_t hy]
theorem sr_320 : sr_32 0 := ⟨by decide, by decide⟩
theorem si_in {x : Int} {n : Nat} (hx : sr_32 x) (h0 : 0 ≤ x) (hn : x < n) : vp_in (Int32.ofInt x) n := by
  rw [vp_in_iff, si_t hx]
  exact ⟨h0, hn⟩
theorem si_cl {x : Int} (hx : sr_32 x) : (Int32.ofInt x).toNatClampNeg = x.toNat := by
  show (Int32.ofInt x).toInt.toNat = x.toNat
  rw [si_t hx]
/-- the value in the machine -/
def sv_v (g : SG_) : SV_ → Value
  | .inl x => .int (Int32.ofInt x)
  | .inr (.inl x) => .long (Int64.ofInt x)
  | .inr (.inr ((c, n), k)) => .ref (if c = 5 then sg_x g n else sg_a g k.toNat)
/-- the kinds of the cells: (0, n) ints, (1, n) booleans, (2, n) minds, (3, n) towns, (4, c) an object of class c -/
def sl_y : List (Nat × Nat) := [(4, 7), (4, 5), (0, 8), (0, 8), (0, 320), (4, 4), (0, 120),
  (4, 6), (0, 6), (0, 6), (0, 6), (0, 4), (0, 4), (0, 4), (0, 4), (4, 6), (0, 6), (0, 6), (0, 6), (0, 4), (0, 4), (0, 4), (0, 4),
  (4, 6), (0, 6), (0, 6), (0, 6), (0, 4), (0, 4), (0, 4), (0, 4), (4, 6), (0, 6), (0, 6), (0, 6), (0, 4), (0, 4), (0, 4), (0, 4), (3, 2),
  (4, 0), (0, 24), (0, 24), (0, 24), (0, 24), (0, 24), (4, 2), (2, 7), (0, 6), (0, 6), (0, 6), (0, 6),
  (4, 3), (0, 4), (4, 3), (0, 4), (4, 3), (0, 4), (4, 3), (0, 4), (4, 3), (0, 4), (4, 3), (0, 4), (4, 3), (0, 4), (4, 1), (0, 16),
  (4, 8), (0, 8), (0, 8), (0, 320), (0, 40), (0, 120), (0, 38), (0, 38), (0, 912), (0, 76), (1, 2), (0, 16), (0, 4), (0, 6), (0, 6)]
/-- the fields: none an int; else a cell's kind, and where it is (true: so many behind the object; false: there) -/
def sf_t : List (List (Option ((Nat × Nat) × Bool × Int))) := [
  [some ((0, 24), true, 1), some ((0, 24), true, 2), some ((0, 24), true, 3), some ((0, 24), true, 4), some ((0, 24), true, 5), none, none],
  [some ((4, 6), false, 7), some ((0, 16), true, 1), none],
  [some ((4, 6), false, 7), some ((2, 7), true, 1), some ((0, 6), true, 2), some ((0, 6), true, 3), none, none, some ((0, 6), true, 4), some ((0, 6), true, 5), none],
  [none, none, none, some ((0, 4), true, 1)],
  [some ((0, 120), true, 1), none, none, none],
  [some ((0, 8), true, 1), some ((0, 8), true, 2), some ((0, 320), true, 3)],
  [none, none, none, none, some ((0, 6), true, 1), some ((0, 6), true, 2), some ((0, 6), true, 3), some ((0, 4), true, 4), some ((0, 4), true, 5), some ((0, 4), true, 6), some ((0, 4), true, 7)],
  [some ((4, 5), false, 1), some ((4, 4), false, 5), some ((4, 6), false, 7), some ((4, 6), false, 15), some ((3, 2), false, 39), some ((4, 0), false, 40), some ((4, 2), false, 46), some ((4, 1), false, 66), none],
  [some ((0, 8), true, 1), some ((0, 8), true, 2), some ((0, 320), true, 3), some ((0, 40), true, 4), none, some ((0, 120), true, 5), none, none, none, none, none, none, none, some ((0, 38), true, 6), some ((0, 38), true, 7), some ((0, 912), true, 8), none, some ((0, 76), true, 9), some ((1, 2), true, 10), some ((0, 16), true, 11), none, none, none, none, some ((0, 4), true, 12), some ((0, 6), true, 13), some ((0, 6), true, 14), none]]
def sf_c (c : Nat) : List (Option ((Nat × Nat) × Bool × Int)) := sf_t.getD c []
def sf_v (c : Nat) (k : Int) (j : Nat) (h : SH_) : SV_ := match (sf_c c).getD j none with
  | none => .inl (h k j)
  | some (kd, true, o) => .inr (.inr (kd, k + o))
  | some (kd, false, o) => .inr (.inr (kd, o))
def sw_e (g : SG_) (kd : Nat × Nat) (k : Int) (h : SH_) : va_E := match kd.1 with
  | 0 => .inl (sg_I g, kd.2, .inl (fun j => Int32.ofInt (h k j)))
  | 1 => .inl (sg_Z g, kd.2, .inl (fun j => Int32.ofInt (h k j)))
  | 2 => .inl (sg_M g, kd.2, .inr (.inr (.inr (.inr (fun j => some (sg_a g (52 + 2 * j)))))))
  | 3 => .inl (sg_T g, kd.2, .inr (.inr (.inr (.inr (fun j => some (sg_a g (23 + 8 * j)))))))
  | _ => .inr (kd.2, (List.range (sf_c kd.2).length).map (fun j => sv_v g (sf_v kd.2 k j h)))
def sw_l (g : SG_) (h : SH_) : va_W := (List.range 83).map (fun k => (sg_a g k, sw_e g (sl_y.getD k (0, 0)) k h))
/-- a slot becomes v -/
def hs_ (h : SH_) (k j v : Int) : SH_ := fun a b => if a = k ∧ b = j then v else h a b
theorem hs_e (h : SH_) (k j v : Int) : hs_ h k j v k j = v := by simp [hs_]
theorem hs_n {h : SH_} {k j v a b : Int} (hn : ¬ (a = k ∧ b = j)) : hs_ h k j v a b = h a b := by simp [hs_, hn]
theorem hs_k {h : SH_} {k j v a : Int} (hn : a ≠ k) : hs_ h k j v a = h a := by funext b; simp [hs_, hn]
theorem sw_len : sl_y.length = 83 := by decide
theorem sw_get {g : SG_} {h : SH_} {k : Int} {kd : Nat × Nat} (h0 : 0 ≤ k) (hk : sl_y[k.toNat]? = some kd) : (sw_l g h)[k.toNat]? = some (sg_a g k.toNat, sw_e g kd k h) := by
  have hlt : k.toNat < 83 := by
    have h1 := (List.getElem?_eq_some_iff.mp hk).1
    rw [sw_len] at h1
    exact h1
  have hg : sl_y.getD k.toNat (0, 0) = kd := by rw [List.getD_eq_getElem?_getD, hk]; rfl
  rw [sw_l, List.getElem?_map, List.getElem?_range hlt]
  show some (sg_a g k.toNat, sw_e g (sl_y.getD k.toNat (0, 0)) ((k.toNat : Nat) : Int) h) = _
  rw [hg, Int.toNat_of_nonneg h0]
theorem sw_ec {g : SG_} {kd : Nat × Nat} {k : Int} {h1 h2 : SH_} (e : h1 k = h2 k) : sw_e g kd k h1 = sw_e g kd k h2 := by
  have hf : ∀ c j, sf_v c k j h1 = sf_v c k j h2 := fun c j => by
    unfold sf_v
    rw [e]
  unfold sw_e
  simp only [e, hf]
theorem sw_set {g : SG_} {h h2 : SH_} {k : Int} {kd : Nat × Nat} (h0 : 0 ≤ k) (hk : sl_y[k.toNat]? = some kd) (ho : ∀ a : Int, a ≠ k → h2 a = h a) {E : va_E} (hE : E = sw_e g kd k h2) : (sw_l g h).set k.toNat (sg_a g k.toNat, E) = sw_l g h2 := by
  subst hE
  apply List.ext_getElem?
  intro i
  by_cases hi : k.toNat = i
  · subst hi
    have h1 := sw_get (g := g) (h := h) h0 hk
    rw [List.getElem?_set_self (List.getElem?_eq_some_iff.mp h1).1, sw_get h0 hk]
  · rw [List.getElem?_set_ne hi]
    unfold sw_l
    rw [List.getElem?_map, List.getElem?_map]
    by_cases hl : i < 83
    · rw [List.getElem?_range hl]
      show some (_, _) = some (_, _)
      rw [sw_ec (h1 := h2) (h2 := h) (ho i (fun q => hi (by omega)))]
    · rw [List.getElem?_eq_none (by simpa using hl)]
      rfl
end
section
/-! the judgement -/
def sv_ok : SV_ → Prop
  | .inl x => sr_32 x
  | .inr (.inl x) => sr_64 x
  | .inr (.inr ((c, n), k)) => (c = 5 ∧ n < 4) ∨ (c ≠ 5 ∧ 0 ≤ k ∧ sl_y[k.toNat]? = some (c, n))
def sv_oks (st : List SV_) : Prop := ∀ v ∈ st, sv_ok v
def sl_ok (ls : List (Option SV_)) : Prop := ∀ v, some v ∈ ls → sv_ok v
def sh_ok (h : SH_) : Prop := ∀ k j, sr_32 (h k j)
def sl_v (g : SG_) : Nat → List (Option SV_) → List (Nat × Value)
  | _, [] => []
  | i, none :: l => sl_v g (i + 1) l
  | i, some v :: l => (i, sv_v g v) :: sl_v g (i + 1) l
theorem sl_mem {g : SG_} {q : Nat × Value} : ∀ {l : List (Option SV_)} {i : Nat}, q ∈ sl_v g i l ↔ ∃ (j : Nat) (v : SV_), l[j]? = some (some v) ∧ q = (i + j, sv_v g v) := by
  intro l
  induction l with
  | nil => intro i; simp [sl_v]
  | cons a l ih =>
    intro i
    have key : (∃ (j : Nat) (v : SV_), l[j]? = some (some v) ∧ q = (i + 1 + j, sv_v g v)) ↔ ∃ (j : Nat) (v : SV_), (a :: l)[j + 1]? = some (some v) ∧ q = (i + (j + 1), sv_v g v) := by
      constructor
      · rintro ⟨j, v, h1, h2⟩; exact ⟨j, v, by simpa using h1, by rw [h2]; congr 1; omega⟩
      · rintro ⟨j, v, h1, h2⟩; exact ⟨j, v, by simpa using h1, by rw [h2]; congr 1; omega⟩
    cases a with
    | none =>
      show q ∈ sl_v g (i + 1) l ↔ _
      rw [ih, key]
      constructor
      · rintro ⟨j, v, h1, h2⟩; exact ⟨j + 1, v, h1, h2⟩
      · rintro ⟨j, v, h1, h2⟩
        cases j with
        | zero => simp at h1
        | succ j => exact ⟨j, v, h1, h2⟩
    | some w =>
      show q ∈ (i, sv_v g w) :: sl_v g (i + 1) l ↔ _
      rw [List.mem_cons, ih, key]
      constructor
      · rintro (h | ⟨j, v, h1, h2⟩)
        · exact ⟨0, w, by simp, by simpa using h⟩
        · exact ⟨j + 1, v, h1, h2⟩
      · rintro ⟨j, v, h1, h2⟩
        cases j with
        | zero =>
          left
          simp at h1
          rw [h2, h1]
          rfl
        | succ j => exact Or.inr ⟨j, v, h1, h2⟩
theorem sl_at {g : SG_} {lsA : Array Slot} {n i : Nat} {ls : List (Option SV_)} {v : SV_} (h : lv_has lsA n (sl_v g 0 ls)) (hv : ls[i]? = some (some v)) : lsA[i]? = some (.val (sv_v g v)) := by
  have h1 := h.2.2 (i, sv_v g v) (sl_mem.mpr ⟨i, v, hv, by simp⟩)
  exact h1
def ss_C (i : Nat) : String := if i = 0 then "NodBets$Kinds" else "NodBets$Asks"
def ss_N (i : Nat) : String := if i = 0 then "ABOVE" else if i = 1 then "SIZE_BODIES" else "MARK_BODIES"
/-- what holds of the machine's tables and of what lies outside the world -/
def sg_K (g : SG_) (U : State) : Prop := va_K (sg_D g) vwCl (sg_t g) U ∧ (∀ i j, i < 83 → j < 83 → sg_a g i = sg_a g j → i = j) ∧ (∀ i, i < 83 → sg_B g ≤ sg_a g i) ∧ sg_B g ≤ U.heap.size ∧
  (∀ i, i < 3 → va_Z (ss_C i) (ss_N i) "[I" (.ref (sg_x g i)) (sg_A g) U U.heap) ∧ (∀ i, i < 4 → va_T .int (sg_x g i) (sg_X g i).1 (fun j => .int (Int32.ofInt ((sg_X g i).2 j))) (sg_A g) U U.heap) ∧ (∀ i, i < 4 → (sg_X g i).1 < 2147483648 ∧ ∀ j, sr_32 ((sg_X g i).2 j))
theorem sg_K.moved {g : SG_} {u U : State} (hvm : u.vm.Alike U.vm) (hz : u.heap.size ≤ U.heap.size) (hh : ∀ q : Nat, q < u.heap.size → ¬ sg_A g q → U.heap[q]? = u.heap[q]?) (h : sg_K g u) : sg_K g U := by
  obtain ⟨h1, h2, h3, h4, h5, h6, h7⟩ := h
  exact ⟨va_K.moved hvm h1, h2, h3, Nat.le_trans h4 hz, fun i hi => ((h5 i hi).moved hvm).kept hh, fun i hi => ((h6 i hi).moved hvm).kept hh, h7⟩
theorem sg_Dw {g : SG_} {U : State} (hK : sg_K g U) (h : SH_) : va_D (sg_A g) (sw_l g h) := by
  have key : ∀ (i : Nat) (p : Nat × va_E), (sw_l g h)[i]? = some p → i < 83 ∧ p.1 = sg_a g i := by
    intro i p hp
    unfold sw_l at hp
    rw [List.getElem?_map] at hp
    by_cases hi : i < 83
    · rw [List.getElem?_range hi] at hp
      cases hp
      exact ⟨hi, rfl⟩
    · rw [List.getElem?_eq_none (by simpa using hi)] at hp
      cases hp
  refine ⟨fun i j p q hp hq e => ?_, fun k q hq => ?_⟩
  · obtain ⟨a1, a2⟩ := key i p hp
    obtain ⟨b1, b2⟩ := key j q hq
    exact hK.2.1 i j a1 b1 (by rw [← a2, ← b2, e])
  · obtain ⟨a1, a2⟩ := key k q hq
    show sg_B g ≤ q.1
    rw [a2]
    exact hK.2.2.1 k a1
/-- a frame's surroundings -/
def sc_x (g : SG_) (d : Nat) (M : MD_) (p : Program) (R : Room) (s : State) (m : MethodId) (args : Array Value) (c : Code) (cells slots : Nat) : Prop :=
  p.tables.exec = Jvm.exec ∧ c.code = M.2.1 ∧ c.maxLocals = M.2.2.1 ∧ s.vm.findClass M.1.cls = some m.cls ∧ (∀ w ∈ lw_g, w.before args s = true) ∧ sg_K g s ∧ d ≤ R.frames ∧ 64 * d ≤ R.locals ∧ cells ≤ R.cells ∧ slots ≤ R.slots
/-- which return instruction stands there: rt 0 none, 1 int, 2 boolean, 3 long, 4 a reference -/
def sc_t (M : MD_) (pc : Nat) : Option SV_ → Prop
  | none => M.2.2.2.2 = 0 ∧ decode M.2.1 pc = .ok (.return_, 1)
  | some (.inl x) => decode M.2.1 pc = .ok (.ireturn, 1) ∧ (M.2.2.2.2 = 1 ∨ (M.2.2.2.2 = 2 ∧ (x = 0 ∨ x = 1)))
  | some (.inr (.inl _)) => M.2.2.2.2 = 3 ∧ decode M.2.1 pc = .ok (.lreturn, 1)
  | some (.inr (.inr _)) => M.2.2.2.2 = 4 ∧ decode M.2.1 pc = .ok (.areturn, 1)
def so_ok (r : Option SV_) : Prop := ∀ v, r = some v → sv_ok v
def sc_r (g : SG_) (M : MD_) (Post : Option SV_ → SH_ → Prop) (p : Program) (e : Env) (R : Room) (s : State) (m : MethodId) (args : Array Value) (below : List Frame) (meth : Method) (c : Code) (cells slots : Nat) (QQ : State → Prop) : Prop :=
  ∀ (pc : Nat) (lsA : Array Slot) (H : Heap) (locs : List Loc) (r : Option SV_) (h : SH_), Post r h → so_ok r → sh_ok h → va_P (sg_D g) vwCl (sw_l g h) H → va_S (sg_A g) s.heap H locs → sc_t M pc r → W p (sg_l g) e R s m args below meth c H locs cells slots QQ (F0 m pc lsA (r.toList.map (sv_v g)))
/-- from this frame the method returns, and Post holds of its answer and of the heap then -/
def V_ (g : SG_) (d : Nat) (M : MD_) (pc : Nat) (ls : List (Option SV_)) (st : List SV_) (h : SH_) (Post : Option SV_ → SH_ → Prop) : Prop :=
  ∀ (p : Program) (e : Env) (R : Room) (s : State) (m : MethodId) (args : Array Value) (below : List Frame) (meth : Method) (c : Code) (cells slots : Nat) (QQ : State → Prop),
    sc_x g d M p R s m args c cells slots → sc_r g M Post p e R s m args below meth c cells slots QQ →
    ∀ (H : Heap) (locs : List Loc) (lsA : Array Slot), sl_ok ls → sv_oks st → sh_ok h → va_P (sg_D g) vwCl (sw_l g h) H → va_S (sg_A g) s.heap H locs → lv_has lsA M.2.2.1 (sl_v g 0 ls) →
      W p (sg_l g) e R s m args below meth c H locs cells slots QQ (F0 m pc lsA (st.map (sv_v g)))
section VR_
variable {g : SG_} {d : Nat} {M : MD_} {pc q : Nat} {ls : List (Option SV_)} {st : List SV_} {h : SH_} {Post : Option SV_ → SH_ → Prop}
/-- what is known of the values that a frame has -/
theorem V_know (k : sl_ok ls → sv_oks st → sh_ok h → V_ g d M pc ls st h Post) : V_ g d M pc ls st h Post := by
  intro p e R s m args below meth c cells slots QQ C hr H locs lsA oL oS oH hP hS hl
  exact k oL oS oH p e R s m args below meth c cells slots QQ C hr H locs lsA oL oS oH hP hS hl
theorem V_pure {st2 : List SV_} (ok : sv_oks st → sv_oks st2)
    (hw : sv_oks st → ∀ (p : Program) (e : Env) (R : Room) (s : State) (m : MethodId) (args : Array Value) (below : List Frame) (meth : Method) (c : Code) (H : Heap) (locs : List Loc) (cells slots : Nat) (QQ : State → Prop) (lsA : Array Slot), p.tables.exec = Jvm.exec → c.code = M.2.1 → W p (sg_l g) e R s m args below meth c H locs cells slots QQ (F0 m q lsA (st2.map (sv_v g))) → W p (sg_l g) e R s m args below meth c H locs cells slots QQ (F0 m pc lsA (st.map (sv_v g))))
    (k : V_ g d M q ls st2 h Post) : V_ g d M pc ls st h Post := by
  intro p e R s m args below meth c cells slots QQ C hr H locs lsA oL oS oH hP hS hl
  exact hw oS p e R s m args below meth c H locs cells slots QQ lsA C.1 C.2.1 (k p e R s m args below meth c cells slots QQ C hr H locs lsA oL (ok oS) oH hP hS hl)
theorem so_1 {v : SV_} (hv : sv_ok v) (hs : sv_oks st) : sv_oks (v :: st) := fun w hw => (List.mem_cons.mp hw).elim (fun e => e ▸ hv) (hs w)
theorem so_t {v : SV_} (hs : sv_oks (v :: st)) : sv_oks st := fun w hw => hs w (List.mem_cons_of_mem _ hw)
theorem so_h {v : SV_} (hs : sv_oks (v :: st)) : sv_ok v := hs v List.mem_cons_self
theorem so_i {n : Int} (hn : sr_32 n) (hs : sv_oks st) : sv_oks (sv_i n :: st) := so_1 (v := sv_i n) hn hs
theorem so_l {n : Int} (hn : sr_64 n) (hs : sv_oks st) : sv_oks (sv_l n :: st) := so_1 (v := sv_l n) hn hs
theorem so_hi {n : Int} (hs : sv_oks (sv_i n :: st)) : sr_32 n := so_h hs
theorem so_hl {n : Int} (hs : sv_oks (sv_l n :: st)) : sr_64 n := so_h hs
/-- a value's words -/
def sv_c : SV_ → Nat
  | .inl _ => 1
  | .inr (.inl _) => 2
  | .inr (.inr _) => 1
theorem sv_ce (v : SV_) : (sv_v g v).category = sv_c v := by
  obtain x | x | ⟨⟨c, n⟩, k⟩ := v <;> rfl
theorem sv_c1 {v : SV_} {n : Nat} (h : sv_c v = n) : (sv_v g v).category = n := by rw [sv_ce, h]
def sb_i2b (x : Int) : Int := (Int32.ofInt x).toInt8.toInt32.toInt
def sb_i2s (x : Int) : Int := (Int32.ofInt x).toInt16.toInt32.toInt
theorem sr_46 {x : Int} (h : sr_32 x) : sr_64 x := ⟨by have := h.1; omega, by have := h.2; omega⟩
theorem sj_t {x : Int} (h : sr_64 x) : (Int64.ofInt x).toInt = x := sw_64i h
theorem si_64 {x : Int} (h : sr_32 x) : (Int32.ofInt x).toInt64 = Int64.ofInt x := by
  rw [← Int64.toInt_inj, sj_t (sr_46 h), Int32.toInt_toInt64, si_t h]
theorem si_46 {x : Int} (h : sr_64 x) (h2 : sr_32 x) : (Int64.ofInt x).toInt32 = Int32.ofInt x := by
  rw [← Int32.toInt_inj, Int64.toInt_toInt32, sj_t h, Int32.toInt_ofInt]
theorem sj_tdr {x y : Int} (hx : sr_64 x) (h : 0 < y) : sr_64 (x.tdiv y) := by
  unfold sr_64 at *
  by_cases h0 : 0 ≤ x
  · rw [Int.tdiv_eq_ediv_of_nonneg h0]
    have h1 := Int.ediv_nonneg h0 (Int.le_of_lt h)
    have h2 := Int.ediv_le_self y h0
    omega
  · have e : x.tdiv y = -((-x) / y) := by
      rw [← Int.tdiv_eq_ediv_of_nonneg (by omega), Int.neg_tdiv, Int.neg_neg]
    rw [e]
    have h1 := Int.ediv_nonneg (a := -x) (by omega) (Int.le_of_lt h)
    have h2 := Int.ediv_le_self (a := -x) y (by omega)
    omega
theorem sj_div {x y : Int} (hx : sr_64 x) (hy : sr_64 y) (h : 0 < y) : Int64.ofInt (x.tdiv y) = Int64.ofInt x / Int64.ofInt y := by
  rw [← Int64.toInt_inj, Int64.toInt_div_of_ne_right _ _ (fun e => by
    have e2 := congrArg Int64.toInt e
    rw [sj_t hy] at e2
    have e3 : (-1 : Int64).toInt = -1 := by decide
    omega), sj_t hx, sj_t hy, sj_t (sj_tdr hx h)]
theorem sj_ne {y : Int} (hy : sr_64 y) (h : 0 < y) : ¬ Int64.ofInt y = 0 := fun e => by
  have e2 := congrArg Int64.toInt e
  rw [sj_t hy] at e2
  have e3 : (0 : Int64).toInt = 0 := by decide
  omega
theorem vr_iconst {n : Int} (hd : decode M.2.1 pc = .ok (.iconst n, 1)) (hq : pc + 1 = q) (hn : sr_32 n) (k : V_ g d M q ls (sv_i n :: st) h Post) : V_ g d M pc ls (st) h Post := by
  subst hq
  exact V_pure (st2 := sv_i n :: st) (fun oS => so_i hn oS) (fun _ p e R s m args below meth c H locs cells slots QQ lsA hx hb w => lv_iconst hx hb hd rfl w) k
theorem vr_bipush {n : Int} (hd : decode M.2.1 pc = .ok (.bipush n, 2)) (hq : pc + 2 = q) (hn : sr_32 n) (hv : (Int8.ofInt n).toInt32 = Int32.ofInt n) (k : V_ g d M q ls (sv_i n :: st) h Post) : V_ g d M pc ls (st) h Post := by
  subst hq
  exact V_pure (st2 := sv_i n :: st) (fun oS => so_i hn oS) (fun _ p e R s m args below meth c H locs cells slots QQ lsA hx hb w => lv_bipush hx hb hd hv w) k
theorem vr_sipush {n : Int} (hd : decode M.2.1 pc = .ok (.sipush n, 3)) (hq : pc + 3 = q) (hn : sr_32 n) (hv : (Int16.ofInt n).toInt32 = Int32.ofInt n) (k : V_ g d M q ls (sv_i n :: st) h Post) : V_ g d M pc ls (st) h Post := by
  subst hq
  exact V_pure (st2 := sv_i n :: st) (fun oS => so_i hn oS) (fun _ p e R s m args below meth c H locs cells slots QQ lsA hx hb w => lv_sipush hx hb hd hv w) k
theorem vr_lconst {n : Fin 2} (hd : decode M.2.1 pc = .ok (.lconst n, 1)) (hq : pc + 1 = q) (k : V_ g d M q ls (sv_l ((n : Nat) : Int) :: st) h Post) : V_ g d M pc ls (st) h Post := by
  subst hq
  exact V_pure (st2 := sv_l ((n : Nat) : Int) :: st) (fun oS => so_l ⟨by have := n.isLt; omega, by have := n.isLt; omega⟩ oS) (fun _ p e R s m args below meth c H locs cells slots QQ lsA hx hb w => lv_lconst hx hb hd Int64.ofInt_eq_ofNat.symm w) k
theorem vr_iadd {x y : Int} (hd : decode M.2.1 pc = .ok (.iadd, 1)) (hq : pc + 1 = q) (k : V_ g d M q ls (sv_i (sw_32 (x + y)) :: st) h Post) : V_ g d M pc ls (sv_i y :: sv_i x :: st) h Post := by
  subst hq
  exact V_pure (st2 := sv_i (sw_32 (x + y)) :: st) (fun oS => so_i (sr_32w _) (so_t (so_t oS))) (fun _ p e R s m args below meth c H locs cells slots QQ lsA hx hb w => lv_iadd hx hb hd (by simpa [sv_v, sw_32o, Int32.ofInt_add] using w)) k
theorem vr_iaddN {x y : Int} (hd : decode M.2.1 pc = .ok (.iadd, 1)) (hq : pc + 1 = q) (hr : sr_32 (x + y)) (k : V_ g d M q ls (sv_i (x + y) :: st) h Post) : V_ g d M pc ls (sv_i y :: sv_i x :: st) h Post := by
  subst hq
  exact V_pure (st2 := sv_i (x + y) :: st) (fun oS => so_i hr (so_t (so_t oS))) (fun _ p e R s m args below meth c H locs cells slots QQ lsA hx hb w => lv_iadd hx hb hd (by simpa [sv_v, Int32.ofInt_add] using w)) k
theorem vr_isub {x y : Int} (hd : decode M.2.1 pc = .ok (.isub, 1)) (hq : pc + 1 = q) (k : V_ g d M q ls (sv_i (sw_32 (x - y)) :: st) h Post) : V_ g d M pc ls (sv_i y :: sv_i x :: st) h Post := by
  subst hq
  exact V_pure (st2 := sv_i (sw_32 (x - y)) :: st) (fun oS => so_i (sr_32w _) (so_t (so_t oS))) (fun _ p e R s m args below meth c H locs cells slots QQ lsA hx hb w => lv_isub hx hb hd (by simpa [sv_v, sw_32o, Int32.ofInt_sub] using w)) k
theorem vr_isubN {x y : Int} (hd : decode M.2.1 pc = .ok (.isub, 1)) (hq : pc + 1 = q) (hr : sr_32 (x - y)) (k : V_ g d M q ls (sv_i (x - y) :: st) h Post) : V_ g d M pc ls (sv_i y :: sv_i x :: st) h Post := by
  subst hq
  exact V_pure (st2 := sv_i (x - y) :: st) (fun oS => so_i hr (so_t (so_t oS))) (fun _ p e R s m args below meth c H locs cells slots QQ lsA hx hb w => lv_isub hx hb hd (by simpa [sv_v, Int32.ofInt_sub] using w)) k
theorem vr_imul {x y : Int} (hd : decode M.2.1 pc = .ok (.imul, 1)) (hq : pc + 1 = q) (k : V_ g d M q ls (sv_i (sw_32 (x * y)) :: st) h Post) : V_ g d M pc ls (sv_i y :: sv_i x :: st) h Post := by
  subst hq
  exact V_pure (st2 := sv_i (sw_32 (x * y)) :: st) (fun oS => so_i (sr_32w _) (so_t (so_t oS))) (fun _ p e R s m args below meth c H locs cells slots QQ lsA hx hb w => lv_imul hx hb hd (by simpa [sv_v, sw_32o, Int32.ofInt_mul] using w)) k
theorem vr_imulN {x y : Int} (hd : decode M.2.1 pc = .ok (.imul, 1)) (hq : pc + 1 = q) (hr : sr_32 (x * y)) (k : V_ g d M q ls (sv_i (x * y) :: st) h Post) : V_ g d M pc ls (sv_i y :: sv_i x :: st) h Post := by
  subst hq
  exact V_pure (st2 := sv_i (x * y) :: st) (fun oS => so_i hr (so_t (so_t oS))) (fun _ p e R s m args below meth c H locs cells slots QQ lsA hx hb w => lv_imul hx hb hd (by simpa [sv_v, Int32.ofInt_mul] using w)) k
theorem vr_ineg {x : Int} (hd : decode M.2.1 pc = .ok (.ineg, 1)) (hq : pc + 1 = q) (hr : sr_32 (-x)) (k : V_ g d M q ls (sv_i (-x) :: st) h Post) : V_ g d M pc ls (sv_i x :: st) h Post := by
  subst hq
  exact V_pure (st2 := sv_i (-x) :: st) (fun oS => so_i hr (so_t oS)) (fun _ p e R s m args below meth c H locs cells slots QQ lsA hx hb w => lv_ineg hx hb hd (by simpa [sv_v, Int32.ofInt_neg] using w)) k
def sb_iand (x y : Int) : Int := (Int32.ofInt x &&& Int32.ofInt y).toInt
theorem vr_iand {x y : Int} (hd : decode M.2.1 pc = .ok (.iand, 1)) (hq : pc + 1 = q) (k : V_ g d M q ls (sv_i (sb_iand x y) :: st) h Post) : V_ g d M pc ls (sv_i y :: sv_i x :: st) h Post := by
  subst hq
  exact V_pure (st2 := sv_i (sb_iand x y) :: st) (fun oS => so_i (sr_32t _) (so_t (so_t oS))) (fun _ p e R s m args below meth c H locs cells slots QQ lsA hx hb w => lv_iand hx hb hd (by simpa [sv_v, sb_iand, Int32.ofInt_toInt] using w)) k
def sb_ior (x y : Int) : Int := (Int32.ofInt x ||| Int32.ofInt y).toInt
theorem vr_ior {x y : Int} (hd : decode M.2.1 pc = .ok (.ior, 1)) (hq : pc + 1 = q) (k : V_ g d M q ls (sv_i (sb_ior x y) :: st) h Post) : V_ g d M pc ls (sv_i y :: sv_i x :: st) h Post := by
  subst hq
  exact V_pure (st2 := sv_i (sb_ior x y) :: st) (fun oS => so_i (sr_32t _) (so_t (so_t oS))) (fun _ p e R s m args below meth c H locs cells slots QQ lsA hx hb w => lv_ior hx hb hd (by simpa [sv_v, sb_ior, Int32.ofInt_toInt] using w)) k
def sb_ixor (x y : Int) : Int := (Int32.ofInt x ^^^ Int32.ofInt y).toInt
theorem vr_ixor {x y : Int} (hd : decode M.2.1 pc = .ok (.ixor, 1)) (hq : pc + 1 = q) (k : V_ g d M q ls (sv_i (sb_ixor x y) :: st) h Post) : V_ g d M pc ls (sv_i y :: sv_i x :: st) h Post := by
  subst hq
  exact V_pure (st2 := sv_i (sb_ixor x y) :: st) (fun oS => so_i (sr_32t _) (so_t (so_t oS))) (fun _ p e R s m args below meth c H locs cells slots QQ lsA hx hb w => lv_ixor hx hb hd (by simpa [sv_v, sb_ixor, Int32.ofInt_toInt] using w)) k
def sb_ishl (x y : Int) : Int := (Int32.ofInt x <<< (Int32.ofInt y &&& 31)).toInt
theorem vr_ishl {x y : Int} (hd : decode M.2.1 pc = .ok (.ishl, 1)) (hq : pc + 1 = q) (k : V_ g d M q ls (sv_i (sb_ishl x y) :: st) h Post) : V_ g d M pc ls (sv_i y :: sv_i x :: st) h Post := by
  subst hq
  exact V_pure (st2 := sv_i (sb_ishl x y) :: st) (fun oS => so_i (sr_32t _) (so_t (so_t oS))) (fun _ p e R s m args below meth c H locs cells slots QQ lsA hx hb w => lv_ishl hx hb hd (by simpa [sv_v, sb_ishl, Int32.ofInt_toInt] using w)) k
def sb_ishr (x y : Int) : Int := (Int32.ofInt x >>> (Int32.ofInt y &&& 31)).toInt
theorem vr_ishr {x y : Int} (hd : decode M.2.1 pc = .ok (.ishr, 1)) (hq : pc + 1 = q) (k : V_ g d M q ls (sv_i (sb_ishr x y) :: st) h Post) : V_ g d M pc ls (sv_i y :: sv_i x :: st) h Post := by
  subst hq
  exact V_pure (st2 := sv_i (sb_ishr x y) :: st) (fun oS => so_i (sr_32t _) (so_t (so_t oS))) (fun _ p e R s m args below meth c H locs cells slots QQ lsA hx hb w => lv_ishr hx hb hd (by simpa [sv_v, sb_ishr, Int32.ofInt_toInt] using w)) k
def sb_iushr (x y : Int) : Int := ((Int32.ofInt x).toUInt32 >>> ((Int32.ofInt y).toUInt32 &&& Int32.toUInt32 31)).toInt32.toInt
theorem vr_iushr {x y : Int} (hd : decode M.2.1 pc = .ok (.iushr, 1)) (hq : pc + 1 = q) (k : V_ g d M q ls (sv_i (sb_iushr x y) :: st) h Post) : V_ g d M pc ls (sv_i y :: sv_i x :: st) h Post := by
  subst hq
  exact V_pure (st2 := sv_i (sb_iushr x y) :: st) (fun oS => so_i (sr_32t _) (so_t (so_t oS))) (fun _ p e R s m args below meth c H locs cells slots QQ lsA hx hb w => lv_iushr hx hb hd (Int32.ofInt_toInt _).symm w) k
theorem si_tdr {x y : Int} (hx : sr_32 x) (h : 0 < y) : sr_32 (x.tdiv y) := by
  unfold sr_32 at *
  by_cases h0 : 0 ≤ x
  · rw [Int.tdiv_eq_ediv_of_nonneg h0]
    have h1 := Int.ediv_nonneg h0 (Int.le_of_lt h)
    have h2 := Int.ediv_le_self y h0
    omega
  · have e : x.tdiv y = -((-x) / y) := by
      rw [← Int.tdiv_eq_ediv_of_nonneg (by omega), Int.neg_tdiv, Int.neg_neg]
    rw [e]
    have h1 := Int.ediv_nonneg (a := -x) (by omega) (Int.le_of_lt h)
    have h2 := Int.ediv_le_self (a := -x) y (by omega)
    omega
theorem si_div {x y : Int} (hx : sr_32 x) (hy : sr_32 y) (h : 0 < y) : Int32.ofInt (x.tdiv y) = Int32.ofInt x / Int32.ofInt y := by
  rw [← Int32.toInt_inj, Int32.toInt_div_of_ne_right _ _ (fun e => by
    have e2 := congrArg Int32.toInt e
    rw [si_t hy] at e2
    have e3 : (-1 : Int32).toInt = -1 := by decide
    omega), si_t hx, si_t hy, si_t (si_tdr hx h)]
theorem si_ne {y : Int} (hy : sr_32 y) (h : 0 < y) : ¬ Int32.ofInt y = 0 := fun e => by
  have e2 := congrArg Int32.toInt e
  rw [si_t hy] at e2
  have e3 : (0 : Int32).toInt = 0 := by decide
  omega
theorem vr_idiv {x y : Int} (hd : decode M.2.1 pc = .ok (.idiv, 1)) (hq : pc + 1 = q) (hy : 0 < y) (k : V_ g d M q ls (sv_i (x.tdiv y) :: st) h Post) : V_ g d M pc ls (sv_i y :: sv_i x :: st) h Post := by
  subst hq
  exact V_pure (st2 := sv_i (x.tdiv y) :: st) (fun oS => so_i (si_tdr (so_hi (so_t oS)) hy) (so_t (so_t oS))) (fun oS p e R s m args below meth c H locs cells slots QQ lsA hx hb w => lv_idiv hx hb hd (si_ne (so_hi oS) hy) (by rw [← si_div (so_hi (so_t oS)) (so_hi oS) hy]; exact w)) k
theorem vr_irem {x y : Int} (hd : decode M.2.1 pc = .ok (.irem, 1)) (hq : pc + 1 = q) (hy : 0 < y) (hr : sr_32 x → sr_32 y → sr_32 (x - x.tdiv y * y)) (k : V_ g d M q ls (sv_i (x - x.tdiv y * y) :: st) h Post) : V_ g d M pc ls (sv_i y :: sv_i x :: st) h Post := by
  subst hq
  exact V_pure (st2 := sv_i (x - x.tdiv y * y) :: st) (fun oS => so_i (hr (so_hi (so_t oS)) (so_hi oS)) (so_t (so_t oS))) (fun oS p e R s m args below meth c H locs cells slots QQ lsA hx hb w => lv_irem hx hb hd (si_ne (so_hi oS) hy) (by rw [← si_div (so_hi (so_t oS)) (so_hi oS) hy, ← Int32.ofInt_mul, ← Int32.ofInt_sub]; exact w)) k
theorem vr_dup {v : SV_} (hd : decode M.2.1 pc = .ok (.dup, 1)) (hq : pc + 1 = q) (hv : sv_c v = 1) (k : V_ g d M q ls (v :: v :: st) h Post) : V_ g d M pc ls (v :: st) h Post := by
  subst hq
  exact V_pure (st2 := v :: v :: st) (fun oS => so_1 (so_h oS) oS) (fun _ p e R s m args below meth c H locs cells slots QQ lsA hx hb w => lv_dup hx hb hd (sv_c1 hv) w) k
theorem vr_pop {v : SV_} (hd : decode M.2.1 pc = .ok (.pop, 1)) (hq : pc + 1 = q) (hv : sv_c v = 1) (k : V_ g d M q ls (st) h Post) : V_ g d M pc ls (v :: st) h Post := by
  subst hq
  exact V_pure (st2 := st) (fun oS => so_t oS) (fun _ p e R s m args below meth c H locs cells slots QQ lsA hx hb w => lv_pop hx hb hd (sv_c1 hv) w) k
theorem vr_dup2 {v u : SV_} (hd : decode M.2.1 pc = .ok (.dup2, 1)) (hq : pc + 1 = q) (hv : sv_c v = 1) (hu : sv_c u = 1) (k : V_ g d M q ls (v :: u :: v :: u :: st) h Post) : V_ g d M pc ls (v :: u :: st) h Post := by
  subst hq
  exact V_pure (st2 := v :: u :: v :: u :: st) (fun oS => so_1 (so_h oS) (so_1 (so_h (so_t oS)) oS)) (fun _ p e R s m args below meth c H locs cells slots QQ lsA hx hb w => lv_dup2_11 hx hb hd (sv_c1 hv) (sv_c1 hu) w) k
theorem vr_i2b {x : Int} (hd : decode M.2.1 pc = .ok (.i2b, 1)) (hq : pc + 1 = q) (k : V_ g d M q ls (sv_i (sb_i2b x) :: st) h Post) : V_ g d M pc ls (sv_i x :: st) h Post := by
  subst hq
  exact V_pure (st2 := sv_i (sb_i2b x) :: st) (fun oS => so_i (sr_32t _) (so_t oS)) (fun _ p e R s m args below meth c H locs cells slots QQ lsA hx hb w => lv_i2b hx hb hd (Int32.ofInt_toInt _).symm w) k
theorem vr_i2s {x : Int} (hd : decode M.2.1 pc = .ok (.i2s, 1)) (hq : pc + 1 = q) (k : V_ g d M q ls (sv_i (sb_i2s x) :: st) h Post) : V_ g d M pc ls (sv_i x :: st) h Post := by
  subst hq
  exact V_pure (st2 := sv_i (sb_i2s x) :: st) (fun oS => so_i (sr_32t _) (so_t oS)) (fun _ p e R s m args below meth c H locs cells slots QQ lsA hx hb w => lv_i2s hx hb hd (Int32.ofInt_toInt _).symm w) k
theorem vr_i2l {x : Int} (hd : decode M.2.1 pc = .ok (.i2l, 1)) (hq : pc + 1 = q) (k : V_ g d M q ls (sv_l x :: st) h Post) : V_ g d M pc ls (sv_i x :: st) h Post := by
  subst hq
  exact V_pure (st2 := sv_l x :: st) (fun oS => so_l (sr_46 (so_hi oS)) (so_t oS)) (fun oS p e R s m args below meth c H locs cells slots QQ lsA hx hb w => lv_i2l hx hb hd (si_64 (so_hi oS)) w) k
theorem vr_l2i {x : Int} (hd : decode M.2.1 pc = .ok (.l2i, 1)) (hq : pc + 1 = q) (hr : sr_32 x) (k : V_ g d M q ls (sv_i x :: st) h Post) : V_ g d M pc ls (sv_l x :: st) h Post := by
  subst hq
  exact V_pure (st2 := sv_i x :: st) (fun oS => so_i hr (so_t oS)) (fun oS p e R s m args below meth c H locs cells slots QQ lsA hx hb w => lv_l2i hx hb hd (si_46 (so_hl oS) hr) w) k
theorem vr_ladd {x y : Int} (hd : decode M.2.1 pc = .ok (.ladd, 1)) (hq : pc + 1 = q) (hr : sr_64 (x + y)) (k : V_ g d M q ls (sv_l (x + y) :: st) h Post) : V_ g d M pc ls (sv_l y :: sv_l x :: st) h Post := by
  subst hq
  exact V_pure (st2 := sv_l (x + y) :: st) (fun oS => so_l hr (so_t (so_t oS))) (fun _ p e R s m args below meth c H locs cells slots QQ lsA hx hb w => lv_ladd hx hb hd (by simpa [sv_v, Int64.ofInt_add] using w)) k
theorem vr_lmul {x y : Int} (hd : decode M.2.1 pc = .ok (.lmul, 1)) (hq : pc + 1 = q) (hr : sr_64 (x * y)) (k : V_ g d M q ls (sv_l (x * y) :: st) h Post) : V_ g d M pc ls (sv_l y :: sv_l x :: st) h Post := by
  subst hq
  exact V_pure (st2 := sv_l (x * y) :: st) (fun oS => so_l hr (so_t (so_t oS))) (fun _ p e R s m args below meth c H locs cells slots QQ lsA hx hb w => lv_lmul hx hb hd (by simpa [sv_v, Int64.ofInt_mul] using w)) k
theorem vr_ldiv {x y : Int} (hd : decode M.2.1 pc = .ok (.ldiv, 1)) (hq : pc + 1 = q) (hy : 0 < y) (k : V_ g d M q ls (sv_l (x.tdiv y) :: st) h Post) : V_ g d M pc ls (sv_l y :: sv_l x :: st) h Post := by
  subst hq
  exact V_pure (st2 := sv_l (x.tdiv y) :: st) (fun oS => so_l (sj_tdr (so_hl (so_t oS)) hy) (so_t (so_t oS))) (fun oS p e R s m args below meth c H locs cells slots QQ lsA hx hb w => lv_ldiv hx hb hd (sj_ne (so_hl oS) hy) (by rw [← sj_div (so_hl (so_t oS)) (so_hl oS) hy]; exact w)) k
theorem vr_lrem {x y : Int} (hd : decode M.2.1 pc = .ok (.lrem, 1)) (hq : pc + 1 = q) (hy : 0 < y) (hr : sr_64 x → sr_64 y → sr_64 (x - x.tdiv y * y)) (k : V_ g d M q ls (sv_l (x - x.tdiv y * y) :: st) h Post) : V_ g d M pc ls (sv_l y :: sv_l x :: st) h Post := by
  subst hq
  exact V_pure (st2 := sv_l (x - x.tdiv y * y) :: st) (fun oS => so_l (hr (so_hl (so_t oS)) (so_hl oS)) (so_t (so_t oS))) (fun oS p e R s m args below meth c H locs cells slots QQ lsA hx hb w => lv_lrem hx hb hd (sj_ne (so_hl oS) hy) (by rw [← sj_div (so_hl (so_t oS)) (so_hl oS) hy, ← Int64.ofInt_mul, ← Int64.ofInt_sub]; exact w)) k
theorem vr_pc {q2 : Nat} (hq : q2 = pc) (k : V_ g d M q2 ls st h Post) : V_ g d M pc ls st h Post := hq ▸ k
end VR_
end
section
section VB_
variable {g : SG_} {d : Nat} {M : MD_} {pc q : Nat} {ls : List (Option SV_)} {st : List SV_} {h : SH_} {Post : Option SV_ → SH_ → Prop}
theorem si_0 : (0 : Int32) = Int32.ofInt 0 := by decide
theorem vr_if_eq {x off : Int} {t : Nat} (hd : decode M.2.1 pc = .ok (.ifCond .eq off, 3)) (ht : (pc : Int) + off = (t : Int)) (hq : pc + 3 = q) (kt : x = 0 → V_ g d M t ls st h Post) (kf : ¬ x = 0 → V_ g d M q ls st h Post) : V_ g d M pc ls (sv_i x :: st) h Post := by
  subst hq
  intro p e R s m args below meth c cells slots QQ C hr H locs lsA oL oS oH hP hS hl
  exact lv_if_eq C.1 C.2.1 hd ht (fun z => kt ((si_eq (so_hi oS) sr_320).mp (by rw [si_0] at z; exact z)) p e R s m args below meth c cells slots QQ C hr H locs lsA oL (so_t oS) oH hP hS hl) (fun z => kf ((not_congr (si_eq (so_hi oS) sr_320)).mp (by rw [si_0] at z; exact z)) p e R s m args below meth c cells slots QQ C hr H locs lsA oL (so_t oS) oH hP hS hl)
theorem vr_if_ne {x off : Int} {t : Nat} (hd : decode M.2.1 pc = .ok (.ifCond .ne off, 3)) (ht : (pc : Int) + off = (t : Int)) (hq : pc + 3 = q) (kt : ¬ x = 0 → V_ g d M t ls st h Post) (kf : x = 0 → V_ g d M q ls st h Post) : V_ g d M pc ls (sv_i x :: st) h Post := by
  subst hq
  intro p e R s m args below meth c cells slots QQ C hr H locs lsA oL oS oH hP hS hl
  exact lv_if_ne C.1 C.2.1 hd ht (fun z => kt ((not_congr (si_eq (so_hi oS) sr_320)).mp (by rw [si_0] at z; exact z)) p e R s m args below meth c cells slots QQ C hr H locs lsA oL (so_t oS) oH hP hS hl) (fun z => kf ((si_eq (so_hi oS) sr_320).mp (by rw [si_0] at z; exact z)) p e R s m args below meth c cells slots QQ C hr H locs lsA oL (so_t oS) oH hP hS hl)
theorem vr_if_lt {x off : Int} {t : Nat} (hd : decode M.2.1 pc = .ok (.ifCond .lt off, 3)) (ht : (pc : Int) + off = (t : Int)) (hq : pc + 3 = q) (kt : x < 0 → V_ g d M t ls st h Post) (kf : ¬ x < 0 → V_ g d M q ls st h Post) : V_ g d M pc ls (sv_i x :: st) h Post := by
  subst hq
  intro p e R s m args below meth c cells slots QQ C hr H locs lsA oL oS oH hP hS hl
  exact lv_if_lt C.1 C.2.1 hd ht (fun z => kt ((si_lt (so_hi oS) sr_320).mp (by rw [si_0] at z; exact z)) p e R s m args below meth c cells slots QQ C hr H locs lsA oL (so_t oS) oH hP hS hl) (fun z => kf ((not_congr (si_lt (so_hi oS) sr_320)).mp (by rw [si_0] at z; exact z)) p e R s m args below meth c cells slots QQ C hr H locs lsA oL (so_t oS) oH hP hS hl)
theorem vr_if_ge {x off : Int} {t : Nat} (hd : decode M.2.1 pc = .ok (.ifCond .ge off, 3)) (ht : (pc : Int) + off = (t : Int)) (hq : pc + 3 = q) (kt : 0 ≤ x → V_ g d M t ls st h Post) (kf : ¬ 0 ≤ x → V_ g d M q ls st h Post) : V_ g d M pc ls (sv_i x :: st) h Post := by
  subst hq
  intro p e R s m args below meth c cells slots QQ C hr H locs lsA oL oS oH hP hS hl
  exact lv_if_ge C.1 C.2.1 hd ht (fun z => kt ((si_le sr_320 (so_hi oS)).mp (by rw [si_0] at z; exact z)) p e R s m args below meth c cells slots QQ C hr H locs lsA oL (so_t oS) oH hP hS hl) (fun z => kf ((not_congr (si_le sr_320 (so_hi oS))).mp (by rw [si_0] at z; exact z)) p e R s m args below meth c cells slots QQ C hr H locs lsA oL (so_t oS) oH hP hS hl)
theorem vr_if_gt {x off : Int} {t : Nat} (hd : decode M.2.1 pc = .ok (.ifCond .gt off, 3)) (ht : (pc : Int) + off = (t : Int)) (hq : pc + 3 = q) (kt : 0 < x → V_ g d M t ls st h Post) (kf : ¬ 0 < x → V_ g d M q ls st h Post) : V_ g d M pc ls (sv_i x :: st) h Post := by
  subst hq
  intro p e R s m args below meth c cells slots QQ C hr H locs lsA oL oS oH hP hS hl
  exact lv_if_gt C.1 C.2.1 hd ht (fun z => kt ((si_lt sr_320 (so_hi oS)).mp (by rw [si_0] at z; exact z)) p e R s m args below meth c cells slots QQ C hr H locs lsA oL (so_t oS) oH hP hS hl) (fun z => kf ((not_congr (si_lt sr_320 (so_hi oS))).mp (by rw [si_0] at z; exact z)) p e R s m args below meth c cells slots QQ C hr H locs lsA oL (so_t oS) oH hP hS hl)
theorem vr_if_le {x off : Int} {t : Nat} (hd : decode M.2.1 pc = .ok (.ifCond .le off, 3)) (ht : (pc : Int) + off = (t : Int)) (hq : pc + 3 = q) (kt : x ≤ 0 → V_ g d M t ls st h Post) (kf : ¬ x ≤ 0 → V_ g d M q ls st h Post) : V_ g d M pc ls (sv_i x :: st) h Post := by
  subst hq
  intro p e R s m args below meth c cells slots QQ C hr H locs lsA oL oS oH hP hS hl
  exact lv_if_le C.1 C.2.1 hd ht (fun z => kt ((si_le (so_hi oS) sr_320).mp (by rw [si_0] at z; exact z)) p e R s m args below meth c cells slots QQ C hr H locs lsA oL (so_t oS) oH hP hS hl) (fun z => kf ((not_congr (si_le (so_hi oS) sr_320)).mp (by rw [si_0] at z; exact z)) p e R s m args below meth c cells slots QQ C hr H locs lsA oL (so_t oS) oH hP hS hl)
theorem vr_ic_eq {x y off : Int} {t : Nat} (hd : decode M.2.1 pc = .ok (.if_icmp .eq off, 3)) (ht : (pc : Int) + off = (t : Int)) (hq : pc + 3 = q) (kt : x = y → V_ g d M t ls st h Post) (kf : ¬ x = y → V_ g d M q ls st h Post) : V_ g d M pc ls (sv_i y :: sv_i x :: st) h Post := by
  subst hq
  intro p e R s m args below meth c cells slots QQ C hr H locs lsA oL oS oH hP hS hl
  exact lv_icmp_eq C.1 C.2.1 hd ht (fun z => kt ((si_eq (so_hi (so_t oS)) (so_hi oS)).mp z) p e R s m args below meth c cells slots QQ C hr H locs lsA oL (so_t (so_t oS)) oH hP hS hl) (fun z => kf ((not_congr (si_eq (so_hi (so_t oS)) (so_hi oS))).mp z) p e R s m args below meth c cells slots QQ C hr H locs lsA oL (so_t (so_t oS)) oH hP hS hl)
theorem vr_ic_ne {x y off : Int} {t : Nat} (hd : decode M.2.1 pc = .ok (.if_icmp .ne off, 3)) (ht : (pc : Int) + off = (t : Int)) (hq : pc + 3 = q) (kt : ¬ x = y → V_ g d M t ls st h Post) (kf : x = y → V_ g d M q ls st h Post) : V_ g d M pc ls (sv_i y :: sv_i x :: st) h Post := by
  subst hq
  intro p e R s m args below meth c cells slots QQ C hr H locs lsA oL oS oH hP hS hl
  exact lv_icmp_ne C.1 C.2.1 hd ht (fun z => kt ((not_congr (si_eq (so_hi (so_t oS)) (so_hi oS))).mp z) p e R s m args below meth c cells slots QQ C hr H locs lsA oL (so_t (so_t oS)) oH hP hS hl) (fun z => kf ((si_eq (so_hi (so_t oS)) (so_hi oS)).mp z) p e R s m args below meth c cells slots QQ C hr H locs lsA oL (so_t (so_t oS)) oH hP hS hl)
theorem vr_ic_lt {x y off : Int} {t : Nat} (hd : decode M.2.1 pc = .ok (.if_icmp .lt off, 3)) (ht : (pc : Int) + off = (t : Int)) (hq : pc + 3 = q) (kt : x < y → V_ g d M t ls st h Post) (kf : ¬ x < y → V_ g d M q ls st h Post) : V_ g d M pc ls (sv_i y :: sv_i x :: st) h Post := by
  subst hq
  intro p e R s m args below meth c cells slots QQ C hr H locs lsA oL oS oH hP hS hl
  exact lv_icmp_lt C.1 C.2.1 hd ht (fun z => kt ((si_lt (so_hi (so_t oS)) (so_hi oS)).mp z) p e R s m args below meth c cells slots QQ C hr H locs lsA oL (so_t (so_t oS)) oH hP hS hl) (fun z => kf ((not_congr (si_lt (so_hi (so_t oS)) (so_hi oS))).mp z) p e R s m args below meth c cells slots QQ C hr H locs lsA oL (so_t (so_t oS)) oH hP hS hl)
theorem vr_ic_ge {x y off : Int} {t : Nat} (hd : decode M.2.1 pc = .ok (.if_icmp .ge off, 3)) (ht : (pc : Int) + off = (t : Int)) (hq : pc + 3 = q) (kt : y ≤ x → V_ g d M t ls st h Post) (kf : ¬ y ≤ x → V_ g d M q ls st h Post) : V_ g d M pc ls (sv_i y :: sv_i x :: st) h Post := by
  subst hq
  intro p e R s m args below meth c cells slots QQ C hr H locs lsA oL oS oH hP hS hl
  exact lv_icmp_ge C.1 C.2.1 hd ht (fun z => kt ((si_le (so_hi oS) (so_hi (so_t oS))).mp z) p e R s m args below meth c cells slots QQ C hr H locs lsA oL (so_t (so_t oS)) oH hP hS hl) (fun z => kf ((not_congr (si_le (so_hi oS) (so_hi (so_t oS)))).mp z) p e R s m args below meth c cells slots QQ C hr H locs lsA oL (so_t (so_t oS)) oH hP hS hl)
theorem vr_ic_gt {x y off : Int} {t : Nat} (hd : decode M.2.1 pc = .ok (.if_icmp .gt off, 3)) (ht : (pc : Int) + off = (t : Int)) (hq : pc + 3 = q) (kt : y < x → V_ g d M t ls st h Post) (kf : ¬ y < x → V_ g d M q ls st h Post) : V_ g d M pc ls (sv_i y :: sv_i x :: st) h Post := by
  subst hq
  intro p e R s m args below meth c cells slots QQ C hr H locs lsA oL oS oH hP hS hl
  exact lv_icmp_gt C.1 C.2.1 hd ht (fun z => kt ((si_lt (so_hi oS) (so_hi (so_t oS))).mp z) p e R s m args below meth c cells slots QQ C hr H locs lsA oL (so_t (so_t oS)) oH hP hS hl) (fun z => kf ((not_congr (si_lt (so_hi oS) (so_hi (so_t oS)))).mp z) p e R s m args below meth c cells slots QQ C hr H locs lsA oL (so_t (so_t oS)) oH hP hS hl)
theorem vr_ic_le {x y off : Int} {t : Nat} (hd : decode M.2.1 pc = .ok (.if_icmp .le off, 3)) (ht : (pc : Int) + off = (t : Int)) (hq : pc + 3 = q) (kt : x ≤ y → V_ g d M t ls st h Post) (kf : ¬ x ≤ y → V_ g d M q ls st h Post) : V_ g d M pc ls (sv_i y :: sv_i x :: st) h Post := by
  subst hq
  intro p e R s m args below meth c cells slots QQ C hr H locs lsA oL oS oH hP hS hl
  exact lv_icmp_le C.1 C.2.1 hd ht (fun z => kt ((si_le (so_hi (so_t oS)) (so_hi oS)).mp z) p e R s m args below meth c cells slots QQ C hr H locs lsA oL (so_t (so_t oS)) oH hP hS hl) (fun z => kf ((not_congr (si_le (so_hi (so_t oS)) (so_hi oS))).mp z) p e R s m args below meth c cells slots QQ C hr H locs lsA oL (so_t (so_t oS)) oH hP hS hl)
theorem vr_goto {off : Int} (hd : decode M.2.1 pc = .ok (.goto off, 3)) (ht : (pc : Int) + off = (q : Int)) (k : V_ g d M q ls st h Post) : V_ g d M pc ls st h Post :=
  V_pure id (fun _ p e R s m args below meth c H locs cells slots QQ lsA hx hb w => lv_goto hx hb hd ht w) k
theorem vr_tsO {dflt lo hi : Int} {offs : Array Int} {len : Nat} {x : Int} (hd : decode M.2.1 pc = .ok (.tableswitch dflt lo hi offs, len)) (hx0 : x < lo ∨ hi < x) (ht : (pc : Int) + dflt = (q : Int)) (k : V_ g d M q ls st h Post) : V_ g d M pc ls (sv_i x :: st) h Post :=
  V_pure (st2 := st) (fun oS => so_t oS) (fun oS p e R s m args below meth c H locs cells slots QQ lsA hx hb w => lv_tableOut hx hb hd (by rw [si_t (so_hi oS)]; exact hx0) ht w) k
theorem vr_tsI {dflt lo hi : Int} {offs : Array Int} {len : Nat} {x off : Int} (hd : decode M.2.1 pc = .ok (.tableswitch dflt lo hi offs, len)) (h1 : ¬ x < lo) (h2 : ¬ hi < x) (ho : offs[(x - lo).toNat]? = some off) (ht : (pc : Int) + off = (q : Int)) (k : V_ g d M q ls st h Post) : V_ g d M pc ls (sv_i x :: st) h Post :=
  V_pure (st2 := st) (fun oS => so_t oS) (fun oS p e R s m args below meth c H locs cells slots QQ lsA hx hb w => lv_tableIn hx hb hd (by rw [si_t (so_hi oS)]; exact h1) (by rw [si_t (so_hi oS)]; exact h2) (by rw [si_t (so_hi oS)]; exact ho) ht w) k
theorem vr_lsw {dflt : Int} {ps : Array (Int × Int)} {len : Nat} {x off : Int} (hd : decode M.2.1 pc = .ok (.lookupswitch dflt ps, len)) (hp : (ps.toList.zip (ps.toList.drop 1)).all (fun (a, next) => a.1 < next.1) = true) (ho : Op.lookupswitch.offset ps.toList dflt x = off) (ht : (pc : Int) + off = (q : Int)) (k : V_ g d M q ls st h Post) : V_ g d M pc ls (sv_i x :: st) h Post :=
  V_pure (st2 := st) (fun oS => so_t oS) (fun oS p e R s m args below meth c H locs cells slots QQ lsA hx hb w => lv_lookup hx hb hd hp (by rw [si_t (so_hi oS)]; exact ho) ht w) k
/-! locals -/
theorem sl_in {i : Nat} {v : SV_} (o : sl_ok ls) (hl : ls[i]? = some (some v)) : sv_ok v := o v (List.mem_of_getElem? hl)
theorem vr_iload_n {j : Fin 4} {x : Int} (hd : decode M.2.1 pc = .ok (.iload_n j, 1)) (hq : pc + 1 = q) (hv : ls[(j : Nat)]? = some (some (sv_i x))) (k : V_ g d M q ls (sv_i x :: st) h Post) : V_ g d M pc ls st h Post := by
  subst hq
  intro p e R s m args below meth c cells slots QQ C hr H locs lsA oL oS oH hP hS hl
  exact lv_iload_n C.1 C.2.1 hd rfl (sl_at hl hv) (k p e R s m args below meth c cells slots QQ C hr H locs lsA oL (so_1 (sl_in oL hv) oS) oH hP hS hl)
theorem vr_iload {j : Nat} {x : Int} (hd : decode M.2.1 pc = .ok (.iload j, 2)) (hq : pc + 2 = q) (hv : ls[j]? = some (some (sv_i x))) (k : V_ g d M q ls (sv_i x :: st) h Post) : V_ g d M pc ls st h Post := by
  subst hq
  intro p e R s m args below meth c cells slots QQ C hr H locs lsA oL oS oH hP hS hl
  exact lv_iload C.1 C.2.1 hd (sl_at hl hv) (k p e R s m args below meth c cells slots QQ C hr H locs lsA oL (so_1 (sl_in oL hv) oS) oH hP hS hl)
theorem vr_lload_n {j : Fin 4} {x : Int} (hd : decode M.2.1 pc = .ok (.lload_n j, 1)) (hq : pc + 1 = q) (hv : ls[(j : Nat)]? = some (some (sv_l x))) (k : V_ g d M q ls (sv_l x :: st) h Post) : V_ g d M pc ls st h Post := by
  subst hq
  intro p e R s m args below meth c cells slots QQ C hr H locs lsA oL oS oH hP hS hl
  exact lv_lload_n C.1 C.2.1 hd rfl (sl_at hl hv) (k p e R s m args below meth c cells slots QQ C hr H locs lsA oL (so_1 (sl_in oL hv) oS) oH hP hS hl)
theorem vr_lload {j : Nat} {x : Int} (hd : decode M.2.1 pc = .ok (.lload j, 2)) (hq : pc + 2 = q) (hv : ls[j]? = some (some (sv_l x))) (k : V_ g d M q ls (sv_l x :: st) h Post) : V_ g d M pc ls st h Post := by
  subst hq
  intro p e R s m args below meth c cells slots QQ C hr H locs lsA oL oS oH hP hS hl
  exact lv_lload C.1 C.2.1 hd (sl_at hl hv) (k p e R s m args below meth c cells slots QQ C hr H locs lsA oL (so_1 (sl_in oL hv) oS) oH hP hS hl)
theorem vr_aload_n {j : Fin 4} {a n : Nat} {x : Int} (hd : decode M.2.1 pc = .ok (.aload_n j, 1)) (hq : pc + 1 = q) (hv : ls[(j : Nat)]? = some (some (sv_r a n x))) (k : V_ g d M q ls (sv_r a n x :: st) h Post) : V_ g d M pc ls st h Post := by
  subst hq
  intro p e R s m args below meth c cells slots QQ C hr H locs lsA oL oS oH hP hS hl
  exact lv_aload_n C.1 C.2.1 hd rfl (sl_at hl hv) (k p e R s m args below meth c cells slots QQ C hr H locs lsA oL (so_1 (sl_in oL hv) oS) oH hP hS hl)
theorem vr_aload {j a n : Nat} {x : Int} (hd : decode M.2.1 pc = .ok (.aload j, 2)) (hq : pc + 2 = q) (hv : ls[j]? = some (some (sv_r a n x))) (k : V_ g d M q ls (sv_r a n x :: st) h Post) : V_ g d M pc ls st h Post := by
  subst hq
  intro p e R s m args below meth c cells slots QQ C hr H locs lsA oL oS oH hP hS hl
  exact lv_aload C.1 C.2.1 hd (sl_at hl hv) (k p e R s m args below meth c cells slots QQ C hr H locs lsA oL (so_1 (sl_in oL hv) oS) oH hP hS hl)
def sl_nl (ls : List (Option SV_)) : Nat → Bool
  | 0 => true
  | i + 1 => match ls[i]? with
    | some (some (.inr (.inl _))) => false
    | _ => true
theorem sl_nlc {i j : Nat} {v : SV_} (hn : sl_nl ls i = true) (hj : j + 1 = i) (hv : ls[j]? = some (some v)) : sv_c v = 1 := by
  subst hj
  simp only [sl_nl, hv] at hn
  obtain x | x | x := v
  · rfl
  · simp at hn
  · rfl
theorem sl_oks {i : Nat} {v : SV_} (o : sl_ok ls) (hv : sv_ok v) : sl_ok (ls.set i (some v)) := fun w hw => by
  rcases List.mem_or_eq_of_mem_set hw with h1 | h1
  · exact o w h1
  · cases h1; exact hv
theorem sl_st1 {lsA : Array Slot} {n i : Nat} {v : SV_} (hn : sl_nl ls i = true) (hl : lv_has lsA n ((i, sv_v g v) :: (sl_v g 0 ls).filter (fun q => !(q.1 == i) && !(q.1 + 1 == i && q.2.category == 2)))) : lv_has lsA n (sl_v g 0 (ls.set i (some v))) := by
  refine ⟨hl.1, hl.2.1, fun q hq => hl.2.2 q ?_⟩
  obtain ⟨j, w, h1, h2⟩ := sl_mem.mp hq
  by_cases hj : i = j
  · subst hj
    have hlt : i < (ls.set i (some v)).length := (List.getElem?_eq_some_iff.mp h1).1
    rw [List.length_set] at hlt
    rw [List.getElem?_set_self hlt] at h1
    cases h1
    rw [h2]
    simp
  · rw [List.getElem?_set_ne hj] at h1
    refine List.mem_cons_of_mem _ (List.mem_filter.mpr ⟨sl_mem.mpr ⟨j, w, h1, h2⟩, ?_⟩)
    rw [h2]
    simp only [Nat.zero_add, Bool.and_eq_true, Bool.not_eq_true', beq_eq_false_iff_ne, ne_eq, Bool.and_eq_false_iff]
    refine ⟨fun e => hj e.symm, ?_⟩
    by_cases h3 : j + 1 = i
    · right
      rw [sv_ce, sl_nlc hn h3 h1]
      decide
    · exact Or.inl h3
theorem sl_st2 {lsA : Array Slot} {n i : Nat} {v : SV_} (hn : sl_nl ls i = true) (hl : lv_has lsA n ((i, sv_v g v) :: (sl_v g 0 ls).filter (fun q => !(q.1 == i) && (!(q.1 == i + 1) && !(q.1 + 1 == i && q.2.category == 2))))) : lv_has lsA n (sl_v g 0 ((ls.set (i + 1) none).set i (some v))) := by
  refine ⟨hl.1, hl.2.1, fun q hq => hl.2.2 q ?_⟩
  obtain ⟨j, w, h1, h2⟩ := sl_mem.mp hq
  by_cases hj : i = j
  · subst hj
    have hlt : i < ((ls.set (i + 1) none).set i (some v)).length := (List.getElem?_eq_some_iff.mp h1).1
    rw [List.length_set] at hlt
    rw [List.getElem?_set_self hlt] at h1
    cases h1
    rw [h2]
    simp
  · rw [List.getElem?_set_ne hj] at h1
    by_cases hj1 : i + 1 = j
    · subst hj1
      have hlt : i + 1 < (ls.set (i + 1) none).length := (List.getElem?_eq_some_iff.mp h1).1
      rw [List.length_set] at hlt
      rw [List.getElem?_set_self hlt] at h1
      cases h1
    rw [List.getElem?_set_ne hj1] at h1
    refine List.mem_cons_of_mem _ (List.mem_filter.mpr ⟨sl_mem.mpr ⟨j, w, h1, h2⟩, ?_⟩)
    rw [h2]
    simp only [Nat.zero_add, Bool.and_eq_true, Bool.not_eq_true', beq_eq_false_iff_ne, ne_eq, Bool.and_eq_false_iff]
    refine ⟨fun e => hj e.symm, fun e => hj1 e.symm, ?_⟩
    by_cases h3 : j + 1 = i
    · right
      rw [sv_ce, sl_nlc hn h3 h1]
      decide
    · exact Or.inl h3
theorem vr_istore_n {j : Fin 4} {i : Nat} {x : Int} {ls2 : List (Option SV_)} (hd : decode M.2.1 pc = .ok (.istore_n j, 1)) (hq : pc + 1 = q) (hi : (j : Nat) = i) (hn : i < M.2.2.1) (hc : sl_nl ls i = true) (h2 : ls.set i (some (sv_i x)) = ls2) (k : V_ g d M q ls2 st h Post) : V_ g d M pc ls (sv_i x :: st) h Post := by
  subst hq
  subst h2
  intro p e R s m args below meth c cells slots QQ C hr H locs lsA oL oS oH hP hS hl
  exact lv_istore_n C.1 C.2.1 hd hi hl hn rfl (fun ls' hl' => k p e R s m args below meth c cells slots QQ C hr H locs ls' (sl_oks oL (so_h oS)) (so_t oS) oH hP hS (sl_st1 (v := sv_i x) hc hl'))
theorem vr_istore {i : Nat} {x : Int} {ls2 : List (Option SV_)} (hd : decode M.2.1 pc = .ok (.istore i, 2)) (hq : pc + 2 = q) (hn : i < M.2.2.1) (hc : sl_nl ls i = true) (h2 : ls.set i (some (sv_i x)) = ls2) (k : V_ g d M q ls2 st h Post) : V_ g d M pc ls (sv_i x :: st) h Post := by
  subst hq
  subst h2
  intro p e R s m args below meth c cells slots QQ C hr H locs lsA oL oS oH hP hS hl
  exact lv_istore C.1 C.2.1 hd hl hn rfl (fun ls' hl' => k p e R s m args below meth c cells slots QQ C hr H locs ls' (sl_oks oL (so_h oS)) (so_t oS) oH hP hS (sl_st1 (v := sv_i x) hc hl'))
theorem vr_astore_n {j : Fin 4} {i a b : Nat} {x : Int} {ls2 : List (Option SV_)} (hd : decode M.2.1 pc = .ok (.astore_n j, 1)) (hq : pc + 1 = q) (hi : (j : Nat) = i) (hn : i < M.2.2.1) (hc : sl_nl ls i = true) (h2 : ls.set i (some (sv_r a b x)) = ls2) (k : V_ g d M q ls2 st h Post) : V_ g d M pc ls (sv_r a b x :: st) h Post := by
  subst hq
  subst h2
  intro p e R s m args below meth c cells slots QQ C hr H locs lsA oL oS oH hP hS hl
  exact lv_astore_n C.1 C.2.1 hd hi hl hn rfl (fun ls' hl' => k p e R s m args below meth c cells slots QQ C hr H locs ls' (sl_oks oL (so_h oS)) (so_t oS) oH hP hS (sl_st1 (v := sv_r a b x) hc hl'))
theorem vr_astore {i a b : Nat} {x : Int} {ls2 : List (Option SV_)} (hd : decode M.2.1 pc = .ok (.astore i, 2)) (hq : pc + 2 = q) (hn : i < M.2.2.1) (hc : sl_nl ls i = true) (h2 : ls.set i (some (sv_r a b x)) = ls2) (k : V_ g d M q ls2 st h Post) : V_ g d M pc ls (sv_r a b x :: st) h Post := by
  subst hq
  subst h2
  intro p e R s m args below meth c cells slots QQ C hr H locs lsA oL oS oH hP hS hl
  exact lv_astore C.1 C.2.1 hd hl hn rfl (fun ls' hl' => k p e R s m args below meth c cells slots QQ C hr H locs ls' (sl_oks oL (so_h oS)) (so_t oS) oH hP hS (sl_st1 (v := sv_r a b x) hc hl'))
theorem vr_lstore {i : Nat} {x : Int} {ls2 : List (Option SV_)} (hd : decode M.2.1 pc = .ok (.lstore i, 2)) (hq : pc + 2 = q) (hn : i + 1 < M.2.2.1) (hc : sl_nl ls i = true) (h2 : (ls.set (i + 1) none).set i (some (sv_l x)) = ls2) (k : V_ g d M q ls2 st h Post) : V_ g d M pc ls (sv_l x :: st) h Post := by
  subst hq
  subst h2
  intro p e R s m args below meth c cells slots QQ C hr H locs lsA oL oS oH hP hS hl
  refine lv_lstore C.1 C.2.1 hd hl hn rfl (fun ls' hl' => k p e R s m args below meth c cells slots QQ C hr H locs ls' (sl_oks (fun w hw => ?_) (so_h oS)) (so_t oS) oH hP hS (sl_st2 (v := sv_l x) hc hl'))
  rcases List.mem_or_eq_of_mem_set hw with h1 | h1
  · exact oL w h1
  · cases h1
theorem vr_iinc {i : Nat} {n x : Int} {ls2 : List (Option SV_)} (hd : decode M.2.1 pc = .ok (.iinc i n, 3)) (hq : pc + 3 = q) (hv : ls[i]? = some (some (sv_i x))) (hr : sr_32 (x + n)) (hn : i < M.2.2.1) (hc : sl_nl ls i = true) (h2 : ls.set i (some (sv_i (x + n))) = ls2) (k : V_ g d M q ls2 st h Post) : V_ g d M pc ls st h Post := by
  subst hq
  subst h2
  intro p e R s m args below meth c cells slots QQ C hr2 H locs lsA oL oS oH hP hS hl
  obtain ⟨j, hj⟩ := List.getElem?_of_mem (sl_mem (g := g) (i := 0).mpr ⟨i, _, hv, rfl⟩)
  rw [Nat.zero_add] at hj
  exact lv_iinc (v := Int32.ofInt (x + n)) C.1 C.2.1 hd hl hj (Int32.ofInt_add _ _).symm hn rfl (fun ls' hl' => k p e R s m args below meth c cells slots QQ C hr2 H locs ls' (sl_oks (v := sv_i (x + n)) oL hr) oS oH hP hS (sl_st1 (v := sv_i (x + n)) hc hl'))
theorem vr_lcmp {x y : Int} (hd : decode M.2.1 pc = .ok (.lcmp, 1)) (hq : pc + 1 = q) (k : V_ g d M q ls (sv_i (if y < x then 1 else if x = y then 0 else -1) :: st) h Post) : V_ g d M pc ls (sv_l y :: sv_l x :: st) h Post := by
  subst hq
  refine V_pure (st2 := sv_i (if y < x then 1 else if x = y then 0 else -1) :: st) (fun oS => so_i ?_ (so_t (so_t oS))) (fun oS p e R s m args below meth c H locs cells slots QQ lsA hx hb w => W.lcmp hx hb hd ?_) k
  · split
    · exact ⟨by decide, by decide⟩
    · split
      · exact ⟨by decide, by decide⟩
      · exact ⟨by decide, by decide⟩
  · have hxx := so_hl (so_t oS)
    have hyy := so_hl oS
    have e : lg_cmp (Int64.ofInt x) (Int64.ofInt y) = Int32.ofInt (if y < x then 1 else if x = y then 0 else -1) := by
      have h1 : Int64.ofInt y < Int64.ofInt x ↔ y < x := by rw [Int64.lt_iff_toInt_lt, sj_t hxx, sj_t hyy]
      have h2 : Int64.ofInt x = Int64.ofInt y ↔ x = y := by rw [← Int64.toInt_inj, sj_t hxx, sj_t hyy]
      unfold lg_cmp
      simp only [gt_iff_lt, h1, h2]
      split
      · rfl
      · split
        · rfl
        · rfl
    rw [e]
    exact w
end VB_
end
section
section VH_
variable {g : SG_} {d : Nat} {M : MD_} {pc q : Nat} {ls : List (Option SV_)} {st : List SV_} {h : SH_} {Post : Option SV_ → SH_ → Prop}
theorem so_rk {c n : Nat} {k : Int} (hs : sv_oks (sv_r c n k :: st)) (hc : c ≠ 5) : 0 ≤ k ∧ sl_y[k.toNat]? = some (c, n) := by
  rcases (so_h hs : (c = 5 ∧ n < 4) ∨ (c ≠ 5 ∧ 0 ≤ k ∧ sl_y[k.toNat]? = some (c, n))) with h1 | h1
  · exact absurd h1.1 hc
  · exact h1.2
theorem so_rx {n : Nat} {k : Int} (hs : sv_oks (sv_r 5 n k :: st)) : n < 4 := by
  rcases (so_h hs : (5 = 5 ∧ n < 4) ∨ (5 ≠ 5 ∧ 0 ≤ k ∧ sl_y[k.toNat]? = some (5, n))) with h1 | h1
  · exact h1.2
  · exact absurd rfl h1.1
theorem so_rm {c n : Nat} {k : Int} (hc : c ≠ 5) (h0 : 0 ≤ k) (hk : sl_y[k.toNat]? = some (c, n)) : sv_ok (sv_r c n k) := Or.inr ⟨hc, h0, hk⟩
theorem sv_vr {c n : Nat} {k : Int} (hc : c ≠ 5) : sv_v g (sv_r c n k) = .ref (sg_a g k.toNat) := by
  show Value.ref (if c = 5 then sg_x g n else sg_a g k.toNat) = _
  rw [if_neg hc]
/-- a field's link, by the class's number and the field's -/
def sf_ok (own : String) (idx c j : Nat) : Prop := ∃ (C : String) (T : u_T) (N : Nat), vwCl[c]? = some (C, T, N) ∧ (∀ w ∈ u_ws C T N, w ∈ lw_g) ∧ j < N ∧ (sf_c c).length = N ∧ Cond.fieldLink own idx (T j).1 (T j).2.1 (T j).2.2.1 ∈ lw_g
def sf_okp (own : String) (idx c j : Nat) : Prop := ∃ (C : String) (T : u_T) (N : Nat) (ty : Nat → FieldType), vwCl[c]? = some (C, T, N) ∧ (∀ w ∈ u_ws C T N, w ∈ lw_g) ∧ j < N ∧ (sf_c c).length = N ∧ Cond.fieldLink own idx (T j).1 (T j).2.1 (T j).2.2.1 ∈ lw_g ∧ (∀ k, k < N → parseFieldDescriptor (T k).2.2.1 = some (ty k)) ∧ (∀ a, a < N → ∀ b, b < N → a ≠ b → (T a).2.1 ≠ (T b).2.1) ∧ (T j).2.2.2 = false ∧ ty j = .int
theorem V_get {idx c j : Nat} {k : Int} (hd : decode M.2.1 pc = .ok (.getfield idx, 3)) (hq : pc + 3 = q) (hf : sf_ok M.1.cls idx c j) (hv : sh_ok h → 0 ≤ k → sl_y[k.toNat]? = some (4, c) → sv_ok (sf_v c k j h)) (kk : V_ g d M q ls (sf_v c k j h :: st) h Post) : V_ g d M pc ls (sv_r 4 c k :: st) h Post := by
  subst hq
  intro p e R s m args below meth cd cells slots QQ C hr H locs lsA oL oS oH hP hS hl
  obtain ⟨hx, hb, hml, hown, hts, hK, -⟩ := id C
  obtain ⟨k0, k1⟩ := so_rk oS (by decide)
  obtain ⟨Cn, T, N, f1, f2, f3, f4, f5⟩ := hf
  have hg := sw_get (g := g) (h := h) k0 k1
  have hr0 : List.map (sv_v g) (sv_r 4 c k :: st) = .ref (sg_a g k.toNat) :: List.map (sv_v g) st := by rw [List.map_cons, sv_vr (by decide)]
  rw [hr0]
  refine va_get (D := sg_D g) (ci := c) (v := sv_v g (sf_v c k j h)) (C := Cn) (T := T) (N := N) hx hb hts f2 hown hK.1 hP k.toNat hg f1 j f3 (hts _ f5) (fun _ z => z) ?_ hd ?_
  · rw [List.getElem?_map, List.getElem?_range (by rw [f4]; exact f3)]
    rfl
  · exact kk p e R s m args below meth cd cells slots QQ C hr H locs lsA oL (so_1 (hv oH k0 k1) (so_t oS)) oH hP hS hl
theorem vr_getI {idx c j : Nat} {k ji : Int} (hd : decode M.2.1 pc = .ok (.getfield idx, 3)) (hq : pc + 3 = q) (hf : sf_ok M.1.cls idx c j) (ht : (sf_c c).getD j none = none) (hj : (j : Int) = ji) (kk : V_ g d M q ls (sv_i (h k ji) :: st) h Post) : V_ g d M pc ls (sv_r 4 c k :: st) h Post := by
  subst hj
  have e : sf_v c k j h = sv_i (h k (j : Int)) := by unfold sf_v; rw [ht]
  refine V_get hd hq hf (fun oH _ _ => ?_) ?_
  · rw [e]; exact oH k j
  · rw [e]; exact kk
theorem vr_getR {idx c j a b : Nat} {k o k2 : Int} (hd : decode M.2.1 pc = .ok (.getfield idx, 3)) (hq : pc + 3 = q) (hf : sf_ok M.1.cls idx c j) (ht : (sf_c c).getD j none = some ((a, b), true, o)) (hy : ∀ i : Nat, i < 83 → sl_y[i]? = some (4, c) → a ≠ 5 ∧ 0 ≤ (i : Int) + o ∧ sl_y[((i : Int) + o).toNat]? = some (a, b)) (hk : k + o = k2) (kk : V_ g d M q ls (sv_r a b k2 :: st) h Post) : V_ g d M pc ls (sv_r 4 c k :: st) h Post := by
  subst hk
  have e : sf_v c k j h = sv_r a b (k + o) := by unfold sf_v; rw [ht]
  refine V_get hd hq hf (fun oH k0 k1 => ?_) ?_
  · rw [e]
    have h1 := (List.getElem?_eq_some_iff.mp k1).1
    rw [sw_len] at h1
    obtain ⟨y1, y2, y3⟩ := hy k.toNat h1 k1
    rw [Int.toNat_of_nonneg k0] at y2 y3
    exact so_rm y1 y2 y3
  · rw [e]; exact kk
theorem vr_getA {idx c j a b : Nat} {k o : Int} (hd : decode M.2.1 pc = .ok (.getfield idx, 3)) (hq : pc + 3 = q) (hf : sf_ok M.1.cls idx c j) (ht : (sf_c c).getD j none = some ((a, b), false, o)) (hy : a ≠ 5 ∧ 0 ≤ o ∧ sl_y[o.toNat]? = some (a, b)) (kk : V_ g d M q ls (sv_r a b o :: st) h Post) : V_ g d M pc ls (sv_r 4 c k :: st) h Post := by
  have e : sf_v c k j h = sv_r a b o := by unfold sf_v; rw [ht]
  refine V_get hd hq hf (fun oH k0 k1 => ?_) ?_
  · rw [e]; exact so_rm hy.1 hy.2.1 hy.2.2
  · rw [e]; exact kk
theorem sh_oks {k j x : Int} (o : sh_ok h) (hx : sr_32 x) : sh_ok (hs_ h k j x) := fun a b => by
  unfold hs_
  split
  · exact hx
  · exact o a b
theorem vr_put {idx c j : Nat} {k x ji : Int} (hd : decode M.2.1 pc = .ok (.putfield idx, 3)) (hq : pc + 3 = q) (hf : sf_okp M.1.cls idx c j) (ht : (sf_c c).getD j none = none) (hj : (j : Int) = ji) (kk : V_ g d M q ls st (hs_ h k ji x) Post) : V_ g d M pc ls (sv_i x :: sv_r 4 c k :: st) h Post := by
  subst hj
  subst hq
  intro p e R s m args below meth cd cells slots QQ C hr H locs lsA oL oS oH hP hS hl
  obtain ⟨hx, hb, hml, hown, hts, hK, -⟩ := id C
  obtain ⟨k0, k1⟩ := so_rk (so_t oS) (by decide)
  obtain ⟨Cn, T, N, ty, f1, f2, f3, f4, f5, f6, f7, f8, f9⟩ := hf
  have hg := sw_get (g := g) (h := h) k0 k1
  have hr0 : List.map (sv_v g) (sv_i x :: sv_r 4 c k :: st) = .int (Int32.ofInt x) :: .ref (sg_a g k.toNat) :: List.map (sv_v g) st := by rw [List.map_cons, List.map_cons, sv_vr (by decide)]; rfl
  rw [hr0]
  refine va_put (D := sg_D g) (ci := c) (v := .int (Int32.ofInt x)) (ty := .int) (C := Cn) (T := T) (N := N) hx hb hts f2 ty f6 f7 hown hK.1 hP (sg_Dw hK h) hS k.toNat hg f1 j f3 (hts _ f5) (fun _ z => z) f8 (by rw [f6 j f3, f9]) rfl rfl (by rw [List.length_map, List.length_range, f4]; exact f3) hd (fun H1 locs1 hP1 hD1 hS1 => ?_)
  have hE : (.inr (c, ((List.range (sf_c c).length).map (fun j => sv_v g (sf_v c k j h))).set j (.int (Int32.ofInt x))) : va_E) = sw_e g (4, c) k (hs_ h k (j : Int) x) := by
    show _ = Sum.inr (c, (List.range (sf_c c).length).map (fun j2 => sv_v g (sf_v c k j2 (hs_ h k (j : Int) x))))
    congr 2
    apply List.ext_getElem?
    intro i
    by_cases hi : j = i
    · subst hi
      rw [List.getElem?_set_self (by rw [List.length_map, List.length_range, f4]; exact f3), List.getElem?_map, List.getElem?_range (by rw [f4]; exact f3)]
      have e2 : sf_v c k j (hs_ h k (j : Int) x) = sv_i x := by
        unfold sf_v
        rw [ht, hs_e]
      show some _ = some (sv_v g (sf_v c k j (hs_ h k (j : Int) x)))
      rw [e2]
      rfl
    · rw [List.getElem?_set_ne hi, List.getElem?_map, List.getElem?_map]
      by_cases hl2 : i < (sf_c c).length
      · rw [List.getElem?_range hl2]
        have e2 : sf_v c k i (hs_ h k (j : Int) x) = sf_v c k i h := by
          unfold sf_v
          rw [hs_n (fun z => hi (by have := z.2; omega))]
        show some (sv_v g (sf_v c k i h)) = some (sv_v g (sf_v c k i (hs_ h k (j : Int) x)))
        rw [e2]
      · rw [List.getElem?_eq_none (by simpa using hl2)]
        rfl
  rw [sw_set k0 k1 (fun a ha => hs_k ha) hE] at hP1
  exact kk p e R s m args below meth cd cells slots QQ C hr H1 locs1 lsA oL (so_t (so_t oS)) (sh_oks oH (so_hi oS)) hP1 hS1 hl
theorem vr_iald {n : Nat} {k i : Int} (hd : decode M.2.1 pc = .ok (.iaload, 1)) (hq : pc + 1 = q) (hi : 0 ≤ i ∧ i < n) (kk : V_ g d M q ls (sv_i (h k i) :: st) h Post) : V_ g d M pc ls (sv_i i :: sv_r 0 n k :: st) h Post := by
  subst hq
  intro p e R s m args below meth cd cells slots QQ C hr H locs lsA oL oS oH hP hS hl
  obtain ⟨hx, hb, hml, hown, hts, hK, -⟩ := id C
  obtain ⟨k0, k1⟩ := so_rk (so_t oS) (by decide)
  have hr0 : List.map (sv_v g) (sv_i i :: sv_r 0 n k :: st) = .int (Int32.ofInt i) :: .ref (sg_a g k.toNat) :: List.map (sv_v g) st := by rw [List.map_cons, List.map_cons, sv_vr (by decide)]; rfl
  rw [hr0]
  refine va_iald (D := sg_D g) (cl := vwCl) hx hb hK.1 hP k.toNat 0 (sw_get k0 k1) rfl (si_in (so_hi oS) hi.1 hi.2) hd ?_
  rw [si_cl (so_hi oS), Int.toNat_of_nonneg hi.1]
  exact kk p e R s m args below meth cd cells slots QQ C hr H locs lsA oL (so_i (oH k i) (so_t (so_t oS))) oH hP hS hl
theorem vr_bald {n : Nat} {k i : Int} (hd : decode M.2.1 pc = .ok (.baload, 1)) (hq : pc + 1 = q) (hi : 0 ≤ i ∧ i < n) (kk : V_ g d M q ls (sv_i (h k i) :: st) h Post) : V_ g d M pc ls (sv_i i :: sv_r 1 n k :: st) h Post := by
  subst hq
  intro p e R s m args below meth cd cells slots QQ C hr H locs lsA oL oS oH hP hS hl
  obtain ⟨hx, hb, hml, hown, hts, hK, -⟩ := id C
  obtain ⟨k0, k1⟩ := so_rk (so_t oS) (by decide)
  have hr0 : List.map (sv_v g) (sv_i i :: sv_r 1 n k :: st) = .int (Int32.ofInt i) :: .ref (sg_a g k.toNat) :: List.map (sv_v g) st := by rw [List.map_cons, List.map_cons, sv_vr (by decide)]; rfl
  rw [hr0]
  refine va_zald (D := sg_D g) (cl := vwCl) hx hb hK.1 hP k.toNat 1 (sw_get k0 k1) rfl (si_in (so_hi oS) hi.1 hi.2) hd ?_
  rw [si_cl (so_hi oS), Int.toNat_of_nonneg hi.1]
  exact kk p e R s m args below meth cd cells slots QQ C hr H locs lsA oL (so_i (oH k i) (so_t (so_t oS))) oH hP hS hl
theorem sw_up {k i x : Int} {n : Nat} (h0 : 0 ≤ i) : upd (fun j : Nat => Int32.ofInt (h k (j : Int))) i.toNat (Int32.ofInt x) = fun j : Nat => Int32.ofInt (hs_ h k i x k (j : Int)) := by
  funext j
  unfold upd hs_
  by_cases hj : j = i.toNat
  · rw [if_pos hj, if_pos ⟨rfl, by omega⟩]
  · rw [if_neg hj, if_neg (fun z => hj (by omega))]
theorem vr_iast {n : Nat} {k i x : Int} (hd : decode M.2.1 pc = .ok (.iastore, 1)) (hq : pc + 1 = q) (hi : 0 ≤ i ∧ i < n) (kk : V_ g d M q ls st (hs_ h k i x) Post) : V_ g d M pc ls (sv_i x :: sv_i i :: sv_r 0 n k :: st) h Post := by
  subst hq
  intro p e R s m args below meth cd cells slots QQ C hr H locs lsA oL oS oH hP hS hl
  obtain ⟨hx, hb, hml, hown, hts, hK, -⟩ := id C
  obtain ⟨k0, k1⟩ := so_rk (so_t (so_t oS)) (by decide)
  have hr0 : List.map (sv_v g) (sv_i x :: sv_i i :: sv_r 0 n k :: st) = .int (Int32.ofInt x) :: .int (Int32.ofInt i) :: .ref (sg_a g k.toNat) :: List.map (sv_v g) st := by rw [List.map_cons, List.map_cons, List.map_cons, sv_vr (by decide)]; rfl
  rw [hr0]
  refine va_iast (D := sg_D g) (cl := vwCl) hx hb hK.1 hP (sg_Dw hK h) hS k.toNat 0 (sw_get k0 k1) rfl (si_in (so_hi (so_t oS)) hi.1 hi.2) hd (fun H1 locs1 hP1 hD1 hS1 => ?_)
  rw [si_cl (so_hi (so_t oS)), sw_up (n := n) hi.1, sw_set k0 k1 (fun a ha => hs_k ha) (E := .inl (sg_I g, n, .inl (fun j : Nat => Int32.ofInt (hs_ h k i x k (j : Int))))) rfl] at hP1
  exact kk p e R s m args below meth cd cells slots QQ C hr H1 locs1 lsA oL (so_t (so_t (so_t oS))) (sh_oks oH (so_hi oS)) hP1 hS1 hl
theorem si_bool {x : Int} (hx : x = 0 ∨ x = 1) : vp_nar .boolean (Int32.ofInt x) = Int32.ofInt x := by
  rcases hx with rfl | rfl <;> decide
theorem vr_bast {n : Nat} {k i x : Int} (hd : decode M.2.1 pc = .ok (.bastore, 1)) (hq : pc + 1 = q) (hi : 0 ≤ i ∧ i < n) (hx01 : x = 0 ∨ x = 1) (kk : V_ g d M q ls st (hs_ h k i x) Post) : V_ g d M pc ls (sv_i x :: sv_i i :: sv_r 1 n k :: st) h Post := by
  subst hq
  intro p e R s m args below meth cd cells slots QQ C hr H locs lsA oL oS oH hP hS hl
  obtain ⟨hx, hb, hml, hown, hts, hK, -⟩ := id C
  obtain ⟨k0, k1⟩ := so_rk (so_t (so_t oS)) (by decide)
  have hr0 : List.map (sv_v g) (sv_i x :: sv_i i :: sv_r 1 n k :: st) = .int (Int32.ofInt x) :: .int (Int32.ofInt i) :: .ref (sg_a g k.toNat) :: List.map (sv_v g) st := by rw [List.map_cons, List.map_cons, List.map_cons, sv_vr (by decide)]; rfl
  rw [hr0]
  refine va_zast (D := sg_D g) (cl := vwCl) hx hb hK.1 hP (sg_Dw hK h) hS k.toNat 1 (sw_get k0 k1) rfl (si_in (so_hi (so_t oS)) hi.1 hi.2) hd (fun H1 locs1 hP1 hD1 hS1 => ?_)
  rw [si_cl (so_hi (so_t oS)), si_bool hx01, sw_up (n := n) hi.1, sw_set k0 k1 (fun a ha => hs_k ha) (E := .inl (sg_Z g, n, .inl (fun j : Nat => Int32.ofInt (hs_ h k i x k (j : Int))))) rfl] at hP1
  exact kk p e R s m args below meth cd cells slots QQ C hr H1 locs1 lsA oL (so_t (so_t (so_t oS))) (sh_oks oH (so_hi oS)) hP1 hS1 hl
theorem vr_alen {n : Nat} {k : Int} (hd : decode M.2.1 pc = .ok (.arraylength, 1)) (hq : pc + 1 = q) (hn : n < 2147483648) (kk : V_ g d M q ls (sv_i (n : Int) :: st) h Post) : V_ g d M pc ls (sv_r 0 n k :: st) h Post := by
  subst hq
  intro p e R s m args below meth cd cells slots QQ C hr H locs lsA oL oS oH hP hS hl
  obtain ⟨hx, hb, hml, hown, hts, hK, -⟩ := id C
  obtain ⟨k0, k1⟩ := so_rk oS (by decide)
  have hr0 : List.map (sv_v g) (sv_r 0 n k :: st) = .ref (sg_a g k.toNat) :: List.map (sv_v g) st := by rw [List.map_cons, sv_vr (by decide)]
  rw [hr0]
  refine va_alen (D := sg_D g) (cl := vwCl) (v := Int32.ofInt (n : Int)) hx hb hK.1 hP k.toNat 0 (sw_get k0 k1) rfl Int32.ofInt_eq_ofNat.symm hd ?_
  exact kk p e R s m args below meth cd cells slots QQ C hr H locs lsA oL (so_i ⟨by omega, by omega⟩ (so_t oS)) oH hP hS hl
theorem vr_xald {n : Nat} {k i : Int} (hd : decode M.2.1 pc = .ok (.iaload, 1)) (hq : pc + 1 = q) (hi : 0 ≤ i ∧ i < (sg_X g n).1) (kk : V_ g d M q ls (sv_i ((sg_X g n).2 i.toNat) :: st) h Post) : V_ g d M pc ls (sv_i i :: sv_r 5 n k :: st) h Post := by
  subst hq
  intro p e R s m args below meth cd cells slots QQ C hr H locs lsA oL oS oH hP hS hl
  obtain ⟨hx, hb, hml, hown, hts, hK, -⟩ := id C
  have hn := so_rx (so_t oS)
  refine va_ti (t := sg_x g n) hx hb (hK.2.2.2.2.2.1 n hn) hS (si_in (so_hi oS) hi.1 hi.2) (v := .int (Int32.ofInt ((sg_X g n).2 i.toNat))) (by rw [si_cl (so_hi oS)]) hd ?_
  exact kk p e R s m args below meth cd cells slots QQ C hr H locs lsA oL (so_i ((hK.2.2.2.2.2.2 n hn).2 _) (so_t (so_t oS))) oH hP hS hl
theorem vr_xlen {n : Nat} {k : Int} (hd : decode M.2.1 pc = .ok (.arraylength, 1)) (hq : pc + 1 = q) (kk : V_ g d M q ls (sv_i ((sg_X g n).1 : Int) :: st) h Post) : V_ g d M pc ls (sv_r 5 n k :: st) h Post := by
  subst hq
  intro p e R s m args below meth cd cells slots QQ C hr H locs lsA oL oS oH hP hS hl
  obtain ⟨hx, hb, hml, hown, hts, hK, -⟩ := id C
  have hn := so_rx oS
  have hb2 := (hK.2.2.2.2.2.2 n hn).1
  refine va_tlen (t := sg_x g n) hx hb (hK.2.2.2.2.2.1 n hn) hS (v := Int32.ofInt ((sg_X g n).1 : Int)) Int32.ofInt_eq_ofNat.symm hd ?_
  exact kk p e R s m args below meth cd cells slots QQ C hr H locs lsA oL (so_i ⟨by omega, by omega⟩ (so_t oS)) oH hP hS hl
theorem vr_aaM {k i : Int} (hd : decode M.2.1 pc = .ok (.aaload, 1)) (hq : pc + 1 = q) (hi : 0 ≤ i ∧ i < 7) (kk : V_ g d M q ls (sv_r 4 3 (52 + 2 * i) :: st) h Post) : V_ g d M pc ls (sv_i i :: sv_r 2 7 k :: st) h Post := by
  subst hq
  intro p e R s m args below meth cd cells slots QQ C hr H locs lsA oL oS oH hP hS hl
  obtain ⟨hx, hb, hml, hown, hts, hK, -⟩ := id C
  obtain ⟨k0, k1⟩ := so_rk (so_t oS) (by decide)
  have hr0 : List.map (sv_v g) (sv_i i :: sv_r 2 7 k :: st) = .int (Int32.ofInt i) :: .ref (sg_a g k.toNat) :: List.map (sv_v g) st := by rw [List.map_cons, List.map_cons, sv_vr (by decide)]; rfl
  rw [hr0]
  refine va_aldq (D := sg_D g) (cl := vwCl) hx hb hK.1 hP k.toNat 2 (sw_get k0 k1) rfl (si_in (so_hi oS) hi.1 hi.2) hd ?_
  have e1 : (va_rf (some (sg_a g (52 + 2 * (Int32.ofInt i).toNatClampNeg)))) = sv_v g (sv_r 4 3 (52 + 2 * i)) := by
    rw [si_cl (so_hi oS), sv_vr (by decide)]
    show Value.ref _ = Value.ref _
    congr 2
    omega
  have hok : sv_ok (sv_r 4 3 (52 + 2 * i)) := by
    refine so_rm (by decide) (by omega) ?_
    rcases (by omega : i = 0 ∨ i = 1 ∨ i = 2 ∨ i = 3 ∨ i = 4 ∨ i = 5 ∨ i = 6) with rfl | rfl | rfl | rfl | rfl | rfl | rfl <;> rfl
  have kk2 := kk p e R s m args below meth cd cells slots QQ C hr H locs lsA oL (so_1 hok (so_t (so_t oS))) oH hP hS hl
  rw [List.map_cons, ← e1] at kk2
  exact kk2
theorem vr_aaT {k i : Int} (hd : decode M.2.1 pc = .ok (.aaload, 1)) (hq : pc + 1 = q) (hi : 0 ≤ i ∧ i < 2) (kk : V_ g d M q ls (sv_r 4 6 (23 + 8 * i) :: st) h Post) : V_ g d M pc ls (sv_i i :: sv_r 3 2 k :: st) h Post := by
  subst hq
  intro p e R s m args below meth cd cells slots QQ C hr H locs lsA oL oS oH hP hS hl
  obtain ⟨hx, hb, hml, hown, hts, hK, -⟩ := id C
  obtain ⟨k0, k1⟩ := so_rk (so_t oS) (by decide)
  have hr0 : List.map (sv_v g) (sv_i i :: sv_r 3 2 k :: st) = .int (Int32.ofInt i) :: .ref (sg_a g k.toNat) :: List.map (sv_v g) st := by rw [List.map_cons, List.map_cons, sv_vr (by decide)]; rfl
  rw [hr0]
  refine va_aldq (D := sg_D g) (cl := vwCl) hx hb hK.1 hP k.toNat 3 (sw_get k0 k1) rfl (si_in (so_hi oS) hi.1 hi.2) hd ?_
  have e1 : (va_rf (some (sg_a g (23 + 8 * (Int32.ofInt i).toNatClampNeg)))) = sv_v g (sv_r 4 6 (23 + 8 * i)) := by
    rw [si_cl (so_hi oS), sv_vr (by decide)]
    show Value.ref _ = Value.ref _
    congr 2
    omega
  have hok : sv_ok (sv_r 4 6 (23 + 8 * i)) := by
    refine so_rm (by decide) (by omega) ?_
    rcases (by omega : i = 0 ∨ i = 1) with rfl | rfl <;> rfl
  have kk2 := kk p e R s m args below meth cd cells slots QQ C hr H locs lsA oL (so_1 hok (so_t (so_t oS))) oH hP hS hl
  rw [List.map_cons, ← e1] at kk2
  exact kk2
theorem vr_gets {idx i : Nat} (hd : decode M.2.1 pc = .ok (.getstatic idx, 3)) (hq : pc + 3 = q) (hi : i < 3) (hw : Cond.fieldLink M.1.cls idx (ss_C i) (ss_N i) "[I" ∈ lw_g) (kk : V_ g d M q ls (sv_r 5 i 0 :: st) h Post) : V_ g d M pc ls st h Post := by
  subst hq
  intro p e R s m args below meth cd cells slots QQ C hr H locs lsA oL oS oH hP hS hl
  obtain ⟨hx, hb, hml, hown, hts, hK, -⟩ := id C
  refine va_gets hx hb (hK.2.2.2.2.1 i hi) hS hown (hts _ hw) (fun _ z => z) hd ?_
  exact kk p e R s m args below meth cd cells slots QQ C hr H locs lsA oL (so_1 (Or.inl ⟨rfl, by omega⟩) oS) oH hP hS hl
theorem vr_ldc {idx : Nat} {x : Int} (hd : decode M.2.1 pc = .ok (.ldc idx, 2)) (hq : pc + 2 = q) (hx0 : sr_32 x) (hw : Cond.constant M.1.cls idx (Int32.ofInt x) ∈ lw_g) (kk : V_ g d M q ls (sv_i x :: st) h Post) : V_ g d M pc ls st h Post := by
  subst hq
  intro p e R s m args below meth cd cells slots QQ C hr H locs lsA oL oS oH hP hS hl
  obtain ⟨hx, hb, hml, hown, hts, hK, -⟩ := id C
  exact lv_ldc hx hb hown (hts _ hw) hd (kk p e R s m args below meth cd cells slots QQ C hr H locs lsA oL (so_i hx0 oS) oH hP hS hl)
theorem vr_ldcw {idx : Nat} {x : Int} (hd : decode M.2.1 pc = .ok (.ldc_w idx, 3)) (hq : pc + 3 = q) (hx0 : sr_32 x) (hw : Cond.constant M.1.cls idx (Int32.ofInt x) ∈ lw_g) (kk : V_ g d M q ls (sv_i x :: st) h Post) : V_ g d M pc ls st h Post := by
  subst hq
  intro p e R s m args below meth cd cells slots QQ C hr H locs lsA oL oS oH hP hS hl
  obtain ⟨hx, hb, hml, hown, hts, hK, -⟩ := id C
  exact lv_ldcw hx hb hown (hts _ hw) hd (kk p e R s m args below meth cd cells slots QQ C hr H locs lsA oL (so_i hx0 oS) oH hP hS hl)
theorem vr_ldc2 {idx : Nat} {x : Int} (hd : decode M.2.1 pc = .ok (.ldc2_w idx, 3)) (hq : pc + 3 = q) (hx0 : sr_64 x) (hw : Cond.constantLong M.1.cls idx (Int64.ofInt x) ∈ lw_g) (kk : V_ g d M q ls (sv_l x :: st) h Post) : V_ g d M pc ls st h Post := by
  subst hq
  intro p e R s m args below meth cd cells slots QQ C hr H locs lsA oL oS oH hP hS hl
  obtain ⟨hx, hb, hml, hown, hts, hK, -⟩ := id C
  exact lv_ldc2 hx hb hown (hts _ hw) hd (kk p e R s m args below meth cd cells slots QQ C hr H locs lsA oL (so_l hx0 oS) oH hP hS hl)
end VH_
end
section
def sm_w (Y : MD_) : List Cond := Cond.code Y.1 Y.2.1 Y.2.2.1 Y.2.2.2.1 :: lw_g
def sm_r (d : Nat) : Room := { frames := d, cells := 0, slots := 0, locals := 64 * d }
def sm_P (g : SG_) (as : List SV_) (h : SH_) : Array Value → State → Prop := va_Pc (as.map (sv_v g)) (fun U => va_P (sg_D g) vwCl (sw_l g h) U.heap ∧ sg_K g U)
def sm_Q (g : SG_) (Post : Option SV_ → SH_ → Prop) : Array Value → State → Outcome → State → Prop := fun _ st oc t => (∃ (r : Option SV_) (h : SH_), oc = .returned (r.map (sv_v g)) ∧ Post r h ∧ so_ok r ∧ sh_ok h ∧ va_P (sg_D g) vwCl (sw_l g h) t.heap) ∧ va_F (sg_A g) st t
/-- a method's contract, d frames deep at most -/
def Ctr_ (g : SG_) (d : Nat) (Y : MD_) (as : List SV_) (h : SH_) (Post : Option SV_ → SH_ → Prop) : Prop := sv_oks as → sh_ok h → Met (sg_l g) Y.1 (sm_w Y) (sm_r d) (sm_P g as h) (sm_Q g Post) 0 0 (sg_A g)
def so_p : Option SV_ → List SV_ → List SV_
  | some v, l => v :: l
  | none, l => l
def sm_V (own : String) (idx : Nat) (Y : MD_) (c n : Nat) : Prop := GoodIn lw_g (wsV own idx Y.1.cls Y.1 (sm_w Y)) ∧ Y.1.cls ≠ "java/lang/invoke/MethodHandle" ∧ Y.1.cls ≠ "java/lang/invoke/VarHandle" ∧ (parseMethodDescriptor Y.1.desc).map (fun d => d.parameters.length) = some n ∧ Y.2.2.1 ≤ 45 ∧ ∃ T N, vwCl[c]? = some (Y.1.cls, T, N)
def sm_S (own : String) (idx : Nat) (Y : MD_) (n : Nat) : Prop := GoodIn lw_g (va_wsS own idx Y.1 (sm_w Y)) ∧ Y.1.cls ≠ "java/lang/invoke/MethodHandle" ∧ Y.1.cls ≠ "java/lang/invoke/VarHandle" ∧ (parseMethodDescriptor Y.1.desc).map (fun d => d.parameters.length) = some n ∧ Y.2.2.1 ≤ 45
section VC_
variable {g : SG_} {d : Nat} {M : MD_} {pc q : Nat} {ls : List (Option SV_)} {st : List SV_} {h : SH_} {Post : Option SV_ → SH_ → Prop}
theorem so_pv (r : Option SV_) (l : List SV_) : (so_p r l).map (sv_v g) = (r.map (sv_v g)).toList ++ l.map (sv_v g) := by
  cases r <;> rfl
theorem so_po {r : Option SV_} {l : List SV_} (hr : so_ok r) (hl : sv_oks l) : sv_oks (so_p r l) := by
  cases r with
  | none => exact hl
  | some v => exact so_1 (hr v rfl) hl
theorem sm_blind (as : List SV_) : FrameBlind (sm_P g as h) := fun a U f mk q => ⟨q.1, q.2.1, sg_K.moved (u := U) (U := U.calling f mk a) (Vm.Alike.refl U.vm) (Nat.le_refl _) (fun _ _ _ => rfl) q.2.2⟩
theorem sm_cat (l : List SV_) : ((l.map (sv_v g)).map fun v => v.category).sum = (l.map sv_c).sum := by
  congr 1
  rw [List.map_map]
  apply List.map_congr_left
  intro v _
  exact sv_ce v
/-- behind a call -/
theorem V_back {rest : List SV_} {avs : Array Value} {p : Program} {e : Env} {R : Room} {s : State} {m : MethodId} {args : Array Value} {below : List Frame} {meth : Method} {cd : Code} {cells slots : Nat} {QQ : State → Prop} {H : Heap} {locs : List Loc} {lsA : Array Slot} {st0 : List Value} {d2 : Nat}
    (C : sc_x g d2 M p R s m args cd cells slots) (hr : sc_r g M Post p e R s m args below meth cd cells slots QQ) (oL : sl_ok ls) (oR : sv_oks rest) (hS : va_S (sg_A g) s.heap H locs) (hl : lv_has lsA M.2.2.1 (sl_v g 0 ls))
    (hrun : va_Run p (sg_l g) e R s m args below meth cd H locs cells slots 0 0 (F0 m pc lsA st0) (rest.map (sv_v g)) (sm_Q g (fun r h' => V_ g d2 M (pc + 3) ls (so_p r rest) h' Post) avs) (sg_A g)) : W p (sg_l g) e R s m args below meth cd H locs cells slots QQ (F0 m pc lsA st0) := by
  intro T hT X
  obtain ⟨v, st₀, t, T', L, h0, X', hL, e1, e2, ⟨⟨r, h', hv, hpost, hok, hok2, hP'⟩, hF⟩, stp⟩ := hrun T hT X
  have hv' : v = r.map (sv_v g) := by injection hv
  subst hv'
  unfold va_F at hF
  rw [h0] at hF
  obtain ⟨t2, a1, b1⟩ := hpost p e R s m args below meth cd cells slots QQ C hr T'.heap (locs ++ L) lsA oL (so_po hok oR) hok2 (by rw [e1]; exact hP')
    ⟨Nat.le_trans hS.1 (by rw [e1]; exact hF.1), fun q h1 h2 => by rw [e1, hF.2 q (Nat.lt_of_lt_of_le h1 hS.1) h2]; exact hS.2.1 q h1 h2, fun q hq => by
      rcases List.mem_append.mp hq with z | z
      · exact hS.2.2 q z
      · exact hL q z⟩ hl T' rfl X'
  rw [so_pv] at a1
  exact ⟨t2, stp t2 a1, b1⟩
theorem V_iv {Y : MD_} {idx c n : Nat} {k : Int} {as rest : List SV_} (hd : decode M.2.1 pc = .ok (.invokevirtual idx, 3)) (hq : pc + 3 = q) (hc : sm_V M.1.cls idx Y c n) (hn : as.length = n) (hst : st = as.reverse ++ sv_r 4 c k :: rest) (hW : (rest.map sv_c).sum ≤ 8) (hC : Ctr_ g d Y (sv_r 4 c k :: as) h (fun r h' => V_ g (d + 1) M q ls (so_p r rest) h' Post)) : V_ g (d + 1) M pc ls st h Post := by
  subst hq
  subst hst
  intro p e R s m args below meth cd cells slots QQ C hr H locs lsA oL oS oH hP hS hl
  obtain ⟨hx, hb, hml, hown, hts, hK, hR1, hR2, hR3, hR4⟩ := id C
  obtain ⟨c1, c2, c3, c4, c5, T, N, c6⟩ := hc
  have oR : sv_oks (sv_r 4 c k :: rest) := fun v hv => oS v (List.mem_append_right _ hv)
  have oA : sv_oks as := fun v hv => oS v (List.mem_append_left _ (List.mem_reverse.mpr hv))
  obtain ⟨k0, k1⟩ := so_rk oR (by decide)
  have hM := hC (so_1 (so_h oR) oA) oH
  have hr0 : List.map (sv_v g) (as.reverse ++ sv_r 4 c k :: rest) = (as.map (sv_v g)).reverse ++ .ref (sg_a g k.toNat) :: rest.map (sv_v g) := by rw [List.map_append, List.map_cons, List.map_reverse, sv_vr (by decide)]
  have ha0 : (Value.ref (sg_a g k.toNat) :: as.map (sv_v g)).toArray = ((sv_r 4 c k :: as).map (sv_v g)).toArray := by rw [List.map_cons, sv_vr (by decide)]
  rw [hr0]
  exact V_back C hr oL (so_t oR) hS hl (va_runV (C := Y.1.cls) (As := as.map (sv_v g)) (b := sg_a g k.toNat) ⟨hx, hb, hml, hown, hts⟩ hM (cwV n hts c1 rfl rfl rfl ⟨rfl, c2, c3, c4⟩ ⟨hR1, by show 8 + (Y.2.2.1 + 11) + 64 * d ≤ R.locals; omega⟩)
    ⟨sm_blind _, va_recv hK.1 hP c6 (sw_get k0 k1), fun U hU hW => ⟨ha0, by rw [hU]; exact hP, sg_K.moved hW.alike (by rw [hU]; exact hS.1) (by rw [hU]; exact hS.2.1) hK⟩⟩ rfl (by rw [List.length_map]; exact hn) hl.1 rfl (lv_room (by rw [sm_cat]; exact hW)) hd ⟨hR3, hR4⟩)
theorem V_is {Y : MD_} {idx n : Nat} {as rest : List SV_} (hd : decode M.2.1 pc = .ok (.invokestatic idx, 3)) (hq : pc + 3 = q) (hc : sm_S M.1.cls idx Y n) (hn : as.length = n) (hst : st = as.reverse ++ rest) (hW : (rest.map sv_c).sum ≤ 8) (hC : Ctr_ g d Y as h (fun r h' => V_ g (d + 1) M q ls (so_p r rest) h' Post)) : V_ g (d + 1) M pc ls st h Post := by
  subst hq
  subst hst
  intro p e R s m args below meth cd cells slots QQ C hr H locs lsA oL oS oH hP hS hl
  obtain ⟨hx, hb, hml, hown, hts, hK, hR1, hR2, hR3, hR4⟩ := id C
  obtain ⟨c1, c2, c3, c4, c5⟩ := hc
  have oR : sv_oks rest := fun v hv => oS v (List.mem_append_right _ hv)
  have oA : sv_oks as := fun v hv => oS v (List.mem_append_left _ (List.mem_reverse.mpr hv))
  have hM := hC oA oH
  have hr0 : List.map (sv_v g) (as.reverse ++ rest) = (as.map (sv_v g)).reverse ++ rest.map (sv_v g) := by rw [List.map_append, List.map_reverse]
  rw [hr0]
  exact V_back C hr oL oR hS hl (va_runS (As := as.map (sv_v g)) ⟨hx, hb, hml, hown, hts⟩ hM (va_cwS n hts c1 rfl rfl rfl ⟨c2, c3, c4⟩ ⟨hR1, by show 8 + (Y.2.2.1 + 11) + 64 * d ≤ R.locals; omega⟩)
    ⟨sm_blind _, fun U hU hW => ⟨rfl, by rw [hU]; exact hP, sg_K.moved hW.alike (by rw [hU]; exact hS.1) (by rw [hU]; exact hS.2.1) hK⟩⟩ rfl (by rw [List.length_map]; exact hn) hl.1 rfl (lv_room (by rw [sm_cat]; exact hW)) hd ⟨hR3, hR4⟩)
/-! returns -/
theorem vr_iret {x : Int} (hd : decode M.2.1 pc = .ok (.ireturn, 1)) (ht : M.2.2.2.2 = 1) (hp : Post (some (sv_i x)) h) : V_ g d M pc ls [sv_i x] h Post := by
  intro p e R s m args below meth c cells slots QQ C hr H locs lsA oL oS oH hP hS hl
  exact hr pc lsA H locs (some (sv_i x)) h hp (fun v hv => by cases hv; exact so_h oS) oH hP hS ⟨hd, Or.inl ht⟩
theorem vr_zret {x : Int} (hd : decode M.2.1 pc = .ok (.ireturn, 1)) (ht : M.2.2.2.2 = 2) (hx : x = 0 ∨ x = 1) (hp : Post (some (sv_i x)) h) : V_ g d M pc ls [sv_i x] h Post := by
  intro p e R s m args below meth c cells slots QQ C hr H locs lsA oL oS oH hP hS hl
  exact hr pc lsA H locs (some (sv_i x)) h hp (fun v hv => by cases hv; exact so_h oS) oH hP hS ⟨hd, Or.inr ⟨ht, hx⟩⟩
theorem vr_vret (hd : decode M.2.1 pc = .ok (.return_, 1)) (ht : M.2.2.2.2 = 0) (hp : Post none h) : V_ g d M pc ls [] h Post := by
  intro p e R s m args below meth c cells slots QQ C hr H locs lsA oL oS oH hP hS hl
  exact hr pc lsA H locs none h hp (fun v hv => by cases hv) oH hP hS ⟨ht, hd⟩
theorem vr_lret {x : Int} (hd : decode M.2.1 pc = .ok (.lreturn, 1)) (ht : M.2.2.2.2 = 3) (hp : Post (some (sv_l x)) h) : V_ g d M pc ls [sv_l x] h Post := by
  intro p e R s m args below meth c cells slots QQ C hr H locs lsA oL oS oH hP hS hl
  exact hr pc lsA H locs (some (sv_l x)) h hp (fun v hv => by cases hv; exact so_h oS) oH hP hS ⟨ht, hd⟩
theorem vr_aret {a b : Nat} {x : Int} (hd : decode M.2.1 pc = .ok (.areturn, 1)) (ht : M.2.2.2.2 = 4) (hp : Post (some (sv_r a b x)) h) : V_ g d M pc ls [sv_r a b x] h Post := by
  intro p e R s m args below meth c cells slots QQ C hr H locs lsA oL oS oH hP hS hl
  exact hr pc lsA H locs (some (sv_r a b x)) h hp (fun v hv => by cases hv; exact so_h oS) oH hP hS ⟨ht, hd⟩
/-! a contract out of its body's walk -/
def sm_t (Y : MD_) : Prop := (Y.2.2.2.2 = 0 ∧ Y.2.2.2.1 = none) ∨ (Y.2.2.2.2 = 1 ∧ Y.2.2.2.1 = some .int) ∨ (Y.2.2.2.2 = 2 ∧ Y.2.2.2.1 = some .boolean) ∨ (Y.2.2.2.2 = 3 ∧ Y.2.2.2.1 = some .long) ∨ (Y.2.2.2.2 = 4 ∧ ∃ n, Y.2.2.2.1 = some (.object n))
def sl_e (n : Nat) (as : List SV_) : List (Option SV_) := as.map some ++ List.replicate (n - as.length) none
theorem lg_len1 {as : List SV_} (h1 : ∀ v ∈ as, sv_c v = 1) : (lg_sl (as.map (sv_v g))).length = as.length := by
  induction as with
  | nil => rfl
  | cons v l ih =>
    have e : lg_sl ((v :: l).map (sv_v g)) = .val (sv_v g v) :: lg_sl (l.map (sv_v g)) := by
      simp only [lg_sl, List.map_cons, List.flatMap_cons, sv_ce, h1 v List.mem_cons_self]
      rfl
    rw [e, List.length_cons, ih (fun w hw => h1 w (List.mem_cons_of_mem _ hw)), List.length_cons]
theorem lv_args1 : ∀ {as : List SV_} (i : Nat), (∀ v ∈ as, sv_c v = 1) → lv_args i (as.map (sv_v g)) = sl_v g i (as.map some) := by
  intro as
  induction as with
  | nil => intro i _; rfl
  | cons v l ih =>
    intro i h1
    show (i, sv_v g v) :: lv_args (if (sv_v g v).category = 2 then i + 2 else i + 1) (l.map (sv_v g)) = (i, sv_v g v) :: sl_v g (i + 1) (l.map some)
    rw [sv_ce, h1 v List.mem_cons_self, if_neg (by decide), ih (i + 1) (fun w hw => h1 w (List.mem_cons_of_mem _ hw))]
theorem sl_vapp (l : List (Option SV_)) (n i : Nat) : sl_v g i (l ++ List.replicate n none) = sl_v g i l := by
  induction l generalizing i with
  | nil =>
    rw [List.nil_append]
    induction n generalizing i with
    | zero => rfl
    | succ n ih => exact ih (i + 1)
  | cons a l ih =>
    cases a with
    | none => exact ih (i + 1)
    | some v =>
      show (i, sv_v g v) :: sl_v g (i + 1) (l ++ List.replicate n none) = (i, sv_v g v) :: sl_v g (i + 1) l
      rw [ih (i + 1)]
theorem V_mk {Y : MD_} {as : List SV_} (hy : plainFor Y.1 = true) (hrt : sm_t Y) (hlen : as.length ≤ Y.2.2.1) (h1 : ∀ v ∈ as, sv_c v = 1) (k : V_ g d Y 0 (sl_e Y.2.2.1 as) [] h Post) : Ctr_ g d Y as h Post := by
  intro oA oH
  refine va_MetF (cc := Y.2.1) (maxL := Y.2.2.1) (ret := Y.2.2.2.1) hy rfl ?_
  intro p e s m args below meth c s₁ B hml hv
  obtain ⟨hav, hP, hK⟩ := hv
  have hts := atoms_spec (ws := sm_w Y) B.pre
  have hown : s.vm.findClass Y.1.cls = some m.cls := findClass_of_methodNamed B.named
  have hlocks := B.notSynchronized
  have hret := B.returns
  have hx := B.exec
  have hb := B.bytes
  have C : sc_x g d Y p (headSpec (sm_w Y) (sm_r d)).room s m args c 0 0 := ⟨B.exec, B.bytes, hml, hown, fun w hw => hts w (List.mem_cons_of_mem _ hw), hK, Nat.le_refl _, Nat.le_refl _, Nat.zero_le _, Nat.zero_le _⟩
  have hl := lv_entry (as.map (sv_v g)) (n := Y.2.2.1) (by rw [lg_len1 h1]; exact hlen)
  subst hav
  rw [lg_entry_eq]
  generalize (lg_sl (as.map (sv_v g)) ++ List.replicate (Y.2.2.1 - (lg_sl (as.map (sv_v g))).length) Slot.unset).toArray = lsA at hl ⊢
  rw [lv_args1 0 h1, ← sl_vapp (as.map some) (Y.2.2.1 - as.length) 0] at hl
  refine k p e _ s m _ below meth c 0 0 _ C ?_ s.heap [] lsA ?_ (fun v hv => by cases hv) oH hP va_S.rf hl
  · intro pc lsA H locs r h' hpost hok hok2 hP' hS ht
    have hq : ∀ t : State, t.heap = H → s.WarmedH t.vm → sm_Q g Post (as.map (sv_v g)).toArray s (.returned (r.map (sv_v g))) t := fun t ht hW => ⟨⟨r, h', rfl, hpost, hok, hok2, by rw [ht]; exact hP'⟩, hS.F ht⟩
    match r, ht with
    | none, ht =>
      have hr0 : meth.sig.returnType = none := by
        rcases hrt with z | z | z | z | z
        · rw [hret, z.2]
        all_goals exact absurd (ht.1.symm.trans z.1) (by decide)
      exact W.vret hx hb hr0 hq hS.2.2 ht.2
    | some (.inl x), ht =>
      rcases ht.2 with hh | ⟨hh, hx01⟩
      · have hr0 : meth.sig.returnType = some .int := by
          rcases hrt with z | z | z | z | z
          · exact absurd (hh.symm.trans z.1) (by decide)
          · rw [hret, z.2]
          all_goals exact absurd (hh.symm.trans z.1) (by decide)
        exact W.iret hx hb hr0 hq hS.2.2 ht.1
      · have hr0 : meth.sig.returnType = some .boolean := by
          rcases hrt with z | z | z | z | z
          · exact absurd (hh.symm.trans z.1) (by decide)
          · exact absurd (hh.symm.trans z.1) (by decide)
          · rw [hret, z.2]
          all_goals exact absurd (hh.symm.trans z.1) (by decide)
        exact W.zret hx hb hr0 (by rcases hx01 with rfl | rfl <;> decide) hq hS.2.2 ht.1
    | some (.inr (.inl x)), ht =>
      have hr0 : meth.sig.returnType = some .long := by
        rcases hrt with z | z | z | z | z
        · exact absurd (ht.1.symm.trans z.1) (by decide)
        · exact absurd (ht.1.symm.trans z.1) (by decide)
        · exact absurd (ht.1.symm.trans z.1) (by decide)
        · rw [hret, z.2]
        · exact absurd (ht.1.symm.trans z.1) (by decide)
      exact W.lret hx hb hr0 hq hS.2.2 ht.2
    | some (.inr (.inr ((a, b), x))), ht =>
      have hr0 : ∃ n, meth.sig.returnType = some (.object n) := by
        rcases hrt with z | z | z | z | z
        · exact absurd (ht.1.symm.trans z.1) (by decide)
        · exact absurd (ht.1.symm.trans z.1) (by decide)
        · exact absurd (ht.1.symm.trans z.1) (by decide)
        · exact absurd (ht.1.symm.trans z.1) (by decide)
        · obtain ⟨n, hn⟩ := z.2
          exact ⟨n, by rw [hret, hn]⟩
      obtain ⟨n, hr0⟩ := hr0
      exact W.aret hx hb hr0 (Or.inl ⟨n, rfl⟩) (Or.inr ⟨_, rfl⟩) hq hS.2.2 ht.2
  · intro v hv
    unfold sl_e at hv
    rcases List.mem_append.mp hv with z | z
    · obtain ⟨w2, hw2, e2⟩ := List.mem_map.mp z
      have e3 : w2 = v := Option.some.inj e2
      exact e3 ▸ oA w2 hw2
    · exact absurd (List.eq_of_mem_replicate z) (by simp)
/-- weaker ends -/
theorem Ctr_imp {Y : MD_} {as : List SV_} {Post2 : Option SV_ → SH_ → Prop} (k : Ctr_ g d Y as h Post) (hi : ∀ r h', Post r h' → Post2 r h') : Ctr_ g d Y as h Post2 := by
  intro oA oH p e ha hc hk s m args below hf hap hp hK
  obtain ⟨n, o, h1, h2, h3, ⟨⟨r, h', q1, q2, q3⟩, q4⟩, q5⟩ := k oA oH p e ha hc hk s m args below hf hap hp hK
  exact ⟨n, o, h1, h2, h3, ⟨⟨r, h', q1, hi r h' q2, q3⟩, q4⟩, q5⟩
end VC_
end
section
/-! method descriptors; links of fields, methods, constants, by their places in the tables -/
theorem tb_g : ∀ w ∈ lw_g, (w.onTables && w.keeps) = true ∨ ∃ ty, w = .arrayClass ty := fun w hw => good_of_word (lw_gg w hw)
def sm_m (Y : MD_) (c : Nat) : Prop := Cond.code Y.1 Y.2.1 Y.2.2.1 Y.2.2.2.1 ∈ lw_g ∧ Cond.instanceMethod Y.1 ∈ lw_g ∧ Cond.selects Y.1.cls Y.1 Y.1 ∈ lw_g ∧ Cond.initialized Y.1.cls ∈ lw_g ∧ (Y.1.cls ≠ "java/lang/invoke/MethodHandle" ∧ Y.1.cls ≠ "java/lang/invoke/VarHandle") ∧ Y.2.2.1 ≤ 45 ∧ ∃ T N, vwCl[c]? = some (Y.1.cls, T, N)
def sm_ms (Y : MD_) : Prop := Cond.code Y.1 Y.2.1 Y.2.2.1 Y.2.2.2.1 ∈ lw_g ∧ Cond.static Y.1 ∈ lw_g ∧ Cond.initialized Y.1.cls ∈ lw_g ∧ (Y.1.cls ≠ "java/lang/invoke/MethodHandle" ∧ Y.1.cls ≠ "java/lang/invoke/VarHandle") ∧ Y.2.2.1 ≤ 45
theorem sm_wg {Y : MD_} (hc : Cond.code Y.1 Y.2.1 Y.2.2.1 Y.2.2.2.1 ∈ lw_g) : ∀ w ∈ sm_w Y, w ∈ lw_g := fun w hw => (List.mem_cons.mp hw).elim (fun e => e ▸ hc) id
theorem sm_vk {own : String} {idx c n : Nat} {Y : MD_} (k : sm_m Y c) (hl : Cond.methodLink own idx Y.1 ∈ lw_g) (hp : (parseMethodDescriptor Y.1.desc).map (fun d => d.parameters.length) = some n) : sm_V own idx Y c n := by
  obtain ⟨k1, k2, k3, k4, k5, k6, k7⟩ := k
  refine ⟨fun w hw => ?_, k5.1, k5.2, hp, k6, k7⟩
  have hm : w ∈ lw_g := by
    unfold wsV at hw
    rcases List.mem_append.mp hw with z | z
    · simp only [List.mem_cons, List.not_mem_nil, or_false] at z
      rcases z with rfl | rfl | rfl | rfl
      · exact hl
      · exact k2
      · exact k3
      · exact k4
    · exact sm_wg k1 w z
  exact ⟨hm, tb_g w hm⟩
theorem sm_sk {own : String} {idx n : Nat} {Y : MD_} (k : sm_ms Y) (hl : Cond.methodLink own idx Y.1 ∈ lw_g) (hp : (parseMethodDescriptor Y.1.desc).map (fun d => d.parameters.length) = some n) : sm_S own idx Y n := by
  obtain ⟨k1, k2, k3, k5, k6⟩ := k
  refine ⟨fun w hw => ?_, k5.1, k5.2, hp, k6⟩
  have hm : w ∈ lw_g := by
    unfold va_wsS at hw
    rcases List.mem_append.mp hw with z | z
    · simp only [List.mem_cons, List.not_mem_nil, or_false] at z
      rcases z with rfl | rfl | rfl
      · exact hl
      · exact k2
      · exact k3
    · exact sm_wg k1 w z
  exact ⟨hm, tb_g w hm⟩
abbrev mX0_kept : MD_ := (yX0_kept, cX0_kept, 1, some .int, 1)
abbrev mX0_clear : MD_ := (yX0_clear, cX0_clear, 1, none, 0)
abbrev mX0_keepAhead : MD_ := (yX0_keepAhead, cX0_keepAhead, 3, none, 0)
abbrev mX0_undoLatest : MD_ := (yX0_undoLatest, cX0_undoLatest, 3, none, 0)
abbrev mX1_answer : MD_ := (yX1_answer, cX1_answer, 3, some .int, 1)
abbrev mX1_traceAt : MD_ := (yX1_traceAt, cX1_traceAt, 2, some .int, 1)
abbrev mX1_sizeOf : MD_ := (yX1_sizeOf, cX1_sizeOf, 3, some .int, 1)
abbrev mX1_markOf : MD_ := (yX1_markOf, cX1_markOf, 3, some .int, 1)
abbrev mX1_nearestBody : MD_ := (yX1_nearestBody, cX1_nearestBody, 4, some .int, 1)
abbrev mX1_run : MD_ := (yX1_run, cX1_run, 5, some .int, 1)
abbrev mX1_leaveTrace : MD_ := (yX1_leaveTrace, cX1_leaveTrace, 2, none, 0)
abbrev mX2_mindOf : MD_ := (yX2_mindOf, cX2_mindOf, 2, some (.object "NodBets$Mind"), 4)
abbrev mX2_nodsNow : MD_ := (yX2_nodsNow, cX2_nodsNow, 6, some .int, 1)
abbrev mX2_seekOrder : MD_ := (yX2_seekOrder, cX2_seekOrder, 3, none, 0)
abbrev mX2_bestNods : MD_ := (yX2_bestNods, cX2_bestNods, 1, some .int, 1)
abbrev mX2_bestAt : MD_ := (yX2_bestAt, cX2_bestAt, 2, some .int, 1)
abbrev mX2_seekOrderFrom : MD_ := (yX2_seekOrderFrom, cX2_seekOrderFrom, 6, none, 0)
abbrev mX2_keepBest : MD_ := (yX2_keepBest, cX2_keepBest, 4, none, 0)
abbrev mX2_tryNext : MD_ := (yX2_tryNext, cX2_tryNext, 3, some .boolean, 2)
abbrev mX2_fewestAhead : MD_ := (yX2_fewestAhead, cX2_fewestAhead, 6, some .int, 1)
abbrev mX2_firstAhead : MD_ := (yX2_firstAhead, cX2_firstAhead, 1, some .int, 1)
abbrev mX2_comesInFrom : MD_ := (yX2_comesInFrom, cX2_comesInFrom, 6, some .boolean, 2)
abbrev mX2_deadLies : MD_ := (yX2_deadLies, cX2_deadLies, 3, some .int, 1)
abbrev mX2_deadFrom : MD_ := (yX2_deadFrom, cX2_deadFrom, 6, some .int, 1)
abbrev mX2_helpEachOther : MD_ := (yX2_helpEachOther, cX2_helpEachOther, 4, some .boolean, 2)
abbrev mX2_bringsIn : MD_ := (yX2_bringsIn, cX2_bringsIn, 3, some .boolean, 2)
abbrev mX2_takeTelling : MD_ := (yX2_takeTelling, cX2_takeTelling, 7, some .boolean, 2)
abbrev mX2_goesSo : MD_ := (yX2_goesSo, cX2_goesSo, 7, some .boolean, 2)
abbrev mX2_waysToNod : MD_ := (yX2_waysToNod, cX2_waysToNod, 4, some .int, 1)
abbrev mX2_waysInAll : MD_ := (yX2_waysInAll, cX2_waysInAll, 3, some .int, 1)
abbrev mX2_waysFrom : MD_ := (yX2_waysFrom, cX2_waysFrom, 7, some .int, 1)
abbrev mX3_isKind : MD_ := (yX3_isKind, cX3_isKind, 1, some .boolean, 2)
abbrev mX3_isOne : MD_ := (yX3_isOne, cX3_isOne, 4, some .boolean, 2)
abbrev mX3_above : MD_ := (yX3_above, cX3_above, 1, some .int, 1)
abbrev mX3_ofLetter : MD_ := (yX3_ofLetter, cX3_ofLetter, 1, some .int, 1)
abbrev mX4_enter : MD_ := (yX4_enter, cX4_enter, 4, none, 0)
abbrev mX4_become : MD_ := (yX4_become, cX4_become, 3, none, 0)
abbrev mX4_needOf : MD_ := (yX4_needOf, cX4_needOf, 5, some .int, 1)
abbrev mX4_wouldNod : MD_ := (yX4_wouldNod, cX4_wouldNod, 3, some .boolean, 2)
abbrev mX4_hear : MD_ := (yX4_hear, cX4_hear, 4, some .boolean, 2)
abbrev mX4_hearAs : MD_ := (yX4_hearAs, cX4_hearAs, 4, none, 0)
abbrev mX4_dine : MD_ := (yX4_dine, cX4_dine, 1, none, 0)
abbrev mX4_undoubtedNeed : MD_ := (yX4_undoubtedNeed, cX4_undoubtedNeed, 4, some .int, 1)
abbrev mX4_proofNeed : MD_ := (yX4_proofNeed, cX4_proofNeed, 2, some .int, 1)
abbrev mX5_isFull : MD_ := (yX5_isFull, cX5_isFull, 1, some .boolean, 2)
abbrev mX5_append : MD_ := (yX5_append, cX5_append, 2, some .int, 1)
abbrev mX5_length : MD_ := (yX5_length, cX5_length, 1, some .int, 1)
abbrev mX5_faultPlace : MD_ := (yX5_faultPlace, cX5_faultPlace, 1, some .int, 1)
abbrev mX5_latestFault : MD_ := (yX5_latestFault, cX5_latestFault, 1, some .int, 1)
abbrev mX5_readInto : MD_ := (yX5_readInto, cX5_readInto, 3, some .boolean, 2)
abbrev mX5_readLaw : MD_ := (yX5_readLaw, cX5_readLaw, 3, some .boolean, 2)
abbrev mX5_readLies : MD_ := (yX5_readLies, cX5_readLies, 6, some .boolean, 2)
abbrev mX5_readStrangers : MD_ := (yX5_readStrangers, cX5_readStrangers, 5, some .boolean, 2)
abbrev mX5_readNumber : MD_ := (yX5_readNumber, cX5_readNumber, 5, some .int, 1)
abbrev mX5_passed : MD_ := (yX5_passed, cX5_passed, 2, some .boolean, 2)
abbrev mX5_refuse : MD_ := (yX5_refuse, cX5_refuse, 2, some .boolean, 2)
abbrev mX5_here : MD_ := (yX5_here, cX5_here, 1, some .int, 1)
abbrev mX5_byteAt : MD_ := (yX5_byteAt, cX5_byteAt, 2, some .int, 1)
abbrev mX5_isFigure : MD_ := (yX5_isFigure, cX5_isFigure, 1, some .boolean, 2)
abbrev mX6_isRow : MD_ := (yX6_isRow, cX6_isRow, 1, some .boolean, 2)
abbrev mX6_isLane : MD_ := (yX6_isLane, cX6_isLane, 1, some .boolean, 2)
abbrev mX6_isMissing : MD_ := (yX6_isMissing, cX6_isMissing, 2, some .boolean, 2)
abbrev mX6_laneOf : MD_ := (yX6_laneOf, cX6_laneOf, 2, some .int, 1)
abbrev mX6_hasPlaces : MD_ := (yX6_hasPlaces, cX6_hasPlaces, 4, some .boolean, 2)
abbrev mX6_make : MD_ := (yX6_make, cX6_make, 5, none, 0)
abbrev mX6_put : MD_ := (yX6_put, cX6_put, 5, some .int, 1)
abbrev mX6_itemAt : MD_ := (yX6_itemAt, cX6_itemAt, 3, some .int, 1)
abbrev mX6_move : MD_ := (yX6_move, cX6_move, 6, none, 0)
abbrev mX6_remove : MD_ := (yX6_remove, cX6_remove, 3, some .int, 1)
abbrev mX6_present : MD_ := (yX6_present, cX6_present, 3, some .int, 1)
abbrev mX6_cutToLane : MD_ := (yX6_cutToLane, cX6_cutToLane, 2, some .int, 1)
abbrev mX7_stands : MD_ := (yX7_stands, cX7_stands, 1, some .boolean, 2)
abbrev mX7_hasLie : MD_ := (yX7_hasLie, cX7_hasLie, 2, some .boolean, 2)
abbrev mX7_hasStranger : MD_ := (yX7_hasStranger, cX7_hasStranger, 2, some .boolean, 2)
abbrev mX7_isSetOfLies : MD_ := (yX7_isSetOfLies, cX7_isSetOfLies, 2, some .boolean, 2)
abbrev mX7_wasTold : MD_ := (yX7_wasTold, cX7_wasTold, 3, some .boolean, 2)
abbrev mX7_untold : MD_ := (yX7_untold, cX7_untold, 2, some .int, 1)
abbrev mX7_strangersWith : MD_ := (yX7_strangersWith, cX7_strangersWith, 5, some .int, 1)
abbrev mX7_begin : MD_ := (yX7_begin, cX7_begin, 2, none, 0)
abbrev mX7_addLie : MD_ := (yX7_addLie, cX7_addLie, 4, none, 0)
abbrev mX7_addStranger : MD_ := (yX7_addStranger, cX7_addStranger, 3, none, 0)
abbrev mX7_become : MD_ := (yX7_become, cX7_become, 3, none, 0)
abbrev mX7_noteTold : MD_ := (yX7_noteTold, cX7_noteTold, 5, none, 0)
abbrev mX7_noteSupper : MD_ := (yX7_noteSupper, cX7_noteSupper, 3, none, 0)
abbrev mX7_noteForgotten : MD_ := (yX7_noteForgotten, cX7_noteForgotten, 3, none, 0)
abbrev mX8_row : MD_ := (yX8_row, cX8_row, 4, some .int, 1)
abbrev mX8_set : MD_ := (yX8_set, cX8_set, 4, some .int, 1)
abbrev mX8_copy : MD_ := (yX8_copy, cX8_copy, 6, some .int, 1)
abbrev mX8_drop : MD_ := (yX8_drop, cX8_drop, 2, some .int, 1)
abbrev mX8_feed : MD_ := (yX8_feed, cX8_feed, 2, some .int, 1)
abbrev mX8_town : MD_ := (yX8_town, cX8_town, 1, some .int, 1)
abbrev mX8_fault : MD_ := (yX8_fault, cX8_fault, 1, some .int, 1)
abbrev mX8_tell : MD_ := (yX8_tell, cX8_tell, 5, some .int, 1)
abbrev mX8_supper : MD_ := (yX8_supper, cX8_supper, 3, some .int, 1)
abbrev mX8_forget : MD_ := (yX8_forget, cX8_forget, 3, some .int, 1)
abbrev mX8_undo : MD_ := (yX8_undo, cX8_undo, 1, some .int, 1)
abbrev mX8_lie : MD_ := (yX8_lie, cX8_lie, 3, some .int, 1)
abbrev mX8_stranger : MD_ := (yX8_stranger, cX8_stranger, 3, some .int, 1)
abbrev mX8_need : MD_ := (yX8_need, cX8_need, 3, some .int, 1)
abbrev mX8_nods : MD_ := (yX8_nods, cX8_nods, 2, some .int, 1)
abbrev mX8_order : MD_ := (yX8_order, cX8_order, 4, some .int, 1)
abbrev mX8_comesIn : MD_ := (yX8_comesIn, cX8_comesIn, 5, some .int, 1)
abbrev mX8_dead : MD_ := (yX8_dead, cX8_dead, 2, some .int, 1)
abbrev mX8_help : MD_ := (yX8_help, cX8_help, 7, some .int, 1)
abbrev mX8_suppers : MD_ := (yX8_suppers, cX8_suppers, 5, some .int, 1)
abbrev mX8_doubted : MD_ := (yX8_doubted, cX8_doubted, 10, some .int, 1)
abbrev mX8_trusted : MD_ := (yX8_trusted, cX8_trusted, 8, some .int, 1)
abbrev mX8_who : MD_ := (yX8_who, cX8_who, 7, some .int, 1)
abbrev mX8_odds : MD_ := (yX8_odds, cX8_odds, 12, some .int, 1)
abbrev mX8_image : MD_ := (yX8_image, cX8_image, 2, some .int, 1)
abbrev mX8_restore : MD_ := (yX8_restore, cX8_restore, 2, some .int, 1)
abbrev mX8_kind : MD_ := (yX8_kind, cX8_kind, 2, some .int, 1)
abbrev mX8_as : MD_ := (yX8_as, cX8_as, 3, some .int, 1)
abbrev mX8_ask : MD_ := (yX8_ask, cX8_ask, 3, some .int, 1)
abbrev mX8_trace : MD_ := (yX8_trace, cX8_trace, 2, some .int, 1)
abbrev mX8_count : MD_ := (yX8_count, cX8_count, 2, some .int, 1)
abbrev mX8_status : MD_ := (yX8_status, cX8_status, 1, some .int, 1)
abbrev mX8_found : MD_ := (yX8_found, cX8_found, 2, some .int, 1)
abbrev mX8_unfound : MD_ := (yX8_unfound, cX8_unfound, 2, some .int, 1)
abbrev mX8_isTelling : MD_ := (yX8_isTelling, cX8_isTelling, 2, some .boolean, 2)
abbrev mX8_takeTelling : MD_ := (yX8_takeTelling, cX8_takeTelling, 4, some .int, 1)
abbrev mX8_commonDivisor : MD_ := (yX8_commonDivisor, cX8_commonDivisor, 6, some .int, 1)
abbrev mX9_in : MD_ := (yX9_in, cX9_in, 3, some .boolean, 2)
abbrev mX9_has : MD_ := (yX9_has, cX9_has, 2, some .boolean, 2)
abbrev mX9_ones : MD_ := (yX9_ones, cX9_ones, 3, some .int, 1)
abbrev mX9_found : MD_ := (yX9_found, cX9_found, 2, some .int, 1)
abbrev mX9_well : MD_ := (yX9_well, cX9_well, 2, some .int, 1)
abbrev mX9_copies : MD_ := (yX9_copies, cX9_copies, 5, none, 0)
abbrev mX9_isRow : MD_ := (yX9_isRow, cX9_isRow, 1, some .boolean, 2)
abbrev mX9_isMissing : MD_ := (yX9_isMissing, cX9_isMissing, 2, some .boolean, 2)
abbrev mX9_cut : MD_ := (yX9_cut, cX9_cut, 2, some .int, 1)
abbrev mX9_row : MD_ := (yX9_row, cX9_row, 5, some .int, 1)
abbrev mX9_set : MD_ := (yX9_set, cX9_set, 4, some .int, 1)
abbrev mX9_isPart : MD_ := (yX9_isPart, cX9_isPart, 4, some .boolean, 2)
abbrev mX9_copy : MD_ := (yX9_copy, cX9_copy, 7, some .int, 1)
abbrev mX9_drop : MD_ := (yX9_drop, cX9_drop, 2, some .int, 1)
abbrev mX9_feed : MD_ := (yX9_feed, cX9_feed, 2, some .int, 1)
abbrev mX9_byteAt : MD_ := (yX9_byteAt, cX9_byteAt, 2, some .int, 1)
abbrev mX9_advances : MD_ := (yX9_advances, cX9_advances, 2, none, 0)
abbrev mX9_isWell : MD_ := (yX9_isWell, cX9_isWell, 1, some .boolean, 2)
abbrev mX9_takes : MD_ := (yX9_takes, cX9_takes, 4, some .int, 1)
abbrev mX9_figure : MD_ := (yX9_figure, cX9_figure, 3, some .int, 1)
abbrev mX9_kindOf : MD_ := (yX9_kindOf, cX9_kindOf, 1, some .int, 1)
abbrev mX9_next : MD_ := (yX9_next, cX9_next, 3, some .int, 1)
abbrev mX9_readsLie : MD_ := (yX9_readsLie, cX9_readsLie, 5, none, 0)
abbrev mX9_readsStranger : MD_ := (yX9_readsStranger, cX9_readsStranger, 4, none, 0)
abbrev mX9_town : MD_ := (yX9_town, cX9_town, 2, some .int, 1)
abbrev mX9_fault : MD_ := (yX9_fault, cX9_fault, 1, some .int, 1)
abbrev mX9_isTown : MD_ := (yX9_isTown, cX9_isTown, 1, some .boolean, 2)
abbrev mX9_isLie : MD_ := (yX9_isLie, cX9_isLie, 2, some .boolean, 2)
abbrev mX9_isStranger : MD_ := (yX9_isStranger, cX9_isStranger, 2, some .boolean, 2)
abbrev mX9_tries : MD_ := (yX9_tries, cX9_tries, 4, none, 0)
abbrev mX9_needs : MD_ := (yX9_needs, cX9_needs, 6, some .int, 1)
abbrev mX9_wouldNod : MD_ := (yX9_wouldNod, cX9_wouldNod, 2, some .boolean, 2)
abbrev mX9_hears : MD_ := (yX9_hears, cX9_hears, 4, none, 0)
abbrev mX9_notes : MD_ := (yX9_notes, cX9_notes, 2, none, 0)
abbrev mX9_wasTold : MD_ := (yX9_wasTold, cX9_wasTold, 3, some .boolean, 2)
abbrev mX9_tell : MD_ := (yX9_tell, cX9_tell, 5, some .int, 1)
abbrev mX9_supper : MD_ := (yX9_supper, cX9_supper, 3, some .int, 1)
abbrev mX9_forget : MD_ := (yX9_forget, cX9_forget, 4, some .int, 1)
abbrev mX9_undo : MD_ := (yX9_undo, cX9_undo, 1, some .int, 1)
abbrev mX9_strangersWith : MD_ := (yX9_strangersWith, cX9_strangersWith, 5, some .int, 1)
abbrev mX9_noddedAt : MD_ := (yX9_noddedAt, cX9_noddedAt, 2, some .int, 1)
abbrev mX9_lie : MD_ := (yX9_lie, cX9_lie, 3, some .int, 1)
abbrev mX9_stranger : MD_ := (yX9_stranger, cX9_stranger, 3, some .int, 1)
abbrev mX9_need : MD_ := (yX9_need, cX9_need, 3, some .int, 1)
abbrev mX9_untold : MD_ := (yX9_untold, cX9_untold, 2, some .int, 1)
abbrev mX9_nods : MD_ := (yX9_nods, cX9_nods, 4, some .int, 1)
abbrev mX9_nodsAt : MD_ := (yX9_nodsAt, cX9_nodsAt, 6, some .int, 1)
abbrev mX9_goesOn : MD_ := (yX9_goesOn, cX9_goesOn, 6, some .boolean, 2)
abbrev mX9_fills : MD_ := (yX9_fills, cX9_fills, 8, none, 0)
abbrev mX9_order : MD_ := (yX9_order, cX9_order, 8, some .int, 1)
abbrev mX9_aheadOf : MD_ := (yX9_aheadOf, cX9_aheadOf, 7, some .int, 1)
abbrev mX9_comesIn : MD_ := (yX9_comesIn, cX9_comesIn, 5, some .int, 1)
abbrev mX9_dead : MD_ := (yX9_dead, cX9_dead, 4, some .int, 1)
abbrev mX9_helps : MD_ := (yX9_helps, cX9_helps, 5, some .boolean, 2)
abbrev mX9_help : MD_ := (yX9_help, cX9_help, 9, some .int, 1)
abbrev mX9_suppers : MD_ := (yX9_suppers, cX9_suppers, 4, some .int, 1)
abbrev mX9_wrongIn : MD_ := (yX9_wrongIn, cX9_wrongIn, 6, some .int, 1)
abbrev mX9_goesSo : MD_ := (yX9_goesSo, cX9_goesSo, 7, some .boolean, 2)
abbrev mX9_doubted : MD_ := (yX9_doubted, cX9_doubted, 11, some .int, 1)
abbrev mX9_trusted : MD_ := (yX9_trusted, cX9_trusted, 8, some .int, 1)
abbrev mX9_who : MD_ := (yX9_who, cX9_who, 7, some .int, 1)
abbrev mX9_goesBy : MD_ := (yX9_goesBy, cX9_goesBy, 12, some .long, 3)
abbrev mX9_odds : MD_ := (yX9_odds, cX9_odds, 19, some .int, 1)
abbrev mX9_image : MD_ := (yX9_image, cX9_image, 2, some .int, 1)
abbrev mX9_restore : MD_ := (yX9_restore, cX9_restore, 2, some .int, 1)
abbrev mX9_kindIn : MD_ := (yX9_kindIn, cX9_kindIn, 2, some .int, 1)
abbrev mX9_kind : MD_ := (yX9_kind, cX9_kind, 2, some .int, 1)
abbrev mX9_as : MD_ := (yX9_as, cX9_as, 5, some .int, 1)
abbrev mX9_begins : MD_ := (yX9_begins, cX9_begins, 2, none, 0)
abbrev mX9_easyMark : MD_ := (yX9_easyMark, cX9_easyMark, 4, some .int, 1)
abbrev mX9_proofSize : MD_ := (yX9_proofSize, cX9_proofSize, 4, some .int, 1)
abbrev mX9_easySize : MD_ := (yX9_easySize, cX9_easySize, 4, some .int, 1)
abbrev mX9_proofMark : MD_ := (yX9_proofMark, cX9_proofMark, 2, some .int, 1)
abbrev mX9_ask : MD_ := (yX9_ask, cX9_ask, 4, some .int, 1)
abbrev mX9_trace : MD_ := (yX9_trace, cX9_trace, 2, some .int, 1)
abbrev mX9_count : MD_ := (yX9_count, cX9_count, 4, some .int, 1)
abbrev mX9_status : MD_ := (yX9_status, cX9_status, 1, some .int, 1)
abbrev mJ6_bitCount_0f7a4 : MD_ := (yJ6_bitCount_0f7a4, cJ6_bitCount_0f7a4, 1, some .int, 1)
abbrev mJ9_max_7cf53 : MD_ := (yJ9_max_7cf53, cJ9_max_7cf53, 2, some .int, 1)
abbrev mJ9_min_7cf53 : MD_ := (yJ9_min_7cf53, cJ9_min_7cf53, 2, some .int, 1)
theorem in_X0 : ∀ w ∈ u_ws RX0 TX0 7, w ∈ lw_g := by decide +kernel
theorem in_X1 : ∀ w ∈ u_ws RX1 TX1 3, w ∈ lw_g := by decide +kernel
theorem in_X2 : ∀ w ∈ u_ws RX2 TX2 9, w ∈ lw_g := by decide +kernel
theorem in_X4 : ∀ w ∈ u_ws RX4 TX4 4, w ∈ lw_g := by decide +kernel
theorem in_X5 : ∀ w ∈ u_ws RX5 TX5 4, w ∈ lw_g := by decide +kernel
theorem in_X6 : ∀ w ∈ u_ws RX6 TX6 3, w ∈ lw_g := by decide +kernel
theorem in_X7 : ∀ w ∈ u_ws RX7 TX7 11, w ∈ lw_g := by decide +kernel
theorem in_X8 : ∀ w ∈ u_ws RX8 TX8 9, w ∈ lw_g := by decide +kernel
theorem in_X9 : ∀ w ∈ u_ws RX9 TX9 28, w ∈ lw_g := by decide +kernel
theorem y_X0_0 : ∀ i : Nat, i < 83 → sl_y[i]? = some (4, 0) → (0 : Nat) ≠ 5 ∧ 0 ≤ (i : Int) + 1 ∧ sl_y[((i : Int) + 1).toNat]? = some (0, 24) := by decide +kernel
theorem y_X0_1 : ∀ i : Nat, i < 83 → sl_y[i]? = some (4, 0) → (0 : Nat) ≠ 5 ∧ 0 ≤ (i : Int) + 2 ∧ sl_y[((i : Int) + 2).toNat]? = some (0, 24) := by decide +kernel
theorem y_X0_2 : ∀ i : Nat, i < 83 → sl_y[i]? = some (4, 0) → (0 : Nat) ≠ 5 ∧ 0 ≤ (i : Int) + 3 ∧ sl_y[((i : Int) + 3).toNat]? = some (0, 24) := by decide +kernel
theorem y_X0_3 : ∀ i : Nat, i < 83 → sl_y[i]? = some (4, 0) → (0 : Nat) ≠ 5 ∧ 0 ≤ (i : Int) + 4 ∧ sl_y[((i : Int) + 4).toNat]? = some (0, 24) := by decide +kernel
theorem y_X0_4 : ∀ i : Nat, i < 83 → sl_y[i]? = some (4, 0) → (0 : Nat) ≠ 5 ∧ 0 ≤ (i : Int) + 5 ∧ sl_y[((i : Int) + 5).toNat]? = some (0, 24) := by decide +kernel
theorem y_X1_1 : ∀ i : Nat, i < 83 → sl_y[i]? = some (4, 1) → (0 : Nat) ≠ 5 ∧ 0 ≤ (i : Int) + 1 ∧ sl_y[((i : Int) + 1).toNat]? = some (0, 16) := by decide +kernel
theorem y_X2_1 : ∀ i : Nat, i < 83 → sl_y[i]? = some (4, 2) → (2 : Nat) ≠ 5 ∧ 0 ≤ (i : Int) + 1 ∧ sl_y[((i : Int) + 1).toNat]? = some (2, 7) := by decide +kernel
theorem y_X2_2 : ∀ i : Nat, i < 83 → sl_y[i]? = some (4, 2) → (0 : Nat) ≠ 5 ∧ 0 ≤ (i : Int) + 2 ∧ sl_y[((i : Int) + 2).toNat]? = some (0, 6) := by decide +kernel
theorem y_X2_3 : ∀ i : Nat, i < 83 → sl_y[i]? = some (4, 2) → (0 : Nat) ≠ 5 ∧ 0 ≤ (i : Int) + 3 ∧ sl_y[((i : Int) + 3).toNat]? = some (0, 6) := by decide +kernel
theorem y_X2_6 : ∀ i : Nat, i < 83 → sl_y[i]? = some (4, 2) → (0 : Nat) ≠ 5 ∧ 0 ≤ (i : Int) + 4 ∧ sl_y[((i : Int) + 4).toNat]? = some (0, 6) := by decide +kernel
theorem y_X2_7 : ∀ i : Nat, i < 83 → sl_y[i]? = some (4, 2) → (0 : Nat) ≠ 5 ∧ 0 ≤ (i : Int) + 5 ∧ sl_y[((i : Int) + 5).toNat]? = some (0, 6) := by decide +kernel
theorem y_X4_3 : ∀ i : Nat, i < 83 → sl_y[i]? = some (4, 3) → (0 : Nat) ≠ 5 ∧ 0 ≤ (i : Int) + 1 ∧ sl_y[((i : Int) + 1).toNat]? = some (0, 4) := by decide +kernel
theorem y_X5_0 : ∀ i : Nat, i < 83 → sl_y[i]? = some (4, 4) → (0 : Nat) ≠ 5 ∧ 0 ≤ (i : Int) + 1 ∧ sl_y[((i : Int) + 1).toNat]? = some (0, 120) := by decide +kernel
theorem y_X6_0 : ∀ i : Nat, i < 83 → sl_y[i]? = some (4, 5) → (0 : Nat) ≠ 5 ∧ 0 ≤ (i : Int) + 1 ∧ sl_y[((i : Int) + 1).toNat]? = some (0, 8) := by decide +kernel
theorem y_X6_1 : ∀ i : Nat, i < 83 → sl_y[i]? = some (4, 5) → (0 : Nat) ≠ 5 ∧ 0 ≤ (i : Int) + 2 ∧ sl_y[((i : Int) + 2).toNat]? = some (0, 8) := by decide +kernel
theorem y_X6_2 : ∀ i : Nat, i < 83 → sl_y[i]? = some (4, 5) → (0 : Nat) ≠ 5 ∧ 0 ≤ (i : Int) + 3 ∧ sl_y[((i : Int) + 3).toNat]? = some (0, 320) := by decide +kernel
theorem y_X7_4 : ∀ i : Nat, i < 83 → sl_y[i]? = some (4, 6) → (0 : Nat) ≠ 5 ∧ 0 ≤ (i : Int) + 1 ∧ sl_y[((i : Int) + 1).toNat]? = some (0, 6) := by decide +kernel
theorem y_X7_5 : ∀ i : Nat, i < 83 → sl_y[i]? = some (4, 6) → (0 : Nat) ≠ 5 ∧ 0 ≤ (i : Int) + 2 ∧ sl_y[((i : Int) + 2).toNat]? = some (0, 6) := by decide +kernel
theorem y_X7_6 : ∀ i : Nat, i < 83 → sl_y[i]? = some (4, 6) → (0 : Nat) ≠ 5 ∧ 0 ≤ (i : Int) + 3 ∧ sl_y[((i : Int) + 3).toNat]? = some (0, 6) := by decide +kernel
theorem y_X7_7 : ∀ i : Nat, i < 83 → sl_y[i]? = some (4, 6) → (0 : Nat) ≠ 5 ∧ 0 ≤ (i : Int) + 4 ∧ sl_y[((i : Int) + 4).toNat]? = some (0, 4) := by decide +kernel
theorem y_X7_8 : ∀ i : Nat, i < 83 → sl_y[i]? = some (4, 6) → (0 : Nat) ≠ 5 ∧ 0 ≤ (i : Int) + 5 ∧ sl_y[((i : Int) + 5).toNat]? = some (0, 4) := by decide +kernel
theorem y_X7_9 : ∀ i : Nat, i < 83 → sl_y[i]? = some (4, 6) → (0 : Nat) ≠ 5 ∧ 0 ≤ (i : Int) + 6 ∧ sl_y[((i : Int) + 6).toNat]? = some (0, 4) := by decide +kernel
theorem y_X7_10 : ∀ i : Nat, i < 83 → sl_y[i]? = some (4, 6) → (0 : Nat) ≠ 5 ∧ 0 ≤ (i : Int) + 7 ∧ sl_y[((i : Int) + 7).toNat]? = some (0, 4) := by decide +kernel
theorem y_X9_0 : ∀ i : Nat, i < 83 → sl_y[i]? = some (4, 8) → (0 : Nat) ≠ 5 ∧ 0 ≤ (i : Int) + 1 ∧ sl_y[((i : Int) + 1).toNat]? = some (0, 8) := by decide +kernel
theorem y_X9_1 : ∀ i : Nat, i < 83 → sl_y[i]? = some (4, 8) → (0 : Nat) ≠ 5 ∧ 0 ≤ (i : Int) + 2 ∧ sl_y[((i : Int) + 2).toNat]? = some (0, 8) := by decide +kernel
theorem y_X9_2 : ∀ i : Nat, i < 83 → sl_y[i]? = some (4, 8) → (0 : Nat) ≠ 5 ∧ 0 ≤ (i : Int) + 3 ∧ sl_y[((i : Int) + 3).toNat]? = some (0, 320) := by decide +kernel
theorem y_X9_3 : ∀ i : Nat, i < 83 → sl_y[i]? = some (4, 8) → (0 : Nat) ≠ 5 ∧ 0 ≤ (i : Int) + 4 ∧ sl_y[((i : Int) + 4).toNat]? = some (0, 40) := by decide +kernel
theorem y_X9_5 : ∀ i : Nat, i < 83 → sl_y[i]? = some (4, 8) → (0 : Nat) ≠ 5 ∧ 0 ≤ (i : Int) + 5 ∧ sl_y[((i : Int) + 5).toNat]? = some (0, 120) := by decide +kernel
theorem y_X9_13 : ∀ i : Nat, i < 83 → sl_y[i]? = some (4, 8) → (0 : Nat) ≠ 5 ∧ 0 ≤ (i : Int) + 6 ∧ sl_y[((i : Int) + 6).toNat]? = some (0, 38) := by decide +kernel
theorem y_X9_14 : ∀ i : Nat, i < 83 → sl_y[i]? = some (4, 8) → (0 : Nat) ≠ 5 ∧ 0 ≤ (i : Int) + 7 ∧ sl_y[((i : Int) + 7).toNat]? = some (0, 38) := by decide +kernel
theorem y_X9_15 : ∀ i : Nat, i < 83 → sl_y[i]? = some (4, 8) → (0 : Nat) ≠ 5 ∧ 0 ≤ (i : Int) + 8 ∧ sl_y[((i : Int) + 8).toNat]? = some (0, 912) := by decide +kernel
theorem y_X9_17 : ∀ i : Nat, i < 83 → sl_y[i]? = some (4, 8) → (0 : Nat) ≠ 5 ∧ 0 ≤ (i : Int) + 9 ∧ sl_y[((i : Int) + 9).toNat]? = some (0, 76) := by decide +kernel
theorem y_X9_18 : ∀ i : Nat, i < 83 → sl_y[i]? = some (4, 8) → (1 : Nat) ≠ 5 ∧ 0 ≤ (i : Int) + 10 ∧ sl_y[((i : Int) + 10).toNat]? = some (1, 2) := by decide +kernel
theorem y_X9_19 : ∀ i : Nat, i < 83 → sl_y[i]? = some (4, 8) → (0 : Nat) ≠ 5 ∧ 0 ≤ (i : Int) + 11 ∧ sl_y[((i : Int) + 11).toNat]? = some (0, 16) := by decide +kernel
theorem y_X9_24 : ∀ i : Nat, i < 83 → sl_y[i]? = some (4, 8) → (0 : Nat) ≠ 5 ∧ 0 ≤ (i : Int) + 12 ∧ sl_y[((i : Int) + 12).toNat]? = some (0, 4) := by decide +kernel
theorem y_X9_25 : ∀ i : Nat, i < 83 → sl_y[i]? = some (4, 8) → (0 : Nat) ≠ 5 ∧ 0 ≤ (i : Int) + 13 ∧ sl_y[((i : Int) + 13).toNat]? = some (0, 6) := by decide +kernel
theorem y_X9_26 : ∀ i : Nat, i < 83 → sl_y[i]? = some (4, 8) → (0 : Nat) ≠ 5 ∧ 0 ≤ (i : Int) + 14 ∧ sl_y[((i : Int) + 14).toNat]? = some (0, 6) := by decide +kernel
set_option maxRecDepth 100000 in
theorem kX0_kept : sm_m mX0_kept 0 := ⟨(lw_gm 571 rfl rfl), (lw_gm 569 (by decide +kernel) rfl), (lw_gm 570 (by decide +kernel) rfl), (lw_gm 66 (by decide +kernel) rfl), ⟨by decide, by decide⟩, by decide, TX0, 7, rfl⟩
set_option maxRecDepth 100000 in
theorem kX0_clear : sm_m mX0_clear 0 := ⟨(lw_gm 465 rfl rfl), (lw_gm 463 (by decide +kernel) rfl), (lw_gm 464 (by decide +kernel) rfl), (lw_gm 66 (by decide +kernel) rfl), ⟨by decide, by decide⟩, by decide, TX0, 7, rfl⟩
set_option maxRecDepth 100000 in
theorem kX0_keepAhead : sm_m mX0_keepAhead 0 := ⟨(lw_gm 494 rfl rfl), (lw_gm 492 (by decide +kernel) rfl), (lw_gm 493 (by decide +kernel) rfl), (lw_gm 66 (by decide +kernel) rfl), ⟨by decide, by decide⟩, by decide, TX0, 7, rfl⟩
set_option maxRecDepth 100000 in
theorem kX0_undoLatest : sm_m mX0_undoLatest 0 := ⟨(lw_gm 575 rfl rfl), (lw_gm 573 (by decide +kernel) rfl), (lw_gm 574 (by decide +kernel) rfl), (lw_gm 66 (by decide +kernel) rfl), ⟨by decide, by decide⟩, by decide, TX0, 7, rfl⟩
set_option maxRecDepth 100000 in
theorem kX1_answer : sm_m mX1_answer 1 := ⟨(lw_gm 786 rfl rfl), (lw_gm 784 (by decide +kernel) rfl), (lw_gm 785 (by decide +kernel) rfl), (lw_gm 69 (by decide +kernel) rfl), ⟨by decide, by decide⟩, by decide, TX1, 3, rfl⟩
set_option maxRecDepth 100000 in
theorem kX1_traceAt : sm_m mX1_traceAt 1 := ⟨(lw_gm 819 rfl rfl), (lw_gm 817 (by decide +kernel) rfl), (lw_gm 818 (by decide +kernel) rfl), (lw_gm 69 (by decide +kernel) rfl), ⟨by decide, by decide⟩, by decide, TX1, 3, rfl⟩
set_option maxRecDepth 100000 in
theorem kX1_sizeOf : sm_m mX1_sizeOf 1 := ⟨(lw_gm 790 rfl rfl), (lw_gm 789 (by decide +kernel) rfl), (lw_gm 19 (by decide +kernel) rfl), (lw_gm 69 (by decide +kernel) rfl), ⟨by decide, by decide⟩, by decide, TX1, 3, rfl⟩
set_option maxRecDepth 100000 in
theorem kX1_markOf : sm_m mX1_markOf 1 := ⟨(lw_gm 808 rfl rfl), (lw_gm 807 (by decide +kernel) rfl), (lw_gm 22 (by decide +kernel) rfl), (lw_gm 69 (by decide +kernel) rfl), ⟨by decide, by decide⟩, by decide, TX1, 3, rfl⟩
set_option maxRecDepth 100000 in
theorem kX1_nearestBody : sm_ms mX1_nearestBody := ⟨(lw_gm 795 rfl rfl), (lw_gm 794 (by decide +kernel) rfl), (lw_gm 69 (by decide +kernel) rfl), ⟨by decide, by decide⟩, by decide⟩
set_option maxRecDepth 100000 in
theorem kX1_run : sm_m mX1_run 1 := ⟨(lw_gm 800 rfl rfl), (lw_gm 799 (by decide +kernel) rfl), (lw_gm 20 (by decide +kernel) rfl), (lw_gm 69 (by decide +kernel) rfl), ⟨by decide, by decide⟩, by decide, TX1, 3, rfl⟩
set_option maxRecDepth 100000 in
theorem kX1_leaveTrace : sm_m mX1_leaveTrace 1 := ⟨(lw_gm 804 rfl rfl), (lw_gm 803 (by decide +kernel) rfl), (lw_gm 21 (by decide +kernel) rfl), (lw_gm 69 (by decide +kernel) rfl), ⟨by decide, by decide⟩, by decide, TX1, 3, rfl⟩
set_option maxRecDepth 100000 in
theorem kX2_mindOf : sm_m mX2_mindOf 2 := ⟨(lw_gm 501 rfl rfl), (lw_gm 499 (by decide +kernel) rfl), (lw_gm 500 (by decide +kernel) rfl), (lw_gm 67 (by decide +kernel) rfl), ⟨by decide, by decide⟩, by decide, TX2, 9, rfl⟩
set_option maxRecDepth 100000 in
theorem kX2_nodsNow : sm_m mX2_nodsNow 2 := ⟨(lw_gm 600 rfl rfl), (lw_gm 598 (by decide +kernel) rfl), (lw_gm 599 (by decide +kernel) rfl), (lw_gm 67 (by decide +kernel) rfl), ⟨by decide, by decide⟩, by decide, TX2, 9, rfl⟩
set_option maxRecDepth 100000 in
theorem kX2_seekOrder : sm_m mX2_seekOrder 2 := ⟨(lw_gm 618 rfl rfl), (lw_gm 616 (by decide +kernel) rfl), (lw_gm 617 (by decide +kernel) rfl), (lw_gm 67 (by decide +kernel) rfl), ⟨by decide, by decide⟩, by decide, TX2, 9, rfl⟩
set_option maxRecDepth 100000 in
theorem kX2_bestNods : sm_m mX2_bestNods 2 := ⟨(lw_gm 640 rfl rfl), (lw_gm 638 (by decide +kernel) rfl), (lw_gm 639 (by decide +kernel) rfl), (lw_gm 67 (by decide +kernel) rfl), ⟨by decide, by decide⟩, by decide, TX2, 9, rfl⟩
set_option maxRecDepth 100000 in
theorem kX2_bestAt : sm_m mX2_bestAt 2 := ⟨(lw_gm 644 rfl rfl), (lw_gm 642 (by decide +kernel) rfl), (lw_gm 643 (by decide +kernel) rfl), (lw_gm 67 (by decide +kernel) rfl), ⟨by decide, by decide⟩, by decide, TX2, 9, rfl⟩
set_option maxRecDepth 100000 in
theorem kX2_seekOrderFrom : sm_m mX2_seekOrderFrom 2 := ⟨(lw_gm 622 rfl rfl), (lw_gm 621 (by decide +kernel) rfl), (lw_gm 11 (by decide +kernel) rfl), (lw_gm 67 (by decide +kernel) rfl), ⟨by decide, by decide⟩, by decide, TX2, 9, rfl⟩
set_option maxRecDepth 100000 in
theorem kX2_keepBest : sm_m mX2_keepBest 2 := ⟨(lw_gm 627 rfl rfl), (lw_gm 626 (by decide +kernel) rfl), (lw_gm 12 (by decide +kernel) rfl), (lw_gm 67 (by decide +kernel) rfl), ⟨by decide, by decide⟩, by decide, TX2, 9, rfl⟩
set_option maxRecDepth 100000 in
theorem kX2_tryNext : sm_m mX2_tryNext 2 := ⟨(lw_gm 631 rfl rfl), (lw_gm 630 (by decide +kernel) rfl), (lw_gm 13 (by decide +kernel) rfl), (lw_gm 67 (by decide +kernel) rfl), ⟨by decide, by decide⟩, by decide, TX2, 9, rfl⟩
set_option maxRecDepth 100000 in
theorem kX2_fewestAhead : sm_m mX2_fewestAhead 2 := ⟨(lw_gm 653 rfl rfl), (lw_gm 651 (by decide +kernel) rfl), (lw_gm 652 (by decide +kernel) rfl), (lw_gm 67 (by decide +kernel) rfl), ⟨by decide, by decide⟩, by decide, TX2, 9, rfl⟩
set_option maxRecDepth 100000 in
theorem kX2_firstAhead : sm_m mX2_firstAhead 2 := ⟨(lw_gm 661 rfl rfl), (lw_gm 659 (by decide +kernel) rfl), (lw_gm 660 (by decide +kernel) rfl), (lw_gm 67 (by decide +kernel) rfl), ⟨by decide, by decide⟩, by decide, TX2, 9, rfl⟩
set_option maxRecDepth 100000 in
theorem kX2_comesInFrom : sm_m mX2_comesInFrom 2 := ⟨(lw_gm 657 rfl rfl), (lw_gm 656 (by decide +kernel) rfl), (lw_gm 14 (by decide +kernel) rfl), (lw_gm 67 (by decide +kernel) rfl), ⟨by decide, by decide⟩, by decide, TX2, 9, rfl⟩
set_option maxRecDepth 100000 in
theorem kX2_deadLies : sm_m mX2_deadLies 2 := ⟨(lw_gm 670 rfl rfl), (lw_gm 668 (by decide +kernel) rfl), (lw_gm 669 (by decide +kernel) rfl), (lw_gm 67 (by decide +kernel) rfl), ⟨by decide, by decide⟩, by decide, TX2, 9, rfl⟩
set_option maxRecDepth 100000 in
theorem kX2_deadFrom : sm_m mX2_deadFrom 2 := ⟨(lw_gm 674 rfl rfl), (lw_gm 673 (by decide +kernel) rfl), (lw_gm 15 (by decide +kernel) rfl), (lw_gm 67 (by decide +kernel) rfl), ⟨by decide, by decide⟩, by decide, TX2, 9, rfl⟩
set_option maxRecDepth 100000 in
theorem kX2_helpEachOther : sm_m mX2_helpEachOther 2 := ⟨(lw_gm 682 rfl rfl), (lw_gm 680 (by decide +kernel) rfl), (lw_gm 681 (by decide +kernel) rfl), (lw_gm 67 (by decide +kernel) rfl), ⟨by decide, by decide⟩, by decide, TX2, 9, rfl⟩
set_option maxRecDepth 100000 in
theorem kX2_bringsIn : sm_m mX2_bringsIn 2 := ⟨(lw_gm 687 rfl rfl), (lw_gm 686 (by decide +kernel) rfl), (lw_gm 16 (by decide +kernel) rfl), (lw_gm 67 (by decide +kernel) rfl), ⟨by decide, by decide⟩, by decide, TX2, 9, rfl⟩
set_option maxRecDepth 100000 in
theorem kX2_takeTelling : sm_m mX2_takeTelling 2 := ⟨(lw_gm 707 rfl rfl), (lw_gm 705 (by decide +kernel) rfl), (lw_gm 706 (by decide +kernel) rfl), (lw_gm 67 (by decide +kernel) rfl), ⟨by decide, by decide⟩, by decide, TX2, 9, rfl⟩
set_option maxRecDepth 100000 in
theorem kX2_goesSo : sm_m mX2_goesSo 2 := ⟨(lw_gm 716 rfl rfl), (lw_gm 714 (by decide +kernel) rfl), (lw_gm 715 (by decide +kernel) rfl), (lw_gm 67 (by decide +kernel) rfl), ⟨by decide, by decide⟩, by decide, TX2, 9, rfl⟩
set_option maxRecDepth 100000 in
theorem kX2_waysToNod : sm_m mX2_waysToNod 2 := ⟨(lw_gm 736 rfl rfl), (lw_gm 734 (by decide +kernel) rfl), (lw_gm 735 (by decide +kernel) rfl), (lw_gm 67 (by decide +kernel) rfl), ⟨by decide, by decide⟩, by decide, TX2, 9, rfl⟩
set_option maxRecDepth 100000 in
theorem kX2_waysInAll : sm_m mX2_waysInAll 2 := ⟨(lw_gm 745 rfl rfl), (lw_gm 743 (by decide +kernel) rfl), (lw_gm 744 (by decide +kernel) rfl), (lw_gm 67 (by decide +kernel) rfl), ⟨by decide, by decide⟩, by decide, TX2, 9, rfl⟩
set_option maxRecDepth 100000 in
theorem kX2_waysFrom : sm_m mX2_waysFrom 2 := ⟨(lw_gm 740 rfl rfl), (lw_gm 739 (by decide +kernel) rfl), (lw_gm 18 (by decide +kernel) rfl), (lw_gm 67 (by decide +kernel) rfl), ⟨by decide, by decide⟩, by decide, TX2, 9, rfl⟩
set_option maxRecDepth 100000 in
theorem kX3_isKind : sm_ms mX3_isKind := ⟨(lw_gm 769 rfl rfl), (lw_gm 768 (by decide +kernel) rfl), (lw_gm 72 (by decide +kernel) rfl), ⟨by decide, by decide⟩, by decide⟩
set_option maxRecDepth 100000 in
theorem kX3_isOne : sm_ms mX3_isOne := ⟨(lw_gm 772 rfl rfl), (lw_gm 771 (by decide +kernel) rfl), (lw_gm 72 (by decide +kernel) rfl), ⟨by decide, by decide⟩, by decide⟩
set_option maxRecDepth 100000 in
theorem kX3_above : sm_ms mX3_above := ⟨(lw_gm 775 rfl rfl), (lw_gm 774 (by decide +kernel) rfl), (lw_gm 72 (by decide +kernel) rfl), ⟨by decide, by decide⟩, by decide⟩
set_option maxRecDepth 100000 in
theorem kX3_ofLetter : sm_ms mX3_ofLetter := ⟨(lw_gm 440 rfl rfl), (lw_gm 439 (by decide +kernel) rfl), (lw_gm 72 (by decide +kernel) rfl), ⟨by decide, by decide⟩, by decide⟩
set_option maxRecDepth 100000 in
theorem kX4_enter : sm_m mX4_enter 3 := ⟨(lw_gm 505 rfl rfl), (lw_gm 503 (by decide +kernel) rfl), (lw_gm 504 (by decide +kernel) rfl), (lw_gm 68 (by decide +kernel) rfl), ⟨by decide, by decide⟩, by decide, TX4, 4, rfl⟩
set_option maxRecDepth 100000 in
theorem kX4_become : sm_m mX4_become 3 := ⟨(lw_gm 635 rfl rfl), (lw_gm 633 (by decide +kernel) rfl), (lw_gm 634 (by decide +kernel) rfl), (lw_gm 68 (by decide +kernel) rfl), ⟨by decide, by decide⟩, by decide, TX4, 4, rfl⟩
set_option maxRecDepth 100000 in
theorem kX4_needOf : sm_m mX4_needOf 3 := ⟨(lw_gm 523 rfl rfl), (lw_gm 521 (by decide +kernel) rfl), (lw_gm 522 (by decide +kernel) rfl), (lw_gm 68 (by decide +kernel) rfl), ⟨by decide, by decide⟩, by decide, TX4, 4, rfl⟩
set_option maxRecDepth 100000 in
theorem kX4_wouldNod : sm_m mX4_wouldNod 3 := ⟨(lw_gm 519 rfl rfl), (lw_gm 517 (by decide +kernel) rfl), (lw_gm 518 (by decide +kernel) rfl), (lw_gm 68 (by decide +kernel) rfl), ⟨by decide, by decide⟩, by decide, TX4, 4, rfl⟩
set_option maxRecDepth 100000 in
theorem kX4_hear : sm_m mX4_hear 3 := ⟨(lw_gm 515 rfl rfl), (lw_gm 513 (by decide +kernel) rfl), (lw_gm 514 (by decide +kernel) rfl), (lw_gm 68 (by decide +kernel) rfl), ⟨by decide, by decide⟩, by decide, TX4, 4, rfl⟩
set_option maxRecDepth 100000 in
theorem kX4_hearAs : sm_m mX4_hearAs 3 := ⟨(lw_gm 537 rfl rfl), (lw_gm 535 (by decide +kernel) rfl), (lw_gm 536 (by decide +kernel) rfl), (lw_gm 68 (by decide +kernel) rfl), ⟨by decide, by decide⟩, by decide, TX4, 4, rfl⟩
set_option maxRecDepth 100000 in
theorem kX4_dine : sm_m mX4_dine 3 := ⟨(lw_gm 550 rfl rfl), (lw_gm 548 (by decide +kernel) rfl), (lw_gm 549 (by decide +kernel) rfl), (lw_gm 68 (by decide +kernel) rfl), ⟨by decide, by decide⟩, by decide, TX4, 4, rfl⟩
set_option maxRecDepth 100000 in
theorem kX4_undoubtedNeed : sm_m mX4_undoubtedNeed 3 := ⟨(lw_gm 527 rfl rfl), (lw_gm 526 (by decide +kernel) rfl), (lw_gm 10 (by decide +kernel) rfl), (lw_gm 68 (by decide +kernel) rfl), ⟨by decide, by decide⟩, by decide, TX4, 4, rfl⟩
set_option maxRecDepth 100000 in
theorem kX4_proofNeed : sm_ms mX4_proofNeed := ⟨(lw_gm 533 rfl rfl), (lw_gm 532 (by decide +kernel) rfl), (lw_gm 68 (by decide +kernel) rfl), ⟨by decide, by decide⟩, by decide⟩
set_option maxRecDepth 100000 in
theorem kX5_isFull : sm_m mX5_isFull 4 := ⟨(lw_gm 389 rfl rfl), (lw_gm 387 (by decide +kernel) rfl), (lw_gm 388 (by decide +kernel) rfl), (lw_gm 64 (by decide +kernel) rfl), ⟨by decide, by decide⟩, by decide, TX5, 4, rfl⟩
set_option maxRecDepth 100000 in
theorem kX5_append : sm_m mX5_append 4 := ⟨(lw_gm 394 rfl rfl), (lw_gm 392 (by decide +kernel) rfl), (lw_gm 393 (by decide +kernel) rfl), (lw_gm 64 (by decide +kernel) rfl), ⟨by decide, by decide⟩, by decide, TX5, 4, rfl⟩
set_option maxRecDepth 100000 in
theorem kX5_length : sm_m mX5_length 4 := ⟨(lw_gm 832 rfl rfl), (lw_gm 830 (by decide +kernel) rfl), (lw_gm 831 (by decide +kernel) rfl), (lw_gm 64 (by decide +kernel) rfl), ⟨by decide, by decide⟩, by decide, TX5, 4, rfl⟩
set_option maxRecDepth 100000 in
theorem kX5_faultPlace : sm_m mX5_faultPlace 4 := ⟨(lw_gm 457 rfl rfl), (lw_gm 455 (by decide +kernel) rfl), (lw_gm 456 (by decide +kernel) rfl), (lw_gm 64 (by decide +kernel) rfl), ⟨by decide, by decide⟩, by decide, TX5, 4, rfl⟩
set_option maxRecDepth 100000 in
theorem kX5_latestFault : sm_m mX5_latestFault 4 := ⟨(lw_gm 473 rfl rfl), (lw_gm 471 (by decide +kernel) rfl), (lw_gm 472 (by decide +kernel) rfl), (lw_gm 64 (by decide +kernel) rfl), ⟨by decide, by decide⟩, by decide, TX5, 4, rfl⟩
set_option maxRecDepth 100000 in
theorem kX5_readInto : sm_m mX5_readInto 4 := ⟨(lw_gm 402 rfl rfl), (lw_gm 400 (by decide +kernel) rfl), (lw_gm 401 (by decide +kernel) rfl), (lw_gm 64 (by decide +kernel) rfl), ⟨by decide, by decide⟩, by decide, TX5, 4, rfl⟩
set_option maxRecDepth 100000 in
theorem kX5_readLaw : sm_m mX5_readLaw 4 := ⟨(lw_gm 406 rfl rfl), (lw_gm 405 (by decide +kernel) rfl), (lw_gm 2 (by decide +kernel) rfl), (lw_gm 64 (by decide +kernel) rfl), ⟨by decide, by decide⟩, by decide, TX5, 4, rfl⟩
set_option maxRecDepth 100000 in
theorem kX5_readLies : sm_m mX5_readLies 4 := ⟨(lw_gm 437 rfl rfl), (lw_gm 436 (by decide +kernel) rfl), (lw_gm 8 (by decide +kernel) rfl), (lw_gm 64 (by decide +kernel) rfl), ⟨by decide, by decide⟩, by decide, TX5, 4, rfl⟩
set_option maxRecDepth 100000 in
theorem kX5_readStrangers : sm_m mX5_readStrangers 4 := ⟨(lw_gm 448 rfl rfl), (lw_gm 447 (by decide +kernel) rfl), (lw_gm 9 (by decide +kernel) rfl), (lw_gm 64 (by decide +kernel) rfl), ⟨by decide, by decide⟩, by decide, TX5, 4, rfl⟩
set_option maxRecDepth 100000 in
theorem kX5_readNumber : sm_m mX5_readNumber 4 := ⟨(lw_gm 426 rfl rfl), (lw_gm 425 (by decide +kernel) rfl), (lw_gm 7 (by decide +kernel) rfl), (lw_gm 64 (by decide +kernel) rfl), ⟨by decide, by decide⟩, by decide, TX5, 4, rfl⟩
set_option maxRecDepth 100000 in
theorem kX5_passed : sm_m mX5_passed 4 := ⟨(lw_gm 410 rfl rfl), (lw_gm 409 (by decide +kernel) rfl), (lw_gm 3 (by decide +kernel) rfl), (lw_gm 64 (by decide +kernel) rfl), ⟨by decide, by decide⟩, by decide, TX5, 4, rfl⟩
set_option maxRecDepth 100000 in
theorem kX5_refuse : sm_m mX5_refuse 4 := ⟨(lw_gm 422 rfl rfl), (lw_gm 421 (by decide +kernel) rfl), (lw_gm 6 (by decide +kernel) rfl), (lw_gm 64 (by decide +kernel) rfl), ⟨by decide, by decide⟩, by decide, TX5, 4, rfl⟩
set_option maxRecDepth 100000 in
theorem kX5_here : sm_m mX5_here 4 := ⟨(lw_gm 414 rfl rfl), (lw_gm 413 (by decide +kernel) rfl), (lw_gm 4 (by decide +kernel) rfl), (lw_gm 64 (by decide +kernel) rfl), ⟨by decide, by decide⟩, by decide, TX5, 4, rfl⟩
set_option maxRecDepth 100000 in
theorem kX5_byteAt : sm_m mX5_byteAt 4 := ⟨(lw_gm 418 rfl rfl), (lw_gm 417 (by decide +kernel) rfl), (lw_gm 5 (by decide +kernel) rfl), (lw_gm 64 (by decide +kernel) rfl), ⟨by decide, by decide⟩, by decide, TX5, 4, rfl⟩
set_option maxRecDepth 100000 in
theorem kX5_isFigure : sm_ms mX5_isFigure := ⟨(lw_gm 429 rfl rfl), (lw_gm 428 (by decide +kernel) rfl), (lw_gm 64 (by decide +kernel) rfl), ⟨by decide, by decide⟩, by decide⟩
set_option maxRecDepth 100000 in
theorem kX6_isRow : sm_ms mX6_isRow := ⟨(lw_gm 322 rfl rfl), (lw_gm 321 (by decide +kernel) rfl), (lw_gm 63 (by decide +kernel) rfl), ⟨by decide, by decide⟩, by decide⟩
set_option maxRecDepth 100000 in
theorem kX6_isLane : sm_ms mX6_isLane := ⟨(lw_gm 325 rfl rfl), (lw_gm 324 (by decide +kernel) rfl), (lw_gm 63 (by decide +kernel) rfl), ⟨by decide, by decide⟩, by decide⟩
set_option maxRecDepth 100000 in
theorem kX6_isMissing : sm_m mX6_isMissing 5 := ⟨(lw_gm 347 rfl rfl), (lw_gm 345 (by decide +kernel) rfl), (lw_gm 346 (by decide +kernel) rfl), (lw_gm 63 (by decide +kernel) rfl), ⟨by decide, by decide⟩, by decide, TX6, 3, rfl⟩
set_option maxRecDepth 100000 in
theorem kX6_laneOf : sm_m mX6_laneOf 5 := ⟨(lw_gm 366 rfl rfl), (lw_gm 364 (by decide +kernel) rfl), (lw_gm 365 (by decide +kernel) rfl), (lw_gm 63 (by decide +kernel) rfl), ⟨by decide, by decide⟩, by decide, TX6, 3, rfl⟩
set_option maxRecDepth 100000 in
theorem kX6_hasPlaces : sm_m mX6_hasPlaces 5 := ⟨(lw_gm 351 rfl rfl), (lw_gm 349 (by decide +kernel) rfl), (lw_gm 350 (by decide +kernel) rfl), (lw_gm 63 (by decide +kernel) rfl), ⟨by decide, by decide⟩, by decide, TX6, 3, rfl⟩
set_option maxRecDepth 100000 in
theorem kX6_make : sm_m mX6_make 5 := ⟨(lw_gm 335 rfl rfl), (lw_gm 333 (by decide +kernel) rfl), (lw_gm 334 (by decide +kernel) rfl), (lw_gm 63 (by decide +kernel) rfl), ⟨by decide, by decide⟩, by decide, TX6, 3, rfl⟩
set_option maxRecDepth 100000 in
theorem kX6_put : sm_m mX6_put 5 := ⟨(lw_gm 355 rfl rfl), (lw_gm 353 (by decide +kernel) rfl), (lw_gm 354 (by decide +kernel) rfl), (lw_gm 63 (by decide +kernel) rfl), ⟨by decide, by decide⟩, by decide, TX6, 3, rfl⟩
set_option maxRecDepth 100000 in
theorem kX6_itemAt : sm_m mX6_itemAt 5 := ⟨(lw_gm 711 rfl rfl), (lw_gm 709 (by decide +kernel) rfl), (lw_gm 710 (by decide +kernel) rfl), (lw_gm 63 (by decide +kernel) rfl), ⟨by decide, by decide⟩, by decide, TX6, 3, rfl⟩
set_option maxRecDepth 100000 in
theorem kX6_move : sm_m mX6_move 5 := ⟨(lw_gm 370 rfl rfl), (lw_gm 368 (by decide +kernel) rfl), (lw_gm 369 (by decide +kernel) rfl), (lw_gm 63 (by decide +kernel) rfl), ⟨by decide, by decide⟩, by decide, TX6, 3, rfl⟩
set_option maxRecDepth 100000 in
theorem kX6_remove : sm_m mX6_remove 5 := ⟨(lw_gm 381 rfl rfl), (lw_gm 379 (by decide +kernel) rfl), (lw_gm 380 (by decide +kernel) rfl), (lw_gm 63 (by decide +kernel) rfl), ⟨by decide, by decide⟩, by decide, TX6, 3, rfl⟩
set_option maxRecDepth 100000 in
theorem kX6_present : sm_m mX6_present 5 := ⟨(lw_gm 828 rfl rfl), (lw_gm 826 (by decide +kernel) rfl), (lw_gm 827 (by decide +kernel) rfl), (lw_gm 63 (by decide +kernel) rfl), ⟨by decide, by decide⟩, by decide, TX6, 3, rfl⟩
set_option maxRecDepth 100000 in
theorem kX6_cutToLane : sm_ms mX6_cutToLane := ⟨(lw_gm 358 rfl rfl), (lw_gm 357 (by decide +kernel) rfl), (lw_gm 63 (by decide +kernel) rfl), ⟨by decide, by decide⟩, by decide⟩
set_option maxRecDepth 100000 in
theorem kX7_stands : sm_m mX7_stands 6 := ⟨(lw_gm 728 rfl rfl), (lw_gm 726 (by decide +kernel) rfl), (lw_gm 727 (by decide +kernel) rfl), (lw_gm 65 (by decide +kernel) rfl), ⟨by decide, by decide⟩, by decide, TX7, 11, rfl⟩
set_option maxRecDepth 100000 in
theorem kX7_hasLie : sm_m mX7_hasLie 6 := ⟨(lw_gm 485 rfl rfl), (lw_gm 483 (by decide +kernel) rfl), (lw_gm 484 (by decide +kernel) rfl), (lw_gm 65 (by decide +kernel) rfl), ⟨by decide, by decide⟩, by decide, TX7, 11, rfl⟩
set_option maxRecDepth 100000 in
theorem kX7_hasStranger : sm_m mX7_hasStranger 6 := ⟨(lw_gm 481 rfl rfl), (lw_gm 479 (by decide +kernel) rfl), (lw_gm 480 (by decide +kernel) rfl), (lw_gm 65 (by decide +kernel) rfl), ⟨by decide, by decide⟩, by decide, TX7, 11, rfl⟩
set_option maxRecDepth 100000 in
theorem kX7_isSetOfLies : sm_m mX7_isSetOfLies 6 := ⟨(lw_gm 614 rfl rfl), (lw_gm 612 (by decide +kernel) rfl), (lw_gm 613 (by decide +kernel) rfl), (lw_gm 65 (by decide +kernel) rfl), ⟨by decide, by decide⟩, by decide, TX7, 11, rfl⟩
set_option maxRecDepth 100000 in
theorem kX7_wasTold : sm_m mX7_wasTold 6 := ⟨(lw_gm 489 rfl rfl), (lw_gm 487 (by decide +kernel) rfl), (lw_gm 488 (by decide +kernel) rfl), (lw_gm 65 (by decide +kernel) rfl), ⟨by decide, by decide⟩, by decide, TX7, 11, rfl⟩
set_option maxRecDepth 100000 in
theorem kX7_untold : sm_m mX7_untold 6 := ⟨(lw_gm 605 rfl rfl), (lw_gm 603 (by decide +kernel) rfl), (lw_gm 604 (by decide +kernel) rfl), (lw_gm 65 (by decide +kernel) rfl), ⟨by decide, by decide⟩, by decide, TX7, 11, rfl⟩
set_option maxRecDepth 100000 in
theorem kX7_strangersWith : sm_m mX7_strangersWith 6 := ⟨(lw_gm 583 rfl rfl), (lw_gm 581 (by decide +kernel) rfl), (lw_gm 582 (by decide +kernel) rfl), (lw_gm 65 (by decide +kernel) rfl), ⟨by decide, by decide⟩, by decide, TX7, 11, rfl⟩
set_option maxRecDepth 100000 in
theorem kX7_begin : sm_m mX7_begin 6 := ⟨(lw_gm 433 rfl rfl), (lw_gm 431 (by decide +kernel) rfl), (lw_gm 432 (by decide +kernel) rfl), (lw_gm 65 (by decide +kernel) rfl), ⟨by decide, by decide⟩, by decide, TX7, 11, rfl⟩
set_option maxRecDepth 100000 in
theorem kX7_addLie : sm_m mX7_addLie 6 := ⟨(lw_gm 444 rfl rfl), (lw_gm 442 (by decide +kernel) rfl), (lw_gm 443 (by decide +kernel) rfl), (lw_gm 65 (by decide +kernel) rfl), ⟨by decide, by decide⟩, by decide, TX7, 11, rfl⟩
set_option maxRecDepth 100000 in
theorem kX7_addStranger : sm_m mX7_addStranger 6 := ⟨(lw_gm 452 rfl rfl), (lw_gm 450 (by decide +kernel) rfl), (lw_gm 451 (by decide +kernel) rfl), (lw_gm 65 (by decide +kernel) rfl), ⟨by decide, by decide⟩, by decide, TX7, 11, rfl⟩
set_option maxRecDepth 100000 in
theorem kX7_become : sm_m mX7_become 6 := ⟨(lw_gm 461 rfl rfl), (lw_gm 459 (by decide +kernel) rfl), (lw_gm 460 (by decide +kernel) rfl), (lw_gm 65 (by decide +kernel) rfl), ⟨by decide, by decide⟩, by decide, TX7, 11, rfl⟩
set_option maxRecDepth 100000 in
theorem kX7_noteTold : sm_m mX7_noteTold 6 := ⟨(lw_gm 542 rfl rfl), (lw_gm 540 (by decide +kernel) rfl), (lw_gm 541 (by decide +kernel) rfl), (lw_gm 65 (by decide +kernel) rfl), ⟨by decide, by decide⟩, by decide, TX7, 11, rfl⟩
set_option maxRecDepth 100000 in
theorem kX7_noteSupper : sm_m mX7_noteSupper 6 := ⟨(lw_gm 554 rfl rfl), (lw_gm 552 (by decide +kernel) rfl), (lw_gm 553 (by decide +kernel) rfl), (lw_gm 65 (by decide +kernel) rfl), ⟨by decide, by decide⟩, by decide, TX7, 11, rfl⟩
set_option maxRecDepth 100000 in
theorem kX7_noteForgotten : sm_m mX7_noteForgotten 6 := ⟨(lw_gm 562 rfl rfl), (lw_gm 560 (by decide +kernel) rfl), (lw_gm 561 (by decide +kernel) rfl), (lw_gm 65 (by decide +kernel) rfl), ⟨by decide, by decide⟩, by decide, TX7, 11, rfl⟩
set_option maxRecDepth 100000 in
theorem kX8_row : sm_m mX8_row 7 := ⟨(lw_gm 319 rfl rfl), (lw_gm 317 (by decide +kernel) rfl), (lw_gm 318 (by decide +kernel) rfl), (lw_gm 62 (by decide +kernel) rfl), ⟨by decide, by decide⟩, by decide, TX8, 9, rfl⟩
set_option maxRecDepth 100000 in
theorem kX8_set : sm_m mX8_set 7 := ⟨(lw_gm 343 rfl rfl), (lw_gm 341 (by decide +kernel) rfl), (lw_gm 342 (by decide +kernel) rfl), (lw_gm 62 (by decide +kernel) rfl), ⟨by decide, by decide⟩, by decide, TX8, 9, rfl⟩
set_option maxRecDepth 100000 in
theorem kX8_copy : sm_m mX8_copy 7 := ⟨(lw_gm 362 rfl rfl), (lw_gm 360 (by decide +kernel) rfl), (lw_gm 361 (by decide +kernel) rfl), (lw_gm 62 (by decide +kernel) rfl), ⟨by decide, by decide⟩, by decide, TX8, 9, rfl⟩
set_option maxRecDepth 100000 in
theorem kX8_drop : sm_m mX8_drop 7 := ⟨(lw_gm 377 rfl rfl), (lw_gm 375 (by decide +kernel) rfl), (lw_gm 376 (by decide +kernel) rfl), (lw_gm 62 (by decide +kernel) rfl), ⟨by decide, by decide⟩, by decide, TX8, 9, rfl⟩
set_option maxRecDepth 100000 in
theorem kX8_feed : sm_m mX8_feed 7 := ⟨(lw_gm 385 rfl rfl), (lw_gm 383 (by decide +kernel) rfl), (lw_gm 384 (by decide +kernel) rfl), (lw_gm 62 (by decide +kernel) rfl), ⟨by decide, by decide⟩, by decide, TX8, 9, rfl⟩
set_option maxRecDepth 100000 in
theorem kX8_town : sm_m mX8_town 7 := ⟨(lw_gm 398 rfl rfl), (lw_gm 396 (by decide +kernel) rfl), (lw_gm 397 (by decide +kernel) rfl), (lw_gm 62 (by decide +kernel) rfl), ⟨by decide, by decide⟩, by decide, TX8, 9, rfl⟩
set_option maxRecDepth 100000 in
theorem kX8_fault : sm_m mX8_fault 7 := ⟨(lw_gm 469 rfl rfl), (lw_gm 467 (by decide +kernel) rfl), (lw_gm 468 (by decide +kernel) rfl), (lw_gm 62 (by decide +kernel) rfl), ⟨by decide, by decide⟩, by decide, TX8, 9, rfl⟩
set_option maxRecDepth 100000 in
theorem kX8_tell : sm_m mX8_tell 7 := ⟨(lw_gm 477 rfl rfl), (lw_gm 475 (by decide +kernel) rfl), (lw_gm 476 (by decide +kernel) rfl), (lw_gm 62 (by decide +kernel) rfl), ⟨by decide, by decide⟩, by decide, TX8, 9, rfl⟩
set_option maxRecDepth 100000 in
theorem kX8_supper : sm_m mX8_supper 7 := ⟨(lw_gm 546 rfl rfl), (lw_gm 544 (by decide +kernel) rfl), (lw_gm 545 (by decide +kernel) rfl), (lw_gm 62 (by decide +kernel) rfl), ⟨by decide, by decide⟩, by decide, TX8, 9, rfl⟩
set_option maxRecDepth 100000 in
theorem kX8_forget : sm_m mX8_forget 7 := ⟨(lw_gm 558 rfl rfl), (lw_gm 556 (by decide +kernel) rfl), (lw_gm 557 (by decide +kernel) rfl), (lw_gm 62 (by decide +kernel) rfl), ⟨by decide, by decide⟩, by decide, TX8, 9, rfl⟩
set_option maxRecDepth 100000 in
theorem kX8_undo : sm_m mX8_undo 7 := ⟨(lw_gm 567 rfl rfl), (lw_gm 565 (by decide +kernel) rfl), (lw_gm 566 (by decide +kernel) rfl), (lw_gm 62 (by decide +kernel) rfl), ⟨by decide, by decide⟩, by decide, TX8, 9, rfl⟩
set_option maxRecDepth 100000 in
theorem kX8_lie : sm_m mX8_lie 7 := ⟨(lw_gm 579 rfl rfl), (lw_gm 577 (by decide +kernel) rfl), (lw_gm 578 (by decide +kernel) rfl), (lw_gm 62 (by decide +kernel) rfl), ⟨by decide, by decide⟩, by decide, TX8, 9, rfl⟩
set_option maxRecDepth 100000 in
theorem kX8_stranger : sm_m mX8_stranger 7 := ⟨(lw_gm 587 rfl rfl), (lw_gm 585 (by decide +kernel) rfl), (lw_gm 586 (by decide +kernel) rfl), (lw_gm 62 (by decide +kernel) rfl), ⟨by decide, by decide⟩, by decide, TX8, 9, rfl⟩
set_option maxRecDepth 100000 in
theorem kX8_need : sm_m mX8_need 7 := ⟨(lw_gm 591 rfl rfl), (lw_gm 589 (by decide +kernel) rfl), (lw_gm 590 (by decide +kernel) rfl), (lw_gm 62 (by decide +kernel) rfl), ⟨by decide, by decide⟩, by decide, TX8, 9, rfl⟩
set_option maxRecDepth 100000 in
theorem kX8_nods : sm_m mX8_nods 7 := ⟨(lw_gm 596 rfl rfl), (lw_gm 594 (by decide +kernel) rfl), (lw_gm 595 (by decide +kernel) rfl), (lw_gm 62 (by decide +kernel) rfl), ⟨by decide, by decide⟩, by decide, TX8, 9, rfl⟩
set_option maxRecDepth 100000 in
theorem kX8_order : sm_m mX8_order 7 := ⟨(lw_gm 610 rfl rfl), (lw_gm 608 (by decide +kernel) rfl), (lw_gm 609 (by decide +kernel) rfl), (lw_gm 62 (by decide +kernel) rfl), ⟨by decide, by decide⟩, by decide, TX8, 9, rfl⟩
set_option maxRecDepth 100000 in
theorem kX8_comesIn : sm_m mX8_comesIn 7 := ⟨(lw_gm 649 rfl rfl), (lw_gm 647 (by decide +kernel) rfl), (lw_gm 648 (by decide +kernel) rfl), (lw_gm 62 (by decide +kernel) rfl), ⟨by decide, by decide⟩, by decide, TX8, 9, rfl⟩
set_option maxRecDepth 100000 in
theorem kX8_dead : sm_m mX8_dead 7 := ⟨(lw_gm 666 rfl rfl), (lw_gm 664 (by decide +kernel) rfl), (lw_gm 665 (by decide +kernel) rfl), (lw_gm 62 (by decide +kernel) rfl), ⟨by decide, by decide⟩, by decide, TX8, 9, rfl⟩
set_option maxRecDepth 100000 in
theorem kX8_help : sm_m mX8_help 7 := ⟨(lw_gm 678 rfl rfl), (lw_gm 676 (by decide +kernel) rfl), (lw_gm 677 (by decide +kernel) rfl), (lw_gm 62 (by decide +kernel) rfl), ⟨by decide, by decide⟩, by decide, TX8, 9, rfl⟩
set_option maxRecDepth 100000 in
theorem kX8_suppers : sm_m mX8_suppers 7 := ⟨(lw_gm 691 rfl rfl), (lw_gm 689 (by decide +kernel) rfl), (lw_gm 690 (by decide +kernel) rfl), (lw_gm 62 (by decide +kernel) rfl), ⟨by decide, by decide⟩, by decide, TX8, 9, rfl⟩
set_option maxRecDepth 100000 in
theorem kX8_doubted : sm_m mX8_doubted 7 := ⟨(lw_gm 696 rfl rfl), (lw_gm 694 (by decide +kernel) rfl), (lw_gm 695 (by decide +kernel) rfl), (lw_gm 62 (by decide +kernel) rfl), ⟨by decide, by decide⟩, by decide, TX8, 9, rfl⟩
set_option maxRecDepth 100000 in
theorem kX8_trusted : sm_m mX8_trusted 7 := ⟨(lw_gm 720 rfl rfl), (lw_gm 718 (by decide +kernel) rfl), (lw_gm 719 (by decide +kernel) rfl), (lw_gm 62 (by decide +kernel) rfl), ⟨by decide, by decide⟩, by decide, TX8, 9, rfl⟩
set_option maxRecDepth 100000 in
theorem kX8_who : sm_m mX8_who 7 := ⟨(lw_gm 724 rfl rfl), (lw_gm 722 (by decide +kernel) rfl), (lw_gm 723 (by decide +kernel) rfl), (lw_gm 62 (by decide +kernel) rfl), ⟨by decide, by decide⟩, by decide, TX8, 9, rfl⟩
set_option maxRecDepth 100000 in
theorem kX8_odds : sm_m mX8_odds 7 := ⟨(lw_gm 732 rfl rfl), (lw_gm 730 (by decide +kernel) rfl), (lw_gm 731 (by decide +kernel) rfl), (lw_gm 62 (by decide +kernel) rfl), ⟨by decide, by decide⟩, by decide, TX8, 9, rfl⟩
set_option maxRecDepth 100000 in
theorem kX8_image : sm_m mX8_image 7 := ⟨(lw_gm 754 rfl rfl), (lw_gm 752 (by decide +kernel) rfl), (lw_gm 753 (by decide +kernel) rfl), (lw_gm 62 (by decide +kernel) rfl), ⟨by decide, by decide⟩, by decide, TX8, 9, rfl⟩
set_option maxRecDepth 100000 in
theorem kX8_restore : sm_m mX8_restore 7 := ⟨(lw_gm 758 rfl rfl), (lw_gm 756 (by decide +kernel) rfl), (lw_gm 757 (by decide +kernel) rfl), (lw_gm 62 (by decide +kernel) rfl), ⟨by decide, by decide⟩, by decide, TX8, 9, rfl⟩
set_option maxRecDepth 100000 in
theorem kX8_kind : sm_m mX8_kind 7 := ⟨(lw_gm 762 rfl rfl), (lw_gm 760 (by decide +kernel) rfl), (lw_gm 761 (by decide +kernel) rfl), (lw_gm 62 (by decide +kernel) rfl), ⟨by decide, by decide⟩, by decide, TX8, 9, rfl⟩
set_option maxRecDepth 100000 in
theorem kX8_as : sm_m mX8_as 7 := ⟨(lw_gm 766 rfl rfl), (lw_gm 764 (by decide +kernel) rfl), (lw_gm 765 (by decide +kernel) rfl), (lw_gm 62 (by decide +kernel) rfl), ⟨by decide, by decide⟩, by decide, TX8, 9, rfl⟩
set_option maxRecDepth 100000 in
theorem kX8_ask : sm_m mX8_ask 7 := ⟨(lw_gm 782 rfl rfl), (lw_gm 780 (by decide +kernel) rfl), (lw_gm 781 (by decide +kernel) rfl), (lw_gm 62 (by decide +kernel) rfl), ⟨by decide, by decide⟩, by decide, TX8, 9, rfl⟩
set_option maxRecDepth 100000 in
theorem kX8_trace : sm_m mX8_trace 7 := ⟨(lw_gm 815 rfl rfl), (lw_gm 813 (by decide +kernel) rfl), (lw_gm 814 (by decide +kernel) rfl), (lw_gm 62 (by decide +kernel) rfl), ⟨by decide, by decide⟩, by decide, TX8, 9, rfl⟩
set_option maxRecDepth 100000 in
theorem kX8_count : sm_m mX8_count 7 := ⟨(lw_gm 824 rfl rfl), (lw_gm 822 (by decide +kernel) rfl), (lw_gm 823 (by decide +kernel) rfl), (lw_gm 62 (by decide +kernel) rfl), ⟨by decide, by decide⟩, by decide, TX8, 9, rfl⟩
set_option maxRecDepth 100000 in
theorem kX8_status : sm_m mX8_status 7 := ⟨(lw_gm 836 rfl rfl), (lw_gm 834 (by decide +kernel) rfl), (lw_gm 835 (by decide +kernel) rfl), (lw_gm 62 (by decide +kernel) rfl), ⟨by decide, by decide⟩, by decide, TX8, 9, rfl⟩
set_option maxRecDepth 100000 in
theorem kX8_found : sm_m mX8_found 7 := ⟨(lw_gm 330 rfl rfl), (lw_gm 329 (by decide +kernel) rfl), (lw_gm 0 (by decide +kernel) rfl), (lw_gm 62 (by decide +kernel) rfl), ⟨by decide, by decide⟩, by decide, TX8, 9, rfl⟩
set_option maxRecDepth 100000 in
theorem kX8_unfound : sm_m mX8_unfound 7 := ⟨(lw_gm 339 rfl rfl), (lw_gm 338 (by decide +kernel) rfl), (lw_gm 1 (by decide +kernel) rfl), (lw_gm 62 (by decide +kernel) rfl), ⟨by decide, by decide⟩, by decide, TX8, 9, rfl⟩
set_option maxRecDepth 100000 in
theorem kX8_isTelling : sm_ms mX8_isTelling := ⟨(lw_gm 699 rfl rfl), (lw_gm 698 (by decide +kernel) rfl), (lw_gm 62 (by decide +kernel) rfl), ⟨by decide, by decide⟩, by decide⟩
set_option maxRecDepth 100000 in
theorem kX8_takeTelling : sm_m mX8_takeTelling 7 := ⟨(lw_gm 703 rfl rfl), (lw_gm 702 (by decide +kernel) rfl), (lw_gm 17 (by decide +kernel) rfl), (lw_gm 62 (by decide +kernel) rfl), ⟨by decide, by decide⟩, by decide, TX8, 9, rfl⟩
set_option maxRecDepth 100000 in
theorem kX8_commonDivisor : sm_ms mX8_commonDivisor := ⟨(lw_gm 748 rfl rfl), (lw_gm 747 (by decide +kernel) rfl), (lw_gm 62 (by decide +kernel) rfl), ⟨by decide, by decide⟩, by decide⟩
set_option maxRecDepth 100000 in
theorem kX9_in : sm_ms mX9_in := ⟨(lw_gm 939 rfl rfl), (lw_gm 938 (by decide +kernel) rfl), (lw_gm 70 (by decide +kernel) rfl), ⟨by decide, by decide⟩, by decide⟩
set_option maxRecDepth 100000 in
theorem kX9_has : sm_ms mX9_has := ⟨(lw_gm 1043 rfl rfl), (lw_gm 1042 (by decide +kernel) rfl), (lw_gm 70 (by decide +kernel) rfl), ⟨by decide, by decide⟩, by decide⟩
set_option maxRecDepth 100000 in
theorem kX9_ones : sm_ms mX9_ones := ⟨(lw_gm 1055 rfl rfl), (lw_gm 1054 (by decide +kernel) rfl), (lw_gm 70 (by decide +kernel) rfl), ⟨by decide, by decide⟩, by decide⟩
set_option maxRecDepth 100000 in
theorem kX9_found : sm_m mX9_found 8 := ⟨(lw_gm 944 rfl rfl), (lw_gm 943 (by decide +kernel) rfl), (lw_gm 23 (by decide +kernel) rfl), (lw_gm 70 (by decide +kernel) rfl), ⟨by decide, by decide⟩, by decide, TX9, 28, rfl⟩
set_option maxRecDepth 100000 in
theorem kX9_well : sm_m mX9_well 8 := ⟨(lw_gm 949 rfl rfl), (lw_gm 948 (by decide +kernel) rfl), (lw_gm 24 (by decide +kernel) rfl), (lw_gm 70 (by decide +kernel) rfl), ⟨by decide, by decide⟩, by decide, TX9, 28, rfl⟩
set_option maxRecDepth 100000 in
theorem kX9_copies : sm_ms mX9_copies := ⟨(lw_gm 1020 rfl rfl), (lw_gm 1019 (by decide +kernel) rfl), (lw_gm 70 (by decide +kernel) rfl), ⟨by decide, by decide⟩, by decide⟩
set_option maxRecDepth 100000 in
theorem kX9_isRow : sm_ms mX9_isRow := ⟨(lw_gm 936 rfl rfl), (lw_gm 935 (by decide +kernel) rfl), (lw_gm 70 (by decide +kernel) rfl), ⟨by decide, by decide⟩, by decide⟩
set_option maxRecDepth 100000 in
theorem kX9_isMissing : sm_m mX9_isMissing 8 := ⟨(lw_gm 957 rfl rfl), (lw_gm 956 (by decide +kernel) rfl), (lw_gm 25 (by decide +kernel) rfl), (lw_gm 70 (by decide +kernel) rfl), ⟨by decide, by decide⟩, by decide, TX9, 28, rfl⟩
set_option maxRecDepth 100000 in
theorem kX9_cut : sm_ms mX9_cut := ⟨(lw_gm 960 rfl rfl), (lw_gm 959 (by decide +kernel) rfl), (lw_gm 70 (by decide +kernel) rfl), ⟨by decide, by decide⟩, by decide⟩
set_option maxRecDepth 100000 in
theorem kX9_row : sm_m mX9_row 8 := ⟨(lw_gm 933 rfl rfl), (lw_gm 931 (by decide +kernel) rfl), (lw_gm 932 (by decide +kernel) rfl), (lw_gm 70 (by decide +kernel) rfl), ⟨by decide, by decide⟩, by decide, TX9, 28, rfl⟩
set_option maxRecDepth 100000 in
theorem kX9_set : sm_m mX9_set 8 := ⟨(lw_gm 953 rfl rfl), (lw_gm 951 (by decide +kernel) rfl), (lw_gm 952 (by decide +kernel) rfl), (lw_gm 70 (by decide +kernel) rfl), ⟨by decide, by decide⟩, by decide, TX9, 28, rfl⟩
set_option maxRecDepth 100000 in
theorem kX9_isPart : sm_m mX9_isPart 8 := ⟨(lw_gm 968 rfl rfl), (lw_gm 967 (by decide +kernel) rfl), (lw_gm 26 (by decide +kernel) rfl), (lw_gm 70 (by decide +kernel) rfl), ⟨by decide, by decide⟩, by decide, TX9, 28, rfl⟩
set_option maxRecDepth 100000 in
theorem kX9_copy : sm_m mX9_copy 8 := ⟨(lw_gm 964 rfl rfl), (lw_gm 962 (by decide +kernel) rfl), (lw_gm 963 (by decide +kernel) rfl), (lw_gm 70 (by decide +kernel) rfl), ⟨by decide, by decide⟩, by decide, TX9, 28, rfl⟩
set_option maxRecDepth 100000 in
theorem kX9_drop : sm_m mX9_drop 8 := ⟨(lw_gm 972 rfl rfl), (lw_gm 970 (by decide +kernel) rfl), (lw_gm 971 (by decide +kernel) rfl), (lw_gm 70 (by decide +kernel) rfl), ⟨by decide, by decide⟩, by decide, TX9, 28, rfl⟩
set_option maxRecDepth 100000 in
theorem kX9_feed : sm_m mX9_feed 8 := ⟨(lw_gm 976 rfl rfl), (lw_gm 974 (by decide +kernel) rfl), (lw_gm 975 (by decide +kernel) rfl), (lw_gm 70 (by decide +kernel) rfl), ⟨by decide, by decide⟩, by decide, TX9, 28, rfl⟩
set_option maxRecDepth 100000 in
theorem kX9_byteAt : sm_m mX9_byteAt 8 := ⟨(lw_gm 989 rfl rfl), (lw_gm 988 (by decide +kernel) rfl), (lw_gm 28 (by decide +kernel) rfl), (lw_gm 70 (by decide +kernel) rfl), ⟨by decide, by decide⟩, by decide, TX9, 28, rfl⟩
set_option maxRecDepth 100000 in
theorem kX9_advances : sm_m mX9_advances 8 := ⟨(lw_gm 985 rfl rfl), (lw_gm 984 (by decide +kernel) rfl), (lw_gm 27 (by decide +kernel) rfl), (lw_gm 70 (by decide +kernel) rfl), ⟨by decide, by decide⟩, by decide, TX9, 28, rfl⟩
set_option maxRecDepth 100000 in
theorem kX9_isWell : sm_m mX9_isWell 8 := ⟨(lw_gm 997 rfl rfl), (lw_gm 996 (by decide +kernel) rfl), (lw_gm 30 (by decide +kernel) rfl), (lw_gm 70 (by decide +kernel) rfl), ⟨by decide, by decide⟩, by decide, TX9, 28, rfl⟩
set_option maxRecDepth 100000 in
theorem kX9_takes : sm_m mX9_takes 8 := ⟨(lw_gm 993 rfl rfl), (lw_gm 992 (by decide +kernel) rfl), (lw_gm 29 (by decide +kernel) rfl), (lw_gm 70 (by decide +kernel) rfl), ⟨by decide, by decide⟩, by decide, TX9, 28, rfl⟩
set_option maxRecDepth 100000 in
theorem kX9_figure : sm_m mX9_figure 8 := ⟨(lw_gm 1001 rfl rfl), (lw_gm 1000 (by decide +kernel) rfl), (lw_gm 31 (by decide +kernel) rfl), (lw_gm 70 (by decide +kernel) rfl), ⟨by decide, by decide⟩, by decide, TX9, 28, rfl⟩
set_option maxRecDepth 100000 in
theorem kX9_kindOf : sm_ms mX9_kindOf := ⟨(lw_gm 1004 rfl rfl), (lw_gm 1003 (by decide +kernel) rfl), (lw_gm 70 (by decide +kernel) rfl), ⟨by decide, by decide⟩, by decide⟩
set_option maxRecDepth 100000 in
theorem kX9_next : sm_m mX9_next 8 := ⟨(lw_gm 1012 rfl rfl), (lw_gm 1011 (by decide +kernel) rfl), (lw_gm 33 (by decide +kernel) rfl), (lw_gm 70 (by decide +kernel) rfl), ⟨by decide, by decide⟩, by decide, TX9, 28, rfl⟩
set_option maxRecDepth 100000 in
theorem kX9_readsLie : sm_m mX9_readsLie 8 := ⟨(lw_gm 1008 rfl rfl), (lw_gm 1007 (by decide +kernel) rfl), (lw_gm 32 (by decide +kernel) rfl), (lw_gm 70 (by decide +kernel) rfl), ⟨by decide, by decide⟩, by decide, TX9, 28, rfl⟩
set_option maxRecDepth 100000 in
theorem kX9_readsStranger : sm_m mX9_readsStranger 8 := ⟨(lw_gm 1016 rfl rfl), (lw_gm 1015 (by decide +kernel) rfl), (lw_gm 34 (by decide +kernel) rfl), (lw_gm 70 (by decide +kernel) rfl), ⟨by decide, by decide⟩, by decide, TX9, 28, rfl⟩
set_option maxRecDepth 100000 in
theorem kX9_town : sm_m mX9_town 8 := ⟨(lw_gm 981 rfl rfl), (lw_gm 979 (by decide +kernel) rfl), (lw_gm 980 (by decide +kernel) rfl), (lw_gm 70 (by decide +kernel) rfl), ⟨by decide, by decide⟩, by decide, TX9, 28, rfl⟩
set_option maxRecDepth 100000 in
theorem kX9_fault : sm_m mX9_fault 8 := ⟨(lw_gm 1024 rfl rfl), (lw_gm 1022 (by decide +kernel) rfl), (lw_gm 1023 (by decide +kernel) rfl), (lw_gm 70 (by decide +kernel) rfl), ⟨by decide, by decide⟩, by decide, TX9, 28, rfl⟩
set_option maxRecDepth 100000 in
theorem kX9_isTown : sm_m mX9_isTown 8 := ⟨(lw_gm 1171 rfl rfl), (lw_gm 1170 (by decide +kernel) rfl), (lw_gm 53 (by decide +kernel) rfl), (lw_gm 70 (by decide +kernel) rfl), ⟨by decide, by decide⟩, by decide, TX9, 28, rfl⟩
set_option maxRecDepth 100000 in
theorem kX9_isLie : sm_m mX9_isLie 8 := ⟨(lw_gm 1036 rfl rfl), (lw_gm 1035 (by decide +kernel) rfl), (lw_gm 36 (by decide +kernel) rfl), (lw_gm 70 (by decide +kernel) rfl), ⟨by decide, by decide⟩, by decide, TX9, 28, rfl⟩
set_option maxRecDepth 100000 in
theorem kX9_isStranger : sm_m mX9_isStranger 8 := ⟨(lw_gm 1032 rfl rfl), (lw_gm 1031 (by decide +kernel) rfl), (lw_gm 35 (by decide +kernel) rfl), (lw_gm 70 (by decide +kernel) rfl), ⟨by decide, by decide⟩, by decide, TX9, 28, rfl⟩
set_option maxRecDepth 100000 in
theorem kX9_tries : sm_m mX9_tries 8 := ⟨(lw_gm 1052 rfl rfl), (lw_gm 1051 (by decide +kernel) rfl), (lw_gm 39 (by decide +kernel) rfl), (lw_gm 70 (by decide +kernel) rfl), ⟨by decide, by decide⟩, by decide, TX9, 28, rfl⟩
set_option maxRecDepth 100000 in
theorem kX9_needs : sm_m mX9_needs 8 := ⟨(lw_gm 1063 rfl rfl), (lw_gm 1062 (by decide +kernel) rfl), (lw_gm 41 (by decide +kernel) rfl), (lw_gm 70 (by decide +kernel) rfl), ⟨by decide, by decide⟩, by decide, TX9, 28, rfl⟩
set_option maxRecDepth 100000 in
theorem kX9_wouldNod : sm_m mX9_wouldNod 8 := ⟨(lw_gm 1059 rfl rfl), (lw_gm 1058 (by decide +kernel) rfl), (lw_gm 40 (by decide +kernel) rfl), (lw_gm 70 (by decide +kernel) rfl), ⟨by decide, by decide⟩, by decide, TX9, 28, rfl⟩
set_option maxRecDepth 100000 in
theorem kX9_hears : sm_m mX9_hears 8 := ⟨(lw_gm 1067 rfl rfl), (lw_gm 1066 (by decide +kernel) rfl), (lw_gm 42 (by decide +kernel) rfl), (lw_gm 70 (by decide +kernel) rfl), ⟨by decide, by decide⟩, by decide, TX9, 28, rfl⟩
set_option maxRecDepth 100000 in
theorem kX9_notes : sm_m mX9_notes 8 := ⟨(lw_gm 1048 rfl rfl), (lw_gm 1047 (by decide +kernel) rfl), (lw_gm 38 (by decide +kernel) rfl), (lw_gm 70 (by decide +kernel) rfl), ⟨by decide, by decide⟩, by decide, TX9, 28, rfl⟩
set_option maxRecDepth 100000 in
theorem kX9_wasTold : sm_m mX9_wasTold 8 := ⟨(lw_gm 1040 rfl rfl), (lw_gm 1039 (by decide +kernel) rfl), (lw_gm 37 (by decide +kernel) rfl), (lw_gm 70 (by decide +kernel) rfl), ⟨by decide, by decide⟩, by decide, TX9, 28, rfl⟩
set_option maxRecDepth 100000 in
theorem kX9_tell : sm_m mX9_tell 8 := ⟨(lw_gm 1028 rfl rfl), (lw_gm 1026 (by decide +kernel) rfl), (lw_gm 1027 (by decide +kernel) rfl), (lw_gm 70 (by decide +kernel) rfl), ⟨by decide, by decide⟩, by decide, TX9, 28, rfl⟩
set_option maxRecDepth 100000 in
theorem kX9_supper : sm_m mX9_supper 8 := ⟨(lw_gm 1071 rfl rfl), (lw_gm 1069 (by decide +kernel) rfl), (lw_gm 1070 (by decide +kernel) rfl), (lw_gm 70 (by decide +kernel) rfl), ⟨by decide, by decide⟩, by decide, TX9, 28, rfl⟩
set_option maxRecDepth 100000 in
theorem kX9_forget : sm_m mX9_forget 8 := ⟨(lw_gm 1075 rfl rfl), (lw_gm 1073 (by decide +kernel) rfl), (lw_gm 1074 (by decide +kernel) rfl), (lw_gm 70 (by decide +kernel) rfl), ⟨by decide, by decide⟩, by decide, TX9, 28, rfl⟩
set_option maxRecDepth 100000 in
theorem kX9_undo : sm_m mX9_undo 8 := ⟨(lw_gm 1079 rfl rfl), (lw_gm 1077 (by decide +kernel) rfl), (lw_gm 1078 (by decide +kernel) rfl), (lw_gm 70 (by decide +kernel) rfl), ⟨by decide, by decide⟩, by decide, TX9, 28, rfl⟩
set_option maxRecDepth 100000 in
theorem kX9_strangersWith : sm_m mX9_strangersWith 8 := ⟨(lw_gm 1087 rfl rfl), (lw_gm 1086 (by decide +kernel) rfl), (lw_gm 43 (by decide +kernel) rfl), (lw_gm 70 (by decide +kernel) rfl), ⟨by decide, by decide⟩, by decide, TX9, 28, rfl⟩
set_option maxRecDepth 100000 in
theorem kX9_noddedAt : sm_m mX9_noddedAt 8 := ⟨(lw_gm 1091 rfl rfl), (lw_gm 1090 (by decide +kernel) rfl), (lw_gm 44 (by decide +kernel) rfl), (lw_gm 70 (by decide +kernel) rfl), ⟨by decide, by decide⟩, by decide, TX9, 28, rfl⟩
set_option maxRecDepth 100000 in
theorem kX9_lie : sm_m mX9_lie 8 := ⟨(lw_gm 1083 rfl rfl), (lw_gm 1081 (by decide +kernel) rfl), (lw_gm 1082 (by decide +kernel) rfl), (lw_gm 70 (by decide +kernel) rfl), ⟨by decide, by decide⟩, by decide, TX9, 28, rfl⟩
set_option maxRecDepth 100000 in
theorem kX9_stranger : sm_m mX9_stranger 8 := ⟨(lw_gm 1095 rfl rfl), (lw_gm 1093 (by decide +kernel) rfl), (lw_gm 1094 (by decide +kernel) rfl), (lw_gm 70 (by decide +kernel) rfl), ⟨by decide, by decide⟩, by decide, TX9, 28, rfl⟩
set_option maxRecDepth 100000 in
theorem kX9_need : sm_m mX9_need 8 := ⟨(lw_gm 1099 rfl rfl), (lw_gm 1097 (by decide +kernel) rfl), (lw_gm 1098 (by decide +kernel) rfl), (lw_gm 70 (by decide +kernel) rfl), ⟨by decide, by decide⟩, by decide, TX9, 28, rfl⟩
set_option maxRecDepth 100000 in
theorem kX9_untold : sm_m mX9_untold 8 := ⟨(lw_gm 1107 rfl rfl), (lw_gm 1106 (by decide +kernel) rfl), (lw_gm 45 (by decide +kernel) rfl), (lw_gm 70 (by decide +kernel) rfl), ⟨by decide, by decide⟩, by decide, TX9, 28, rfl⟩
set_option maxRecDepth 100000 in
theorem kX9_nods : sm_m mX9_nods 8 := ⟨(lw_gm 1103 rfl rfl), (lw_gm 1101 (by decide +kernel) rfl), (lw_gm 1102 (by decide +kernel) rfl), (lw_gm 70 (by decide +kernel) rfl), ⟨by decide, by decide⟩, by decide, TX9, 28, rfl⟩
set_option maxRecDepth 100000 in
theorem kX9_nodsAt : sm_m mX9_nodsAt 8 := ⟨(lw_gm 1119 rfl rfl), (lw_gm 1118 (by decide +kernel) rfl), (lw_gm 47 (by decide +kernel) rfl), (lw_gm 70 (by decide +kernel) rfl), ⟨by decide, by decide⟩, by decide, TX9, 28, rfl⟩
set_option maxRecDepth 100000 in
theorem kX9_goesOn : sm_m mX9_goesOn 8 := ⟨(lw_gm 1123 rfl rfl), (lw_gm 1122 (by decide +kernel) rfl), (lw_gm 48 (by decide +kernel) rfl), (lw_gm 70 (by decide +kernel) rfl), ⟨by decide, by decide⟩, by decide, TX9, 28, rfl⟩
set_option maxRecDepth 100000 in
theorem kX9_fills : sm_m mX9_fills 8 := ⟨(lw_gm 1115 rfl rfl), (lw_gm 1114 (by decide +kernel) rfl), (lw_gm 46 (by decide +kernel) rfl), (lw_gm 70 (by decide +kernel) rfl), ⟨by decide, by decide⟩, by decide, TX9, 28, rfl⟩
set_option maxRecDepth 100000 in
theorem kX9_order : sm_m mX9_order 8 := ⟨(lw_gm 1111 rfl rfl), (lw_gm 1109 (by decide +kernel) rfl), (lw_gm 1110 (by decide +kernel) rfl), (lw_gm 70 (by decide +kernel) rfl), ⟨by decide, by decide⟩, by decide, TX9, 28, rfl⟩
set_option maxRecDepth 100000 in
theorem kX9_aheadOf : sm_m mX9_aheadOf 8 := ⟨(lw_gm 1131 rfl rfl), (lw_gm 1130 (by decide +kernel) rfl), (lw_gm 49 (by decide +kernel) rfl), (lw_gm 70 (by decide +kernel) rfl), ⟨by decide, by decide⟩, by decide, TX9, 28, rfl⟩
set_option maxRecDepth 100000 in
theorem kX9_comesIn : sm_m mX9_comesIn 8 := ⟨(lw_gm 1127 rfl rfl), (lw_gm 1125 (by decide +kernel) rfl), (lw_gm 1126 (by decide +kernel) rfl), (lw_gm 70 (by decide +kernel) rfl), ⟨by decide, by decide⟩, by decide, TX9, 28, rfl⟩
set_option maxRecDepth 100000 in
theorem kX9_dead : sm_m mX9_dead 8 := ⟨(lw_gm 1135 rfl rfl), (lw_gm 1133 (by decide +kernel) rfl), (lw_gm 1134 (by decide +kernel) rfl), (lw_gm 70 (by decide +kernel) rfl), ⟨by decide, by decide⟩, by decide, TX9, 28, rfl⟩
set_option maxRecDepth 100000 in
theorem kX9_helps : sm_m mX9_helps 8 := ⟨(lw_gm 1143 rfl rfl), (lw_gm 1142 (by decide +kernel) rfl), (lw_gm 50 (by decide +kernel) rfl), (lw_gm 70 (by decide +kernel) rfl), ⟨by decide, by decide⟩, by decide, TX9, 28, rfl⟩
set_option maxRecDepth 100000 in
theorem kX9_help : sm_m mX9_help 8 := ⟨(lw_gm 1139 rfl rfl), (lw_gm 1137 (by decide +kernel) rfl), (lw_gm 1138 (by decide +kernel) rfl), (lw_gm 70 (by decide +kernel) rfl), ⟨by decide, by decide⟩, by decide, TX9, 28, rfl⟩
set_option maxRecDepth 100000 in
theorem kX9_suppers : sm_m mX9_suppers 8 := ⟨(lw_gm 1147 rfl rfl), (lw_gm 1145 (by decide +kernel) rfl), (lw_gm 1146 (by decide +kernel) rfl), (lw_gm 70 (by decide +kernel) rfl), ⟨by decide, by decide⟩, by decide, TX9, 28, rfl⟩
set_option maxRecDepth 100000 in
theorem kX9_wrongIn : sm_m mX9_wrongIn 8 := ⟨(lw_gm 1155 rfl rfl), (lw_gm 1154 (by decide +kernel) rfl), (lw_gm 51 (by decide +kernel) rfl), (lw_gm 70 (by decide +kernel) rfl), ⟨by decide, by decide⟩, by decide, TX9, 28, rfl⟩
set_option maxRecDepth 100000 in
theorem kX9_goesSo : sm_m mX9_goesSo 8 := ⟨(lw_gm 1159 rfl rfl), (lw_gm 1158 (by decide +kernel) rfl), (lw_gm 52 (by decide +kernel) rfl), (lw_gm 70 (by decide +kernel) rfl), ⟨by decide, by decide⟩, by decide, TX9, 28, rfl⟩
set_option maxRecDepth 100000 in
theorem kX9_doubted : sm_m mX9_doubted 8 := ⟨(lw_gm 1151 rfl rfl), (lw_gm 1149 (by decide +kernel) rfl), (lw_gm 1150 (by decide +kernel) rfl), (lw_gm 70 (by decide +kernel) rfl), ⟨by decide, by decide⟩, by decide, TX9, 28, rfl⟩
set_option maxRecDepth 100000 in
theorem kX9_trusted : sm_m mX9_trusted 8 := ⟨(lw_gm 1163 rfl rfl), (lw_gm 1161 (by decide +kernel) rfl), (lw_gm 1162 (by decide +kernel) rfl), (lw_gm 70 (by decide +kernel) rfl), ⟨by decide, by decide⟩, by decide, TX9, 28, rfl⟩
set_option maxRecDepth 100000 in
theorem kX9_who : sm_m mX9_who 8 := ⟨(lw_gm 1167 rfl rfl), (lw_gm 1165 (by decide +kernel) rfl), (lw_gm 1166 (by decide +kernel) rfl), (lw_gm 70 (by decide +kernel) rfl), ⟨by decide, by decide⟩, by decide, TX9, 28, rfl⟩
set_option maxRecDepth 100000 in
theorem kX9_goesBy : sm_m mX9_goesBy 8 := ⟨(lw_gm 1180 rfl rfl), (lw_gm 1179 (by decide +kernel) rfl), (lw_gm 54 (by decide +kernel) rfl), (lw_gm 70 (by decide +kernel) rfl), ⟨by decide, by decide⟩, by decide, TX9, 28, rfl⟩
set_option maxRecDepth 100000 in
theorem kX9_odds : sm_m mX9_odds 8 := ⟨(lw_gm 1175 rfl rfl), (lw_gm 1173 (by decide +kernel) rfl), (lw_gm 1174 (by decide +kernel) rfl), (lw_gm 70 (by decide +kernel) rfl), ⟨by decide, by decide⟩, by decide, TX9, 28, rfl⟩
set_option maxRecDepth 100000 in
theorem kX9_image : sm_m mX9_image 8 := ⟨(lw_gm 1184 rfl rfl), (lw_gm 1182 (by decide +kernel) rfl), (lw_gm 1183 (by decide +kernel) rfl), (lw_gm 70 (by decide +kernel) rfl), ⟨by decide, by decide⟩, by decide, TX9, 28, rfl⟩
set_option maxRecDepth 100000 in
theorem kX9_restore : sm_m mX9_restore 8 := ⟨(lw_gm 1188 rfl rfl), (lw_gm 1186 (by decide +kernel) rfl), (lw_gm 1187 (by decide +kernel) rfl), (lw_gm 70 (by decide +kernel) rfl), ⟨by decide, by decide⟩, by decide, TX9, 28, rfl⟩
set_option maxRecDepth 100000 in
theorem kX9_kindIn : sm_m mX9_kindIn 8 := ⟨(lw_gm 1196 rfl rfl), (lw_gm 1195 (by decide +kernel) rfl), (lw_gm 55 (by decide +kernel) rfl), (lw_gm 70 (by decide +kernel) rfl), ⟨by decide, by decide⟩, by decide, TX9, 28, rfl⟩
set_option maxRecDepth 100000 in
theorem kX9_kind : sm_m mX9_kind 8 := ⟨(lw_gm 1192 rfl rfl), (lw_gm 1190 (by decide +kernel) rfl), (lw_gm 1191 (by decide +kernel) rfl), (lw_gm 70 (by decide +kernel) rfl), ⟨by decide, by decide⟩, by decide, TX9, 28, rfl⟩
set_option maxRecDepth 100000 in
theorem kX9_as : sm_m mX9_as 8 := ⟨(lw_gm 1200 rfl rfl), (lw_gm 1198 (by decide +kernel) rfl), (lw_gm 1199 (by decide +kernel) rfl), (lw_gm 70 (by decide +kernel) rfl), ⟨by decide, by decide⟩, by decide, TX9, 28, rfl⟩
set_option maxRecDepth 100000 in
theorem kX9_begins : sm_m mX9_begins 8 := ⟨(lw_gm 1212 rfl rfl), (lw_gm 1211 (by decide +kernel) rfl), (lw_gm 57 (by decide +kernel) rfl), (lw_gm 70 (by decide +kernel) rfl), ⟨by decide, by decide⟩, by decide, TX9, 28, rfl⟩
set_option maxRecDepth 100000 in
theorem kX9_easyMark : sm_m mX9_easyMark 8 := ⟨(lw_gm 1220 rfl rfl), (lw_gm 1219 (by decide +kernel) rfl), (lw_gm 59 (by decide +kernel) rfl), (lw_gm 70 (by decide +kernel) rfl), ⟨by decide, by decide⟩, by decide, TX9, 28, rfl⟩
set_option maxRecDepth 100000 in
theorem kX9_proofSize : sm_m mX9_proofSize 8 := ⟨(lw_gm 1208 rfl rfl), (lw_gm 1207 (by decide +kernel) rfl), (lw_gm 56 (by decide +kernel) rfl), (lw_gm 70 (by decide +kernel) rfl), ⟨by decide, by decide⟩, by decide, TX9, 28, rfl⟩
set_option maxRecDepth 100000 in
theorem kX9_easySize : sm_m mX9_easySize 8 := ⟨(lw_gm 1216 rfl rfl), (lw_gm 1215 (by decide +kernel) rfl), (lw_gm 58 (by decide +kernel) rfl), (lw_gm 70 (by decide +kernel) rfl), ⟨by decide, by decide⟩, by decide, TX9, 28, rfl⟩
set_option maxRecDepth 100000 in
theorem kX9_proofMark : sm_m mX9_proofMark 8 := ⟨(lw_gm 1224 rfl rfl), (lw_gm 1223 (by decide +kernel) rfl), (lw_gm 60 (by decide +kernel) rfl), (lw_gm 70 (by decide +kernel) rfl), ⟨by decide, by decide⟩, by decide, TX9, 28, rfl⟩
set_option maxRecDepth 100000 in
theorem kX9_ask : sm_m mX9_ask 8 := ⟨(lw_gm 1204 rfl rfl), (lw_gm 1202 (by decide +kernel) rfl), (lw_gm 1203 (by decide +kernel) rfl), (lw_gm 70 (by decide +kernel) rfl), ⟨by decide, by decide⟩, by decide, TX9, 28, rfl⟩
set_option maxRecDepth 100000 in
theorem kX9_trace : sm_m mX9_trace 8 := ⟨(lw_gm 1228 rfl rfl), (lw_gm 1226 (by decide +kernel) rfl), (lw_gm 1227 (by decide +kernel) rfl), (lw_gm 70 (by decide +kernel) rfl), ⟨by decide, by decide⟩, by decide, TX9, 28, rfl⟩
set_option maxRecDepth 100000 in
theorem kX9_count : sm_m mX9_count 8 := ⟨(lw_gm 1232 rfl rfl), (lw_gm 1230 (by decide +kernel) rfl), (lw_gm 1231 (by decide +kernel) rfl), (lw_gm 70 (by decide +kernel) rfl), ⟨by decide, by decide⟩, by decide, TX9, 28, rfl⟩
set_option maxRecDepth 100000 in
theorem kX9_status : sm_m mX9_status 8 := ⟨(lw_gm 1236 rfl rfl), (lw_gm 1234 (by decide +kernel) rfl), (lw_gm 1235 (by decide +kernel) rfl), (lw_gm 70 (by decide +kernel) rfl), ⟨by decide, by decide⟩, by decide, TX9, 28, rfl⟩
set_option maxRecDepth 100000 in
theorem kJ6_bitCount_0f7a4 : sm_ms mJ6_bitCount_0f7a4 := ⟨(lw_gm 508 rfl rfl), (lw_gm 507 (by decide +kernel) rfl), (lw_gm 74 (by decide +kernel) rfl), ⟨by decide, by decide⟩, by decide⟩
set_option maxRecDepth 100000 in
theorem kJ9_max_7cf53 : sm_ms mJ9_max_7cf53 := ⟨(lw_gm 530 rfl rfl), (lw_gm 529 (by decide +kernel) rfl), (lw_gm 73 (by decide +kernel) rfl), ⟨by decide, by decide⟩, by decide⟩
set_option maxRecDepth 100000 in
theorem kJ9_min_7cf53 : sm_ms mJ9_min_7cf53 := ⟨(lw_gm 497 rfl rfl), (lw_gm 496 (by decide +kernel) rfl), (lw_gm 73 (by decide +kernel) rfl), ⟨by decide, by decide⟩, by decide⟩
theorem fX0_29 : sf_ok RX0 29 0 6 := ⟨RX0, TX0, 7, rfl, in_X0, by decide, by decide, (lw_gm 199 (by decide +kernel) rfl)⟩
theorem pX0_29 : sf_okp RX0 29 0 6 := ⟨RX0, TX0, 7, tyX0, rfl, in_X0, by decide, by decide, (lw_gm 199 (by decide +kernel) rfl), tyX0_ok, nmX0, rfl, rfl⟩
theorem fX0_9 : sf_ok RX0 9 0 0 := ⟨RX0, TX0, 7, rfl, in_X0, by decide, by decide, (lw_gm 193 (by decide +kernel) rfl)⟩
theorem fX0_25 : sf_ok RX0 25 0 5 := ⟨RX0, TX0, 7, rfl, in_X0, by decide, by decide, (lw_gm 198 (by decide +kernel) rfl)⟩
theorem fX0_13 : sf_ok RX0 13 0 1 := ⟨RX0, TX0, 7, rfl, in_X0, by decide, by decide, (lw_gm 194 (by decide +kernel) rfl)⟩
theorem fX0_32 : sf_ok RX0 32 6 7 := ⟨RX7, TX7, 11, rfl, in_X7, by decide, by decide, (lw_gm 149 (by decide +kernel) rfl)⟩
theorem fX0_16 : sf_ok RX0 16 0 2 := ⟨RX0, TX0, 7, rfl, in_X0, by decide, by decide, (lw_gm 195 (by decide +kernel) rfl)⟩
theorem fX0_35 : sf_ok RX0 35 6 9 := ⟨RX7, TX7, 11, rfl, in_X7, by decide, by decide, (lw_gm 156 (by decide +kernel) rfl)⟩
theorem fX0_19 : sf_ok RX0 19 0 3 := ⟨RX0, TX0, 7, rfl, in_X0, by decide, by decide, (lw_gm 196 (by decide +kernel) rfl)⟩
theorem fX0_36 : sf_ok RX0 36 6 10 := ⟨RX7, TX7, 11, rfl, in_X7, by decide, by decide, (lw_gm 160 (by decide +kernel) rfl)⟩
theorem fX0_22 : sf_ok RX0 22 0 4 := ⟨RX0, TX0, 7, rfl, in_X0, by decide, by decide, (lw_gm 197 (by decide +kernel) rfl)⟩
theorem fX0_37 : sf_ok RX0 37 6 1 := ⟨RX7, TX7, 11, rfl, in_X7, by decide, by decide, (lw_gm 128 (by decide +kernel) rfl)⟩
theorem pX0_25 : sf_okp RX0 25 0 5 := ⟨RX0, TX0, 7, tyX0, rfl, in_X0, by decide, by decide, (lw_gm 198 (by decide +kernel) rfl), tyX0_ok, nmX0, rfl, rfl⟩
theorem vX0_40 : sm_S RX0 40 mJ9_min_7cf53 2 := sm_sk kJ9_min_7cf53 (lw_gm 495 (by decide +kernel) rfl) (by decide +kernel)
theorem pX0_37 : sf_okp RX0 37 6 1 := ⟨RX7, TX7, 11, tyX7, rfl, in_X7, by decide, by decide, (lw_gm 128 (by decide +kernel) rfl), tyX7_ok, nmX7, rfl, rfl⟩
theorem fX1_15 : sf_ok RX1 15 1 2 := ⟨RX1, TX1, 3, rfl, in_X1, by decide, by decide, (lw_gm 280 (by decide +kernel) rfl)⟩
theorem pX1_15 : sf_okp RX1 15 1 2 := ⟨RX1, TX1, 3, tyX1, rfl, in_X1, by decide, by decide, (lw_gm 280 (by decide +kernel) rfl), tyX1_ok, nmX1, rfl, rfl⟩
theorem vX1_23 : sm_V RX1 23 mX1_sizeOf 1 2 := sm_vk kX1_sizeOf (lw_gm 787 (by decide +kernel) rfl) (by decide +kernel)
theorem vX1_27 : sm_V RX1 27 mX1_markOf 1 2 := sm_vk kX1_markOf (lw_gm 805 (by decide +kernel) rfl) (by decide +kernel)
theorem fX1_11 : sf_ok RX1 11 1 1 := ⟨RX1, TX1, 3, rfl, in_X1, by decide, by decide, (lw_gm 279 (by decide +kernel) rfl)⟩
theorem qX1_30 : Cond.constant RX1 30 (Int32.ofInt (-1000000)) ∈ lw_g := (lw_gm 820 (by decide +kernel) rfl)
theorem gX1_31 : Cond.fieldLink RX1 31 (ss_C 1) (ss_N 1) "[I" ∈ lw_g := (lw_gm 791 (by decide +kernel) rfl)
theorem fX1_19 : sf_ok RX1 19 1 0 := ⟨RX1, TX1, 3, rfl, in_X1, by decide, by decide, (lw_gm 278 (by decide +kernel) rfl)⟩
theorem fX1_34 : sf_ok RX1 34 6 4 := ⟨RX7, TX7, 11, rfl, in_X7, by decide, by decide, (lw_gm 137 (by decide +kernel) rfl)⟩
theorem vX1_39 : sm_S RX1 39 mX1_nearestBody 2 := sm_sk kX1_nearestBody (lw_gm 793 (by decide +kernel) rfl) (by decide +kernel)
theorem vX1_43 : sm_V RX1 43 mX1_run 1 3 := sm_vk kX1_run (lw_gm 797 (by decide +kernel) rfl) (by decide +kernel)
theorem gX1_47 : Cond.fieldLink RX1 47 (ss_C 2) (ss_N 2) "[I" ∈ lw_g := (lw_gm 809 (by decide +kernel) rfl)
theorem vX1_52 : sm_S RX1 52 mX3_above 1 := sm_sk kX3_above (lw_gm 796 (by decide +kernel) rfl) (by decide +kernel)
theorem vX1_56 : sm_V RX1 56 mX1_leaveTrace 1 1 := sm_vk kX1_leaveTrace (lw_gm 801 (by decide +kernel) rfl) (by decide +kernel)
theorem fX1_60 : sf_ok RX1 60 6 5 := ⟨RX7, TX7, 11, rfl, in_X7, by decide, by decide, (lw_gm 142 (by decide +kernel) rfl)⟩
theorem fX1_63 : sf_ok RX1 63 6 10 := ⟨RX7, TX7, 11, rfl, in_X7, by decide, by decide, (lw_gm 161 (by decide +kernel) rfl)⟩
theorem vX1_66 : sm_V RX1 66 mX7_strangersWith 6 2 := sm_vk kX7_strangersWith (lw_gm 811 (by decide +kernel) rfl) (by decide +kernel)
theorem fX2_13 : sf_ok RX2 13 2 1 := ⟨RX2, TX2, 9, rfl, in_X2, by decide, by decide, (lw_gm 245 (by decide +kernel) rfl)⟩
theorem fX2_40 : sf_ok RX2 40 2 0 := ⟨RX2, TX2, 9, rfl, in_X2, by decide, by decide, (lw_gm 244 (by decide +kernel) rfl)⟩
theorem vX2_45 : sm_V RX2 45 mX4_enter 3 2 := sm_vk kX4_enter (lw_gm 502 (by decide +kernel) rfl) (by decide +kernel)
theorem vX2_49 : sm_V RX2 49 mX2_mindOf 2 1 := sm_vk kX2_mindOf (lw_gm 601 (by decide +kernel) rfl) (by decide +kernel)
theorem vX2_53 : sm_V RX2 53 mX7_untold 6 1 := sm_vk kX7_untold (lw_gm 602 (by decide +kernel) rfl) (by decide +kernel)
theorem fX2_59 : sf_ok RX2 59 6 2 := ⟨RX7, TX7, 11, rfl, in_X7, by decide, by decide, (lw_gm 132 (by decide +kernel) rfl)⟩
theorem vX2_62 : sm_V RX2 62 mX4_wouldNod 3 2 := sm_vk kX4_wouldNod (lw_gm 606 (by decide +kernel) rfl) (by decide +kernel)
theorem fX2_24 : sf_ok RX2 24 2 4 := ⟨RX2, TX2, 9, rfl, in_X2, by decide, by decide, (lw_gm 248 (by decide +kernel) rfl)⟩
theorem pX2_24 : sf_okp RX2 24 2 4 := ⟨RX2, TX2, 9, tyX2, rfl, in_X2, by decide, by decide, (lw_gm 248 (by decide +kernel) rfl), tyX2_ok, nmX2, rfl, rfl⟩
theorem fX2_28 : sf_ok RX2 28 2 5 := ⟨RX2, TX2, 9, rfl, in_X2, by decide, by decide, (lw_gm 249 (by decide +kernel) rfl)⟩
theorem pX2_28 : sf_okp RX2 28 2 5 := ⟨RX2, TX2, 9, tyX2, rfl, in_X2, by decide, by decide, (lw_gm 249 (by decide +kernel) rfl), tyX2_ok, nmX2, rfl, rfl⟩
theorem vX2_66 : sm_V RX2 66 mX2_seekOrderFrom 2 3 := sm_vk kX2_seekOrderFrom (lw_gm 619 (by decide +kernel) rfl) (by decide +kernel)
theorem fX2_21 : sf_ok RX2 21 2 3 := ⟨RX2, TX2, 9, rfl, in_X2, by decide, by decide, (lw_gm 247 (by decide +kernel) rfl)⟩
theorem qX2_70 : Cond.constant RX2 70 (Int32.ofInt (-1000000)) ∈ lw_g := (lw_gm 645 (by decide +kernel) rfl)
theorem vX2_71 : sm_S RX2 71 mJ6_bitCount_0f7a4 1 := sm_sk kJ6_bitCount_0f7a4 (lw_gm 623 (by decide +kernel) rfl) (by decide +kernel)
theorem vX2_76 : sm_V RX2 76 mX2_keepBest 2 2 := sm_vk kX2_keepBest (lw_gm 624 (by decide +kernel) rfl) (by decide +kernel)
theorem vX2_80 : sm_V RX2 80 mX2_tryNext 2 2 := sm_vk kX2_tryNext (lw_gm 628 (by decide +kernel) rfl) (by decide +kernel)
theorem fX2_17 : sf_ok RX2 17 2 2 := ⟨RX2, TX2, 9, rfl, in_X2, by decide, by decide, (lw_gm 246 (by decide +kernel) rfl)⟩
theorem vX2_84 : sm_V RX2 84 mX4_become 3 1 := sm_vk kX4_become (lw_gm 632 (by decide +kernel) rfl) (by decide +kernel)
theorem vX2_88 : sm_V RX2 88 mX4_hear 3 2 := sm_vk kX4_hear (lw_gm 636 (by decide +kernel) rfl) (by decide +kernel)
theorem vX2_91 : sm_V RX2 91 mX2_comesInFrom 2 4 := sm_vk kX2_comesInFrom (lw_gm 654 (by decide +kernel) rfl) (by decide +kernel)
theorem vX2_95 : sm_V RX2 95 mX2_deadFrom 2 3 := sm_vk kX2_deadFrom (lw_gm 671 (by decide +kernel) rfl) (by decide +kernel)
theorem vX2_99 : sm_V RX2 99 mX7_wasTold 6 2 := sm_vk kX7_wasTold (lw_gm 683 (by decide +kernel) rfl) (by decide +kernel)
theorem vX2_102 : sm_V RX2 102 mX2_bringsIn 2 2 := sm_vk kX2_bringsIn (lw_gm 684 (by decide +kernel) rfl) (by decide +kernel)
theorem vX2_105 : sm_V RX2 105 mX6_itemAt 5 2 := sm_vk kX6_itemAt (lw_gm 708 (by decide +kernel) rfl) (by decide +kernel)
theorem vX2_111 : sm_V RX2 111 mX7_hasLie 6 1 := sm_vk kX7_hasLie (lw_gm 712 (by decide +kernel) rfl) (by decide +kernel)
theorem fX2_31 : sf_ok RX2 31 2 6 := ⟨RX2, TX2, 9, rfl, in_X2, by decide, by decide, (lw_gm 250 (by decide +kernel) rfl)⟩
theorem fX2_34 : sf_ok RX2 34 2 7 := ⟨RX2, TX2, 9, rfl, in_X2, by decide, by decide, (lw_gm 251 (by decide +kernel) rfl)⟩
theorem fX2_37 : sf_ok RX2 37 2 8 := ⟨RX2, TX2, 9, rfl, in_X2, by decide, by decide, (lw_gm 252 (by decide +kernel) rfl)⟩
theorem pX2_37 : sf_okp RX2 37 2 8 := ⟨RX2, TX2, 9, tyX2, rfl, in_X2, by decide, by decide, (lw_gm 252 (by decide +kernel) rfl), tyX2_ok, nmX2, rfl, rfl⟩
theorem fX2_115 : sf_ok RX2 115 3 0 := ⟨RX4, TX4, 4, rfl, in_X4, by decide, by decide, (lw_gm 230 (by decide +kernel) rfl)⟩
theorem pX2_115 : sf_okp RX2 115 3 0 := ⟨RX4, TX4, 4, tyX4, rfl, in_X4, by decide, by decide, (lw_gm 230 (by decide +kernel) rfl), tyX4_ok, nmX4, rfl, rfl⟩
theorem fX2_118 : sf_ok RX2 118 3 1 := ⟨RX4, TX4, 4, rfl, in_X4, by decide, by decide, (lw_gm 232 (by decide +kernel) rfl)⟩
theorem pX2_118 : sf_okp RX2 118 3 1 := ⟨RX4, TX4, 4, tyX4, rfl, in_X4, by decide, by decide, (lw_gm 232 (by decide +kernel) rfl), tyX4_ok, nmX4, rfl, rfl⟩
theorem vX2_121 : sm_V RX2 121 mX2_waysFrom 2 3 := sm_vk kX2_waysFrom (lw_gm 737 (by decide +kernel) rfl) (by decide +kernel)
theorem vX2_124 : sm_V RX2 124 mX4_hearAs 3 3 := sm_vk kX4_hearAs (lw_gm 741 (by decide +kernel) rfl) (by decide +kernel)
theorem vX3_9 : sm_S RX3 9 mX3_above 1 := sm_sk kX3_above (lw_gm 773 (by decide +kernel) rfl) (by decide +kernel)
theorem vX3_13 : sm_S RX3 13 mX3_isKind 1 := sm_sk kX3_isKind (lw_gm 776 (by decide +kernel) rfl) (by decide +kernel)
theorem gX3_17 : Cond.fieldLink RX3 17 (ss_C 0) (ss_N 0) "[I" ∈ lw_g := (lw_gm 777 (by decide +kernel) rfl)
theorem fX4_25 : sf_ok RX4 25 6 7 := ⟨RX7, TX7, 11, rfl, in_X7, by decide, by decide, (lw_gm 148 (by decide +kernel) rfl)⟩
theorem fX4_7 : sf_ok RX4 7 3 0 := ⟨RX4, TX4, 4, rfl, in_X4, by decide, by decide, (lw_gm 228 (by decide +kernel) rfl)⟩
theorem pX4_7 : sf_okp RX4 7 3 0 := ⟨RX4, TX4, 4, tyX4, rfl, in_X4, by decide, by decide, (lw_gm 228 (by decide +kernel) rfl), tyX4_ok, nmX4, rfl, rfl⟩
theorem fX4_28 : sf_ok RX4 28 6 8 := ⟨RX7, TX7, 11, rfl, in_X7, by decide, by decide, (lw_gm 152 (by decide +kernel) rfl)⟩
theorem fX4_13 : sf_ok RX4 13 3 1 := ⟨RX4, TX4, 4, rfl, in_X4, by decide, by decide, (lw_gm 231 (by decide +kernel) rfl)⟩
theorem pX4_13 : sf_okp RX4 13 3 1 := ⟨RX4, TX4, 4, tyX4, rfl, in_X4, by decide, by decide, (lw_gm 231 (by decide +kernel) rfl), tyX4_ok, nmX4, rfl, rfl⟩
theorem fX4_30 : sf_ok RX4 30 6 9 := ⟨RX7, TX7, 11, rfl, in_X7, by decide, by decide, (lw_gm 155 (by decide +kernel) rfl)⟩
theorem vX4_33 : sm_S RX4 33 mJ6_bitCount_0f7a4 1 := sm_sk kJ6_bitCount_0f7a4 (lw_gm 506 (by decide +kernel) rfl) (by decide +kernel)
theorem fX4_16 : sf_ok RX4 16 3 2 := ⟨RX4, TX4, 4, rfl, in_X4, by decide, by decide, (lw_gm 233 (by decide +kernel) rfl)⟩
theorem pX4_16 : sf_okp RX4 16 3 2 := ⟨RX4, TX4, 4, tyX4, rfl, in_X4, by decide, by decide, (lw_gm 233 (by decide +kernel) rfl), tyX4_ok, nmX4, rfl, rfl⟩
theorem fX4_21 : sf_ok RX4 21 3 3 := ⟨RX4, TX4, 4, rfl, in_X4, by decide, by decide, (lw_gm 234 (by decide +kernel) rfl)⟩
theorem fX4_39 : sf_ok RX4 39 6 2 := ⟨RX7, TX7, 11, rfl, in_X7, by decide, by decide, (lw_gm 131 (by decide +kernel) rfl)⟩
theorem fX4_42 : sf_ok RX4 42 6 6 := ⟨RX7, TX7, 11, rfl, in_X7, by decide, by decide, (lw_gm 145 (by decide +kernel) rfl)⟩
theorem fX4_45 : sf_ok RX4 45 6 10 := ⟨RX7, TX7, 11, rfl, in_X7, by decide, by decide, (lw_gm 159 (by decide +kernel) rfl)⟩
theorem fX4_48 : sf_ok RX4 48 6 4 := ⟨RX7, TX7, 11, rfl, in_X7, by decide, by decide, (lw_gm 138 (by decide +kernel) rfl)⟩
theorem fX4_51 : sf_ok RX4 51 6 5 := ⟨RX7, TX7, 11, rfl, in_X7, by decide, by decide, (lw_gm 141 (by decide +kernel) rfl)⟩
theorem vX4_54 : sm_V RX4 54 mX4_undoubtedNeed 3 3 := sm_vk kX4_undoubtedNeed (lw_gm 524 (by decide +kernel) rfl) (by decide +kernel)
theorem vX4_58 : sm_V RX4 58 mX4_needOf 3 2 := sm_vk kX4_needOf (lw_gm 520 (by decide +kernel) rfl) (by decide +kernel)
theorem vX4_62 : sm_V RX4 62 mX4_wouldNod 3 2 := sm_vk kX4_wouldNod (lw_gm 516 (by decide +kernel) rfl) (by decide +kernel)
theorem vX4_66 : sm_V RX4 66 mX4_hearAs 3 3 := sm_vk kX4_hearAs (lw_gm 534 (by decide +kernel) rfl) (by decide +kernel)
theorem vX4_70 : sm_S RX4 70 mJ9_min_7cf53 2 := sm_sk kJ9_min_7cf53 (lw_gm 538 (by decide +kernel) rfl) (by decide +kernel)
theorem vX4_76 : sm_S RX4 76 mJ9_max_7cf53 2 := sm_sk kJ9_max_7cf53 (lw_gm 528 (by decide +kernel) rfl) (by decide +kernel)
theorem vX4_79 : sm_S RX4 79 mX4_proofNeed 2 := sm_sk kX4_proofNeed (lw_gm 531 (by decide +kernel) rfl) (by decide +kernel)
theorem fX5_13 : sf_ok RX5 13 4 1 := ⟨RX5, TX5, 4, rfl, in_X5, by decide, by decide, (lw_gm 107 (by decide +kernel) rfl)⟩
theorem fX5_9 : sf_ok RX5 9 4 0 := ⟨RX5, TX5, 4, rfl, in_X5, by decide, by decide, (lw_gm 106 (by decide +kernel) rfl)⟩
theorem pX5_13 : sf_okp RX5 13 4 1 := ⟨RX5, TX5, 4, tyX5, rfl, in_X5, by decide, by decide, (lw_gm 107 (by decide +kernel) rfl), tyX5_ok, nmX5, rfl, rfl⟩
theorem fX5_17 : sf_ok RX5 17 4 2 := ⟨RX5, TX5, 4, rfl, in_X5, by decide, by decide, (lw_gm 108 (by decide +kernel) rfl)⟩
theorem fX5_20 : sf_ok RX5 20 4 3 := ⟨RX5, TX5, 4, rfl, in_X5, by decide, by decide, (lw_gm 109 (by decide +kernel) rfl)⟩
theorem pX5_17 : sf_okp RX5 17 4 2 := ⟨RX5, TX5, 4, tyX5, rfl, in_X5, by decide, by decide, (lw_gm 108 (by decide +kernel) rfl), tyX5_ok, nmX5, rfl, rfl⟩
theorem vX5_23 : sm_V RX5 23 mX5_readLaw 4 1 := sm_vk kX5_readLaw (lw_gm 403 (by decide +kernel) rfl) (by decide +kernel)
theorem vX5_27 : sm_V RX5 27 mX5_readLies 4 1 := sm_vk kX5_readLies (lw_gm 434 (by decide +kernel) rfl) (by decide +kernel)
theorem vX5_30 : sm_V RX5 30 mX5_readStrangers 4 1 := sm_vk kX5_readStrangers (lw_gm 445 (by decide +kernel) rfl) (by decide +kernel)
theorem vX5_33 : sm_V RX5 33 mX5_refuse 4 1 := sm_vk kX5_refuse (lw_gm 419 (by decide +kernel) rfl) (by decide +kernel)
theorem vX5_37 : sm_V RX5 37 mX5_passed 4 1 := sm_vk kX5_passed (lw_gm 407 (by decide +kernel) rfl) (by decide +kernel)
theorem vX5_40 : sm_V RX5 40 mX5_readNumber 4 2 := sm_vk kX5_readNumber (lw_gm 423 (by decide +kernel) rfl) (by decide +kernel)
theorem vX5_44 : sm_V RX5 44 mX7_begin 6 1 := sm_vk kX7_begin (lw_gm 430 (by decide +kernel) rfl) (by decide +kernel)
theorem vX5_50 : sm_V RX5 50 mX5_here 4 0 := sm_vk kX5_here (lw_gm 411 (by decide +kernel) rfl) (by decide +kernel)
theorem vX5_54 : sm_S RX5 54 mX3_ofLetter 1 := sm_sk kX3_ofLetter (lw_gm 438 (by decide +kernel) rfl) (by decide +kernel)
theorem vX5_60 : sm_V RX5 60 mX7_addLie 6 3 := sm_vk kX7_addLie (lw_gm 441 (by decide +kernel) rfl) (by decide +kernel)
theorem vX5_64 : sm_V RX5 64 mX7_addStranger 6 2 := sm_vk kX7_addStranger (lw_gm 449 (by decide +kernel) rfl) (by decide +kernel)
theorem vX5_68 : sm_V RX5 68 mX5_byteAt 4 1 := sm_vk kX5_byteAt (lw_gm 415 (by decide +kernel) rfl) (by decide +kernel)
theorem vX5_71 : sm_S RX5 71 mX5_isFigure 1 := sm_sk kX5_isFigure (lw_gm 427 (by decide +kernel) rfl) (by decide +kernel)
theorem pX5_20 : sf_okp RX5 20 4 3 := ⟨RX5, TX5, 4, tyX5, rfl, in_X5, by decide, by decide, (lw_gm 109 (by decide +kernel) rfl), tyX5_ok, nmX5, rfl, rfl⟩
theorem fX6_9 : sf_ok RX6 9 5 0 := ⟨RX6, TX6, 3, rfl, in_X6, by decide, by decide, (lw_gm 89 (by decide +kernel) rfl)⟩
theorem fX6_13 : sf_ok RX6 13 5 1 := ⟨RX6, TX6, 3, rfl, in_X6, by decide, by decide, (lw_gm 90 (by decide +kernel) rfl)⟩
theorem fX6_16 : sf_ok RX6 16 5 2 := ⟨RX6, TX6, 3, rfl, in_X6, by decide, by decide, (lw_gm 91 (by decide +kernel) rfl)⟩
theorem vX6_19 : sm_S RX6 19 mX6_cutToLane 2 := sm_sk kX6_cutToLane (lw_gm 356 (by decide +kernel) rfl) (by decide +kernel)
theorem fX7_7 : sf_ok RX7 7 6 0 := ⟨RX7, TX7, 11, rfl, in_X7, by decide, by decide, (lw_gm 125 (by decide +kernel) rfl)⟩
theorem fX7_16 : sf_ok RX7 16 6 2 := ⟨RX7, TX7, 11, rfl, in_X7, by decide, by decide, (lw_gm 130 (by decide +kernel) rfl)⟩
theorem fX7_19 : sf_ok RX7 19 6 3 := ⟨RX7, TX7, 11, rfl, in_X7, by decide, by decide, (lw_gm 134 (by decide +kernel) rfl)⟩
theorem fX7_38 : sf_ok RX7 38 6 9 := ⟨RX7, TX7, 11, rfl, in_X7, by decide, by decide, (lw_gm 154 (by decide +kernel) rfl)⟩
theorem pX7_7 : sf_okp RX7 7 6 0 := ⟨RX7, TX7, 11, tyX7, rfl, in_X7, by decide, by decide, (lw_gm 125 (by decide +kernel) rfl), tyX7_ok, nmX7, rfl, rfl⟩
theorem fX7_13 : sf_ok RX7 13 6 1 := ⟨RX7, TX7, 11, rfl, in_X7, by decide, by decide, (lw_gm 127 (by decide +kernel) rfl)⟩
theorem pX7_13 : sf_okp RX7 13 6 1 := ⟨RX7, TX7, 11, tyX7, rfl, in_X7, by decide, by decide, (lw_gm 127 (by decide +kernel) rfl), tyX7_ok, nmX7, rfl, rfl⟩
theorem pX7_16 : sf_okp RX7 16 6 2 := ⟨RX7, TX7, 11, tyX7, rfl, in_X7, by decide, by decide, (lw_gm 130 (by decide +kernel) rfl), tyX7_ok, nmX7, rfl, rfl⟩
theorem pX7_19 : sf_okp RX7 19 6 3 := ⟨RX7, TX7, 11, tyX7, rfl, in_X7, by decide, by decide, (lw_gm 134 (by decide +kernel) rfl), tyX7_ok, nmX7, rfl, rfl⟩
theorem fX7_22 : sf_ok RX7 22 6 4 := ⟨RX7, TX7, 11, rfl, in_X7, by decide, by decide, (lw_gm 136 (by decide +kernel) rfl)⟩
theorem fX7_26 : sf_ok RX7 26 6 5 := ⟨RX7, TX7, 11, rfl, in_X7, by decide, by decide, (lw_gm 140 (by decide +kernel) rfl)⟩
theorem fX7_29 : sf_ok RX7 29 6 6 := ⟨RX7, TX7, 11, rfl, in_X7, by decide, by decide, (lw_gm 144 (by decide +kernel) rfl)⟩
theorem fX7_32 : sf_ok RX7 32 6 7 := ⟨RX7, TX7, 11, rfl, in_X7, by decide, by decide, (lw_gm 147 (by decide +kernel) rfl)⟩
theorem fX7_35 : sf_ok RX7 35 6 8 := ⟨RX7, TX7, 11, rfl, in_X7, by decide, by decide, (lw_gm 151 (by decide +kernel) rfl)⟩
theorem fX7_41 : sf_ok RX7 41 6 10 := ⟨RX7, TX7, 11, rfl, in_X7, by decide, by decide, (lw_gm 158 (by decide +kernel) rfl)⟩
theorem vX8_64 : sm_S RX8 64 mX6_isRow 1 := sm_sk kX6_isRow (lw_gm 320 (by decide +kernel) rfl) (by decide +kernel)
theorem vX8_68 : sm_S RX8 68 mX6_isLane 1 := sm_sk kX6_isLane (lw_gm 323 (by decide +kernel) rfl) (by decide +kernel)
theorem qX8_71 : Cond.constant RX8 71 (Int32.ofInt (-1000001)) ∈ lw_g := (lw_gm 326 (by decide +kernel) rfl)
theorem vX8_72 : sm_V RX8 72 mX8_found 7 1 := sm_vk kX8_found (lw_gm 327 (by decide +kernel) rfl) (by decide +kernel)
theorem fX8_10 : sf_ok RX8 10 7 0 := ⟨RX8, TX8, 9, rfl, in_X8, by decide, by decide, (lw_gm 288 (by decide +kernel) rfl)⟩
theorem vX8_76 : sm_V RX8 76 mX6_make 5 3 := sm_vk kX6_make (lw_gm 332 (by decide +kernel) rfl) (by decide +kernel)
theorem vX8_80 : sm_V RX8 80 mX8_unfound 7 1 := sm_vk kX8_unfound (lw_gm 336 (by decide +kernel) rfl) (by decide +kernel)
theorem vX8_83 : sm_V RX8 83 mX6_isMissing 5 1 := sm_vk kX6_isMissing (lw_gm 344 (by decide +kernel) rfl) (by decide +kernel)
theorem vX8_86 : sm_V RX8 86 mX6_hasPlaces 5 3 := sm_vk kX6_hasPlaces (lw_gm 348 (by decide +kernel) rfl) (by decide +kernel)
theorem vX8_90 : sm_V RX8 90 mX6_put 5 3 := sm_vk kX6_put (lw_gm 352 (by decide +kernel) rfl) (by decide +kernel)
theorem vX8_94 : sm_V RX8 94 mX6_laneOf 5 1 := sm_vk kX6_laneOf (lw_gm 363 (by decide +kernel) rfl) (by decide +kernel)
theorem vX8_97 : sm_V RX8 97 mX6_move 5 5 := sm_vk kX6_move (lw_gm 367 (by decide +kernel) rfl) (by decide +kernel)
theorem vX8_101 : sm_V RX8 101 mX6_remove 5 1 := sm_vk kX6_remove (lw_gm 378 (by decide +kernel) rfl) (by decide +kernel)
theorem fX8_19 : sf_ok RX8 19 7 1 := ⟨RX8, TX8, 9, rfl, in_X8, by decide, by decide, (lw_gm 289 (by decide +kernel) rfl)⟩
theorem vX8_104 : sm_V RX8 104 mX5_isFull 4 0 := sm_vk kX5_isFull (lw_gm 386 (by decide +kernel) rfl) (by decide +kernel)
theorem qX8_108 : Cond.constant RX8 108 (Int32.ofInt (-1000003)) ∈ lw_g := (lw_gm 390 (by decide +kernel) rfl)
theorem vX8_109 : sm_V RX8 109 mX5_append 4 1 := sm_vk kX5_append (lw_gm 391 (by decide +kernel) rfl) (by decide +kernel)
theorem fX8_30 : sf_ok RX8 30 7 3 := ⟨RX8, TX8, 9, rfl, in_X8, by decide, by decide, (lw_gm 291 (by decide +kernel) rfl)⟩
theorem vX8_112 : sm_V RX8 112 mX5_readInto 4 1 := sm_vk kX5_readInto (lw_gm 399 (by decide +kernel) rfl) (by decide +kernel)
theorem qX8_116 : Cond.constant RX8 116 (Int32.ofInt (-1000100)) ∈ lw_g := (lw_gm 453 (by decide +kernel) rfl)
theorem vX8_117 : sm_V RX8 117 mX5_faultPlace 4 0 := sm_vk kX5_faultPlace (lw_gm 454 (by decide +kernel) rfl) (by decide +kernel)
theorem fX8_26 : sf_ok RX8 26 7 2 := ⟨RX8, TX8, 9, rfl, in_X8, by decide, by decide, (lw_gm 290 (by decide +kernel) rfl)⟩
theorem vX8_121 : sm_V RX8 121 mX7_become 6 1 := sm_vk kX7_become (lw_gm 458 (by decide +kernel) rfl) (by decide +kernel)
theorem fX8_40 : sf_ok RX8 40 7 5 := ⟨RX8, TX8, 9, rfl, in_X8, by decide, by decide, (lw_gm 293 (by decide +kernel) rfl)⟩
theorem vX8_124 : sm_V RX8 124 mX0_clear 0 0 := sm_vk kX0_clear (lw_gm 462 (by decide +kernel) rfl) (by decide +kernel)
theorem fX8_127 : sf_ok RX8 127 6 3 := ⟨RX7, TX7, 11, rfl, in_X7, by decide, by decide, (lw_gm 135 (by decide +kernel) rfl)⟩
theorem vX8_130 : sm_V RX8 130 mX5_latestFault 4 0 := sm_vk kX5_latestFault (lw_gm 470 (by decide +kernel) rfl) (by decide +kernel)
theorem vX8_133 : sm_V RX8 133 mX7_hasStranger 6 1 := sm_vk kX7_hasStranger (lw_gm 478 (by decide +kernel) rfl) (by decide +kernel)
theorem vX8_136 : sm_V RX8 136 mX7_hasLie 6 1 := sm_vk kX7_hasLie (lw_gm 482 (by decide +kernel) rfl) (by decide +kernel)
theorem vX8_139 : sm_V RX8 139 mX7_wasTold 6 2 := sm_vk kX7_wasTold (lw_gm 486 (by decide +kernel) rfl) (by decide +kernel)
theorem qX8_143 : Cond.constant RX8 143 (Int32.ofInt (-1000002)) ∈ lw_g := (lw_gm 490 (by decide +kernel) rfl)
theorem vX8_144 : sm_V RX8 144 mX0_keepAhead 0 2 := sm_vk kX0_keepAhead (lw_gm 491 (by decide +kernel) rfl) (by decide +kernel)
theorem fX8_49 : sf_ok RX8 49 7 6 := ⟨RX8, TX8, 9, rfl, in_X8, by decide, by decide, (lw_gm 294 (by decide +kernel) rfl)⟩
theorem vX8_148 : sm_V RX8 148 mX2_mindOf 2 1 := sm_vk kX2_mindOf (lw_gm 498 (by decide +kernel) rfl) (by decide +kernel)
theorem vX8_152 : sm_V RX8 152 mX4_hear 3 2 := sm_vk kX4_hear (lw_gm 512 (by decide +kernel) rfl) (by decide +kernel)
theorem fX8_158 : sf_ok RX8 158 3 0 := ⟨RX4, TX4, 4, rfl, in_X4, by decide, by decide, (lw_gm 229 (by decide +kernel) rfl)⟩
theorem vX8_161 : sm_V RX8 161 mX7_noteTold 6 4 := sm_vk kX7_noteTold (lw_gm 539 (by decide +kernel) rfl) (by decide +kernel)
theorem vX8_165 : sm_V RX8 165 mX4_dine 3 0 := sm_vk kX4_dine (lw_gm 547 (by decide +kernel) rfl) (by decide +kernel)
theorem vX8_168 : sm_V RX8 168 mX7_noteSupper 6 2 := sm_vk kX7_noteSupper (lw_gm 551 (by decide +kernel) rfl) (by decide +kernel)
theorem vX8_172 : sm_V RX8 172 mX7_noteForgotten 6 2 := sm_vk kX7_noteForgotten (lw_gm 559 (by decide +kernel) rfl) (by decide +kernel)
theorem fX8_175 : sf_ok RX8 175 6 9 := ⟨RX7, TX7, 11, rfl, in_X7, by decide, by decide, (lw_gm 157 (by decide +kernel) rfl)⟩
theorem vX8_179 : sm_S RX8 179 mJ6_bitCount_0f7a4 1 := sm_sk kJ6_bitCount_0f7a4 (lw_gm 563 (by decide +kernel) rfl) (by decide +kernel)
theorem vX8_184 : sm_V RX8 184 mX0_kept 0 0 := sm_vk kX0_kept (lw_gm 568 (by decide +kernel) rfl) (by decide +kernel)
theorem vX8_187 : sm_V RX8 187 mX0_undoLatest 0 1 := sm_vk kX0_undoLatest (lw_gm 572 (by decide +kernel) rfl) (by decide +kernel)
theorem fX8_190 : sf_ok RX8 190 6 5 := ⟨RX7, TX7, 11, rfl, in_X7, by decide, by decide, (lw_gm 143 (by decide +kernel) rfl)⟩
theorem fX8_193 : sf_ok RX8 193 6 6 := ⟨RX7, TX7, 11, rfl, in_X7, by decide, by decide, (lw_gm 146 (by decide +kernel) rfl)⟩
theorem vX8_196 : sm_V RX8 196 mX7_strangersWith 6 2 := sm_vk kX7_strangersWith (lw_gm 580 (by decide +kernel) rfl) (by decide +kernel)
theorem fX8_200 : sf_ok RX8 200 6 10 := ⟨RX7, TX7, 11, rfl, in_X7, by decide, by decide, (lw_gm 162 (by decide +kernel) rfl)⟩
theorem fX8_203 : sf_ok RX8 203 6 7 := ⟨RX7, TX7, 11, rfl, in_X7, by decide, by decide, (lw_gm 150 (by decide +kernel) rfl)⟩
theorem fX8_206 : sf_ok RX8 206 6 8 := ⟨RX7, TX7, 11, rfl, in_X7, by decide, by decide, (lw_gm 153 (by decide +kernel) rfl)⟩
theorem vX8_209 : sm_V RX8 209 mX4_needOf 3 2 := sm_vk kX4_needOf (lw_gm 592 (by decide +kernel) rfl) (by decide +kernel)
theorem vX8_213 : sm_V RX8 213 mX2_nodsNow 2 1 := sm_vk kX2_nodsNow (lw_gm 597 (by decide +kernel) rfl) (by decide +kernel)
theorem vX8_216 : sm_V RX8 216 mX7_isSetOfLies 6 1 := sm_vk kX7_isSetOfLies (lw_gm 611 (by decide +kernel) rfl) (by decide +kernel)
theorem vX8_219 : sm_V RX8 219 mX2_seekOrder 2 2 := sm_vk kX2_seekOrder (lw_gm 615 (by decide +kernel) rfl) (by decide +kernel)
theorem vX8_222 : sm_V RX8 222 mX2_bestNods 2 0 := sm_vk kX2_bestNods (lw_gm 637 (by decide +kernel) rfl) (by decide +kernel)
theorem vX8_225 : sm_V RX8 225 mX2_bestAt 2 1 := sm_vk kX2_bestAt (lw_gm 641 (by decide +kernel) rfl) (by decide +kernel)
theorem vX8_228 : sm_V RX8 228 mX2_fewestAhead 2 2 := sm_vk kX2_fewestAhead (lw_gm 650 (by decide +kernel) rfl) (by decide +kernel)
theorem vX8_232 : sm_V RX8 232 mX2_firstAhead 2 0 := sm_vk kX2_firstAhead (lw_gm 658 (by decide +kernel) rfl) (by decide +kernel)
theorem qX8_235 : Cond.constant RX8 235 (Int32.ofInt (-1000000)) ∈ lw_g := (lw_gm 662 (by decide +kernel) rfl)
theorem vX8_236 : sm_V RX8 236 mX2_deadLies 2 1 := sm_vk kX2_deadLies (lw_gm 667 (by decide +kernel) rfl) (by decide +kernel)
theorem fX8_239 : sf_ok RX8 239 6 2 := ⟨RX7, TX7, 11, rfl, in_X7, by decide, by decide, (lw_gm 133 (by decide +kernel) rfl)⟩
theorem vX8_242 : sm_V RX8 242 mX2_helpEachOther 2 3 := sm_vk kX2_helpEachOther (lw_gm 679 (by decide +kernel) rfl) (by decide +kernel)
theorem vX8_245 : sm_V RX8 245 mX4_wouldNod 3 2 := sm_vk kX4_wouldNod (lw_gm 692 (by decide +kernel) rfl) (by decide +kernel)
theorem vX8_248 : sm_S RX8 248 mX8_isTelling 2 := sm_sk kX8_isTelling (lw_gm 697 (by decide +kernel) rfl) (by decide +kernel)
theorem vX8_251 : sm_V RX8 251 mX8_takeTelling 7 3 := sm_vk kX8_takeTelling (lw_gm 700 (by decide +kernel) rfl) (by decide +kernel)
theorem vX8_254 : sm_V RX8 254 mX2_goesSo 2 3 := sm_vk kX2_goesSo (lw_gm 713 (by decide +kernel) rfl) (by decide +kernel)
theorem vX8_257 : sm_V RX8 257 mX7_stands 6 0 := sm_vk kX7_stands (lw_gm 725 (by decide +kernel) rfl) (by decide +kernel)
theorem vX8_260 : sm_V RX8 260 mX2_waysToNod 2 3 := sm_vk kX2_waysToNod (lw_gm 733 (by decide +kernel) rfl) (by decide +kernel)
theorem vX8_263 : sm_V RX8 263 mX2_waysInAll 2 0 := sm_vk kX2_waysInAll (lw_gm 742 (by decide +kernel) rfl) (by decide +kernel)
theorem vX8_266 : sm_S RX8 266 mX8_commonDivisor 2 := sm_sk kX8_commonDivisor (lw_gm 746 (by decide +kernel) rfl) (by decide +kernel)
theorem fX8_33 : sf_ok RX8 33 7 4 := ⟨RX8, TX8, 9, rfl, in_X8, by decide, by decide, (lw_gm 292 (by decide +kernel) rfl)⟩
theorem fX8_269 : sf_ok RX8 269 6 4 := ⟨RX7, TX7, 11, rfl, in_X7, by decide, by decide, (lw_gm 139 (by decide +kernel) rfl)⟩
theorem vX8_272 : sm_S RX8 272 mX3_isKind 1 := sm_sk kX3_isKind (lw_gm 767 (by decide +kernel) rfl) (by decide +kernel)
theorem vX8_277 : sm_S RX8 277 mX3_isOne 2 := sm_sk kX3_isOne (lw_gm 770 (by decide +kernel) rfl) (by decide +kernel)
theorem fX8_56 : sf_ok RX8 56 7 7 := ⟨RX8, TX8, 9, rfl, in_X8, by decide, by decide, (lw_gm 295 (by decide +kernel) rfl)⟩
theorem vX8_280 : sm_V RX8 280 mX1_answer 1 2 := sm_vk kX1_answer (lw_gm 783 (by decide +kernel) rfl) (by decide +kernel)
theorem vX8_283 : sm_V RX8 283 mX1_traceAt 1 1 := sm_vk kX1_traceAt (lw_gm 816 (by decide +kernel) rfl) (by decide +kernel)
theorem vX8_286 : sm_V RX8 286 mX6_present 5 0 := sm_vk kX6_present (lw_gm 825 (by decide +kernel) rfl) (by decide +kernel)
theorem fX8_289 : sf_ok RX8 289 6 0 := ⟨RX7, TX7, 11, rfl, in_X7, by decide, by decide, (lw_gm 126 (by decide +kernel) rfl)⟩
theorem fX8_292 : sf_ok RX8 292 6 1 := ⟨RX7, TX7, 11, rfl, in_X7, by decide, by decide, (lw_gm 129 (by decide +kernel) rfl)⟩
theorem vX8_295 : sm_V RX8 295 mX5_length 4 0 := sm_vk kX5_length (lw_gm 829 (by decide +kernel) rfl) (by decide +kernel)
theorem fX8_60 : sf_ok RX8 60 7 8 := ⟨RX8, TX8, 9, rfl, in_X8, by decide, by decide, (lw_gm 296 (by decide +kernel) rfl)⟩
theorem pX8_60 : sf_okp RX8 60 7 8 := ⟨RX8, TX8, 9, tyX8, rfl, in_X8, by decide, by decide, (lw_gm 296 (by decide +kernel) rfl), tyX8_ok, nmX8, rfl, rfl⟩
theorem qX8_298 : Cond.constant RX8 298 (Int32.ofInt (-1000010)) ∈ lw_g := (lw_gm 331 (by decide +kernel) rfl)
theorem vX8_299 : sm_V RX8 299 mX2_takeTelling 2 4 := sm_vk kX2_takeTelling (lw_gm 704 (by decide +kernel) rfl) (by decide +kernel)
theorem vX8_302 : sm_S RX8 302 mJ9_max_7cf53 2 := sm_sk kJ9_max_7cf53 (lw_gm 749 (by decide +kernel) rfl) (by decide +kernel)
theorem vX8_307 : sm_S RX8 307 mJ9_min_7cf53 2 := sm_sk kJ9_min_7cf53 (lw_gm 750 (by decide +kernel) rfl) (by decide +kernel)
theorem fX9_54 : sf_ok RX9 54 8 4 := ⟨RX9, TX9, 28, rfl, in_X9, by decide, by decide, (lw_gm 848 (by decide +kernel) rfl)⟩
theorem pX9_54 : sf_okp RX9 54 8 4 := ⟨RX9, TX9, 28, tyX9, rfl, in_X9, by decide, by decide, (lw_gm 848 (by decide +kernel) rfl), tyX9_ok, nmX9, rfl, rfl⟩
theorem qX9_58 : Cond.constant RX9 58 (Int32.ofInt (-1000010)) ∈ lw_g := (lw_gm 945 (by decide +kernel) rfl)
theorem vX9_59 : sm_S RX9 59 mX9_in 3 := sm_sk kX9_in (lw_gm 937 (by decide +kernel) rfl) (by decide +kernel)
theorem fX9_7 : sf_ok RX9 7 8 0 := ⟨RX9, TX9, 28, rfl, in_X9, by decide, by decide, (lw_gm 844 (by decide +kernel) rfl)⟩
theorem qX9_53 : Cond.constant RX9 53 (Int32.ofInt (-1000000)) ∈ lw_g := (lw_gm 843 (by decide +kernel) rfl)
theorem vX9_63 : sm_S RX9 63 mX9_isRow 1 := sm_sk kX9_isRow (lw_gm 934 (by decide +kernel) rfl) (by decide +kernel)
theorem qX9_67 : Cond.constant RX9 67 (Int32.ofInt (-1000001)) ∈ lw_g := (lw_gm 940 (by decide +kernel) rfl)
theorem vX9_68 : sm_V RX9 68 mX9_found 8 1 := sm_vk kX9_found (lw_gm 941 (by decide +kernel) rfl) (by decide +kernel)
theorem fX9_13 : sf_ok RX9 13 8 1 := ⟨RX9, TX9, 28, rfl, in_X9, by decide, by decide, (lw_gm 845 (by decide +kernel) rfl)⟩
theorem fX9_16 : sf_ok RX9 16 8 2 := ⟨RX9, TX9, 28, rfl, in_X9, by decide, by decide, (lw_gm 846 (by decide +kernel) rfl)⟩
theorem vX9_72 : sm_V RX9 72 mX9_well 8 1 := sm_vk kX9_well (lw_gm 946 (by decide +kernel) rfl) (by decide +kernel)
theorem vX9_75 : sm_V RX9 75 mX9_isMissing 8 1 := sm_vk kX9_isMissing (lw_gm 954 (by decide +kernel) rfl) (by decide +kernel)
theorem vX9_78 : sm_S RX9 78 mX9_cut 2 := sm_sk kX9_cut (lw_gm 958 (by decide +kernel) rfl) (by decide +kernel)
theorem vX9_82 : sm_V RX9 82 mX9_isPart 8 3 := sm_vk kX9_isPart (lw_gm 965 (by decide +kernel) rfl) (by decide +kernel)
theorem fX9_19 : sf_ok RX9 19 8 3 := ⟨RX9, TX9, 28, rfl, in_X9, by decide, by decide, (lw_gm 847 (by decide +kernel) rfl)⟩
theorem fX9_85 : sf_ok RX9 85 8 6 := ⟨RX9, TX9, 28, rfl, in_X9, by decide, by decide, (lw_gm 850 (by decide +kernel) rfl)⟩
theorem qX9_88 : Cond.constant RX9 88 (Int32.ofInt (-1000003)) ∈ lw_g := (lw_gm 977 (by decide +kernel) rfl)
theorem fX9_22 : sf_ok RX9 22 8 5 := ⟨RX9, TX9, 28, rfl, in_X9, by decide, by decide, (lw_gm 849 (by decide +kernel) rfl)⟩
theorem pX9_85 : sf_okp RX9 85 8 6 := ⟨RX9, TX9, 28, tyX9, rfl, in_X9, by decide, by decide, (lw_gm 850 (by decide +kernel) rfl), tyX9_ok, nmX9, rfl, rfl⟩
theorem fX9_89 : sf_ok RX9 89 8 9 := ⟨RX9, TX9, 28, rfl, in_X9, by decide, by decide, (lw_gm 853 (by decide +kernel) rfl)⟩
theorem fX9_92 : sf_ok RX9 92 8 10 := ⟨RX9, TX9, 28, rfl, in_X9, by decide, by decide, (lw_gm 854 (by decide +kernel) rfl)⟩
theorem pX9_92 : sf_okp RX9 92 8 10 := ⟨RX9, TX9, 28, tyX9, rfl, in_X9, by decide, by decide, (lw_gm 854 (by decide +kernel) rfl), tyX9_ok, nmX9, rfl, rfl⟩
theorem vX9_95 : sm_V RX9 95 mX9_byteAt 8 1 := sm_vk kX9_byteAt (lw_gm 986 (by decide +kernel) rfl) (by decide +kernel)
theorem fX9_98 : sf_ok RX9 98 8 12 := ⟨RX9, TX9, 28, rfl, in_X9, by decide, by decide, (lw_gm 856 (by decide +kernel) rfl)⟩
theorem pX9_98 : sf_okp RX9 98 8 12 := ⟨RX9, TX9, 28, tyX9, rfl, in_X9, by decide, by decide, (lw_gm 856 (by decide +kernel) rfl), tyX9_ok, nmX9, rfl, rfl⟩
theorem pX9_89 : sf_okp RX9 89 8 9 := ⟨RX9, TX9, 28, tyX9, rfl, in_X9, by decide, by decide, (lw_gm 853 (by decide +kernel) rfl), tyX9_ok, nmX9, rfl, rfl⟩
theorem fX9_101 : sf_ok RX9 101 8 11 := ⟨RX9, TX9, 28, rfl, in_X9, by decide, by decide, (lw_gm 855 (by decide +kernel) rfl)⟩
theorem pX9_101 : sf_okp RX9 101 8 11 := ⟨RX9, TX9, 28, tyX9, rfl, in_X9, by decide, by decide, (lw_gm 855 (by decide +kernel) rfl), tyX9_ok, nmX9, rfl, rfl⟩
theorem fX9_104 : sf_ok RX9 104 8 8 := ⟨RX9, TX9, 28, rfl, in_X9, by decide, by decide, (lw_gm 852 (by decide +kernel) rfl)⟩
theorem vX9_107 : sm_V RX9 107 mX9_isWell 8 0 := sm_vk kX9_isWell (lw_gm 994 (by decide +kernel) rfl) (by decide +kernel)
theorem pX9_104 : sf_okp RX9 104 8 8 := ⟨RX9, TX9, 28, tyX9, rfl, in_X9, by decide, by decide, (lw_gm 852 (by decide +kernel) rfl), tyX9_ok, nmX9, rfl, rfl⟩
theorem fX9_111 : sf_ok RX9 111 8 7 := ⟨RX9, TX9, 28, rfl, in_X9, by decide, by decide, (lw_gm 851 (by decide +kernel) rfl)⟩
theorem pX9_111 : sf_okp RX9 111 8 7 := ⟨RX9, TX9, 28, tyX9, rfl, in_X9, by decide, by decide, (lw_gm 851 (by decide +kernel) rfl), tyX9_ok, nmX9, rfl, rfl⟩
theorem vX9_114 : sm_V RX9 114 mX9_advances 8 0 := sm_vk kX9_advances (lw_gm 982 (by decide +kernel) rfl) (by decide +kernel)
theorem vX9_117 : sm_V RX9 117 mX9_takes 8 2 := sm_vk kX9_takes (lw_gm 990 (by decide +kernel) rfl) (by decide +kernel)
theorem vX9_121 : sm_V RX9 121 mX9_figure 8 2 := sm_vk kX9_figure (lw_gm 998 (by decide +kernel) rfl) (by decide +kernel)
theorem vX9_124 : sm_S RX9 124 mX9_kindOf 1 := sm_sk kX9_kindOf (lw_gm 1002 (by decide +kernel) rfl) (by decide +kernel)
theorem fX9_28 : sf_ok RX9 28 8 14 := ⟨RX9, TX9, 28, rfl, in_X9, by decide, by decide, (lw_gm 858 (by decide +kernel) rfl)⟩
theorem vX9_127 : sm_V RX9 127 mX9_next 8 2 := sm_vk kX9_next (lw_gm 1009 (by decide +kernel) rfl) (by decide +kernel)
theorem vX9_130 : sm_V RX9 130 mX9_readsLie 8 0 := sm_vk kX9_readsLie (lw_gm 1005 (by decide +kernel) rfl) (by decide +kernel)
theorem vX9_133 : sm_V RX9 133 mX9_readsStranger 8 0 := sm_vk kX9_readsStranger (lw_gm 1013 (by decide +kernel) rfl) (by decide +kernel)
theorem qX9_136 : Cond.constant RX9 136 (Int32.ofInt (-1000100)) ∈ lw_g := (lw_gm 1017 (by decide +kernel) rfl)
theorem fX9_25 : sf_ok RX9 25 8 13 := ⟨RX9, TX9, 28, rfl, in_X9, by decide, by decide, (lw_gm 857 (by decide +kernel) rfl)⟩
theorem vX9_137 : sm_S RX9 137 mX9_copies 4 := sm_sk kX9_copies (lw_gm 1018 (by decide +kernel) rfl) (by decide +kernel)
theorem fX9_141 : sf_ok RX9 141 8 16 := ⟨RX9, TX9, 28, rfl, in_X9, by decide, by decide, (lw_gm 860 (by decide +kernel) rfl)⟩
theorem pX9_141 : sf_okp RX9 141 8 16 := ⟨RX9, TX9, 28, tyX9, rfl, in_X9, by decide, by decide, (lw_gm 860 (by decide +kernel) rfl), tyX9_ok, nmX9, rfl, rfl⟩
theorem fX9_144 : sf_ok RX9 144 8 21 := ⟨RX9, TX9, 28, rfl, in_X9, by decide, by decide, (lw_gm 865 (by decide +kernel) rfl)⟩
theorem pX9_144 : sf_okp RX9 144 8 21 := ⟨RX9, TX9, 28, tyX9, rfl, in_X9, by decide, by decide, (lw_gm 865 (by decide +kernel) rfl), tyX9_ok, nmX9, rfl, rfl⟩
theorem fX9_147 : sf_ok RX9 147 8 22 := ⟨RX9, TX9, 28, rfl, in_X9, by decide, by decide, (lw_gm 866 (by decide +kernel) rfl)⟩
theorem pX9_147 : sf_okp RX9 147 8 22 := ⟨RX9, TX9, 28, tyX9, rfl, in_X9, by decide, by decide, (lw_gm 866 (by decide +kernel) rfl), tyX9_ok, nmX9, rfl, rfl⟩
theorem vX9_150 : sm_S RX9 150 mX9_ones 1 := sm_sk kX9_ones (lw_gm 1053 (by decide +kernel) rfl) (by decide +kernel)
theorem fX9_153 : sf_ok RX9 153 8 23 := ⟨RX9, TX9, 28, rfl, in_X9, by decide, by decide, (lw_gm 867 (by decide +kernel) rfl)⟩
theorem pX9_153 : sf_okp RX9 153 8 23 := ⟨RX9, TX9, 28, tyX9, rfl, in_X9, by decide, by decide, (lw_gm 867 (by decide +kernel) rfl), tyX9_ok, nmX9, rfl, rfl⟩
theorem fX9_44 : sf_ok RX9 44 8 24 := ⟨RX9, TX9, 28, rfl, in_X9, by decide, by decide, (lw_gm 868 (by decide +kernel) rfl)⟩
theorem vX9_156 : sm_S RX9 156 mX9_has 2 := sm_sk kX9_has (lw_gm 1041 (by decide +kernel) rfl) (by decide +kernel)
theorem vX9_160 : sm_V RX9 160 mX9_needs 8 1 := sm_vk kX9_needs (lw_gm 1060 (by decide +kernel) rfl) (by decide +kernel)
theorem fX9_31 : sf_ok RX9 31 8 15 := ⟨RX9, TX9, 28, rfl, in_X9, by decide, by decide, (lw_gm 859 (by decide +kernel) rfl)⟩
theorem vX9_163 : sm_V RX9 163 mX9_isStranger 8 1 := sm_vk kX9_isStranger (lw_gm 1029 (by decide +kernel) rfl) (by decide +kernel)
theorem vX9_166 : sm_V RX9 166 mX9_isLie 8 1 := sm_vk kX9_isLie (lw_gm 1033 (by decide +kernel) rfl) (by decide +kernel)
theorem vX9_169 : sm_V RX9 169 mX9_wasTold 8 2 := sm_vk kX9_wasTold (lw_gm 1037 (by decide +kernel) rfl) (by decide +kernel)
theorem qX9_172 : Cond.constant RX9 172 (Int32.ofInt (-1000002)) ∈ lw_g := (lw_gm 1044 (by decide +kernel) rfl)
theorem vX9_173 : sm_V RX9 173 mX9_notes 8 0 := sm_vk kX9_notes (lw_gm 1045 (by decide +kernel) rfl) (by decide +kernel)
theorem vX9_176 : sm_V RX9 176 mX9_tries 8 1 := sm_vk kX9_tries (lw_gm 1049 (by decide +kernel) rfl) (by decide +kernel)
theorem vX9_180 : sm_V RX9 180 mX9_wouldNod 8 1 := sm_vk kX9_wouldNod (lw_gm 1056 (by decide +kernel) rfl) (by decide +kernel)
theorem vX9_183 : sm_V RX9 183 mX9_hears 8 2 := sm_vk kX9_hears (lw_gm 1064 (by decide +kernel) rfl) (by decide +kernel)
theorem vX9_187 : sm_V RX9 187 mX9_strangersWith 8 2 := sm_vk kX9_strangersWith (lw_gm 1084 (by decide +kernel) rfl) (by decide +kernel)
theorem vX9_190 : sm_V RX9 190 mX9_noddedAt 8 1 := sm_vk kX9_noddedAt (lw_gm 1088 (by decide +kernel) rfl) (by decide +kernel)
theorem vX9_193 : sm_V RX9 193 mX9_untold 8 1 := sm_vk kX9_untold (lw_gm 1104 (by decide +kernel) rfl) (by decide +kernel)
theorem fX9_47 : sf_ok RX9 47 8 25 := ⟨RX9, TX9, 28, rfl, in_X9, by decide, by decide, (lw_gm 869 (by decide +kernel) rfl)⟩
theorem vX9_196 : sm_V RX9 196 mX9_fills 8 4 := sm_vk kX9_fills (lw_gm 1112 (by decide +kernel) rfl) (by decide +kernel)
theorem fX9_200 : sf_ok RX9 200 8 27 := ⟨RX9, TX9, 28, rfl, in_X9, by decide, by decide, (lw_gm 871 (by decide +kernel) rfl)⟩
theorem pX9_200 : sf_okp RX9 200 8 27 := ⟨RX9, TX9, 28, tyX9, rfl, in_X9, by decide, by decide, (lw_gm 871 (by decide +kernel) rfl), tyX9_ok, nmX9, rfl, rfl⟩
theorem vX9_203 : sm_V RX9 203 mX9_nodsAt 8 2 := sm_vk kX9_nodsAt (lw_gm 1116 (by decide +kernel) rfl) (by decide +kernel)
theorem fX9_50 : sf_ok RX9 50 8 26 := ⟨RX9, TX9, 28, rfl, in_X9, by decide, by decide, (lw_gm 870 (by decide +kernel) rfl)⟩
theorem vX9_206 : sm_V RX9 206 mX9_goesOn 8 2 := sm_vk kX9_goesOn (lw_gm 1120 (by decide +kernel) rfl) (by decide +kernel)
theorem vX9_209 : sm_V RX9 209 mX9_aheadOf 8 2 := sm_vk kX9_aheadOf (lw_gm 1128 (by decide +kernel) rfl) (by decide +kernel)
theorem vX9_212 : sm_V RX9 212 mX9_helps 8 3 := sm_vk kX9_helps (lw_gm 1140 (by decide +kernel) rfl) (by decide +kernel)
theorem vX9_215 : sm_V RX9 215 mX9_wrongIn 8 3 := sm_vk kX9_wrongIn (lw_gm 1152 (by decide +kernel) rfl) (by decide +kernel)
theorem vX9_219 : sm_V RX9 219 mX9_goesSo 8 2 := sm_vk kX9_goesSo (lw_gm 1156 (by decide +kernel) rfl) (by decide +kernel)
theorem vX9_222 : sm_V RX9 222 mX9_isTown 8 0 := sm_vk kX9_isTown (lw_gm 1168 (by decide +kernel) rfl) (by decide +kernel)
theorem qX9_225 : Cond.constantLong RX9 225 (Int64.ofInt (10)) ∈ lw_g := (lw_gm 1176 (by decide +kernel) rfl)
theorem vX9_227 : sm_V RX9 227 mX9_goesBy 8 5 := sm_vk kX9_goesBy (lw_gm 1177 (by decide +kernel) rfl) (by decide +kernel)
theorem fX9_34 : sf_ok RX9 34 8 17 := ⟨RX9, TX9, 28, rfl, in_X9, by decide, by decide, (lw_gm 861 (by decide +kernel) rfl)⟩
theorem fX9_37 : sf_ok RX9 37 8 18 := ⟨RX9, TX9, 28, rfl, in_X9, by decide, by decide, (lw_gm 862 (by decide +kernel) rfl)⟩
theorem vX9_231 : sm_V RX9 231 mX9_kindIn 8 1 := sm_vk kX9_kindIn (lw_gm 1193 (by decide +kernel) rfl) (by decide +kernel)
theorem fX9_234 : sf_ok RX9 234 8 20 := ⟨RX9, TX9, 28, rfl, in_X9, by decide, by decide, (lw_gm 864 (by decide +kernel) rfl)⟩
theorem fX9_41 : sf_ok RX9 41 8 19 := ⟨RX9, TX9, 28, rfl, in_X9, by decide, by decide, (lw_gm 863 (by decide +kernel) rfl)⟩
theorem pX9_234 : sf_okp RX9 234 8 20 := ⟨RX9, TX9, 28, tyX9, rfl, in_X9, by decide, by decide, (lw_gm 864 (by decide +kernel) rfl), tyX9_ok, nmX9, rfl, rfl⟩
theorem vX9_237 : sm_V RX9 237 mX9_begins 8 1 := sm_vk kX9_begins (lw_gm 1209 (by decide +kernel) rfl) (by decide +kernel)
theorem vX9_240 : sm_V RX9 240 mX9_easyMark 8 1 := sm_vk kX9_easyMark (lw_gm 1217 (by decide +kernel) rfl) (by decide +kernel)
theorem vX9_243 : sm_V RX9 243 mX9_proofSize 8 1 := sm_vk kX9_proofSize (lw_gm 1205 (by decide +kernel) rfl) (by decide +kernel)
theorem vX9_246 : sm_V RX9 246 mX9_easySize 8 1 := sm_vk kX9_easySize (lw_gm 1213 (by decide +kernel) rfl) (by decide +kernel)
theorem vX9_249 : sm_V RX9 249 mX9_proofMark 8 1 := sm_vk kX9_proofMark (lw_gm 1221 (by decide +kernel) rfl) (by decide +kernel)
theorem qJ6_265 : Cond.constant RJ6 265 (Int32.ofInt (1431655765)) ∈ lw_g := (lw_gm 509 (by decide +kernel) rfl)
theorem qJ6_266 : Cond.constant RJ6 266 (Int32.ofInt (858993459)) ∈ lw_g := (lw_gm 510 (by decide +kernel) rfl)
theorem qJ6_267 : Cond.constant RJ6 267 (Int32.ofInt (252645135)) ∈ lw_g := (lw_gm 511 (by decide +kernel) rfl)
theorem vL_13 : sm_V RL 13 mX8_row 7 3 := sm_vk kX8_row (lw_gm 316 (by decide +kernel) rfl) (by decide +kernel)
theorem vL_17 : sm_V RL 17 mX9_row 8 3 := sm_vk kX9_row (lw_gm 930 (by decide +kernel) rfl) (by decide +kernel)
theorem vL_18 : sm_V RL 18 mX8_set 7 3 := sm_vk kX8_set (lw_gm 340 (by decide +kernel) rfl) (by decide +kernel)
theorem vL_21 : sm_V RL 21 mX9_set 8 3 := sm_vk kX9_set (lw_gm 950 (by decide +kernel) rfl) (by decide +kernel)
theorem vL_22 : sm_V RL 22 mX8_copy 7 5 := sm_vk kX8_copy (lw_gm 359 (by decide +kernel) rfl) (by decide +kernel)
theorem vL_26 : sm_V RL 26 mX9_copy 8 5 := sm_vk kX9_copy (lw_gm 961 (by decide +kernel) rfl) (by decide +kernel)
theorem vL_27 : sm_V RL 27 mX8_drop 7 1 := sm_vk kX8_drop (lw_gm 374 (by decide +kernel) rfl) (by decide +kernel)
theorem vL_31 : sm_V RL 31 mX9_drop 8 1 := sm_vk kX9_drop (lw_gm 969 (by decide +kernel) rfl) (by decide +kernel)
theorem vL_32 : sm_V RL 32 mX8_feed 7 1 := sm_vk kX8_feed (lw_gm 382 (by decide +kernel) rfl) (by decide +kernel)
theorem vL_35 : sm_V RL 35 mX9_feed 8 1 := sm_vk kX9_feed (lw_gm 973 (by decide +kernel) rfl) (by decide +kernel)
theorem vL_36 : sm_V RL 36 mX8_town 7 0 := sm_vk kX8_town (lw_gm 395 (by decide +kernel) rfl) (by decide +kernel)
theorem vL_40 : sm_V RL 40 mX9_town 8 0 := sm_vk kX9_town (lw_gm 978 (by decide +kernel) rfl) (by decide +kernel)
theorem vL_41 : sm_V RL 41 mX8_fault 7 0 := sm_vk kX8_fault (lw_gm 466 (by decide +kernel) rfl) (by decide +kernel)
theorem vL_44 : sm_V RL 44 mX9_fault 8 0 := sm_vk kX9_fault (lw_gm 1021 (by decide +kernel) rfl) (by decide +kernel)
theorem vL_45 : sm_V RL 45 mX8_tell 7 2 := sm_vk kX8_tell (lw_gm 474 (by decide +kernel) rfl) (by decide +kernel)
theorem vL_49 : sm_V RL 49 mX9_tell 8 2 := sm_vk kX9_tell (lw_gm 1025 (by decide +kernel) rfl) (by decide +kernel)
theorem vL_50 : sm_V RL 50 mX8_supper 7 1 := sm_vk kX8_supper (lw_gm 543 (by decide +kernel) rfl) (by decide +kernel)
theorem vL_53 : sm_V RL 53 mX9_supper 8 1 := sm_vk kX9_supper (lw_gm 1068 (by decide +kernel) rfl) (by decide +kernel)
theorem vL_54 : sm_V RL 54 mX8_forget 7 2 := sm_vk kX8_forget (lw_gm 555 (by decide +kernel) rfl) (by decide +kernel)
theorem vL_57 : sm_V RL 57 mX9_forget 8 2 := sm_vk kX9_forget (lw_gm 1072 (by decide +kernel) rfl) (by decide +kernel)
theorem vL_58 : sm_V RL 58 mX8_undo 7 0 := sm_vk kX8_undo (lw_gm 564 (by decide +kernel) rfl) (by decide +kernel)
theorem vL_61 : sm_V RL 61 mX9_undo 8 0 := sm_vk kX9_undo (lw_gm 1076 (by decide +kernel) rfl) (by decide +kernel)
theorem vL_62 : sm_V RL 62 mX8_lie 7 2 := sm_vk kX8_lie (lw_gm 576 (by decide +kernel) rfl) (by decide +kernel)
theorem vL_65 : sm_V RL 65 mX9_lie 8 2 := sm_vk kX9_lie (lw_gm 1080 (by decide +kernel) rfl) (by decide +kernel)
theorem vL_66 : sm_V RL 66 mX8_stranger 7 2 := sm_vk kX8_stranger (lw_gm 584 (by decide +kernel) rfl) (by decide +kernel)
theorem vL_69 : sm_V RL 69 mX9_stranger 8 2 := sm_vk kX9_stranger (lw_gm 1092 (by decide +kernel) rfl) (by decide +kernel)
theorem vL_70 : sm_V RL 70 mX8_need 7 2 := sm_vk kX8_need (lw_gm 588 (by decide +kernel) rfl) (by decide +kernel)
theorem vL_73 : sm_V RL 73 mX9_need 8 2 := sm_vk kX9_need (lw_gm 1096 (by decide +kernel) rfl) (by decide +kernel)
theorem vL_74 : sm_V RL 74 mX8_nods 7 1 := sm_vk kX8_nods (lw_gm 593 (by decide +kernel) rfl) (by decide +kernel)
theorem vL_77 : sm_V RL 77 mX9_nods 8 1 := sm_vk kX9_nods (lw_gm 1100 (by decide +kernel) rfl) (by decide +kernel)
theorem vL_78 : sm_V RL 78 mX8_order 7 3 := sm_vk kX8_order (lw_gm 607 (by decide +kernel) rfl) (by decide +kernel)
theorem vL_81 : sm_V RL 81 mX9_order 8 3 := sm_vk kX9_order (lw_gm 1108 (by decide +kernel) rfl) (by decide +kernel)
theorem vL_82 : sm_V RL 82 mX8_comesIn 7 3 := sm_vk kX8_comesIn (lw_gm 646 (by decide +kernel) rfl) (by decide +kernel)
theorem vL_85 : sm_V RL 85 mX9_comesIn 8 3 := sm_vk kX9_comesIn (lw_gm 1124 (by decide +kernel) rfl) (by decide +kernel)
theorem vL_86 : sm_V RL 86 mX8_dead 7 1 := sm_vk kX8_dead (lw_gm 663 (by decide +kernel) rfl) (by decide +kernel)
theorem vL_89 : sm_V RL 89 mX9_dead 8 1 := sm_vk kX9_dead (lw_gm 1132 (by decide +kernel) rfl) (by decide +kernel)
theorem vL_90 : sm_V RL 90 mX8_help 7 2 := sm_vk kX8_help (lw_gm 675 (by decide +kernel) rfl) (by decide +kernel)
theorem vL_93 : sm_V RL 93 mX9_help 8 2 := sm_vk kX9_help (lw_gm 1136 (by decide +kernel) rfl) (by decide +kernel)
theorem vL_94 : sm_V RL 94 mX8_suppers 7 2 := sm_vk kX8_suppers (lw_gm 688 (by decide +kernel) rfl) (by decide +kernel)
theorem vL_97 : sm_V RL 97 mX9_suppers 8 2 := sm_vk kX9_suppers (lw_gm 1144 (by decide +kernel) rfl) (by decide +kernel)
theorem vL_98 : sm_V RL 98 mX8_doubted 7 5 := sm_vk kX8_doubted (lw_gm 693 (by decide +kernel) rfl) (by decide +kernel)
theorem vL_101 : sm_V RL 101 mX9_doubted 8 5 := sm_vk kX9_doubted (lw_gm 1148 (by decide +kernel) rfl) (by decide +kernel)
theorem vL_102 : sm_V RL 102 mX8_trusted 7 4 := sm_vk kX8_trusted (lw_gm 717 (by decide +kernel) rfl) (by decide +kernel)
theorem vL_106 : sm_V RL 106 mX9_trusted 8 4 := sm_vk kX9_trusted (lw_gm 1160 (by decide +kernel) rfl) (by decide +kernel)
theorem vL_107 : sm_V RL 107 mX8_who 7 3 := sm_vk kX8_who (lw_gm 721 (by decide +kernel) rfl) (by decide +kernel)
theorem vL_110 : sm_V RL 110 mX9_who 8 3 := sm_vk kX9_who (lw_gm 1164 (by decide +kernel) rfl) (by decide +kernel)
theorem vL_111 : sm_V RL 111 mX8_odds 7 7 := sm_vk kX8_odds (lw_gm 729 (by decide +kernel) rfl) (by decide +kernel)
theorem vL_115 : sm_V RL 115 mX9_odds 8 7 := sm_vk kX9_odds (lw_gm 1172 (by decide +kernel) rfl) (by decide +kernel)
theorem vL_116 : sm_V RL 116 mX8_image 7 1 := sm_vk kX8_image (lw_gm 751 (by decide +kernel) rfl) (by decide +kernel)
theorem vL_119 : sm_V RL 119 mX9_image 8 1 := sm_vk kX9_image (lw_gm 1181 (by decide +kernel) rfl) (by decide +kernel)
theorem vL_120 : sm_V RL 120 mX8_restore 7 1 := sm_vk kX8_restore (lw_gm 755 (by decide +kernel) rfl) (by decide +kernel)
theorem vL_123 : sm_V RL 123 mX9_restore 8 1 := sm_vk kX9_restore (lw_gm 1185 (by decide +kernel) rfl) (by decide +kernel)
theorem vL_124 : sm_V RL 124 mX8_kind 7 1 := sm_vk kX8_kind (lw_gm 759 (by decide +kernel) rfl) (by decide +kernel)
theorem vL_127 : sm_V RL 127 mX9_kind 8 1 := sm_vk kX9_kind (lw_gm 1189 (by decide +kernel) rfl) (by decide +kernel)
theorem vL_128 : sm_V RL 128 mX8_as 7 2 := sm_vk kX8_as (lw_gm 763 (by decide +kernel) rfl) (by decide +kernel)
theorem vL_131 : sm_V RL 131 mX9_as 8 2 := sm_vk kX9_as (lw_gm 1197 (by decide +kernel) rfl) (by decide +kernel)
theorem vL_132 : sm_V RL 132 mX8_ask 7 2 := sm_vk kX8_ask (lw_gm 779 (by decide +kernel) rfl) (by decide +kernel)
theorem vL_135 : sm_V RL 135 mX9_ask 8 2 := sm_vk kX9_ask (lw_gm 1201 (by decide +kernel) rfl) (by decide +kernel)
theorem vL_136 : sm_V RL 136 mX8_trace 7 1 := sm_vk kX8_trace (lw_gm 812 (by decide +kernel) rfl) (by decide +kernel)
theorem vL_139 : sm_V RL 139 mX9_trace 8 1 := sm_vk kX9_trace (lw_gm 1225 (by decide +kernel) rfl) (by decide +kernel)
theorem vL_140 : sm_V RL 140 mX8_count 7 1 := sm_vk kX8_count (lw_gm 821 (by decide +kernel) rfl) (by decide +kernel)
theorem vL_143 : sm_V RL 143 mX9_count 8 1 := sm_vk kX9_count (lw_gm 1229 (by decide +kernel) rfl) (by decide +kernel)
theorem vL_144 : sm_V RL 144 mX8_status 7 0 := sm_vk kX8_status (lw_gm 833 (by decide +kernel) rfl) (by decide +kernel)
theorem vL_147 : sm_V RL 147 mX9_status 8 0 := sm_vk kX9_status (lw_gm 1233 (by decide +kernel) rfl) (by decide +kernel)
section VA_
variable {g : SG_} {d : Nat} {M : MD_} {pc q : Nat} {ls : List (Option SV_)} {rest : List SV_} {h : SH_} {Post : Option SV_ → SH_ → Prop} {Y : MD_} {idx c : Nat} {k : Int}
theorem vr_iv0 (hd : decode M.2.1 pc = .ok (.invokevirtual idx, 3)) (hq : pc + 3 = q) (hc : sm_V M.1.cls idx Y c 0) (hW : (rest.map sv_c).sum ≤ 8) (hC : Ctr_ g d Y (sv_r 4 c k :: []) h (fun r h' => V_ g (d + 1) M q ls (so_p r rest) h' Post)) : V_ g (d + 1) M pc ls (sv_r 4 c k :: rest) h Post := V_iv (as := []) hd hq hc rfl rfl hW hC
theorem vr_is0 (hd : decode M.2.1 pc = .ok (.invokestatic idx, 3)) (hq : pc + 3 = q) (hc : sm_S M.1.cls idx Y 0) (hW : (rest.map sv_c).sum ≤ 8) (hC : Ctr_ g d Y [] h (fun r h' => V_ g (d + 1) M q ls (so_p r rest) h' Post)) : V_ g (d + 1) M pc ls (rest) h Post := V_is (as := []) hd hq hc rfl rfl hW hC
theorem vr_iv1 {a0 : SV_} (hd : decode M.2.1 pc = .ok (.invokevirtual idx, 3)) (hq : pc + 3 = q) (hc : sm_V M.1.cls idx Y c 1) (hW : (rest.map sv_c).sum ≤ 8) (hC : Ctr_ g d Y (sv_r 4 c k :: [a0]) h (fun r h' => V_ g (d + 1) M q ls (so_p r rest) h' Post)) : V_ g (d + 1) M pc ls (a0 :: sv_r 4 c k :: rest) h Post := V_iv (as := [a0]) hd hq hc rfl rfl hW hC
theorem vr_is1 {a0 : SV_} (hd : decode M.2.1 pc = .ok (.invokestatic idx, 3)) (hq : pc + 3 = q) (hc : sm_S M.1.cls idx Y 1) (hW : (rest.map sv_c).sum ≤ 8) (hC : Ctr_ g d Y [a0] h (fun r h' => V_ g (d + 1) M q ls (so_p r rest) h' Post)) : V_ g (d + 1) M pc ls (a0 :: rest) h Post := V_is (as := [a0]) hd hq hc rfl rfl hW hC
theorem vr_iv2 {a0 a1 : SV_} (hd : decode M.2.1 pc = .ok (.invokevirtual idx, 3)) (hq : pc + 3 = q) (hc : sm_V M.1.cls idx Y c 2) (hW : (rest.map sv_c).sum ≤ 8) (hC : Ctr_ g d Y (sv_r 4 c k :: [a0, a1]) h (fun r h' => V_ g (d + 1) M q ls (so_p r rest) h' Post)) : V_ g (d + 1) M pc ls (a1 :: a0 :: sv_r 4 c k :: rest) h Post := V_iv (as := [a0, a1]) hd hq hc rfl rfl hW hC
theorem vr_is2 {a0 a1 : SV_} (hd : decode M.2.1 pc = .ok (.invokestatic idx, 3)) (hq : pc + 3 = q) (hc : sm_S M.1.cls idx Y 2) (hW : (rest.map sv_c).sum ≤ 8) (hC : Ctr_ g d Y [a0, a1] h (fun r h' => V_ g (d + 1) M q ls (so_p r rest) h' Post)) : V_ g (d + 1) M pc ls (a1 :: a0 :: rest) h Post := V_is (as := [a0, a1]) hd hq hc rfl rfl hW hC
theorem vr_iv3 {a0 a1 a2 : SV_} (hd : decode M.2.1 pc = .ok (.invokevirtual idx, 3)) (hq : pc + 3 = q) (hc : sm_V M.1.cls idx Y c 3) (hW : (rest.map sv_c).sum ≤ 8) (hC : Ctr_ g d Y (sv_r 4 c k :: [a0, a1, a2]) h (fun r h' => V_ g (d + 1) M q ls (so_p r rest) h' Post)) : V_ g (d + 1) M pc ls (a2 :: a1 :: a0 :: sv_r 4 c k :: rest) h Post := V_iv (as := [a0, a1, a2]) hd hq hc rfl rfl hW hC
theorem vr_is3 {a0 a1 a2 : SV_} (hd : decode M.2.1 pc = .ok (.invokestatic idx, 3)) (hq : pc + 3 = q) (hc : sm_S M.1.cls idx Y 3) (hW : (rest.map sv_c).sum ≤ 8) (hC : Ctr_ g d Y [a0, a1, a2] h (fun r h' => V_ g (d + 1) M q ls (so_p r rest) h' Post)) : V_ g (d + 1) M pc ls (a2 :: a1 :: a0 :: rest) h Post := V_is (as := [a0, a1, a2]) hd hq hc rfl rfl hW hC
theorem vr_iv4 {a0 a1 a2 a3 : SV_} (hd : decode M.2.1 pc = .ok (.invokevirtual idx, 3)) (hq : pc + 3 = q) (hc : sm_V M.1.cls idx Y c 4) (hW : (rest.map sv_c).sum ≤ 8) (hC : Ctr_ g d Y (sv_r 4 c k :: [a0, a1, a2, a3]) h (fun r h' => V_ g (d + 1) M q ls (so_p r rest) h' Post)) : V_ g (d + 1) M pc ls (a3 :: a2 :: a1 :: a0 :: sv_r 4 c k :: rest) h Post := V_iv (as := [a0, a1, a2, a3]) hd hq hc rfl rfl hW hC
theorem vr_is4 {a0 a1 a2 a3 : SV_} (hd : decode M.2.1 pc = .ok (.invokestatic idx, 3)) (hq : pc + 3 = q) (hc : sm_S M.1.cls idx Y 4) (hW : (rest.map sv_c).sum ≤ 8) (hC : Ctr_ g d Y [a0, a1, a2, a3] h (fun r h' => V_ g (d + 1) M q ls (so_p r rest) h' Post)) : V_ g (d + 1) M pc ls (a3 :: a2 :: a1 :: a0 :: rest) h Post := V_is (as := [a0, a1, a2, a3]) hd hq hc rfl rfl hW hC
theorem vr_iv5 {a0 a1 a2 a3 a4 : SV_} (hd : decode M.2.1 pc = .ok (.invokevirtual idx, 3)) (hq : pc + 3 = q) (hc : sm_V M.1.cls idx Y c 5) (hW : (rest.map sv_c).sum ≤ 8) (hC : Ctr_ g d Y (sv_r 4 c k :: [a0, a1, a2, a3, a4]) h (fun r h' => V_ g (d + 1) M q ls (so_p r rest) h' Post)) : V_ g (d + 1) M pc ls (a4 :: a3 :: a2 :: a1 :: a0 :: sv_r 4 c k :: rest) h Post := V_iv (as := [a0, a1, a2, a3, a4]) hd hq hc rfl rfl hW hC
theorem vr_is5 {a0 a1 a2 a3 a4 : SV_} (hd : decode M.2.1 pc = .ok (.invokestatic idx, 3)) (hq : pc + 3 = q) (hc : sm_S M.1.cls idx Y 5) (hW : (rest.map sv_c).sum ≤ 8) (hC : Ctr_ g d Y [a0, a1, a2, a3, a4] h (fun r h' => V_ g (d + 1) M q ls (so_p r rest) h' Post)) : V_ g (d + 1) M pc ls (a4 :: a3 :: a2 :: a1 :: a0 :: rest) h Post := V_is (as := [a0, a1, a2, a3, a4]) hd hq hc rfl rfl hW hC
theorem vr_iv6 {a0 a1 a2 a3 a4 a5 : SV_} (hd : decode M.2.1 pc = .ok (.invokevirtual idx, 3)) (hq : pc + 3 = q) (hc : sm_V M.1.cls idx Y c 6) (hW : (rest.map sv_c).sum ≤ 8) (hC : Ctr_ g d Y (sv_r 4 c k :: [a0, a1, a2, a3, a4, a5]) h (fun r h' => V_ g (d + 1) M q ls (so_p r rest) h' Post)) : V_ g (d + 1) M pc ls (a5 :: a4 :: a3 :: a2 :: a1 :: a0 :: sv_r 4 c k :: rest) h Post := V_iv (as := [a0, a1, a2, a3, a4, a5]) hd hq hc rfl rfl hW hC
theorem vr_is6 {a0 a1 a2 a3 a4 a5 : SV_} (hd : decode M.2.1 pc = .ok (.invokestatic idx, 3)) (hq : pc + 3 = q) (hc : sm_S M.1.cls idx Y 6) (hW : (rest.map sv_c).sum ≤ 8) (hC : Ctr_ g d Y [a0, a1, a2, a3, a4, a5] h (fun r h' => V_ g (d + 1) M q ls (so_p r rest) h' Post)) : V_ g (d + 1) M pc ls (a5 :: a4 :: a3 :: a2 :: a1 :: a0 :: rest) h Post := V_is (as := [a0, a1, a2, a3, a4, a5]) hd hq hc rfl rfl hW hC
theorem vr_iv7 {a0 a1 a2 a3 a4 a5 a6 : SV_} (hd : decode M.2.1 pc = .ok (.invokevirtual idx, 3)) (hq : pc + 3 = q) (hc : sm_V M.1.cls idx Y c 7) (hW : (rest.map sv_c).sum ≤ 8) (hC : Ctr_ g d Y (sv_r 4 c k :: [a0, a1, a2, a3, a4, a5, a6]) h (fun r h' => V_ g (d + 1) M q ls (so_p r rest) h' Post)) : V_ g (d + 1) M pc ls (a6 :: a5 :: a4 :: a3 :: a2 :: a1 :: a0 :: sv_r 4 c k :: rest) h Post := V_iv (as := [a0, a1, a2, a3, a4, a5, a6]) hd hq hc rfl rfl hW hC
theorem vr_is7 {a0 a1 a2 a3 a4 a5 a6 : SV_} (hd : decode M.2.1 pc = .ok (.invokestatic idx, 3)) (hq : pc + 3 = q) (hc : sm_S M.1.cls idx Y 7) (hW : (rest.map sv_c).sum ≤ 8) (hC : Ctr_ g d Y [a0, a1, a2, a3, a4, a5, a6] h (fun r h' => V_ g (d + 1) M q ls (so_p r rest) h' Post)) : V_ g (d + 1) M pc ls (a6 :: a5 :: a4 :: a3 :: a2 :: a1 :: a0 :: rest) h Post := V_is (as := [a0, a1, a2, a3, a4, a5, a6]) hd hq hc rfl rfl hW hC
end VA_
end
section
/-! the pure part: minds -/
abbrev Q4_ : Type := Int × Int × Int × Int
abbrev MU_ : Type := Int × Int × Int × Q4_
def q4_ (q : Q4_) (t : Int) : Int := if t = 0 then q.1 else if t = 1 then q.2.1 else if t = 2 then q.2.2.1 else q.2.2.2
def u4_ (q : Q4_) (t v : Int) : Q4_ := (if t = 0 then v else q.1, if t = 1 then v else q.2.1, if t = 2 then v else q.2.2.1, if t = 0 ∨ t = 1 ∨ t = 2 then q.2.2.2 else v)
def a4_ (f : Int → Int) : Q4_ := (f 0, f 1, f 2, f 3)
theorem q4_a {f : Int → Int} {t : Int} (h : 0 ≤ t ∧ t < 4) : q4_ (a4_ f) t = f t := by
  rcases (by omega : t = 0 ∨ t = 1 ∨ t = 2 ∨ t = 3) with rfl | rfl | rfl | rfl <;> rfl
theorem q4_u {q : Q4_} {t u v : Int} (ht : 0 ≤ t ∧ t < 4) (hu : 0 ≤ u ∧ u < 4) : q4_ (u4_ q t v) u = if u = t then v else q4_ q u := by
  rcases (by omega : t = 0 ∨ t = 1 ∨ t = 2 ∨ t = 3) with rfl | rfl | rfl | rfl <;> rcases (by omega : u = 0 ∨ u = 1 ∨ u = 2 ∨ u = 3) with rfl | rfl | rfl | rfl <;> rfl
/-- bit k of x -/
def bt_ (x k : Int) : Int := sb_iand (sb_ishr x k) 1
def pn_ (w n : Int) : Int := if 0 < n then 0 else 20 + w
def un_ (k w n t : Int) : Int := if k = 2 then 2 * w else if k = 3 then (if w - 2 * n < 0 then 0 else w - 2 * n) else if k = 4 then pn_ w n else if k = 5 then (if t < 2 then 99 else pn_ w n) else w
/-- NEED of a lie of kind k, weight w, topic t -/
def nd_ (k w t : Int) (m : MU_) : Int := (if bt_ m.2.1 t = 0 then 0 else 3) + un_ k w (q4_ m.2.2.2 t) m.2.2.1
/-- whether it nods -/
def nb_ (k w t : Int) (m : MU_) : Int := if m.1 < nd_ k w t m then 0 else 1
/-- the mind behind a lie at which it nods (b = 1) or not (0) -/
def he_ (w t b : Int) (m : MU_) : MU_ := if b = 0 then (if m.1 - w.tdiv 4 - 1 < 0 then 0 else m.1 - w.tdiv 4 - 1, m.2.1, m.2.2.1 + 1, m.2.2.2) else (if 20 < m.1 + 1 then 20 else m.1 + 1, m.2.1, m.2.2.1 + 1, u4_ m.2.2.2 t (q4_ m.2.2.2 t + 1))
def di_ (m : MU_) : MU_ := (if 20 < m.1 + 2 then 20 else m.1 + 2, m.2)
/-- a mind that has been told n lies at most -/
def mo_ (n : Int) (m : MU_) : Prop := (0 ≤ m.1 ∧ m.1 ≤ 20) ∧ (0 ≤ m.2.1 ∧ m.2.1 < 16) ∧ (0 ≤ m.2.2.1 ∧ m.2.2.1 ≤ n) ∧ ∀ t, 0 ≤ t → t < 4 → 0 ≤ q4_ m.2.2.2 t ∧ q4_ m.2.2.2 t ≤ n
/-- a lie's numbers -/
def lo_ (k w t : Int) : Prop := (1 ≤ k ∧ k ≤ 5) ∧ (1 ≤ w ∧ w ≤ 20) ∧ (0 ≤ t ∧ t < 4)
theorem nb_01 (k w t : Int) (m : MU_) : nb_ k w t m = 0 ∨ nb_ k w t m = 1 := by
  unfold nb_
  split
  · exact Or.inl rfl
  · exact Or.inr rfl
theorem he_mo {n k w t b : Int} {m : MU_} (hl : lo_ k w t) (hm : mo_ n m) : mo_ (n + 1) (he_ w t b m) := by
  obtain ⟨-, hw, ht⟩ := hl
  obtain ⟨h1, h2, h3, h4⟩ := hm
  unfold he_
  have hd : 0 ≤ w.tdiv 4 := Int.tdiv_nonneg (by omega) (by omega)
  split
  · refine ⟨?_, h2, ⟨by show 0 ≤ m.2.2.1 + 1; omega, by show m.2.2.1 + 1 ≤ n + 1; omega⟩, fun u hu hu2 => ?_⟩
    · show 0 ≤ (if m.1 - w.tdiv 4 - 1 < 0 then 0 else m.1 - w.tdiv 4 - 1) ∧ (if m.1 - w.tdiv 4 - 1 < 0 then 0 else m.1 - w.tdiv 4 - 1) ≤ 20
      split <;> omega
    · have h5 := h4 u hu hu2
      show 0 ≤ q4_ m.2.2.2 u ∧ q4_ m.2.2.2 u ≤ n + 1
      omega
  · refine ⟨?_, h2, ⟨by show 0 ≤ m.2.2.1 + 1; omega, by show m.2.2.1 + 1 ≤ n + 1; omega⟩, fun u hu hu2 => ?_⟩
    · show 0 ≤ (if 20 < m.1 + 1 then 20 else m.1 + 1) ∧ (if 20 < m.1 + 1 then 20 else m.1 + 1) ≤ 20
      split <;> omega
    · show 0 ≤ q4_ (u4_ m.2.2.2 t (q4_ m.2.2.2 t + 1)) u ∧ q4_ (u4_ m.2.2.2 t (q4_ m.2.2.2 t + 1)) u ≤ n + 1
      rw [q4_u ht ⟨hu, hu2⟩]
      have h5 := h4 u hu hu2
      have h6 := h4 t ht.1 ht.2
      split <;> omega
/-- the mind that lies at cell k (its row at k + 1) -/
def mu_ (h : SH_) (k : Int) : MU_ := (h k 0, h k 1, h k 2, a4_ (h (k + 1)))
def ms_ (h : SH_) (k : Int) (m : MU_) : SH_ := fun a b =>
  if a = k then (if b = 0 then m.1 else if b = 1 then m.2.1 else if b = 2 then m.2.2.1 else h a b)
  else if a = k + 1 then (if b = 0 then m.2.2.2.1 else if b = 1 then m.2.2.2.2.1 else if b = 2 then m.2.2.2.2.2.1 else if b = 3 then m.2.2.2.2.2.2 else h a b) else h a b
theorem mu_ms (h : SH_) (k : Int) (m : MU_) : mu_ (ms_ h k m) k = m := by
  obtain ⟨a, b, c, e, f, i, j⟩ := m
  have hk : ¬ k + 1 = k := by omega
  simp [mu_, ms_, a4_, hk]
theorem ms_n {h : SH_} {k : Int} {m : MU_} {a : Int} (h1 : a ≠ k) (h2 : a ≠ k + 1) : ms_ h k m a = h a := by
  funext b
  simp [ms_, h1, h2]
theorem mu_n {h : SH_} {k k2 : Int} {m : MU_} (h1 : k2 ≠ k) (h2 : k2 ≠ k + 1) (h3 : k2 + 1 ≠ k) : mu_ (ms_ h k m) k2 = mu_ h k2 := by
  unfold mu_
  rw [ms_n h1 h2, ms_n h3 (by omega)]
theorem ms_ms (h : SH_) (k : Int) (m n : MU_) : ms_ (ms_ h k m) k n = ms_ h k n := by
  funext a b
  unfold ms_
  repeat' split
  all_goals first | rfl | omega
theorem ms_id (h : SH_) (k : Int) : ms_ h k (mu_ h k) = h := by
  funext a b
  unfold ms_ mu_ a4_
  by_cases h1 : a = k
  · subst h1
    rw [if_pos rfl]
    by_cases c0 : b = 0
    · subst c0; rfl
    by_cases c1 : b = 1
    · subst c1; rfl
    by_cases c2 : b = 2
    · subst c2; rfl
    rw [if_neg c0, if_neg c1, if_neg c2]
  · rw [if_neg h1]
    by_cases h2 : a = k + 1
    · subst h2
      rw [if_pos rfl]
      by_cases c0 : b = 0
      · subst c0; rfl
      by_cases c1 : b = 1
      · subst c1; rfl
      by_cases c2 : b = 2
      · subst c2; rfl
      by_cases c3 : b = 3
      · subst c3; rfl
      rw [if_neg c0, if_neg c1, if_neg c2, if_neg c3]
    · rw [if_neg h2]
theorem ms_h0 (h : SH_) (k : Int) (m : MU_) (v : Int) : hs_ (ms_ h k m) k 0 v = ms_ h k (v, m.2) := by
  funext a b
  unfold ms_ hs_
  by_cases h1 : a = k
  · subst h1
    by_cases c0 : b = 0
    · subst c0; simp
    · simp [c0]
  · simp [h1]
theorem ms_h1 (h : SH_) (k : Int) (m : MU_) (v : Int) : hs_ (ms_ h k m) k 1 v = ms_ h k (m.1, v, m.2.2) := by
  funext a b
  unfold ms_ hs_
  by_cases h1 : a = k
  · subst h1
    by_cases c0 : b = 1
    · subst c0; simp
    · simp [c0]
  · simp [h1]
theorem ms_h2 (h : SH_) (k : Int) (m : MU_) (v : Int) : hs_ (ms_ h k m) k 2 v = ms_ h k (m.1, m.2.1, v, m.2.2.2) := by
  funext a b
  unfold ms_ hs_
  by_cases h1 : a = k
  · subst h1
    by_cases c0 : b = 2
    · subst c0; simp
    · simp [c0]
  · simp [h1]
theorem ms_q (h : SH_) (k : Int) (m : MU_) (v : Int) {t : Int} (ht : 0 ≤ t ∧ t < 4) : hs_ (ms_ h k m) (k + 1) t v = ms_ h k (m.1, m.2.1, m.2.2.1, u4_ m.2.2.2 t v) := by
  funext a b
  unfold ms_ hs_ u4_
  by_cases h1 : a = k
  · subst h1
    have h2 : ¬ a = a + 1 := by omega
    simp [h2]
  · by_cases h2 : a = k + 1
    · subst h2
      have h3 : ¬ k + 1 = k := by omega
      rcases (by omega : t = 0 ∨ t = 1 ∨ t = 2 ∨ t = 3) with rfl | rfl | rfl | rfl
      · by_cases c0 : b = 0
        · subst c0; simp [h3]
        · simp [h3, c0]
      · by_cases c0 : b = 1
        · subst c0; simp [h3]
        · simp [h3, c0]
      · by_cases c0 : b = 2
        · subst c0; simp [h3]
        · simp [h3, c0]
      · by_cases c0 : b = 3
        · subst c0; simp [h3]
        · simp [h3, c0]
    · simp [h1, h2]
theorem hs_m0 (h : SH_) (k v : Int) : hs_ h k 0 v = ms_ h k (v, (mu_ h k).2) := by
  have e := ms_h0 h k (mu_ h k) v
  rw [ms_id] at e
  exact e
theorem hs_m1 (h : SH_) (k v : Int) : hs_ h k 1 v = ms_ h k ((mu_ h k).1, v, (mu_ h k).2.2) := by
  have e := ms_h1 h k (mu_ h k) v
  rw [ms_id] at e
  exact e
theorem hs_m2 (h : SH_) (k v : Int) : hs_ h k 2 v = ms_ h k ((mu_ h k).1, (mu_ h k).2.1, v, (mu_ h k).2.2.2) := by
  have e := ms_h2 h k (mu_ h k) v
  rw [ms_id] at e
  exact e
/-- all bits that are set among the lowest six -/
def pc_ (x : Int) : Int := x % 2 + x / 2 % 2 + x / 4 % 2 + x / 8 % 2 + x / 16 % 2 + x / 32 % 2
/-- of the first n lies, of each topic how many it nodded at (s: a set) -/
def cn_ (tp : Int → Int) (s : Int) : Nat → Q4_
  | 0 => (0, 0, 0, 0)
  | n + 1 => u4_ (cn_ tp s n) (tp n) (q4_ (cn_ tp s n) (tp n) + bt_ s n)
theorem bt_01 (x k : Int) : 0 ≤ bt_ x k ∧ bt_ x k ≤ 1 := by
  have h1 : (Int32.ofInt (sb_ishr x k) &&& Int32.ofInt 1).toBitVec = (Int32.ofInt (sb_ishr x k)).toBitVec &&& 1#32 := rfl
  have e : bt_ x k = ((Int32.ofInt (sb_ishr x k)).toBitVec &&& 1#32).toInt := by
    show (Int32.ofInt (sb_ishr x k) &&& Int32.ofInt 1).toInt = _
    rw [← h1]; rfl
  rw [e]
  generalize (Int32.ofInt (sb_ishr x k)).toBitVec = y
  have h2 : (y &&& 1#32).toNat ≤ 1 := by
    rw [BitVec.toNat_and]
    exact Nat.and_le_right
  rw [BitVec.toInt_eq_toNat_of_lt (by omega)]
  omega
section PX_
variable {g : SG_} {d : Nat} {M : MD_} {pc q : Nat} {ls : List (Option SV_)} {st : List SV_} {h : SH_} {Post : Option SV_ → SH_ → Prop}
/-- a read whose value is known -/
theorem vr_ialdV {n : Nat} {k i x : Int} (hd : decode M.2.1 pc = .ok (.iaload, 1)) (hq : pc + 1 = q) (hi : 0 ≤ i ∧ i < n) (hx : h k i = x) (kk : V_ g d M q ls (sv_i x :: st) h Post) : V_ g d M pc ls (sv_i i :: sv_r 0 n k :: st) h Post := vr_iald hd hq hi (hx ▸ kk)
theorem vr_getV {idx c j : Nat} {k ji x : Int} (hd : decode M.2.1 pc = .ok (.getfield idx, 3)) (hq : pc + 3 = q) (hf : sf_ok M.1.cls idx c j) (ht : (sf_c c).getD j none = none) (hj : (j : Int) = ji) (hx : h k ji = x) (kk : V_ g d M q ls (sv_i x :: st) h Post) : V_ g d M pc ls (sv_r 4 c k :: st) h Post := vr_getI hd hq hf ht hj (hx ▸ kk)
theorem vr_h {h2 : SH_} (e : h2 = h) (kk : V_ g d M pc ls st h2 Post) : V_ g d M pc ls st h Post := e ▸ kk
end PX_
end
section
theorem dJ6_bitCount_0f7a4_0 : decode cJ6_bitCount_0f7a4 0 = .ok (.iload_n 0, 1) := by decide +kernel
theorem dJ6_bitCount_0f7a4_1 : decode cJ6_bitCount_0f7a4 1 = .ok (.iload_n 0, 1) := by decide +kernel
theorem dJ6_bitCount_0f7a4_2 : decode cJ6_bitCount_0f7a4 2 = .ok (.iconst 1, 1) := by decide +kernel
theorem dJ6_bitCount_0f7a4_3 : decode cJ6_bitCount_0f7a4 3 = .ok (.iushr, 1) := by decide +kernel
theorem dJ6_bitCount_0f7a4_4 : decode cJ6_bitCount_0f7a4 4 = .ok (.ldc_w 265, 3) := by decide +kernel
theorem dJ6_bitCount_0f7a4_7 : decode cJ6_bitCount_0f7a4 7 = .ok (.iand, 1) := by decide +kernel
theorem dJ6_bitCount_0f7a4_8 : decode cJ6_bitCount_0f7a4 8 = .ok (.isub, 1) := by decide +kernel
theorem dJ6_bitCount_0f7a4_9 : decode cJ6_bitCount_0f7a4 9 = .ok (.istore_n 0, 1) := by decide +kernel
theorem dJ6_bitCount_0f7a4_10 : decode cJ6_bitCount_0f7a4 10 = .ok (.iload_n 0, 1) := by decide +kernel
theorem dJ6_bitCount_0f7a4_11 : decode cJ6_bitCount_0f7a4 11 = .ok (.ldc_w 266, 3) := by decide +kernel
theorem dJ6_bitCount_0f7a4_14 : decode cJ6_bitCount_0f7a4 14 = .ok (.iand, 1) := by decide +kernel
theorem dJ6_bitCount_0f7a4_15 : decode cJ6_bitCount_0f7a4 15 = .ok (.iload_n 0, 1) := by decide +kernel
theorem dJ6_bitCount_0f7a4_16 : decode cJ6_bitCount_0f7a4 16 = .ok (.iconst 2, 1) := by decide +kernel
theorem dJ6_bitCount_0f7a4_17 : decode cJ6_bitCount_0f7a4 17 = .ok (.iushr, 1) := by decide +kernel
theorem dJ6_bitCount_0f7a4_18 : decode cJ6_bitCount_0f7a4 18 = .ok (.ldc_w 266, 3) := by decide +kernel
theorem dJ6_bitCount_0f7a4_21 : decode cJ6_bitCount_0f7a4 21 = .ok (.iand, 1) := by decide +kernel
theorem dJ6_bitCount_0f7a4_22 : decode cJ6_bitCount_0f7a4 22 = .ok (.iadd, 1) := by decide +kernel
theorem dJ6_bitCount_0f7a4_23 : decode cJ6_bitCount_0f7a4 23 = .ok (.istore_n 0, 1) := by decide +kernel
theorem dJ6_bitCount_0f7a4_24 : decode cJ6_bitCount_0f7a4 24 = .ok (.iload_n 0, 1) := by decide +kernel
theorem dJ6_bitCount_0f7a4_25 : decode cJ6_bitCount_0f7a4 25 = .ok (.iload_n 0, 1) := by decide +kernel
theorem dJ6_bitCount_0f7a4_26 : decode cJ6_bitCount_0f7a4 26 = .ok (.iconst 4, 1) := by decide +kernel
theorem dJ6_bitCount_0f7a4_27 : decode cJ6_bitCount_0f7a4 27 = .ok (.iushr, 1) := by decide +kernel
theorem dJ6_bitCount_0f7a4_28 : decode cJ6_bitCount_0f7a4 28 = .ok (.iadd, 1) := by decide +kernel
theorem dJ6_bitCount_0f7a4_29 : decode cJ6_bitCount_0f7a4 29 = .ok (.ldc_w 267, 3) := by decide +kernel
theorem dJ6_bitCount_0f7a4_32 : decode cJ6_bitCount_0f7a4 32 = .ok (.iand, 1) := by decide +kernel
theorem dJ6_bitCount_0f7a4_33 : decode cJ6_bitCount_0f7a4 33 = .ok (.istore_n 0, 1) := by decide +kernel
theorem dJ6_bitCount_0f7a4_34 : decode cJ6_bitCount_0f7a4 34 = .ok (.iload_n 0, 1) := by decide +kernel
theorem dJ6_bitCount_0f7a4_35 : decode cJ6_bitCount_0f7a4 35 = .ok (.iload_n 0, 1) := by decide +kernel
theorem dJ6_bitCount_0f7a4_36 : decode cJ6_bitCount_0f7a4 36 = .ok (.bipush 8, 2) := by decide +kernel
theorem dJ6_bitCount_0f7a4_38 : decode cJ6_bitCount_0f7a4 38 = .ok (.iushr, 1) := by decide +kernel
theorem dJ6_bitCount_0f7a4_39 : decode cJ6_bitCount_0f7a4 39 = .ok (.iadd, 1) := by decide +kernel
theorem dJ6_bitCount_0f7a4_40 : decode cJ6_bitCount_0f7a4 40 = .ok (.istore_n 0, 1) := by decide +kernel
theorem dJ6_bitCount_0f7a4_41 : decode cJ6_bitCount_0f7a4 41 = .ok (.iload_n 0, 1) := by decide +kernel
theorem dJ6_bitCount_0f7a4_42 : decode cJ6_bitCount_0f7a4 42 = .ok (.iload_n 0, 1) := by decide +kernel
theorem dJ6_bitCount_0f7a4_43 : decode cJ6_bitCount_0f7a4 43 = .ok (.bipush 16, 2) := by decide +kernel
theorem dJ6_bitCount_0f7a4_45 : decode cJ6_bitCount_0f7a4 45 = .ok (.iushr, 1) := by decide +kernel
theorem dJ6_bitCount_0f7a4_46 : decode cJ6_bitCount_0f7a4 46 = .ok (.iadd, 1) := by decide +kernel
theorem dJ6_bitCount_0f7a4_47 : decode cJ6_bitCount_0f7a4 47 = .ok (.istore_n 0, 1) := by decide +kernel
theorem dJ6_bitCount_0f7a4_48 : decode cJ6_bitCount_0f7a4 48 = .ok (.iload_n 0, 1) := by decide +kernel
theorem dJ6_bitCount_0f7a4_49 : decode cJ6_bitCount_0f7a4 49 = .ok (.bipush 63, 2) := by decide +kernel
theorem dJ6_bitCount_0f7a4_51 : decode cJ6_bitCount_0f7a4 51 = .ok (.iand, 1) := by decide +kernel
theorem dJ6_bitCount_0f7a4_52 : decode cJ6_bitCount_0f7a4 52 = .ok (.ireturn, 1) := by decide +kernel
end
section
theorem dJ9_max_7cf53_0 : decode cJ9_max_7cf53 0 = .ok (.iload_n 0, 1) := by decide +kernel
theorem dJ9_max_7cf53_1 : decode cJ9_max_7cf53 1 = .ok (.iload_n 1, 1) := by decide +kernel
theorem dJ9_max_7cf53_2 : decode cJ9_max_7cf53 2 = .ok (.if_icmp .lt 7, 3) := by decide +kernel
theorem dJ9_max_7cf53_5 : decode cJ9_max_7cf53 5 = .ok (.iload_n 0, 1) := by decide +kernel
theorem dJ9_max_7cf53_6 : decode cJ9_max_7cf53 6 = .ok (.goto 4, 3) := by decide +kernel
theorem dJ9_max_7cf53_9 : decode cJ9_max_7cf53 9 = .ok (.iload_n 1, 1) := by decide +kernel
theorem dJ9_max_7cf53_10 : decode cJ9_max_7cf53 10 = .ok (.ireturn, 1) := by decide +kernel
theorem dJ9_min_7cf53_0 : decode cJ9_min_7cf53 0 = .ok (.iload_n 0, 1) := by decide +kernel
theorem dJ9_min_7cf53_1 : decode cJ9_min_7cf53 1 = .ok (.iload_n 1, 1) := by decide +kernel
theorem dJ9_min_7cf53_2 : decode cJ9_min_7cf53 2 = .ok (.if_icmp .gt 7, 3) := by decide +kernel
theorem dJ9_min_7cf53_5 : decode cJ9_min_7cf53 5 = .ok (.iload_n 0, 1) := by decide +kernel
theorem dJ9_min_7cf53_6 : decode cJ9_min_7cf53 6 = .ok (.goto 4, 3) := by decide +kernel
theorem dJ9_min_7cf53_9 : decode cJ9_min_7cf53 9 = .ok (.iload_n 1, 1) := by decide +kernel
theorem dJ9_min_7cf53_10 : decode cJ9_min_7cf53 10 = .ok (.ireturn, 1) := by decide +kernel
end
section
theorem dX4_init_0 : decode cX4_init 0 = .ok (.aload_n 0, 1) := by decide +kernel
theorem dX4_init_1 : decode cX4_init 1 = .ok (.invokespecial 1, 3) := by decide +kernel
theorem dX4_init_4 : decode cX4_init 4 = .ok (.aload_n 0, 1) := by decide +kernel
theorem dX4_init_5 : decode cX4_init 5 = .ok (.iconst 0, 1) := by decide +kernel
theorem dX4_init_6 : decode cX4_init 6 = .ok (.putfield 7, 3) := by decide +kernel
theorem dX4_init_9 : decode cX4_init 9 = .ok (.aload_n 0, 1) := by decide +kernel
theorem dX4_init_10 : decode cX4_init 10 = .ok (.iconst 0, 1) := by decide +kernel
theorem dX4_init_11 : decode cX4_init 11 = .ok (.putfield 13, 3) := by decide +kernel
theorem dX4_init_14 : decode cX4_init 14 = .ok (.aload_n 0, 1) := by decide +kernel
theorem dX4_init_15 : decode cX4_init 15 = .ok (.iconst 0, 1) := by decide +kernel
theorem dX4_init_16 : decode cX4_init 16 = .ok (.putfield 16, 3) := by decide +kernel
theorem dX4_init_19 : decode cX4_init 19 = .ok (.aload_n 0, 1) := by decide +kernel
theorem dX4_init_20 : decode cX4_init 20 = .ok (.iconst 4, 1) := by decide +kernel
theorem dX4_init_21 : decode cX4_init 21 = .ok (.newarray .int, 2) := by decide +kernel
theorem dX4_init_23 : decode cX4_init 23 = .ok (.putfield 21, 3) := by decide +kernel
theorem dX4_init_26 : decode cX4_init 26 = .ok (.return_, 1) := by decide +kernel
theorem dX4_enter_0 : decode cX4_enter 0 = .ok (.aload_n 0, 1) := by decide +kernel
theorem dX4_enter_1 : decode cX4_enter 1 = .ok (.aload_n 1, 1) := by decide +kernel
theorem dX4_enter_2 : decode cX4_enter 2 = .ok (.getfield 25, 3) := by decide +kernel
theorem dX4_enter_5 : decode cX4_enter 5 = .ok (.iload_n 2, 1) := by decide +kernel
theorem dX4_enter_6 : decode cX4_enter 6 = .ok (.iaload, 1) := by decide +kernel
theorem dX4_enter_7 : decode cX4_enter 7 = .ok (.putfield 7, 3) := by decide +kernel
theorem dX4_enter_10 : decode cX4_enter 10 = .ok (.aload_n 0, 1) := by decide +kernel
theorem dX4_enter_11 : decode cX4_enter 11 = .ok (.aload_n 1, 1) := by decide +kernel
theorem dX4_enter_12 : decode cX4_enter 12 = .ok (.getfield 28, 3) := by decide +kernel
theorem dX4_enter_15 : decode cX4_enter 15 = .ok (.iload_n 2, 1) := by decide +kernel
theorem dX4_enter_16 : decode cX4_enter 16 = .ok (.iaload, 1) := by decide +kernel
theorem dX4_enter_17 : decode cX4_enter 17 = .ok (.putfield 13, 3) := by decide +kernel
theorem dX4_enter_20 : decode cX4_enter 20 = .ok (.aload_n 0, 1) := by decide +kernel
theorem dX4_enter_21 : decode cX4_enter 21 = .ok (.aload_n 1, 1) := by decide +kernel
theorem dX4_enter_22 : decode cX4_enter 22 = .ok (.getfield 30, 3) := by decide +kernel
theorem dX4_enter_25 : decode cX4_enter 25 = .ok (.iload_n 2, 1) := by decide +kernel
theorem dX4_enter_26 : decode cX4_enter 26 = .ok (.iaload, 1) := by decide +kernel
theorem dX4_enter_27 : decode cX4_enter 27 = .ok (.invokestatic 33, 3) := by decide +kernel
theorem dX4_enter_30 : decode cX4_enter 30 = .ok (.putfield 16, 3) := by decide +kernel
theorem dX4_enter_33 : decode cX4_enter 33 = .ok (.iconst 0, 1) := by decide +kernel
theorem dX4_enter_34 : decode cX4_enter 34 = .ok (.istore_n 3, 1) := by decide +kernel
theorem dX4_enter_35 : decode cX4_enter 35 = .ok (.iload_n 3, 1) := by decide +kernel
theorem dX4_enter_36 : decode cX4_enter 36 = .ok (.iconst 4, 1) := by decide +kernel
theorem dX4_enter_37 : decode cX4_enter 37 = .ok (.if_icmp .ge 16, 3) := by decide +kernel
theorem dX4_enter_40 : decode cX4_enter 40 = .ok (.aload_n 0, 1) := by decide +kernel
theorem dX4_enter_41 : decode cX4_enter 41 = .ok (.getfield 21, 3) := by decide +kernel
theorem dX4_enter_44 : decode cX4_enter 44 = .ok (.iload_n 3, 1) := by decide +kernel
theorem dX4_enter_45 : decode cX4_enter 45 = .ok (.iconst 0, 1) := by decide +kernel
theorem dX4_enter_46 : decode cX4_enter 46 = .ok (.iastore, 1) := by decide +kernel
theorem dX4_enter_47 : decode cX4_enter 47 = .ok (.iinc 3 1, 3) := by decide +kernel
theorem dX4_enter_50 : decode cX4_enter 50 = .ok (.goto (-15), 3) := by decide +kernel
theorem dX4_enter_53 : decode cX4_enter 53 = .ok (.iconst 0, 1) := by decide +kernel
theorem dX4_enter_54 : decode cX4_enter 54 = .ok (.istore_n 3, 1) := by decide +kernel
theorem dX4_enter_55 : decode cX4_enter 55 = .ok (.iload_n 3, 1) := by decide +kernel
theorem dX4_enter_56 : decode cX4_enter 56 = .ok (.aload_n 1, 1) := by decide +kernel
theorem dX4_enter_57 : decode cX4_enter 57 = .ok (.getfield 39, 3) := by decide +kernel
theorem dX4_enter_60 : decode cX4_enter 60 = .ok (.if_icmp .ge 33, 3) := by decide +kernel
theorem dX4_enter_63 : decode cX4_enter 63 = .ok (.aload_n 0, 1) := by decide +kernel
theorem dX4_enter_64 : decode cX4_enter 64 = .ok (.getfield 21, 3) := by decide +kernel
theorem dX4_enter_67 : decode cX4_enter 67 = .ok (.aload_n 1, 1) := by decide +kernel
theorem dX4_enter_68 : decode cX4_enter 68 = .ok (.getfield 42, 3) := by decide +kernel
theorem dX4_enter_71 : decode cX4_enter 71 = .ok (.iload_n 3, 1) := by decide +kernel
theorem dX4_enter_72 : decode cX4_enter 72 = .ok (.iaload, 1) := by decide +kernel
theorem dX4_enter_73 : decode cX4_enter 73 = .ok (.dup2, 1) := by decide +kernel
theorem dX4_enter_74 : decode cX4_enter 74 = .ok (.iaload, 1) := by decide +kernel
theorem dX4_enter_75 : decode cX4_enter 75 = .ok (.aload_n 1, 1) := by decide +kernel
theorem dX4_enter_76 : decode cX4_enter 76 = .ok (.getfield 45, 3) := by decide +kernel
theorem dX4_enter_79 : decode cX4_enter 79 = .ok (.iload_n 2, 1) := by decide +kernel
theorem dX4_enter_80 : decode cX4_enter 80 = .ok (.iaload, 1) := by decide +kernel
theorem dX4_enter_81 : decode cX4_enter 81 = .ok (.iload_n 3, 1) := by decide +kernel
theorem dX4_enter_82 : decode cX4_enter 82 = .ok (.ishr, 1) := by decide +kernel
theorem dX4_enter_83 : decode cX4_enter 83 = .ok (.iconst 1, 1) := by decide +kernel
theorem dX4_enter_84 : decode cX4_enter 84 = .ok (.iand, 1) := by decide +kernel
theorem dX4_enter_85 : decode cX4_enter 85 = .ok (.iadd, 1) := by decide +kernel
theorem dX4_enter_86 : decode cX4_enter 86 = .ok (.iastore, 1) := by decide +kernel
theorem dX4_enter_87 : decode cX4_enter 87 = .ok (.iinc 3 1, 3) := by decide +kernel
theorem dX4_enter_90 : decode cX4_enter 90 = .ok (.goto (-35), 3) := by decide +kernel
theorem dX4_enter_93 : decode cX4_enter 93 = .ok (.return_, 1) := by decide +kernel
theorem dX4_become_0 : decode cX4_become 0 = .ok (.aload_n 0, 1) := by decide +kernel
theorem dX4_become_1 : decode cX4_become 1 = .ok (.aload_n 1, 1) := by decide +kernel
theorem dX4_become_2 : decode cX4_become 2 = .ok (.getfield 7, 3) := by decide +kernel
theorem dX4_become_5 : decode cX4_become 5 = .ok (.putfield 7, 3) := by decide +kernel
theorem dX4_become_8 : decode cX4_become 8 = .ok (.aload_n 0, 1) := by decide +kernel
theorem dX4_become_9 : decode cX4_become 9 = .ok (.aload_n 1, 1) := by decide +kernel
theorem dX4_become_10 : decode cX4_become 10 = .ok (.getfield 13, 3) := by decide +kernel
theorem dX4_become_13 : decode cX4_become 13 = .ok (.putfield 13, 3) := by decide +kernel
theorem dX4_become_16 : decode cX4_become 16 = .ok (.aload_n 0, 1) := by decide +kernel
theorem dX4_become_17 : decode cX4_become 17 = .ok (.aload_n 1, 1) := by decide +kernel
theorem dX4_become_18 : decode cX4_become 18 = .ok (.getfield 16, 3) := by decide +kernel
theorem dX4_become_21 : decode cX4_become 21 = .ok (.putfield 16, 3) := by decide +kernel
theorem dX4_become_24 : decode cX4_become 24 = .ok (.iconst 0, 1) := by decide +kernel
theorem dX4_become_25 : decode cX4_become 25 = .ok (.istore_n 2, 1) := by decide +kernel
theorem dX4_become_26 : decode cX4_become 26 = .ok (.iload_n 2, 1) := by decide +kernel
theorem dX4_become_27 : decode cX4_become 27 = .ok (.iconst 4, 1) := by decide +kernel
theorem dX4_become_28 : decode cX4_become 28 = .ok (.if_icmp .ge 21, 3) := by decide +kernel
theorem dX4_become_31 : decode cX4_become 31 = .ok (.aload_n 0, 1) := by decide +kernel
theorem dX4_become_32 : decode cX4_become 32 = .ok (.getfield 21, 3) := by decide +kernel
theorem dX4_become_35 : decode cX4_become 35 = .ok (.iload_n 2, 1) := by decide +kernel
theorem dX4_become_36 : decode cX4_become 36 = .ok (.aload_n 1, 1) := by decide +kernel
theorem dX4_become_37 : decode cX4_become 37 = .ok (.getfield 21, 3) := by decide +kernel
theorem dX4_become_40 : decode cX4_become 40 = .ok (.iload_n 2, 1) := by decide +kernel
theorem dX4_become_41 : decode cX4_become 41 = .ok (.iaload, 1) := by decide +kernel
theorem dX4_become_42 : decode cX4_become 42 = .ok (.iastore, 1) := by decide +kernel
theorem dX4_become_43 : decode cX4_become 43 = .ok (.iinc 2 1, 3) := by decide +kernel
theorem dX4_become_46 : decode cX4_become 46 = .ok (.goto (-20), 3) := by decide +kernel
theorem dX4_become_49 : decode cX4_become 49 = .ok (.return_, 1) := by decide +kernel
theorem dX4_needOf_0 : decode cX4_needOf 0 = .ok (.aload_n 1, 1) := by decide +kernel
theorem dX4_needOf_1 : decode cX4_needOf 1 = .ok (.getfield 42, 3) := by decide +kernel
theorem dX4_needOf_4 : decode cX4_needOf 4 = .ok (.iload_n 2, 1) := by decide +kernel
theorem dX4_needOf_5 : decode cX4_needOf 5 = .ok (.iaload, 1) := by decide +kernel
theorem dX4_needOf_6 : decode cX4_needOf 6 = .ok (.istore_n 3, 1) := by decide +kernel
theorem dX4_needOf_7 : decode cX4_needOf 7 = .ok (.aload_n 0, 1) := by decide +kernel
theorem dX4_needOf_8 : decode cX4_needOf 8 = .ok (.getfield 13, 3) := by decide +kernel
theorem dX4_needOf_11 : decode cX4_needOf 11 = .ok (.iload_n 3, 1) := by decide +kernel
theorem dX4_needOf_12 : decode cX4_needOf 12 = .ok (.ishr, 1) := by decide +kernel
theorem dX4_needOf_13 : decode cX4_needOf 13 = .ok (.iconst 1, 1) := by decide +kernel
theorem dX4_needOf_14 : decode cX4_needOf 14 = .ok (.iand, 1) := by decide +kernel
theorem dX4_needOf_15 : decode cX4_needOf 15 = .ok (.ifCond .eq 7, 3) := by decide +kernel
theorem dX4_needOf_18 : decode cX4_needOf 18 = .ok (.iconst 3, 1) := by decide +kernel
theorem dX4_needOf_19 : decode cX4_needOf 19 = .ok (.goto 4, 3) := by decide +kernel
theorem dX4_needOf_22 : decode cX4_needOf 22 = .ok (.iconst 0, 1) := by decide +kernel
theorem dX4_needOf_23 : decode cX4_needOf 23 = .ok (.istore 4, 2) := by decide +kernel
theorem dX4_needOf_25 : decode cX4_needOf 25 = .ok (.iload 4, 2) := by decide +kernel
theorem dX4_needOf_27 : decode cX4_needOf 27 = .ok (.aload_n 0, 1) := by decide +kernel
theorem dX4_needOf_28 : decode cX4_needOf 28 = .ok (.aload_n 1, 1) := by decide +kernel
theorem dX4_needOf_29 : decode cX4_needOf 29 = .ok (.getfield 48, 3) := by decide +kernel
theorem dX4_needOf_32 : decode cX4_needOf 32 = .ok (.iload_n 2, 1) := by decide +kernel
theorem dX4_needOf_33 : decode cX4_needOf 33 = .ok (.iaload, 1) := by decide +kernel
theorem dX4_needOf_34 : decode cX4_needOf 34 = .ok (.aload_n 1, 1) := by decide +kernel
theorem dX4_needOf_35 : decode cX4_needOf 35 = .ok (.getfield 51, 3) := by decide +kernel
theorem dX4_needOf_38 : decode cX4_needOf 38 = .ok (.iload_n 2, 1) := by decide +kernel
theorem dX4_needOf_39 : decode cX4_needOf 39 = .ok (.iaload, 1) := by decide +kernel
theorem dX4_needOf_40 : decode cX4_needOf 40 = .ok (.aload_n 0, 1) := by decide +kernel
theorem dX4_needOf_41 : decode cX4_needOf 41 = .ok (.getfield 21, 3) := by decide +kernel
theorem dX4_needOf_44 : decode cX4_needOf 44 = .ok (.iload_n 3, 1) := by decide +kernel
theorem dX4_needOf_45 : decode cX4_needOf 45 = .ok (.iaload, 1) := by decide +kernel
theorem dX4_needOf_46 : decode cX4_needOf 46 = .ok (.invokevirtual 54, 3) := by decide +kernel
theorem dX4_needOf_49 : decode cX4_needOf 49 = .ok (.iadd, 1) := by decide +kernel
theorem dX4_needOf_50 : decode cX4_needOf 50 = .ok (.ireturn, 1) := by decide +kernel
theorem dX4_wouldNod_0 : decode cX4_wouldNod 0 = .ok (.aload_n 0, 1) := by decide +kernel
theorem dX4_wouldNod_1 : decode cX4_wouldNod 1 = .ok (.getfield 7, 3) := by decide +kernel
theorem dX4_wouldNod_4 : decode cX4_wouldNod 4 = .ok (.aload_n 0, 1) := by decide +kernel
theorem dX4_wouldNod_5 : decode cX4_wouldNod 5 = .ok (.aload_n 1, 1) := by decide +kernel
theorem dX4_wouldNod_6 : decode cX4_wouldNod 6 = .ok (.iload_n 2, 1) := by decide +kernel
theorem dX4_wouldNod_7 : decode cX4_wouldNod 7 = .ok (.invokevirtual 58, 3) := by decide +kernel
theorem dX4_wouldNod_10 : decode cX4_wouldNod 10 = .ok (.if_icmp .lt 7, 3) := by decide +kernel
theorem dX4_wouldNod_13 : decode cX4_wouldNod 13 = .ok (.iconst 1, 1) := by decide +kernel
theorem dX4_wouldNod_14 : decode cX4_wouldNod 14 = .ok (.goto 4, 3) := by decide +kernel
theorem dX4_wouldNod_17 : decode cX4_wouldNod 17 = .ok (.iconst 0, 1) := by decide +kernel
theorem dX4_wouldNod_18 : decode cX4_wouldNod 18 = .ok (.ireturn, 1) := by decide +kernel
theorem dX4_hear_0 : decode cX4_hear 0 = .ok (.aload_n 0, 1) := by decide +kernel
theorem dX4_hear_1 : decode cX4_hear 1 = .ok (.aload_n 1, 1) := by decide +kernel
theorem dX4_hear_2 : decode cX4_hear 2 = .ok (.iload_n 2, 1) := by decide +kernel
theorem dX4_hear_3 : decode cX4_hear 3 = .ok (.invokevirtual 62, 3) := by decide +kernel
theorem dX4_hear_6 : decode cX4_hear 6 = .ok (.istore_n 3, 1) := by decide +kernel
theorem dX4_hear_7 : decode cX4_hear 7 = .ok (.aload_n 0, 1) := by decide +kernel
theorem dX4_hear_8 : decode cX4_hear 8 = .ok (.aload_n 1, 1) := by decide +kernel
theorem dX4_hear_9 : decode cX4_hear 9 = .ok (.iload_n 2, 1) := by decide +kernel
theorem dX4_hear_10 : decode cX4_hear 10 = .ok (.iload_n 3, 1) := by decide +kernel
theorem dX4_hear_11 : decode cX4_hear 11 = .ok (.invokevirtual 66, 3) := by decide +kernel
theorem dX4_hear_14 : decode cX4_hear 14 = .ok (.iload_n 3, 1) := by decide +kernel
theorem dX4_hear_15 : decode cX4_hear 15 = .ok (.ireturn, 1) := by decide +kernel
theorem dX4_hearAs_0 : decode cX4_hearAs 0 = .ok (.aload_n 0, 1) := by decide +kernel
theorem dX4_hearAs_1 : decode cX4_hearAs 1 = .ok (.dup, 1) := by decide +kernel
theorem dX4_hearAs_2 : decode cX4_hearAs 2 = .ok (.getfield 16, 3) := by decide +kernel
theorem dX4_hearAs_5 : decode cX4_hearAs 5 = .ok (.iconst 1, 1) := by decide +kernel
theorem dX4_hearAs_6 : decode cX4_hearAs 6 = .ok (.iadd, 1) := by decide +kernel
theorem dX4_hearAs_7 : decode cX4_hearAs 7 = .ok (.putfield 16, 3) := by decide +kernel
theorem dX4_hearAs_10 : decode cX4_hearAs 10 = .ok (.iload_n 3, 1) := by decide +kernel
theorem dX4_hearAs_11 : decode cX4_hearAs 11 = .ok (.ifCond .eq 36, 3) := by decide +kernel
theorem dX4_hearAs_14 : decode cX4_hearAs 14 = .ok (.aload_n 0, 1) := by decide +kernel
theorem dX4_hearAs_15 : decode cX4_hearAs 15 = .ok (.getfield 21, 3) := by decide +kernel
theorem dX4_hearAs_18 : decode cX4_hearAs 18 = .ok (.aload_n 1, 1) := by decide +kernel
theorem dX4_hearAs_19 : decode cX4_hearAs 19 = .ok (.getfield 42, 3) := by decide +kernel
theorem dX4_hearAs_22 : decode cX4_hearAs 22 = .ok (.iload_n 2, 1) := by decide +kernel
theorem dX4_hearAs_23 : decode cX4_hearAs 23 = .ok (.iaload, 1) := by decide +kernel
theorem dX4_hearAs_24 : decode cX4_hearAs 24 = .ok (.dup2, 1) := by decide +kernel
theorem dX4_hearAs_25 : decode cX4_hearAs 25 = .ok (.iaload, 1) := by decide +kernel
theorem dX4_hearAs_26 : decode cX4_hearAs 26 = .ok (.iconst 1, 1) := by decide +kernel
theorem dX4_hearAs_27 : decode cX4_hearAs 27 = .ok (.iadd, 1) := by decide +kernel
theorem dX4_hearAs_28 : decode cX4_hearAs 28 = .ok (.iastore, 1) := by decide +kernel
theorem dX4_hearAs_29 : decode cX4_hearAs 29 = .ok (.aload_n 0, 1) := by decide +kernel
theorem dX4_hearAs_30 : decode cX4_hearAs 30 = .ok (.aload_n 0, 1) := by decide +kernel
theorem dX4_hearAs_31 : decode cX4_hearAs 31 = .ok (.getfield 7, 3) := by decide +kernel
theorem dX4_hearAs_34 : decode cX4_hearAs 34 = .ok (.iconst 1, 1) := by decide +kernel
theorem dX4_hearAs_35 : decode cX4_hearAs 35 = .ok (.iadd, 1) := by decide +kernel
theorem dX4_hearAs_36 : decode cX4_hearAs 36 = .ok (.bipush 20, 2) := by decide +kernel
theorem dX4_hearAs_38 : decode cX4_hearAs 38 = .ok (.invokestatic 70, 3) := by decide +kernel
theorem dX4_hearAs_41 : decode cX4_hearAs 41 = .ok (.putfield 7, 3) := by decide +kernel
theorem dX4_hearAs_44 : decode cX4_hearAs 44 = .ok (.goto 26, 3) := by decide +kernel
theorem dX4_hearAs_47 : decode cX4_hearAs 47 = .ok (.aload_n 0, 1) := by decide +kernel
theorem dX4_hearAs_48 : decode cX4_hearAs 48 = .ok (.aload_n 0, 1) := by decide +kernel
theorem dX4_hearAs_49 : decode cX4_hearAs 49 = .ok (.getfield 7, 3) := by decide +kernel
theorem dX4_hearAs_52 : decode cX4_hearAs 52 = .ok (.aload_n 1, 1) := by decide +kernel
theorem dX4_hearAs_53 : decode cX4_hearAs 53 = .ok (.getfield 51, 3) := by decide +kernel
theorem dX4_hearAs_56 : decode cX4_hearAs 56 = .ok (.iload_n 2, 1) := by decide +kernel
theorem dX4_hearAs_57 : decode cX4_hearAs 57 = .ok (.iaload, 1) := by decide +kernel
theorem dX4_hearAs_58 : decode cX4_hearAs 58 = .ok (.iconst 4, 1) := by decide +kernel
theorem dX4_hearAs_59 : decode cX4_hearAs 59 = .ok (.idiv, 1) := by decide +kernel
theorem dX4_hearAs_60 : decode cX4_hearAs 60 = .ok (.isub, 1) := by decide +kernel
theorem dX4_hearAs_61 : decode cX4_hearAs 61 = .ok (.iconst 1, 1) := by decide +kernel
theorem dX4_hearAs_62 : decode cX4_hearAs 62 = .ok (.isub, 1) := by decide +kernel
theorem dX4_hearAs_63 : decode cX4_hearAs 63 = .ok (.iconst 0, 1) := by decide +kernel
theorem dX4_hearAs_64 : decode cX4_hearAs 64 = .ok (.invokestatic 76, 3) := by decide +kernel
theorem dX4_hearAs_67 : decode cX4_hearAs 67 = .ok (.putfield 7, 3) := by decide +kernel
theorem dX4_hearAs_70 : decode cX4_hearAs 70 = .ok (.return_, 1) := by decide +kernel
theorem dX4_dine_0 : decode cX4_dine 0 = .ok (.aload_n 0, 1) := by decide +kernel
theorem dX4_dine_1 : decode cX4_dine 1 = .ok (.aload_n 0, 1) := by decide +kernel
theorem dX4_dine_2 : decode cX4_dine 2 = .ok (.getfield 7, 3) := by decide +kernel
theorem dX4_dine_5 : decode cX4_dine 5 = .ok (.iconst 2, 1) := by decide +kernel
theorem dX4_dine_6 : decode cX4_dine 6 = .ok (.iadd, 1) := by decide +kernel
theorem dX4_dine_7 : decode cX4_dine 7 = .ok (.bipush 20, 2) := by decide +kernel
theorem dX4_dine_9 : decode cX4_dine 9 = .ok (.invokestatic 70, 3) := by decide +kernel
theorem dX4_dine_12 : decode cX4_dine 12 = .ok (.putfield 7, 3) := by decide +kernel
theorem dX4_dine_15 : decode cX4_dine 15 = .ok (.return_, 1) := by decide +kernel
theorem dX4_undoubtedNeed_0 : decode cX4_undoubtedNeed 0 = .ok (.iload_n 1, 1) := by decide +kernel
theorem dX4_undoubtedNeed_1 : decode cX4_undoubtedNeed 1 = .ok (.tableswitch 70 2 5 #[31, 35, 45, 51], 31) := by decide +kernel
theorem dX4_undoubtedNeed_32 : decode cX4_undoubtedNeed 32 = .ok (.iconst 2, 1) := by decide +kernel
theorem dX4_undoubtedNeed_33 : decode cX4_undoubtedNeed 33 = .ok (.iload_n 2, 1) := by decide +kernel
theorem dX4_undoubtedNeed_34 : decode cX4_undoubtedNeed 34 = .ok (.imul, 1) := by decide +kernel
theorem dX4_undoubtedNeed_35 : decode cX4_undoubtedNeed 35 = .ok (.ireturn, 1) := by decide +kernel
theorem dX4_undoubtedNeed_36 : decode cX4_undoubtedNeed 36 = .ok (.iload_n 2, 1) := by decide +kernel
theorem dX4_undoubtedNeed_37 : decode cX4_undoubtedNeed 37 = .ok (.iconst 2, 1) := by decide +kernel
theorem dX4_undoubtedNeed_38 : decode cX4_undoubtedNeed 38 = .ok (.iload_n 3, 1) := by decide +kernel
theorem dX4_undoubtedNeed_39 : decode cX4_undoubtedNeed 39 = .ok (.imul, 1) := by decide +kernel
theorem dX4_undoubtedNeed_40 : decode cX4_undoubtedNeed 40 = .ok (.isub, 1) := by decide +kernel
theorem dX4_undoubtedNeed_41 : decode cX4_undoubtedNeed 41 = .ok (.iconst 0, 1) := by decide +kernel
theorem dX4_undoubtedNeed_42 : decode cX4_undoubtedNeed 42 = .ok (.invokestatic 76, 3) := by decide +kernel
theorem dX4_undoubtedNeed_45 : decode cX4_undoubtedNeed 45 = .ok (.ireturn, 1) := by decide +kernel
theorem dX4_undoubtedNeed_46 : decode cX4_undoubtedNeed 46 = .ok (.iload_n 2, 1) := by decide +kernel
theorem dX4_undoubtedNeed_47 : decode cX4_undoubtedNeed 47 = .ok (.iload_n 3, 1) := by decide +kernel
theorem dX4_undoubtedNeed_48 : decode cX4_undoubtedNeed 48 = .ok (.invokestatic 79, 3) := by decide +kernel
theorem dX4_undoubtedNeed_51 : decode cX4_undoubtedNeed 51 = .ok (.ireturn, 1) := by decide +kernel
theorem dX4_undoubtedNeed_52 : decode cX4_undoubtedNeed 52 = .ok (.aload_n 0, 1) := by decide +kernel
theorem dX4_undoubtedNeed_53 : decode cX4_undoubtedNeed 53 = .ok (.getfield 16, 3) := by decide +kernel
theorem dX4_undoubtedNeed_56 : decode cX4_undoubtedNeed 56 = .ok (.iconst 2, 1) := by decide +kernel
theorem dX4_undoubtedNeed_57 : decode cX4_undoubtedNeed 57 = .ok (.if_icmp .ge 8, 3) := by decide +kernel
theorem dX4_undoubtedNeed_60 : decode cX4_undoubtedNeed 60 = .ok (.bipush 99, 2) := by decide +kernel
theorem dX4_undoubtedNeed_62 : decode cX4_undoubtedNeed 62 = .ok (.goto 8, 3) := by decide +kernel
theorem dX4_undoubtedNeed_65 : decode cX4_undoubtedNeed 65 = .ok (.iload_n 2, 1) := by decide +kernel
theorem dX4_undoubtedNeed_66 : decode cX4_undoubtedNeed 66 = .ok (.iload_n 3, 1) := by decide +kernel
theorem dX4_undoubtedNeed_67 : decode cX4_undoubtedNeed 67 = .ok (.invokestatic 79, 3) := by decide +kernel
theorem dX4_undoubtedNeed_70 : decode cX4_undoubtedNeed 70 = .ok (.ireturn, 1) := by decide +kernel
theorem dX4_undoubtedNeed_71 : decode cX4_undoubtedNeed 71 = .ok (.iload_n 2, 1) := by decide +kernel
theorem dX4_undoubtedNeed_72 : decode cX4_undoubtedNeed 72 = .ok (.ireturn, 1) := by decide +kernel
theorem dX4_proofNeed_0 : decode cX4_proofNeed 0 = .ok (.iload_n 1, 1) := by decide +kernel
theorem dX4_proofNeed_1 : decode cX4_proofNeed 1 = .ok (.ifCond .le 7, 3) := by decide +kernel
theorem dX4_proofNeed_4 : decode cX4_proofNeed 4 = .ok (.iconst 0, 1) := by decide +kernel
theorem dX4_proofNeed_5 : decode cX4_proofNeed 5 = .ok (.goto 7, 3) := by decide +kernel
theorem dX4_proofNeed_8 : decode cX4_proofNeed 8 = .ok (.bipush 20, 2) := by decide +kernel
theorem dX4_proofNeed_10 : decode cX4_proofNeed 10 = .ok (.iload_n 0, 1) := by decide +kernel
theorem dX4_proofNeed_11 : decode cX4_proofNeed 11 = .ok (.iadd, 1) := by decide +kernel
theorem dX4_proofNeed_12 : decode cX4_proofNeed 12 = .ok (.ireturn, 1) := by decide +kernel
end
section
section PM_
variable {g : SG_} {d : Nat} {h : SH_} {Post : Option SV_ → SH_ → Prop}
theorem c_max {x y : Int} (k : Post (some (sv_i (if x < y then y else x))) h) : Ctr_ g d mJ9_max_7cf53 [sv_i x, sv_i y] h Post := by
  refine V_mk (by decide +kernel) (Or.inr (Or.inl ⟨rfl, rfl⟩)) (Nat.le_of_ble_eq_true rfl) (by simp [sv_c]) ?_
  show V_ _ _ _ 0 [_, _] [] _ _
  refine vr_iload_n (q := 1) dJ9_max_7cf53_0 rfl rfl ?_
  refine vr_iload_n (q := 2) dJ9_max_7cf53_1 rfl rfl ?_
  -- at J9.max 2: .if_icmp .lt 7
  refine vr_ic_lt (t := 9) (q := 5) dJ9_max_7cf53_2 (by decide) rfl (fun c1 => ?_) (fun c1 => ?_)
  · refine vr_iload_n (q := 10) dJ9_max_7cf53_9 rfl rfl ?_
    -- at J9.max 10: .ireturn
    refine vr_iret dJ9_max_7cf53_10 rfl ?_
    rw [if_pos c1] at k
    exact k
  · refine vr_iload_n (q := 6) dJ9_max_7cf53_5 rfl rfl ?_
    refine vr_goto (q := 10) dJ9_max_7cf53_6 (by decide) ?_
    -- at J9.max 10: .ireturn
    refine vr_iret dJ9_max_7cf53_10 rfl ?_
    rw [if_neg c1] at k
    exact k
theorem c_min {x y : Int} (k : Post (some (sv_i (if y < x then y else x))) h) : Ctr_ g d mJ9_min_7cf53 [sv_i x, sv_i y] h Post := by
  refine V_mk (by decide +kernel) (Or.inr (Or.inl ⟨rfl, rfl⟩)) (Nat.le_of_ble_eq_true rfl) (by simp [sv_c]) ?_
  show V_ _ _ _ 0 [_, _] [] _ _
  refine vr_iload_n (q := 1) dJ9_min_7cf53_0 rfl rfl ?_
  refine vr_iload_n (q := 2) dJ9_min_7cf53_1 rfl rfl ?_
  -- at J9.min 2: .if_icmp .gt 7
  refine vr_ic_gt (t := 9) (q := 5) dJ9_min_7cf53_2 (by decide) rfl (fun c1 => ?_) (fun c1 => ?_)
  · refine vr_iload_n (q := 10) dJ9_min_7cf53_9 rfl rfl ?_
    -- at J9.min 10: .ireturn
    refine vr_iret dJ9_min_7cf53_10 rfl ?_
    rw [if_pos c1] at k
    exact k
  · refine vr_iload_n (q := 6) dJ9_min_7cf53_5 rfl rfl ?_
    refine vr_goto (q := 10) dJ9_min_7cf53_6 (by decide) ?_
    -- at J9.min 10: .ireturn
    refine vr_iret dJ9_min_7cf53_10 rfl ?_
    rw [if_neg c1] at k
    exact k
def b1_ (x : Int) : Int := sw_32 (x - sb_iand (sb_iushr x 1) 1431655765)
def b2_ (y : Int) : Int := sw_32 (sb_iand y 858993459 + sb_iand (sb_iushr y 2) 858993459)
def b3_ (y : Int) : Int := sb_iand (sw_32 (y + sb_iushr y 4)) 252645135
def b4_ (y : Int) : Int := sw_32 (y + sb_iushr y 8)
def b5_ (y : Int) : Int := sw_32 (y + sb_iushr y 16)
theorem bc_ok : ∀ n : Fin 64, sb_iand (b5_ (b4_ (b3_ (b2_ (b1_ ((n : Nat) : Int)))))) 63 = pc_ ((n : Nat) : Int) := by decide +kernel
theorem c_bitCount {x : Int} (hx : 0 ≤ x ∧ x < 64) (k : Post (some (sv_i (pc_ x))) h) : Ctr_ g d mJ6_bitCount_0f7a4 [sv_i x] h Post := by
  refine V_mk (by decide +kernel) (Or.inr (Or.inl ⟨rfl, rfl⟩)) (Nat.le_of_ble_eq_true rfl) (by simp [sv_c]) ?_
  show V_ _ _ _ 0 [_] [] _ _
  refine vr_iload_n (q := 1) dJ6_bitCount_0f7a4_0 rfl rfl ?_
  refine vr_iload_n (q := 2) dJ6_bitCount_0f7a4_1 rfl rfl ?_
  refine vr_iconst (q := 3) dJ6_bitCount_0f7a4_2 rfl ⟨by decide, by decide⟩ ?_
  refine vr_iushr (q := 4) dJ6_bitCount_0f7a4_3 rfl ?_
  refine vr_ldcw (x := 1431655765) (q := 7) dJ6_bitCount_0f7a4_4 rfl ⟨by decide, by decide⟩ qJ6_265 ?_
  refine vr_iand (q := 8) dJ6_bitCount_0f7a4_7 rfl ?_
  refine vr_isub (q := 9) dJ6_bitCount_0f7a4_8 rfl ?_
  refine vr_istore_n (q := 10) dJ6_bitCount_0f7a4_9 rfl rfl (Nat.le_of_ble_eq_true rfl) rfl rfl ?_
  refine vr_iload_n (q := 11) dJ6_bitCount_0f7a4_10 rfl rfl ?_
  refine vr_ldcw (x := 858993459) (q := 14) dJ6_bitCount_0f7a4_11 rfl ⟨by decide, by decide⟩ qJ6_266 ?_
  refine vr_iand (q := 15) dJ6_bitCount_0f7a4_14 rfl ?_
  refine vr_iload_n (q := 16) dJ6_bitCount_0f7a4_15 rfl rfl ?_
  refine vr_iconst (q := 17) dJ6_bitCount_0f7a4_16 rfl ⟨by decide, by decide⟩ ?_
  refine vr_iushr (q := 18) dJ6_bitCount_0f7a4_17 rfl ?_
  refine vr_ldcw (x := 858993459) (q := 21) dJ6_bitCount_0f7a4_18 rfl ⟨by decide, by decide⟩ qJ6_266 ?_
  refine vr_iand (q := 22) dJ6_bitCount_0f7a4_21 rfl ?_
  refine vr_iadd (q := 23) dJ6_bitCount_0f7a4_22 rfl ?_
  refine vr_istore_n (q := 24) dJ6_bitCount_0f7a4_23 rfl rfl (Nat.le_of_ble_eq_true rfl) rfl rfl ?_
  refine vr_iload_n (q := 25) dJ6_bitCount_0f7a4_24 rfl rfl ?_
  refine vr_iload_n (q := 26) dJ6_bitCount_0f7a4_25 rfl rfl ?_
  refine vr_iconst (q := 27) dJ6_bitCount_0f7a4_26 rfl ⟨by decide, by decide⟩ ?_
  refine vr_iushr (q := 28) dJ6_bitCount_0f7a4_27 rfl ?_
  refine vr_iadd (q := 29) dJ6_bitCount_0f7a4_28 rfl ?_
  refine vr_ldcw (x := 252645135) (q := 32) dJ6_bitCount_0f7a4_29 rfl ⟨by decide, by decide⟩ qJ6_267 ?_
  refine vr_iand (q := 33) dJ6_bitCount_0f7a4_32 rfl ?_
  refine vr_istore_n (q := 34) dJ6_bitCount_0f7a4_33 rfl rfl (Nat.le_of_ble_eq_true rfl) rfl rfl ?_
  refine vr_iload_n (q := 35) dJ6_bitCount_0f7a4_34 rfl rfl ?_
  refine vr_iload_n (q := 36) dJ6_bitCount_0f7a4_35 rfl rfl ?_
  refine vr_bipush (q := 38) dJ6_bitCount_0f7a4_36 rfl ⟨by decide, by decide⟩ (by decide) ?_
  refine vr_iushr (q := 39) dJ6_bitCount_0f7a4_38 rfl ?_
  refine vr_iadd (q := 40) dJ6_bitCount_0f7a4_39 rfl ?_
  refine vr_istore_n (q := 41) dJ6_bitCount_0f7a4_40 rfl rfl (Nat.le_of_ble_eq_true rfl) rfl rfl ?_
  refine vr_iload_n (q := 42) dJ6_bitCount_0f7a4_41 rfl rfl ?_
  refine vr_iload_n (q := 43) dJ6_bitCount_0f7a4_42 rfl rfl ?_
  refine vr_bipush (q := 45) dJ6_bitCount_0f7a4_43 rfl ⟨by decide, by decide⟩ (by decide) ?_
  refine vr_iushr (q := 46) dJ6_bitCount_0f7a4_45 rfl ?_
  refine vr_iadd (q := 47) dJ6_bitCount_0f7a4_46 rfl ?_
  refine vr_istore_n (q := 48) dJ6_bitCount_0f7a4_47 rfl rfl (Nat.le_of_ble_eq_true rfl) rfl rfl ?_
  refine vr_iload_n (q := 49) dJ6_bitCount_0f7a4_48 rfl rfl ?_
  refine vr_bipush (q := 51) dJ6_bitCount_0f7a4_49 rfl ⟨by decide, by decide⟩ (by decide) ?_
  refine vr_iand (q := 52) dJ6_bitCount_0f7a4_51 rfl ?_
  -- at J6.bitCount 52: .ireturn
  refine vr_iret dJ6_bitCount_0f7a4_52 rfl ?_
  have e := bc_ok ⟨x.toNat, by omega⟩
  rw [show (((⟨x.toNat, by omega⟩ : Fin 64) : Nat) : Int) = x from Int.toNat_of_nonneg hx.1] at e
  show Post (some (sv_i (sb_iand (b5_ (b4_ (b3_ (b2_ (b1_ x))))) 63))) h
  rw [e]
  exact k
theorem c_proofNeed {w n : Int} (hw : 1 ≤ w ∧ w ≤ 20) (k : Post (some (sv_i (pn_ w n))) h) : Ctr_ g d mX4_proofNeed [sv_i w, sv_i n] h Post := by
  unfold pn_ at k
  refine V_mk (by decide +kernel) (Or.inr (Or.inl ⟨rfl, rfl⟩)) (Nat.le_of_ble_eq_true rfl) (by simp [sv_c]) ?_
  show V_ _ _ _ 0 [_, _] [] _ _
  refine vr_iload_n (q := 1) dX4_proofNeed_0 rfl rfl ?_
  -- at X4.proofNeed 1: .ifCond .le 7
  refine vr_if_le (t := 8) (q := 4) dX4_proofNeed_1 (by decide) rfl (fun c1 => ?_) (fun c1 => ?_)
  · refine vr_bipush (q := 10) dX4_proofNeed_8 rfl ⟨by decide, by decide⟩ (by decide) ?_
    refine vr_iload_n (q := 11) dX4_proofNeed_10 rfl rfl ?_
    refine vr_iaddN (q := 12) dX4_proofNeed_11 rfl ⟨by omega, by omega⟩ ?_
    -- at X4.proofNeed 12: .ireturn
    refine vr_iret dX4_proofNeed_12 rfl ?_
    rw [if_neg (by omega)] at k
    exact k
  · refine vr_iconst (q := 5) dX4_proofNeed_4 rfl ⟨by decide, by decide⟩ ?_
    refine vr_goto (q := 12) dX4_proofNeed_5 (by decide) ?_
    -- at X4.proofNeed 12: .ireturn
    refine vr_iret dX4_proofNeed_12 rfl ?_
    rw [if_pos (by omega)] at k
    exact k
theorem c_undoubtedNeed {k kd w n : Int} (hk : 1 ≤ kd ∧ kd ≤ 5) (hw : 1 ≤ w ∧ w ≤ 20) (hn : 0 ≤ n ∧ n ≤ 100) (kk : Post (some (sv_i (un_ kd w n (h k 2)))) h) : Ctr_ g (d + 1) mX4_undoubtedNeed [sv_r 4 3 k, sv_i kd, sv_i w, sv_i n] h Post := by
  refine V_mk (by decide +kernel) (Or.inr (Or.inl ⟨rfl, rfl⟩)) (Nat.le_of_ble_eq_true rfl) (by simp [sv_c]) ?_
  show V_ _ _ _ 0 [_, _, _, _] [] _ _
  refine vr_iload_n (q := 1) dX4_undoubtedNeed_0 rfl rfl ?_
  -- at X4.undoubtedNeed 1: .tableswitch 70 2 5 #[31, 35, 45, 51]
  rcases (by omega : kd = 1 ∨ kd = 2 ∨ kd = 3 ∨ kd = 4 ∨ kd = 5) with rfl | rfl | rfl | rfl | rfl
  · refine vr_tsO (q := 71) dX4_undoubtedNeed_1 (by omega) (by decide) ?_
    refine vr_iload_n (q := 72) dX4_undoubtedNeed_71 rfl rfl ?_
    -- at X4.undoubtedNeed 72: .ireturn
    refine vr_iret dX4_undoubtedNeed_72 rfl ?_
    exact kk
  · refine vr_tsI (q := 32) dX4_undoubtedNeed_1 (by decide) (by decide) rfl (by decide) ?_
    refine vr_iconst (q := 33) dX4_undoubtedNeed_32 rfl ⟨by decide, by decide⟩ ?_
    refine vr_iload_n (q := 34) dX4_undoubtedNeed_33 rfl rfl ?_
    refine vr_imulN (q := 35) dX4_undoubtedNeed_34 rfl ⟨by omega, by omega⟩ ?_
    -- at X4.undoubtedNeed 35: .ireturn
    refine vr_iret dX4_undoubtedNeed_35 rfl ?_
    exact kk
  · refine vr_tsI (q := 36) dX4_undoubtedNeed_1 (by decide) (by decide) rfl (by decide) ?_
    refine vr_iload_n (q := 37) dX4_undoubtedNeed_36 rfl rfl ?_
    refine vr_iconst (q := 38) dX4_undoubtedNeed_37 rfl ⟨by decide, by decide⟩ ?_
    refine vr_iload_n (q := 39) dX4_undoubtedNeed_38 rfl rfl ?_
    refine vr_imulN (q := 40) dX4_undoubtedNeed_39 rfl ⟨by omega, by omega⟩ ?_
    refine vr_isubN (q := 41) dX4_undoubtedNeed_40 rfl ⟨by omega, by omega⟩ ?_
    refine vr_iconst (q := 42) dX4_undoubtedNeed_41 rfl ⟨by decide, by decide⟩ ?_
    -- at X4.undoubtedNeed 42: .invokestatic 76
    refine vr_is2 (q := 45) dX4_undoubtedNeed_42 rfl vX4_76 (Nat.le_of_ble_eq_true rfl) ?_
    refine c_max ?_
    refine vr_iret dX4_undoubtedNeed_45 rfl ?_
    exact kk
  · refine vr_tsI (q := 46) dX4_undoubtedNeed_1 (by decide) (by decide) rfl (by decide) ?_
    refine vr_iload_n (q := 47) dX4_undoubtedNeed_46 rfl rfl ?_
    refine vr_iload_n (q := 48) dX4_undoubtedNeed_47 rfl rfl ?_
    -- at X4.undoubtedNeed 48: .invokestatic 79
    refine vr_is2 (q := 51) dX4_undoubtedNeed_48 rfl vX4_79 (Nat.le_of_ble_eq_true rfl) ?_
    refine c_proofNeed hw ?_
    refine vr_iret dX4_undoubtedNeed_51 rfl ?_
    exact kk
  · refine vr_tsI (q := 52) dX4_undoubtedNeed_1 (by decide) (by decide) rfl (by decide) ?_
    refine vr_aload_n (q := 53) dX4_undoubtedNeed_52 rfl rfl ?_
    refine vr_getI (ji := 2) (q := 56) dX4_undoubtedNeed_53 rfl fX4_16 rfl rfl ?_
    refine vr_iconst (q := 57) dX4_undoubtedNeed_56 rfl ⟨by decide, by decide⟩ ?_
    -- at X4.undoubtedNeed 57: .if_icmp .ge 8
    refine vr_ic_ge (t := 65) (q := 60) dX4_undoubtedNeed_57 (by decide) rfl (fun c1 => ?_) (fun c1 => ?_)
    · refine vr_iload_n (q := 66) dX4_undoubtedNeed_65 rfl rfl ?_
      refine vr_iload_n (q := 67) dX4_undoubtedNeed_66 rfl rfl ?_
      -- at X4.undoubtedNeed 67: .invokestatic 79
      refine vr_is2 (q := 70) dX4_undoubtedNeed_67 rfl vX4_79 (Nat.le_of_ble_eq_true rfl) ?_
      refine c_proofNeed hw ?_
      refine vr_iret dX4_undoubtedNeed_70 rfl ?_
      have e : un_ 5 w n (h k 2) = pn_ w n := by simp [un_]; omega
      rw [e] at kk
      exact kk
    · refine vr_bipush (q := 62) dX4_undoubtedNeed_60 rfl ⟨by decide, by decide⟩ (by decide) ?_
      refine vr_goto (q := 70) dX4_undoubtedNeed_62 (by decide) ?_
      -- at X4.undoubtedNeed 70: .ireturn
      refine vr_iret dX4_undoubtedNeed_70 rfl ?_
      have e : un_ 5 w n (h k 2) = 99 := by simp [un_]; omega
      rw [e] at kk
      exact kk
theorem un_r {k w n t : Int} (hk : 1 ≤ k ∧ k ≤ 5) (hw : 1 ≤ w ∧ w ≤ 20) (hn : 0 ≤ n ∧ n ≤ 100) : 0 ≤ un_ k w n t ∧ un_ k w n t ≤ 99 := by
  unfold un_ pn_
  repeat' split
  all_goals omega
/-- a mind's cell, and the current town's -/
theorem c_needOf {k l : Int} {n : Int} (hl : 0 ≤ l ∧ l < 6) (hlo : lo_ (h 8 l) (h 9 l) (h 10 l)) (hm : mo_ n (mu_ h k)) (hn : n ≤ 100) (kk : Post (some (sv_i (nd_ (h 8 l) (h 9 l) (h 10 l) (mu_ h k)))) h) : Ctr_ g (d + 2) mX4_needOf [sv_r 4 3 k, sv_r 4 6 7, sv_i l] h Post := by
  obtain ⟨hk, hw, ht⟩ := hlo
  have hq := hm.2.2.2 (h 10 l) ht.1 ht.2
  have e4 : q4_ (mu_ h k).2.2.2 (h 10 l) = h (k + 1) (h 10 l) := q4_a ht
  rw [e4] at hq
  unfold nd_ at kk
  rw [e4] at kk
  have hu := un_r (t := h k 2) hk hw ⟨hq.1, by omega⟩
  refine V_mk (by decide +kernel) (Or.inr (Or.inl ⟨rfl, rfl⟩)) (Nat.le_of_ble_eq_true rfl) (by simp [sv_c]) ?_
  show V_ _ _ _ 0 [_, _, _, _, _] [] _ _
  refine vr_aload_n (q := 1) dX4_needOf_0 rfl rfl ?_
  refine vr_getR (q := 4) dX4_needOf_1 rfl fX4_42 rfl y_X7_6 (by first | (simp only [Int.reduceAdd]; rfl) | rfl) ?_
  refine vr_iload_n (q := 5) dX4_needOf_4 rfl rfl ?_
  refine vr_iald (q := 6) dX4_needOf_5 rfl ⟨by omega, by omega⟩ ?_
  refine vr_istore_n (q := 7) dX4_needOf_6 rfl rfl (Nat.le_of_ble_eq_true rfl) rfl rfl ?_
  refine vr_aload_n (q := 8) dX4_needOf_7 rfl rfl ?_
  refine vr_getI (ji := 1) (q := 11) dX4_needOf_8 rfl fX4_13 rfl rfl ?_
  refine vr_iload_n (q := 12) dX4_needOf_11 rfl rfl ?_
  refine vr_ishr (q := 13) dX4_needOf_12 rfl ?_
  refine vr_iconst (q := 14) dX4_needOf_13 rfl ⟨by decide, by decide⟩ ?_
  refine vr_iand (q := 15) dX4_needOf_14 rfl ?_
  -- at X4.needOf 15: .ifCond .eq 7
  refine vr_if_eq (t := 22) (q := 18) dX4_needOf_15 (by decide) rfl (fun c1 => ?_) (fun c1 => ?_)
  · have c2 : bt_ (mu_ h k).2.1 (h 10 l) = 0 := c1
    rw [if_pos c2] at kk
    refine vr_iconst (q := 23) dX4_needOf_22 rfl ⟨by decide, by decide⟩ ?_
    refine vr_istore (q := 25) dX4_needOf_23 rfl (Nat.le_of_ble_eq_true rfl) rfl rfl ?_
    refine vr_iload (q := 27) dX4_needOf_25 rfl rfl ?_
    refine vr_aload_n (q := 28) dX4_needOf_27 rfl rfl ?_
    refine vr_aload_n (q := 29) dX4_needOf_28 rfl rfl ?_
    refine vr_getR (q := 32) dX4_needOf_29 rfl fX4_48 rfl y_X7_4 (by first | (simp only [Int.reduceAdd]; rfl) | rfl) ?_
    refine vr_iload_n (q := 33) dX4_needOf_32 rfl rfl ?_
    refine vr_iald (q := 34) dX4_needOf_33 rfl ⟨by omega, by omega⟩ ?_
    refine vr_aload_n (q := 35) dX4_needOf_34 rfl rfl ?_
    refine vr_getR (q := 38) dX4_needOf_35 rfl fX4_51 rfl y_X7_5 (by first | (simp only [Int.reduceAdd]; rfl) | rfl) ?_
    refine vr_iload_n (q := 39) dX4_needOf_38 rfl rfl ?_
    refine vr_iald (q := 40) dX4_needOf_39 rfl ⟨by omega, by omega⟩ ?_
    refine vr_aload_n (q := 41) dX4_needOf_40 rfl rfl ?_
    refine vr_getR (q := 44) dX4_needOf_41 rfl fX4_21 rfl y_X4_3 (by first | (simp only [Int.reduceAdd]; rfl) | rfl) ?_
    refine vr_iload_n (q := 45) dX4_needOf_44 rfl rfl ?_
    refine vr_iald (q := 46) dX4_needOf_45 rfl ⟨by omega, by omega⟩ ?_
    -- at X4.needOf 46: .invokevirtual 54
    refine vr_iv3 (q := 49) dX4_needOf_46 rfl vX4_54 (Nat.le_of_ble_eq_true rfl) ?_
    refine c_undoubtedNeed hk hw ⟨hq.1, by omega⟩ ?_
    refine vr_iaddN (q := 50) dX4_needOf_49 rfl ⟨by omega, by omega⟩ ?_
    -- at X4.needOf 50: .ireturn
    refine vr_iret dX4_needOf_50 rfl ?_
    exact kk
  · have c2 : ¬ bt_ (mu_ h k).2.1 (h 10 l) = 0 := c1
    rw [if_neg c2] at kk
    refine vr_iconst (q := 19) dX4_needOf_18 rfl ⟨by decide, by decide⟩ ?_
    refine vr_goto (q := 23) dX4_needOf_19 (by decide) ?_
    refine vr_istore (q := 25) dX4_needOf_23 rfl (Nat.le_of_ble_eq_true rfl) rfl rfl ?_
    refine vr_iload (q := 27) dX4_needOf_25 rfl rfl ?_
    refine vr_aload_n (q := 28) dX4_needOf_27 rfl rfl ?_
    refine vr_aload_n (q := 29) dX4_needOf_28 rfl rfl ?_
    refine vr_getR (q := 32) dX4_needOf_29 rfl fX4_48 rfl y_X7_4 (by first | (simp only [Int.reduceAdd]; rfl) | rfl) ?_
    refine vr_iload_n (q := 33) dX4_needOf_32 rfl rfl ?_
    refine vr_iald (q := 34) dX4_needOf_33 rfl ⟨by omega, by omega⟩ ?_
    refine vr_aload_n (q := 35) dX4_needOf_34 rfl rfl ?_
    refine vr_getR (q := 38) dX4_needOf_35 rfl fX4_51 rfl y_X7_5 (by first | (simp only [Int.reduceAdd]; rfl) | rfl) ?_
    refine vr_iload_n (q := 39) dX4_needOf_38 rfl rfl ?_
    refine vr_iald (q := 40) dX4_needOf_39 rfl ⟨by omega, by omega⟩ ?_
    refine vr_aload_n (q := 41) dX4_needOf_40 rfl rfl ?_
    refine vr_getR (q := 44) dX4_needOf_41 rfl fX4_21 rfl y_X4_3 (by first | (simp only [Int.reduceAdd]; rfl) | rfl) ?_
    refine vr_iload_n (q := 45) dX4_needOf_44 rfl rfl ?_
    refine vr_iald (q := 46) dX4_needOf_45 rfl ⟨by omega, by omega⟩ ?_
    -- at X4.needOf 46: .invokevirtual 54
    refine vr_iv3 (q := 49) dX4_needOf_46 rfl vX4_54 (Nat.le_of_ble_eq_true rfl) ?_
    refine c_undoubtedNeed hk hw ⟨hq.1, by omega⟩ ?_
    refine vr_iaddN (q := 50) dX4_needOf_49 rfl ⟨by omega, by omega⟩ ?_
    -- at X4.needOf 50: .ireturn
    refine vr_iret dX4_needOf_50 rfl ?_
    exact kk
theorem c_wouldNod {k l : Int} {n : Int} (hl : 0 ≤ l ∧ l < 6) (hlo : lo_ (h 8 l) (h 9 l) (h 10 l)) (hm : mo_ n (mu_ h k)) (hn : n ≤ 100) (kk : Post (some (sv_i (nb_ (h 8 l) (h 9 l) (h 10 l) (mu_ h k)))) h) : Ctr_ g (d + 3) mX4_wouldNod [sv_r 4 3 k, sv_r 4 6 7, sv_i l] h Post := by
  unfold nb_ at kk
  refine V_mk (by decide +kernel) (Or.inr (Or.inr (Or.inl ⟨rfl, rfl⟩))) (Nat.le_of_ble_eq_true rfl) (by simp [sv_c]) ?_
  show V_ _ _ _ 0 [_, _, _] [] _ _
  refine vr_aload_n (q := 1) dX4_wouldNod_0 rfl rfl ?_
  refine vr_getI (ji := 0) (q := 4) dX4_wouldNod_1 rfl fX4_7 rfl rfl ?_
  refine vr_aload_n (q := 5) dX4_wouldNod_4 rfl rfl ?_
  refine vr_aload_n (q := 6) dX4_wouldNod_5 rfl rfl ?_
  refine vr_iload_n (q := 7) dX4_wouldNod_6 rfl rfl ?_
  -- at X4.wouldNod 7: .invokevirtual 58
  refine vr_iv2 (q := 10) dX4_wouldNod_7 rfl vX4_58 (Nat.le_of_ble_eq_true rfl) ?_
  refine c_needOf hl hlo hm hn ?_
  refine vr_ic_lt (t := 17) (q := 13) dX4_wouldNod_10 (by decide) rfl (fun c1 => ?_) (fun c1 => ?_)
  · have c2 : (mu_ h k).1 < nd_ (h 8 l) (h 9 l) (h 10 l) (mu_ h k) := c1
    rw [if_pos c2] at kk
    refine vr_iconst (q := 18) dX4_wouldNod_17 rfl ⟨by decide, by decide⟩ ?_
    -- at X4.wouldNod 18: .ireturn
    refine vr_zret dX4_wouldNod_18 rfl ?_ ?_
    · exact Or.inl rfl
    · exact kk
  · have c2 : ¬ (mu_ h k).1 < nd_ (h 8 l) (h 9 l) (h 10 l) (mu_ h k) := c1
    rw [if_neg c2] at kk
    refine vr_iconst (q := 14) dX4_wouldNod_13 rfl ⟨by decide, by decide⟩ ?_
    refine vr_goto (q := 18) dX4_wouldNod_14 (by decide) ?_
    -- at X4.wouldNod 18: .ireturn
    refine vr_zret dX4_wouldNod_18 rfl ?_ ?_
    · exact Or.inr rfl
    · exact kk
theorem c_dine {k : Int} (ht : 0 ≤ h k 0 ∧ h k 0 ≤ 20) (kk : Post none (ms_ h k (di_ (mu_ h k)))) : Ctr_ g (d + 1) mX4_dine [sv_r 4 3 k] h Post := by
  refine V_mk (by decide +kernel) (Or.inl ⟨rfl, rfl⟩) (Nat.le_of_ble_eq_true rfl) (by simp [sv_c]) ?_
  show V_ _ _ _ 0 [_] [] _ _
  refine vr_aload_n (q := 1) dX4_dine_0 rfl rfl ?_
  refine vr_aload_n (q := 2) dX4_dine_1 rfl rfl ?_
  refine vr_getI (ji := 0) (q := 5) dX4_dine_2 rfl fX4_7 rfl rfl ?_
  refine vr_iconst (q := 6) dX4_dine_5 rfl ⟨by decide, by decide⟩ ?_
  refine vr_iaddN (q := 7) dX4_dine_6 rfl ⟨by omega, by omega⟩ ?_
  refine vr_bipush (q := 9) dX4_dine_7 rfl ⟨by decide, by decide⟩ (by decide) ?_
  -- at X4.dine 9: .invokestatic 70
  refine vr_is2 (q := 12) dX4_dine_9 rfl vX4_70 (Nat.le_of_ble_eq_true rfl) ?_
  refine c_min ?_
  refine vr_put (ji := 0) (q := 15) dX4_dine_12 rfl pX4_7 rfl rfl ?_
  -- at X4.dine 15: .return_
  refine vr_vret dX4_dine_15 rfl ?_
  rw [hs_m0]
  exact kk
theorem c_hearAs {k l b : Int} {n : Int} (hl : 0 ≤ l ∧ l < 6) (hk : 52 ≤ k) (hlo : lo_ (h 8 l) (h 9 l) (h 10 l)) (hm : mo_ n (mu_ h k)) (hn : n ≤ 100) (kk : Post none (ms_ h k (he_ (h 9 l) (h 10 l) b (mu_ h k)))) : Ctr_ g (d + 1) mX4_hearAs [sv_r 4 3 k, sv_r 4 6 7, sv_i l, sv_i b] h Post := by
  obtain ⟨-, hw, ht⟩ := hlo
  have h1 : 0 ≤ h k 0 ∧ h k 0 ≤ 20 := hm.1
  have h2 : 0 ≤ h k 2 ∧ h k 2 ≤ n := hm.2.2.1
  have hq := hm.2.2.2 (h 10 l) ht.1 ht.2
  have e4 : q4_ (mu_ h k).2.2.2 (h 10 l) = h (k + 1) (h 10 l) := q4_a ht
  rw [e4] at hq
  have hd0 : 0 ≤ (h 9 l).tdiv 4 := Int.tdiv_nonneg (by omega) (by omega)
  have hd1 : (h 9 l).tdiv 4 ≤ 20 := by
    rw [Int.tdiv_eq_ediv_of_nonneg (by omega)]
    omega
  refine V_mk (by decide +kernel) (Or.inl ⟨rfl, rfl⟩) (Nat.le_of_ble_eq_true rfl) (by simp [sv_c]) ?_
  show V_ _ _ _ 0 [_, _, _, _] [] _ _
  refine vr_aload_n (q := 1) dX4_hearAs_0 rfl rfl ?_
  refine vr_dup (q := 2) dX4_hearAs_1 rfl rfl ?_
  refine vr_getI (ji := 2) (q := 5) dX4_hearAs_2 rfl fX4_16 rfl rfl ?_
  refine vr_iconst (q := 6) dX4_hearAs_5 rfl ⟨by decide, by decide⟩ ?_
  refine vr_iaddN (q := 7) dX4_hearAs_6 rfl ⟨by omega, by omega⟩ ?_
  refine vr_put (ji := 2) (q := 10) dX4_hearAs_7 rfl pX4_16 rfl rfl ?_
  refine vr_iload_n (q := 11) dX4_hearAs_10 rfl rfl ?_
  -- at X4.hearAs 11: .ifCond .eq 36
  refine vr_if_eq (t := 47) (q := 14) dX4_hearAs_11 (by decide) rfl (fun c1 => ?_) (fun c1 => ?_)
  · refine vr_aload_n (q := 48) dX4_hearAs_47 rfl rfl ?_
    refine vr_aload_n (q := 49) dX4_hearAs_48 rfl rfl ?_
    refine vr_getV (ji := 0) (q := 52) dX4_hearAs_49 rfl fX4_7 rfl rfl (hs_n (by omega)) ?_
    refine vr_aload_n (q := 53) dX4_hearAs_52 rfl rfl ?_
    refine vr_getR (q := 56) dX4_hearAs_53 rfl fX4_51 rfl y_X7_5 (by first | (simp only [Int.reduceAdd]; rfl) | rfl) ?_
    refine vr_iload_n (q := 57) dX4_hearAs_56 rfl rfl ?_
    refine vr_ialdV (q := 58) dX4_hearAs_57 rfl ⟨by omega, by omega⟩ (hs_n (by omega)) ?_
    refine vr_iconst (q := 59) dX4_hearAs_58 rfl ⟨by decide, by decide⟩ ?_
    refine vr_idiv (q := 60) dX4_hearAs_59 rfl (by omega) ?_
    refine vr_isubN (q := 61) dX4_hearAs_60 rfl ⟨by omega, by omega⟩ ?_
    refine vr_iconst (q := 62) dX4_hearAs_61 rfl ⟨by decide, by decide⟩ ?_
    refine vr_isubN (q := 63) dX4_hearAs_62 rfl ⟨by omega, by omega⟩ ?_
    refine vr_iconst (q := 64) dX4_hearAs_63 rfl ⟨by decide, by decide⟩ ?_
    -- at X4.hearAs 64: .invokestatic 76
    refine vr_is2 (q := 67) dX4_hearAs_64 rfl vX4_76 (Nat.le_of_ble_eq_true rfl) ?_
    refine c_max ?_
    refine vr_put (ji := 0) (q := 70) dX4_hearAs_67 rfl pX4_7 rfl rfl ?_
    -- at X4.hearAs 70: .return_
    refine vr_vret dX4_hearAs_70 rfl ?_
    rw [hs_m2, ms_h0]
    unfold he_ at kk
    rw [if_pos c1] at kk
    exact kk
  · refine vr_aload_n (q := 15) dX4_hearAs_14 rfl rfl ?_
    refine vr_getR (q := 18) dX4_hearAs_15 rfl fX4_21 rfl y_X4_3 (by first | (simp only [Int.reduceAdd]; rfl) | rfl) ?_
    refine vr_aload_n (q := 19) dX4_hearAs_18 rfl rfl ?_
    refine vr_getR (q := 22) dX4_hearAs_19 rfl fX4_42 rfl y_X7_6 (by first | (simp only [Int.reduceAdd]; rfl) | rfl) ?_
    refine vr_iload_n (q := 23) dX4_hearAs_22 rfl rfl ?_
    refine vr_ialdV (q := 24) dX4_hearAs_23 rfl ⟨by omega, by omega⟩ (hs_n (by omega)) ?_
    refine vr_dup2 (q := 25) dX4_hearAs_24 rfl rfl rfl ?_
    refine vr_ialdV (q := 26) dX4_hearAs_25 rfl ⟨by omega, by omega⟩ (hs_n (by omega)) ?_
    refine vr_iconst (q := 27) dX4_hearAs_26 rfl ⟨by decide, by decide⟩ ?_
    refine vr_iaddN (q := 28) dX4_hearAs_27 rfl ⟨by omega, by omega⟩ ?_
    refine vr_iast (q := 29) dX4_hearAs_28 rfl ⟨by omega, by omega⟩ ?_
    refine vr_aload_n (q := 30) dX4_hearAs_29 rfl rfl ?_
    refine vr_aload_n (q := 31) dX4_hearAs_30 rfl rfl ?_
    refine vr_getV (ji := 0) (q := 34) dX4_hearAs_31 rfl fX4_7 rfl rfl (by rw [hs_n (by omega), hs_n (by omega)]) ?_
    refine vr_iconst (q := 35) dX4_hearAs_34 rfl ⟨by decide, by decide⟩ ?_
    refine vr_iaddN (q := 36) dX4_hearAs_35 rfl ⟨by omega, by omega⟩ ?_
    refine vr_bipush (q := 38) dX4_hearAs_36 rfl ⟨by decide, by decide⟩ (by decide) ?_
    -- at X4.hearAs 38: .invokestatic 70
    refine vr_is2 (q := 41) dX4_hearAs_38 rfl vX4_70 (Nat.le_of_ble_eq_true rfl) ?_
    refine c_min ?_
    refine vr_put (ji := 0) (q := 44) dX4_hearAs_41 rfl pX4_7 rfl rfl ?_
    refine vr_goto (q := 70) dX4_hearAs_44 (by decide) ?_
    -- at X4.hearAs 70: .return_
    refine vr_vret dX4_hearAs_70 rfl ?_
    rw [hs_m2, ms_q _ _ _ _ ht, ms_h0]
    unfold he_ at kk
    rw [if_neg c1, e4] at kk
    exact kk
theorem c_hear {k l : Int} {n : Int} (hl : 0 ≤ l ∧ l < 6) (hk : 52 ≤ k) (hlo : lo_ (h 8 l) (h 9 l) (h 10 l)) (hm : mo_ n (mu_ h k)) (hn : n ≤ 100) (kk : Post (some (sv_i (nb_ (h 8 l) (h 9 l) (h 10 l) (mu_ h k)))) (ms_ h k (he_ (h 9 l) (h 10 l) (nb_ (h 8 l) (h 9 l) (h 10 l) (mu_ h k)) (mu_ h k)))) : Ctr_ g (d + 4) mX4_hear [sv_r 4 3 k, sv_r 4 6 7, sv_i l] h Post := by
  refine V_mk (by decide +kernel) (Or.inr (Or.inr (Or.inl ⟨rfl, rfl⟩))) (Nat.le_of_ble_eq_true rfl) (by simp [sv_c]) ?_
  show V_ _ _ _ 0 [_, _, _, _] [] _ _
  refine vr_aload_n (q := 1) dX4_hear_0 rfl rfl ?_
  refine vr_aload_n (q := 2) dX4_hear_1 rfl rfl ?_
  refine vr_iload_n (q := 3) dX4_hear_2 rfl rfl ?_
  -- at X4.hear 3: .invokevirtual 62
  refine vr_iv2 (q := 6) dX4_hear_3 rfl vX4_62 (Nat.le_of_ble_eq_true rfl) ?_
  refine c_wouldNod hl hlo hm hn ?_
  refine vr_istore_n (q := 7) dX4_hear_6 rfl rfl (Nat.le_of_ble_eq_true rfl) rfl rfl ?_
  refine vr_aload_n (q := 8) dX4_hear_7 rfl rfl ?_
  refine vr_aload_n (q := 9) dX4_hear_8 rfl rfl ?_
  refine vr_iload_n (q := 10) dX4_hear_9 rfl rfl ?_
  refine vr_iload_n (q := 11) dX4_hear_10 rfl rfl ?_
  -- at X4.hear 11: .invokevirtual 66
  refine vr_iv3 (q := 14) dX4_hear_11 rfl vX4_66 (Nat.le_of_ble_eq_true rfl) ?_
  refine c_hearAs hl hk hlo hm hn ?_
  refine vr_iload_n (q := 15) dX4_hear_14 rfl rfl ?_
  -- at X4.hear 15: .ireturn
  refine vr_zret dX4_hear_15 rfl ?_ ?_
  · exact nb_01 _ _ _ _
  · exact kk
end PM_
end
section
theorem cn_r {tp : Int → Int} {s : Int} : ∀ {n : Nat}, (∀ l : Int, 0 ≤ l → l < n → 0 ≤ tp l ∧ tp l < 4) → ∀ t : Int, 0 ≤ t → t < 4 → 0 ≤ q4_ (cn_ tp s n) t ∧ q4_ (cn_ tp s n) t ≤ n := by
  intro n
  induction n with
  | zero =>
    intro _ t h0 h1
    rcases (by omega : t = 0 ∨ t = 1 ∨ t = 2 ∨ t = 3) with rfl | rfl | rfl | rfl <;> exact ⟨Int.le_refl 0, Int.le_refl 0⟩
  | succ n ih =>
    intro ht t h0 h1
    have h2 := ih (fun l a b => ht l a (by omega))
    have h3 := ht n (by omega) (by omega)
    have h4 := h2 t h0 h1
    have h5 := h2 (tp n) h3.1 h3.2
    have h6 := bt_01 s n
    show 0 ≤ q4_ (u4_ (cn_ tp s n) (tp n) (q4_ (cn_ tp s n) (tp n) + bt_ s n)) t ∧ q4_ (u4_ (cn_ tp s n) (tp n) (q4_ (cn_ tp s n) (tp n) + bt_ s n)) t ≤ ((n + 1 : Nat) : Int)
    rw [q4_u h3 ⟨h0, h1⟩]
    split <;> omega
theorem mu_q {h : SH_} {k : Int} {m : MU_} {t : Int} (ht : 0 ≤ t ∧ t < 4) : ms_ h k m (k + 1) t = q4_ m.2.2.2 t := by
  have e := mu_ms h k m
  have e2 : a4_ (ms_ h k m (k + 1)) = m.2.2.2 := congrArg (fun z : MU_ => z.2.2.2) e
  rw [← e2, q4_a ht]
/-- the mind of stranger s of the current town -/
def en_ (h : SH_) (s : Int) : MU_ := (h 11 s, h 12 s, pc_ (h 13 s), cn_ (h 10) (h 14 s) (h 7 2).toNat)
section PN_
variable {g : SG_} {d : Nat} {h : SH_} {Post : Option SV_ → SH_ → Prop}
theorem l_enter {k s a b c : Int} (hk : 52 ≤ k) (hs : 0 ≤ s ∧ s < 4) (hl : 0 ≤ h 7 2 ∧ h 7 2 ≤ 6) (ht : ∀ l, 0 ≤ l → l < h 7 2 → 0 ≤ h 10 l ∧ h 10 l < 4) (kk : Post none (ms_ h k (a, b, c, cn_ (h 10) (h 14 s) (h 7 2).toNat))) : ∀ (m : Nat) (i : Nat), (i : Int) + m = h 7 2 → V_ g d mX4_enter 55 [some (sv_r 4 3 k), some (sv_r 4 6 7), some (sv_i s), some (sv_i i)] [] (ms_ h k (a, b, c, cn_ (h 10) (h 14 s) i)) Post := by
  intro m
  induction m with
  | zero =>
    intro i hi
    refine vr_iload_n (q := 56) dX4_enter_55 rfl rfl ?_
    refine vr_aload_n (q := 57) dX4_enter_56 rfl rfl ?_
    refine vr_getV (ji := 2) (q := 60) dX4_enter_57 rfl fX4_39 rfl rfl (congrFun (ms_n (by omega) (by omega)) 2) ?_
    -- at X4.enter 60: .if_icmp .ge 33
    refine vr_ic_ge (t := 93) (q := 63) dX4_enter_60 (by decide) rfl (fun _ => ?_) (fun c9 => absurd c9 (by omega))
    refine vr_vret dX4_enter_93 rfl ?_
    rw [show (h 7 2).toNat = i by omega] at kk
    exact kk
  | succ m ih =>
    intro i hi
    have h1 := ht i (by omega) (by omega)
    have h2 := cn_r (s := h 14 s) (n := i) (fun l p q => ht l p (by omega)) (h 10 i) h1.1 h1.2
    have h3 := bt_01 (h 14 s) i
    refine vr_iload_n (q := 56) dX4_enter_55 rfl rfl ?_
    refine vr_aload_n (q := 57) dX4_enter_56 rfl rfl ?_
    refine vr_getV (ji := 2) (q := 60) dX4_enter_57 rfl fX4_39 rfl rfl (congrFun (ms_n (by omega) (by omega)) 2) ?_
    -- at X4.enter 60: .if_icmp .ge 33
    refine vr_ic_ge (t := 93) (q := 63) dX4_enter_60 (by decide) rfl (fun c9 => absurd c9 (by omega)) (fun _ => ?_)
    refine vr_aload_n (q := 64) dX4_enter_63 rfl rfl ?_
    refine vr_getR (q := 67) dX4_enter_64 rfl fX4_21 rfl y_X4_3 (by first | (simp only [Int.reduceAdd]; rfl) | rfl) ?_
    refine vr_aload_n (q := 68) dX4_enter_67 rfl rfl ?_
    refine vr_getR (q := 71) dX4_enter_68 rfl fX4_42 rfl y_X7_6 (by first | (simp only [Int.reduceAdd]; rfl) | rfl) ?_
    refine vr_iload_n (q := 72) dX4_enter_71 rfl rfl ?_
    refine vr_ialdV (q := 73) dX4_enter_72 rfl ⟨by omega, by omega⟩ (congrFun (ms_n (by omega) (by omega)) _) ?_
    refine vr_dup2 (q := 74) dX4_enter_73 rfl rfl rfl ?_
    refine vr_ialdV (q := 75) dX4_enter_74 rfl ⟨by omega, by omega⟩ (mu_q h1) ?_
    refine vr_aload_n (q := 76) dX4_enter_75 rfl rfl ?_
    refine vr_getR (q := 79) dX4_enter_76 rfl fX4_45 rfl y_X7_10 (by first | (simp only [Int.reduceAdd]; rfl) | rfl) ?_
    refine vr_iload_n (q := 80) dX4_enter_79 rfl rfl ?_
    refine vr_ialdV (q := 81) dX4_enter_80 rfl ⟨by omega, by omega⟩ (congrFun (ms_n (by omega) (by omega)) _) ?_
    refine vr_iload_n (q := 82) dX4_enter_81 rfl rfl ?_
    refine vr_ishr (q := 83) dX4_enter_82 rfl ?_
    refine vr_iconst (q := 84) dX4_enter_83 rfl ⟨by decide, by decide⟩ ?_
    refine vr_iand (q := 85) dX4_enter_84 rfl ?_
    refine vr_iaddN (q := 86) dX4_enter_85 rfl ⟨by show -2147483648 ≤ q4_ (cn_ (h 10) (h 14 s) i) (h 10 i) + bt_ (h 14 s) i; omega, by show q4_ (cn_ (h 10) (h 14 s) i) (h 10 i) + bt_ (h 14 s) i < 2147483648; omega⟩ ?_
    refine vr_iast (q := 87) dX4_enter_86 rfl ⟨by omega, by omega⟩ ?_
    refine vr_iinc (q := 90) dX4_enter_87 rfl rfl ⟨by omega, by omega⟩ (Nat.le_of_ble_eq_true rfl) rfl rfl ?_
    refine vr_goto (q := 55) dX4_enter_90 (by decide) ?_
    -- at X4.enter 55: .iload_n 3
    rw [ms_q _ _ _ _ h1]
    exact ih (i + 1) (by omega)
theorem c_enter {k s : Int} (hk : 52 ≤ k) (hs : 0 ≤ s ∧ s < 4) (hl : 0 ≤ h 7 2 ∧ h 7 2 ≤ 6) (ht : ∀ l, 0 ≤ l → l < h 7 2 → 0 ≤ h 10 l ∧ h 10 l < 4) (hd : 0 ≤ h 13 s ∧ h 13 s < 64) (kk : Post none (ms_ h k (en_ h s))) : Ctr_ g (d + 1) mX4_enter [sv_r 4 3 k, sv_r 4 6 7, sv_i s] h Post := by
  refine V_mk (by decide +kernel) (Or.inl ⟨rfl, rfl⟩) (Nat.le_of_ble_eq_true rfl) (by simp [sv_c]) ?_
  show V_ _ _ _ 0 [_, _, _, _] [] _ _
  refine vr_aload_n (q := 1) dX4_enter_0 rfl rfl ?_
  refine vr_aload_n (q := 2) dX4_enter_1 rfl rfl ?_
  refine vr_getR (q := 5) dX4_enter_2 rfl fX4_25 rfl y_X7_7 (by first | (simp only [Int.reduceAdd]; rfl) | rfl) ?_
  refine vr_iload_n (q := 6) dX4_enter_5 rfl rfl ?_
  refine vr_iald (q := 7) dX4_enter_6 rfl ⟨by omega, by omega⟩ ?_
  refine vr_put (ji := 0) (q := 10) dX4_enter_7 rfl pX4_7 rfl rfl ?_
  -- at X4.enter 10: .aload_n 0
  rw [hs_m0]
  refine vr_aload_n (q := 11) dX4_enter_10 rfl rfl ?_
  refine vr_aload_n (q := 12) dX4_enter_11 rfl rfl ?_
  refine vr_getR (q := 15) dX4_enter_12 rfl fX4_28 rfl y_X7_8 (by first | (simp only [Int.reduceAdd]; rfl) | rfl) ?_
  refine vr_iload_n (q := 16) dX4_enter_15 rfl rfl ?_
  refine vr_ialdV (q := 17) dX4_enter_16 rfl ⟨by omega, by omega⟩ (congrFun (ms_n (by omega) (by omega)) _) ?_
  refine vr_put (ji := 1) (q := 20) dX4_enter_17 rfl pX4_13 rfl rfl ?_
  -- at X4.enter 20: .aload_n 0
  rw [ms_h1]
  refine vr_aload_n (q := 21) dX4_enter_20 rfl rfl ?_
  refine vr_aload_n (q := 22) dX4_enter_21 rfl rfl ?_
  refine vr_getR (q := 25) dX4_enter_22 rfl fX4_30 rfl y_X7_9 (by first | (simp only [Int.reduceAdd]; rfl) | rfl) ?_
  refine vr_iload_n (q := 26) dX4_enter_25 rfl rfl ?_
  refine vr_ialdV (q := 27) dX4_enter_26 rfl ⟨by omega, by omega⟩ (congrFun (ms_n (by omega) (by omega)) _) ?_
  -- at X4.enter 27: .invokestatic 33
  refine vr_is1 (q := 30) dX4_enter_27 rfl vX4_33 (Nat.le_of_ble_eq_true rfl) ?_
  refine c_bitCount hd ?_
  refine vr_put (ji := 2) (q := 33) dX4_enter_30 rfl pX4_16 rfl rfl ?_
  -- at X4.enter 33: .iconst 0
  rw [ms_h2]
  refine vr_iconst (q := 34) dX4_enter_33 rfl ⟨by decide, by decide⟩ ?_
  refine vr_istore_n (q := 35) dX4_enter_34 rfl rfl (Nat.le_of_ble_eq_true rfl) rfl rfl ?_
  refine vr_iload_n (q := 36) dX4_enter_35 rfl rfl ?_
  refine vr_iconst (q := 37) dX4_enter_36 rfl ⟨by decide, by decide⟩ ?_
  -- at X4.enter 37: .if_icmp .ge 16
  refine vr_ic_ge (t := 53) (q := 40) dX4_enter_37 (by decide) rfl (fun c9 => absurd c9 (by omega)) (fun _ => ?_)
  refine vr_aload_n (q := 41) dX4_enter_40 rfl rfl ?_
  refine vr_getR (q := 44) dX4_enter_41 rfl fX4_21 rfl y_X4_3 (by first | (simp only [Int.reduceAdd]; rfl) | rfl) ?_
  refine vr_iload_n (q := 45) dX4_enter_44 rfl rfl ?_
  refine vr_iconst (q := 46) dX4_enter_45 rfl ⟨by decide, by decide⟩ ?_
  refine vr_iast (q := 47) dX4_enter_46 rfl ⟨by omega, by omega⟩ ?_
  refine vr_iinc (q := 50) dX4_enter_47 rfl rfl ⟨by omega, by omega⟩ (Nat.le_of_ble_eq_true rfl) rfl rfl ?_
  refine vr_goto (q := 35) dX4_enter_50 (by decide) ?_
  refine vr_iload_n (q := 36) dX4_enter_35 rfl rfl ?_
  refine vr_iconst (q := 37) dX4_enter_36 rfl ⟨by decide, by decide⟩ ?_
  -- at X4.enter 37: .if_icmp .ge 16
  refine vr_ic_ge (t := 53) (q := 40) dX4_enter_37 (by decide) rfl (fun c9 => absurd c9 (by omega)) (fun _ => ?_)
  refine vr_aload_n (q := 41) dX4_enter_40 rfl rfl ?_
  refine vr_getR (q := 44) dX4_enter_41 rfl fX4_21 rfl y_X4_3 (by first | (simp only [Int.reduceAdd]; rfl) | rfl) ?_
  refine vr_iload_n (q := 45) dX4_enter_44 rfl rfl ?_
  refine vr_iconst (q := 46) dX4_enter_45 rfl ⟨by decide, by decide⟩ ?_
  refine vr_iast (q := 47) dX4_enter_46 rfl ⟨by omega, by omega⟩ ?_
  refine vr_iinc (q := 50) dX4_enter_47 rfl rfl ⟨by omega, by omega⟩ (Nat.le_of_ble_eq_true rfl) rfl rfl ?_
  refine vr_goto (q := 35) dX4_enter_50 (by decide) ?_
  refine vr_iload_n (q := 36) dX4_enter_35 rfl rfl ?_
  refine vr_iconst (q := 37) dX4_enter_36 rfl ⟨by decide, by decide⟩ ?_
  -- at X4.enter 37: .if_icmp .ge 16
  refine vr_ic_ge (t := 53) (q := 40) dX4_enter_37 (by decide) rfl (fun c9 => absurd c9 (by omega)) (fun _ => ?_)
  refine vr_aload_n (q := 41) dX4_enter_40 rfl rfl ?_
  refine vr_getR (q := 44) dX4_enter_41 rfl fX4_21 rfl y_X4_3 (by first | (simp only [Int.reduceAdd]; rfl) | rfl) ?_
  refine vr_iload_n (q := 45) dX4_enter_44 rfl rfl ?_
  refine vr_iconst (q := 46) dX4_enter_45 rfl ⟨by decide, by decide⟩ ?_
  refine vr_iast (q := 47) dX4_enter_46 rfl ⟨by omega, by omega⟩ ?_
  refine vr_iinc (q := 50) dX4_enter_47 rfl rfl ⟨by omega, by omega⟩ (Nat.le_of_ble_eq_true rfl) rfl rfl ?_
  refine vr_goto (q := 35) dX4_enter_50 (by decide) ?_
  refine vr_iload_n (q := 36) dX4_enter_35 rfl rfl ?_
  refine vr_iconst (q := 37) dX4_enter_36 rfl ⟨by decide, by decide⟩ ?_
  -- at X4.enter 37: .if_icmp .ge 16
  refine vr_ic_ge (t := 53) (q := 40) dX4_enter_37 (by decide) rfl (fun c9 => absurd c9 (by omega)) (fun _ => ?_)
  refine vr_aload_n (q := 41) dX4_enter_40 rfl rfl ?_
  refine vr_getR (q := 44) dX4_enter_41 rfl fX4_21 rfl y_X4_3 (by first | (simp only [Int.reduceAdd]; rfl) | rfl) ?_
  refine vr_iload_n (q := 45) dX4_enter_44 rfl rfl ?_
  refine vr_iconst (q := 46) dX4_enter_45 rfl ⟨by decide, by decide⟩ ?_
  refine vr_iast (q := 47) dX4_enter_46 rfl ⟨by omega, by omega⟩ ?_
  refine vr_iinc (q := 50) dX4_enter_47 rfl rfl ⟨by omega, by omega⟩ (Nat.le_of_ble_eq_true rfl) rfl rfl ?_
  refine vr_goto (q := 35) dX4_enter_50 (by decide) ?_
  refine vr_iload_n (q := 36) dX4_enter_35 rfl rfl ?_
  refine vr_iconst (q := 37) dX4_enter_36 rfl ⟨by decide, by decide⟩ ?_
  -- at X4.enter 37: .if_icmp .ge 16
  refine vr_ic_ge (t := 53) (q := 40) dX4_enter_37 (by decide) rfl (fun _ => ?_) (fun c9 => absurd c9 (by omega))
  refine vr_iconst (q := 54) dX4_enter_53 rfl ⟨by decide, by decide⟩ ?_
  refine vr_istore_n (q := 55) dX4_enter_54 rfl rfl (Nat.le_of_ble_eq_true rfl) rfl rfl ?_
  -- at X4.enter 55: .iload_n 3
  rw [ms_q _ _ _ _ (by decide), ms_q _ _ _ _ (by decide), ms_q _ _ _ _ (by decide), ms_q _ _ _ _ (by decide)]
  exact l_enter hk hs hl ht kk (h 7 2).toNat 0 (by omega)
theorem c_become {k l : Int} (hk : 52 ≤ k) (hl : l ≠ k ∧ l ≠ k + 1 ∧ l + 1 ≠ k) (kk : Post none (ms_ h k (mu_ h l))) : Ctr_ g d mX4_become [sv_r 4 3 k, sv_r 4 3 l] h Post := by
  refine V_mk (by decide +kernel) (Or.inl ⟨rfl, rfl⟩) (Nat.le_of_ble_eq_true rfl) (by simp [sv_c]) ?_
  show V_ _ _ _ 0 [_, _, _] [] _ _
  refine vr_aload_n (q := 1) dX4_become_0 rfl rfl ?_
  refine vr_aload_n (q := 2) dX4_become_1 rfl rfl ?_
  refine vr_getI (ji := 0) (q := 5) dX4_become_2 rfl fX4_7 rfl rfl ?_
  refine vr_put (ji := 0) (q := 8) dX4_become_5 rfl pX4_7 rfl rfl ?_
  -- at X4.become 8: .aload_n 0
  rw [hs_m0]
  refine vr_aload_n (q := 9) dX4_become_8 rfl rfl ?_
  refine vr_aload_n (q := 10) dX4_become_9 rfl rfl ?_
  refine vr_getV (ji := 1) (q := 13) dX4_become_10 rfl fX4_13 rfl rfl (congrFun (ms_n (by omega) (by omega)) _) ?_
  refine vr_put (ji := 1) (q := 16) dX4_become_13 rfl pX4_13 rfl rfl ?_
  -- at X4.become 16: .aload_n 0
  rw [ms_h1]
  refine vr_aload_n (q := 17) dX4_become_16 rfl rfl ?_
  refine vr_aload_n (q := 18) dX4_become_17 rfl rfl ?_
  refine vr_getV (ji := 2) (q := 21) dX4_become_18 rfl fX4_16 rfl rfl (congrFun (ms_n (by omega) (by omega)) _) ?_
  refine vr_put (ji := 2) (q := 24) dX4_become_21 rfl pX4_16 rfl rfl ?_
  -- at X4.become 24: .iconst 0
  rw [ms_h2]
  refine vr_iconst (q := 25) dX4_become_24 rfl ⟨by decide, by decide⟩ ?_
  refine vr_istore_n (q := 26) dX4_become_25 rfl rfl (Nat.le_of_ble_eq_true rfl) rfl rfl ?_
  refine vr_iload_n (q := 27) dX4_become_26 rfl rfl ?_
  refine vr_iconst (q := 28) dX4_become_27 rfl ⟨by decide, by decide⟩ ?_
  -- at X4.become 28: .if_icmp .ge 21
  refine vr_ic_ge (t := 49) (q := 31) dX4_become_28 (by decide) rfl (fun c9 => absurd c9 (by omega)) (fun _ => ?_)
  refine vr_aload_n (q := 32) dX4_become_31 rfl rfl ?_
  refine vr_getR (q := 35) dX4_become_32 rfl fX4_21 rfl y_X4_3 (by first | (simp only [Int.reduceAdd]; rfl) | rfl) ?_
  refine vr_iload_n (q := 36) dX4_become_35 rfl rfl ?_
  refine vr_aload_n (q := 37) dX4_become_36 rfl rfl ?_
  refine vr_getR (q := 40) dX4_become_37 rfl fX4_21 rfl y_X4_3 (by first | (simp only [Int.reduceAdd]; rfl) | rfl) ?_
  refine vr_iload_n (q := 41) dX4_become_40 rfl rfl ?_
  refine vr_ialdV (q := 42) dX4_become_41 rfl ⟨by omega, by omega⟩ (congrFun (ms_n (by omega) (by omega)) _) ?_
  refine vr_iast (q := 43) dX4_become_42 rfl ⟨by omega, by omega⟩ ?_
  -- at X4.become 43: .iinc 2 1
  rw [ms_q _ _ _ _ (by decide)]
  refine vr_iinc (q := 46) dX4_become_43 rfl rfl ⟨by omega, by omega⟩ (Nat.le_of_ble_eq_true rfl) rfl rfl ?_
  refine vr_goto (q := 26) dX4_become_46 (by decide) ?_
  refine vr_iload_n (q := 27) dX4_become_26 rfl rfl ?_
  refine vr_iconst (q := 28) dX4_become_27 rfl ⟨by decide, by decide⟩ ?_
  -- at X4.become 28: .if_icmp .ge 21
  refine vr_ic_ge (t := 49) (q := 31) dX4_become_28 (by decide) rfl (fun c9 => absurd c9 (by omega)) (fun _ => ?_)
  refine vr_aload_n (q := 32) dX4_become_31 rfl rfl ?_
  refine vr_getR (q := 35) dX4_become_32 rfl fX4_21 rfl y_X4_3 (by first | (simp only [Int.reduceAdd]; rfl) | rfl) ?_
  refine vr_iload_n (q := 36) dX4_become_35 rfl rfl ?_
  refine vr_aload_n (q := 37) dX4_become_36 rfl rfl ?_
  refine vr_getR (q := 40) dX4_become_37 rfl fX4_21 rfl y_X4_3 (by first | (simp only [Int.reduceAdd]; rfl) | rfl) ?_
  refine vr_iload_n (q := 41) dX4_become_40 rfl rfl ?_
  refine vr_ialdV (q := 42) dX4_become_41 rfl ⟨by omega, by omega⟩ (congrFun (ms_n (by omega) (by omega)) _) ?_
  refine vr_iast (q := 43) dX4_become_42 rfl ⟨by omega, by omega⟩ ?_
  -- at X4.become 43: .iinc 2 1
  rw [ms_q _ _ _ _ (by decide)]
  refine vr_iinc (q := 46) dX4_become_43 rfl rfl ⟨by omega, by omega⟩ (Nat.le_of_ble_eq_true rfl) rfl rfl ?_
  refine vr_goto (q := 26) dX4_become_46 (by decide) ?_
  refine vr_iload_n (q := 27) dX4_become_26 rfl rfl ?_
  refine vr_iconst (q := 28) dX4_become_27 rfl ⟨by decide, by decide⟩ ?_
  -- at X4.become 28: .if_icmp .ge 21
  refine vr_ic_ge (t := 49) (q := 31) dX4_become_28 (by decide) rfl (fun c9 => absurd c9 (by omega)) (fun _ => ?_)
  refine vr_aload_n (q := 32) dX4_become_31 rfl rfl ?_
  refine vr_getR (q := 35) dX4_become_32 rfl fX4_21 rfl y_X4_3 (by first | (simp only [Int.reduceAdd]; rfl) | rfl) ?_
  refine vr_iload_n (q := 36) dX4_become_35 rfl rfl ?_
  refine vr_aload_n (q := 37) dX4_become_36 rfl rfl ?_
  refine vr_getR (q := 40) dX4_become_37 rfl fX4_21 rfl y_X4_3 (by first | (simp only [Int.reduceAdd]; rfl) | rfl) ?_
  refine vr_iload_n (q := 41) dX4_become_40 rfl rfl ?_
  refine vr_ialdV (q := 42) dX4_become_41 rfl ⟨by omega, by omega⟩ (congrFun (ms_n (by omega) (by omega)) _) ?_
  refine vr_iast (q := 43) dX4_become_42 rfl ⟨by omega, by omega⟩ ?_
  -- at X4.become 43: .iinc 2 1
  rw [ms_q _ _ _ _ (by decide)]
  refine vr_iinc (q := 46) dX4_become_43 rfl rfl ⟨by omega, by omega⟩ (Nat.le_of_ble_eq_true rfl) rfl rfl ?_
  refine vr_goto (q := 26) dX4_become_46 (by decide) ?_
  refine vr_iload_n (q := 27) dX4_become_26 rfl rfl ?_
  refine vr_iconst (q := 28) dX4_become_27 rfl ⟨by decide, by decide⟩ ?_
  -- at X4.become 28: .if_icmp .ge 21
  refine vr_ic_ge (t := 49) (q := 31) dX4_become_28 (by decide) rfl (fun c9 => absurd c9 (by omega)) (fun _ => ?_)
  refine vr_aload_n (q := 32) dX4_become_31 rfl rfl ?_
  refine vr_getR (q := 35) dX4_become_32 rfl fX4_21 rfl y_X4_3 (by first | (simp only [Int.reduceAdd]; rfl) | rfl) ?_
  refine vr_iload_n (q := 36) dX4_become_35 rfl rfl ?_
  refine vr_aload_n (q := 37) dX4_become_36 rfl rfl ?_
  refine vr_getR (q := 40) dX4_become_37 rfl fX4_21 rfl y_X4_3 (by first | (simp only [Int.reduceAdd]; rfl) | rfl) ?_
  refine vr_iload_n (q := 41) dX4_become_40 rfl rfl ?_
  refine vr_ialdV (q := 42) dX4_become_41 rfl ⟨by omega, by omega⟩ (congrFun (ms_n (by omega) (by omega)) _) ?_
  refine vr_iast (q := 43) dX4_become_42 rfl ⟨by omega, by omega⟩ ?_
  -- at X4.become 43: .iinc 2 1
  rw [ms_q _ _ _ _ (by decide)]
  refine vr_iinc (q := 46) dX4_become_43 rfl rfl ⟨by omega, by omega⟩ (Nat.le_of_ble_eq_true rfl) rfl rfl ?_
  refine vr_goto (q := 26) dX4_become_46 (by decide) ?_
  refine vr_iload_n (q := 27) dX4_become_26 rfl rfl ?_
  refine vr_iconst (q := 28) dX4_become_27 rfl ⟨by decide, by decide⟩ ?_
  -- at X4.become 28: .if_icmp .ge 21
  refine vr_ic_ge (t := 49) (q := 31) dX4_become_28 (by decide) rfl (fun _ => ?_) (fun c9 => absurd c9 (by omega))
  refine vr_vret dX4_become_49 rfl ?_
  exact kk
end PN_
end
section
theorem dX7_init_0 : decode cX7_init 0 = .ok (.aload_n 0, 1) := by decide +kernel
theorem dX7_init_1 : decode cX7_init 1 = .ok (.invokespecial 1, 3) := by decide +kernel
theorem dX7_init_4 : decode cX7_init 4 = .ok (.aload_n 0, 1) := by decide +kernel
theorem dX7_init_5 : decode cX7_init 5 = .ok (.iconst 0, 1) := by decide +kernel
theorem dX7_init_6 : decode cX7_init 6 = .ok (.putfield 7, 3) := by decide +kernel
theorem dX7_init_9 : decode cX7_init 9 = .ok (.aload_n 0, 1) := by decide +kernel
theorem dX7_init_10 : decode cX7_init 10 = .ok (.iconst 0, 1) := by decide +kernel
theorem dX7_init_11 : decode cX7_init 11 = .ok (.putfield 13, 3) := by decide +kernel
theorem dX7_init_14 : decode cX7_init 14 = .ok (.aload_n 0, 1) := by decide +kernel
theorem dX7_init_15 : decode cX7_init 15 = .ok (.iconst 0, 1) := by decide +kernel
theorem dX7_init_16 : decode cX7_init 16 = .ok (.putfield 16, 3) := by decide +kernel
theorem dX7_init_19 : decode cX7_init 19 = .ok (.aload_n 0, 1) := by decide +kernel
theorem dX7_init_20 : decode cX7_init 20 = .ok (.iconst 0, 1) := by decide +kernel
theorem dX7_init_21 : decode cX7_init 21 = .ok (.putfield 19, 3) := by decide +kernel
theorem dX7_init_24 : decode cX7_init 24 = .ok (.aload_n 0, 1) := by decide +kernel
theorem dX7_init_25 : decode cX7_init 25 = .ok (.bipush 6, 2) := by decide +kernel
theorem dX7_init_27 : decode cX7_init 27 = .ok (.newarray .int, 2) := by decide +kernel
theorem dX7_init_29 : decode cX7_init 29 = .ok (.putfield 22, 3) := by decide +kernel
theorem dX7_init_32 : decode cX7_init 32 = .ok (.aload_n 0, 1) := by decide +kernel
theorem dX7_init_33 : decode cX7_init 33 = .ok (.bipush 6, 2) := by decide +kernel
theorem dX7_init_35 : decode cX7_init 35 = .ok (.newarray .int, 2) := by decide +kernel
theorem dX7_init_37 : decode cX7_init 37 = .ok (.putfield 26, 3) := by decide +kernel
theorem dX7_init_40 : decode cX7_init 40 = .ok (.aload_n 0, 1) := by decide +kernel
theorem dX7_init_41 : decode cX7_init 41 = .ok (.bipush 6, 2) := by decide +kernel
theorem dX7_init_43 : decode cX7_init 43 = .ok (.newarray .int, 2) := by decide +kernel
theorem dX7_init_45 : decode cX7_init 45 = .ok (.putfield 29, 3) := by decide +kernel
theorem dX7_init_48 : decode cX7_init 48 = .ok (.aload_n 0, 1) := by decide +kernel
theorem dX7_init_49 : decode cX7_init 49 = .ok (.iconst 4, 1) := by decide +kernel
theorem dX7_init_50 : decode cX7_init 50 = .ok (.newarray .int, 2) := by decide +kernel
theorem dX7_init_52 : decode cX7_init 52 = .ok (.putfield 32, 3) := by decide +kernel
theorem dX7_init_55 : decode cX7_init 55 = .ok (.aload_n 0, 1) := by decide +kernel
theorem dX7_init_56 : decode cX7_init 56 = .ok (.iconst 4, 1) := by decide +kernel
theorem dX7_init_57 : decode cX7_init 57 = .ok (.newarray .int, 2) := by decide +kernel
theorem dX7_init_59 : decode cX7_init 59 = .ok (.putfield 35, 3) := by decide +kernel
theorem dX7_init_62 : decode cX7_init 62 = .ok (.aload_n 0, 1) := by decide +kernel
theorem dX7_init_63 : decode cX7_init 63 = .ok (.iconst 4, 1) := by decide +kernel
theorem dX7_init_64 : decode cX7_init 64 = .ok (.newarray .int, 2) := by decide +kernel
theorem dX7_init_66 : decode cX7_init 66 = .ok (.putfield 38, 3) := by decide +kernel
theorem dX7_init_69 : decode cX7_init 69 = .ok (.aload_n 0, 1) := by decide +kernel
theorem dX7_init_70 : decode cX7_init 70 = .ok (.iconst 4, 1) := by decide +kernel
theorem dX7_init_71 : decode cX7_init 71 = .ok (.newarray .int, 2) := by decide +kernel
theorem dX7_init_73 : decode cX7_init 73 = .ok (.putfield 41, 3) := by decide +kernel
theorem dX7_init_76 : decode cX7_init 76 = .ok (.return_, 1) := by decide +kernel
theorem dX7_stands_0 : decode cX7_stands 0 = .ok (.aload_n 0, 1) := by decide +kernel
theorem dX7_stands_1 : decode cX7_stands 1 = .ok (.getfield 7, 3) := by decide +kernel
theorem dX7_stands_4 : decode cX7_stands 4 = .ok (.ifCond .le 7, 3) := by decide +kernel
theorem dX7_stands_7 : decode cX7_stands 7 = .ok (.iconst 1, 1) := by decide +kernel
theorem dX7_stands_8 : decode cX7_stands 8 = .ok (.goto 4, 3) := by decide +kernel
theorem dX7_stands_11 : decode cX7_stands 11 = .ok (.iconst 0, 1) := by decide +kernel
theorem dX7_stands_12 : decode cX7_stands 12 = .ok (.ireturn, 1) := by decide +kernel
theorem dX7_hasLie_0 : decode cX7_hasLie 0 = .ok (.iload_n 1, 1) := by decide +kernel
theorem dX7_hasLie_1 : decode cX7_hasLie 1 = .ok (.ifCond .lt 15, 3) := by decide +kernel
theorem dX7_hasLie_4 : decode cX7_hasLie 4 = .ok (.iload_n 1, 1) := by decide +kernel
theorem dX7_hasLie_5 : decode cX7_hasLie 5 = .ok (.aload_n 0, 1) := by decide +kernel
theorem dX7_hasLie_6 : decode cX7_hasLie 6 = .ok (.getfield 16, 3) := by decide +kernel
theorem dX7_hasLie_9 : decode cX7_hasLie 9 = .ok (.if_icmp .ge 7, 3) := by decide +kernel
theorem dX7_hasLie_12 : decode cX7_hasLie 12 = .ok (.iconst 1, 1) := by decide +kernel
theorem dX7_hasLie_13 : decode cX7_hasLie 13 = .ok (.goto 4, 3) := by decide +kernel
theorem dX7_hasLie_16 : decode cX7_hasLie 16 = .ok (.iconst 0, 1) := by decide +kernel
theorem dX7_hasLie_17 : decode cX7_hasLie 17 = .ok (.ireturn, 1) := by decide +kernel
theorem dX7_hasStranger_0 : decode cX7_hasStranger 0 = .ok (.iload_n 1, 1) := by decide +kernel
theorem dX7_hasStranger_1 : decode cX7_hasStranger 1 = .ok (.ifCond .lt 15, 3) := by decide +kernel
theorem dX7_hasStranger_4 : decode cX7_hasStranger 4 = .ok (.iload_n 1, 1) := by decide +kernel
theorem dX7_hasStranger_5 : decode cX7_hasStranger 5 = .ok (.aload_n 0, 1) := by decide +kernel
theorem dX7_hasStranger_6 : decode cX7_hasStranger 6 = .ok (.getfield 19, 3) := by decide +kernel
theorem dX7_hasStranger_9 : decode cX7_hasStranger 9 = .ok (.if_icmp .ge 7, 3) := by decide +kernel
theorem dX7_hasStranger_12 : decode cX7_hasStranger 12 = .ok (.iconst 1, 1) := by decide +kernel
theorem dX7_hasStranger_13 : decode cX7_hasStranger 13 = .ok (.goto 4, 3) := by decide +kernel
theorem dX7_hasStranger_16 : decode cX7_hasStranger 16 = .ok (.iconst 0, 1) := by decide +kernel
theorem dX7_hasStranger_17 : decode cX7_hasStranger 17 = .ok (.ireturn, 1) := by decide +kernel
theorem dX7_isSetOfLies_0 : decode cX7_isSetOfLies 0 = .ok (.iload_n 1, 1) := by decide +kernel
theorem dX7_isSetOfLies_1 : decode cX7_isSetOfLies 1 = .ok (.ifCond .lt 17, 3) := by decide +kernel
theorem dX7_isSetOfLies_4 : decode cX7_isSetOfLies 4 = .ok (.iload_n 1, 1) := by decide +kernel
theorem dX7_isSetOfLies_5 : decode cX7_isSetOfLies 5 = .ok (.iconst 1, 1) := by decide +kernel
theorem dX7_isSetOfLies_6 : decode cX7_isSetOfLies 6 = .ok (.aload_n 0, 1) := by decide +kernel
theorem dX7_isSetOfLies_7 : decode cX7_isSetOfLies 7 = .ok (.getfield 16, 3) := by decide +kernel
theorem dX7_isSetOfLies_10 : decode cX7_isSetOfLies 10 = .ok (.ishl, 1) := by decide +kernel
theorem dX7_isSetOfLies_11 : decode cX7_isSetOfLies 11 = .ok (.if_icmp .ge 7, 3) := by decide +kernel
theorem dX7_isSetOfLies_14 : decode cX7_isSetOfLies 14 = .ok (.iconst 1, 1) := by decide +kernel
theorem dX7_isSetOfLies_15 : decode cX7_isSetOfLies 15 = .ok (.goto 4, 3) := by decide +kernel
theorem dX7_isSetOfLies_18 : decode cX7_isSetOfLies 18 = .ok (.iconst 0, 1) := by decide +kernel
theorem dX7_isSetOfLies_19 : decode cX7_isSetOfLies 19 = .ok (.ireturn, 1) := by decide +kernel
theorem dX7_wasTold_0 : decode cX7_wasTold 0 = .ok (.aload_n 0, 1) := by decide +kernel
theorem dX7_wasTold_1 : decode cX7_wasTold 1 = .ok (.getfield 38, 3) := by decide +kernel
theorem dX7_wasTold_4 : decode cX7_wasTold 4 = .ok (.iload_n 1, 1) := by decide +kernel
theorem dX7_wasTold_5 : decode cX7_wasTold 5 = .ok (.iaload, 1) := by decide +kernel
theorem dX7_wasTold_6 : decode cX7_wasTold 6 = .ok (.iload_n 2, 1) := by decide +kernel
theorem dX7_wasTold_7 : decode cX7_wasTold 7 = .ok (.ishr, 1) := by decide +kernel
theorem dX7_wasTold_8 : decode cX7_wasTold 8 = .ok (.iconst 1, 1) := by decide +kernel
theorem dX7_wasTold_9 : decode cX7_wasTold 9 = .ok (.iand, 1) := by decide +kernel
theorem dX7_wasTold_10 : decode cX7_wasTold 10 = .ok (.ifCond .eq 7, 3) := by decide +kernel
theorem dX7_wasTold_13 : decode cX7_wasTold 13 = .ok (.iconst 1, 1) := by decide +kernel
theorem dX7_wasTold_14 : decode cX7_wasTold 14 = .ok (.goto 4, 3) := by decide +kernel
theorem dX7_wasTold_17 : decode cX7_wasTold 17 = .ok (.iconst 0, 1) := by decide +kernel
theorem dX7_wasTold_18 : decode cX7_wasTold 18 = .ok (.ireturn, 1) := by decide +kernel
theorem dX7_untold_0 : decode cX7_untold 0 = .ok (.iconst 1, 1) := by decide +kernel
theorem dX7_untold_1 : decode cX7_untold 1 = .ok (.aload_n 0, 1) := by decide +kernel
theorem dX7_untold_2 : decode cX7_untold 2 = .ok (.getfield 16, 3) := by decide +kernel
theorem dX7_untold_5 : decode cX7_untold 5 = .ok (.ishl, 1) := by decide +kernel
theorem dX7_untold_6 : decode cX7_untold 6 = .ok (.iconst 1, 1) := by decide +kernel
theorem dX7_untold_7 : decode cX7_untold 7 = .ok (.isub, 1) := by decide +kernel
theorem dX7_untold_8 : decode cX7_untold 8 = .ok (.aload_n 0, 1) := by decide +kernel
theorem dX7_untold_9 : decode cX7_untold 9 = .ok (.getfield 38, 3) := by decide +kernel
theorem dX7_untold_12 : decode cX7_untold 12 = .ok (.iload_n 1, 1) := by decide +kernel
theorem dX7_untold_13 : decode cX7_untold 13 = .ok (.iaload, 1) := by decide +kernel
theorem dX7_untold_14 : decode cX7_untold 14 = .ok (.iconst (-1), 1) := by decide +kernel
theorem dX7_untold_15 : decode cX7_untold 15 = .ok (.ixor, 1) := by decide +kernel
theorem dX7_untold_16 : decode cX7_untold 16 = .ok (.iand, 1) := by decide +kernel
theorem dX7_untold_17 : decode cX7_untold 17 = .ok (.ireturn, 1) := by decide +kernel
theorem dX7_strangersWith_0 : decode cX7_strangersWith 0 = .ok (.iconst 0, 1) := by decide +kernel
theorem dX7_strangersWith_1 : decode cX7_strangersWith 1 = .ok (.istore_n 3, 1) := by decide +kernel
theorem dX7_strangersWith_2 : decode cX7_strangersWith 2 = .ok (.iconst 0, 1) := by decide +kernel
theorem dX7_strangersWith_3 : decode cX7_strangersWith 3 = .ok (.istore 4, 2) := by decide +kernel
theorem dX7_strangersWith_5 : decode cX7_strangersWith 5 = .ok (.iload 4, 2) := by decide +kernel
theorem dX7_strangersWith_7 : decode cX7_strangersWith 7 = .ok (.aload_n 0, 1) := by decide +kernel
theorem dX7_strangersWith_8 : decode cX7_strangersWith 8 = .ok (.getfield 19, 3) := by decide +kernel
theorem dX7_strangersWith_11 : decode cX7_strangersWith 11 = .ok (.if_icmp .ge 27, 3) := by decide +kernel
theorem dX7_strangersWith_14 : decode cX7_strangersWith 14 = .ok (.iload 4, 2) := by decide +kernel
theorem dX7_strangersWith_16 : decode cX7_strangersWith 16 = .ok (.aload_n 1, 1) := by decide +kernel
theorem dX7_strangersWith_17 : decode cX7_strangersWith 17 = .ok (.arraylength, 1) := by decide +kernel
theorem dX7_strangersWith_18 : decode cX7_strangersWith 18 = .ok (.if_icmp .ge 20, 3) := by decide +kernel
theorem dX7_strangersWith_21 : decode cX7_strangersWith 21 = .ok (.iload_n 3, 1) := by decide +kernel
theorem dX7_strangersWith_22 : decode cX7_strangersWith 22 = .ok (.aload_n 1, 1) := by decide +kernel
theorem dX7_strangersWith_23 : decode cX7_strangersWith 23 = .ok (.iload 4, 2) := by decide +kernel
theorem dX7_strangersWith_25 : decode cX7_strangersWith 25 = .ok (.iaload, 1) := by decide +kernel
theorem dX7_strangersWith_26 : decode cX7_strangersWith 26 = .ok (.iload_n 2, 1) := by decide +kernel
theorem dX7_strangersWith_27 : decode cX7_strangersWith 27 = .ok (.ishr, 1) := by decide +kernel
theorem dX7_strangersWith_28 : decode cX7_strangersWith 28 = .ok (.iconst 1, 1) := by decide +kernel
theorem dX7_strangersWith_29 : decode cX7_strangersWith 29 = .ok (.iand, 1) := by decide +kernel
theorem dX7_strangersWith_30 : decode cX7_strangersWith 30 = .ok (.iadd, 1) := by decide +kernel
theorem dX7_strangersWith_31 : decode cX7_strangersWith 31 = .ok (.istore_n 3, 1) := by decide +kernel
theorem dX7_strangersWith_32 : decode cX7_strangersWith 32 = .ok (.iinc 4 1, 3) := by decide +kernel
theorem dX7_strangersWith_35 : decode cX7_strangersWith 35 = .ok (.goto (-30), 3) := by decide +kernel
theorem dX7_strangersWith_38 : decode cX7_strangersWith 38 = .ok (.iload_n 3, 1) := by decide +kernel
theorem dX7_strangersWith_39 : decode cX7_strangersWith 39 = .ok (.ireturn, 1) := by decide +kernel
theorem dX7_begin_0 : decode cX7_begin 0 = .ok (.aload_n 0, 1) := by decide +kernel
theorem dX7_begin_1 : decode cX7_begin 1 = .ok (.iload_n 1, 1) := by decide +kernel
theorem dX7_begin_2 : decode cX7_begin 2 = .ok (.putfield 7, 3) := by decide +kernel
theorem dX7_begin_5 : decode cX7_begin 5 = .ok (.aload_n 0, 1) := by decide +kernel
theorem dX7_begin_6 : decode cX7_begin 6 = .ok (.iconst 0, 1) := by decide +kernel
theorem dX7_begin_7 : decode cX7_begin 7 = .ok (.putfield 13, 3) := by decide +kernel
theorem dX7_begin_10 : decode cX7_begin 10 = .ok (.aload_n 0, 1) := by decide +kernel
theorem dX7_begin_11 : decode cX7_begin 11 = .ok (.iconst 0, 1) := by decide +kernel
theorem dX7_begin_12 : decode cX7_begin 12 = .ok (.putfield 16, 3) := by decide +kernel
theorem dX7_begin_15 : decode cX7_begin 15 = .ok (.aload_n 0, 1) := by decide +kernel
theorem dX7_begin_16 : decode cX7_begin 16 = .ok (.iconst 0, 1) := by decide +kernel
theorem dX7_begin_17 : decode cX7_begin 17 = .ok (.putfield 19, 3) := by decide +kernel
theorem dX7_begin_20 : decode cX7_begin 20 = .ok (.return_, 1) := by decide +kernel
theorem dX7_addLie_0 : decode cX7_addLie 0 = .ok (.aload_n 0, 1) := by decide +kernel
theorem dX7_addLie_1 : decode cX7_addLie 1 = .ok (.getfield 16, 3) := by decide +kernel
theorem dX7_addLie_4 : decode cX7_addLie 4 = .ok (.bipush 6, 2) := by decide +kernel
theorem dX7_addLie_6 : decode cX7_addLie 6 = .ok (.if_icmp .ge 43, 3) := by decide +kernel
theorem dX7_addLie_9 : decode cX7_addLie 9 = .ok (.aload_n 0, 1) := by decide +kernel
theorem dX7_addLie_10 : decode cX7_addLie 10 = .ok (.getfield 22, 3) := by decide +kernel
theorem dX7_addLie_13 : decode cX7_addLie 13 = .ok (.aload_n 0, 1) := by decide +kernel
theorem dX7_addLie_14 : decode cX7_addLie 14 = .ok (.getfield 16, 3) := by decide +kernel
theorem dX7_addLie_17 : decode cX7_addLie 17 = .ok (.iload_n 1, 1) := by decide +kernel
theorem dX7_addLie_18 : decode cX7_addLie 18 = .ok (.iastore, 1) := by decide +kernel
theorem dX7_addLie_19 : decode cX7_addLie 19 = .ok (.aload_n 0, 1) := by decide +kernel
theorem dX7_addLie_20 : decode cX7_addLie 20 = .ok (.getfield 26, 3) := by decide +kernel
theorem dX7_addLie_23 : decode cX7_addLie 23 = .ok (.aload_n 0, 1) := by decide +kernel
theorem dX7_addLie_24 : decode cX7_addLie 24 = .ok (.getfield 16, 3) := by decide +kernel
theorem dX7_addLie_27 : decode cX7_addLie 27 = .ok (.iload_n 2, 1) := by decide +kernel
theorem dX7_addLie_28 : decode cX7_addLie 28 = .ok (.iastore, 1) := by decide +kernel
theorem dX7_addLie_29 : decode cX7_addLie 29 = .ok (.aload_n 0, 1) := by decide +kernel
theorem dX7_addLie_30 : decode cX7_addLie 30 = .ok (.getfield 29, 3) := by decide +kernel
theorem dX7_addLie_33 : decode cX7_addLie 33 = .ok (.aload_n 0, 1) := by decide +kernel
theorem dX7_addLie_34 : decode cX7_addLie 34 = .ok (.getfield 16, 3) := by decide +kernel
theorem dX7_addLie_37 : decode cX7_addLie 37 = .ok (.iload_n 3, 1) := by decide +kernel
theorem dX7_addLie_38 : decode cX7_addLie 38 = .ok (.iastore, 1) := by decide +kernel
theorem dX7_addLie_39 : decode cX7_addLie 39 = .ok (.aload_n 0, 1) := by decide +kernel
theorem dX7_addLie_40 : decode cX7_addLie 40 = .ok (.dup, 1) := by decide +kernel
theorem dX7_addLie_41 : decode cX7_addLie 41 = .ok (.getfield 16, 3) := by decide +kernel
theorem dX7_addLie_44 : decode cX7_addLie 44 = .ok (.iconst 1, 1) := by decide +kernel
theorem dX7_addLie_45 : decode cX7_addLie 45 = .ok (.iadd, 1) := by decide +kernel
theorem dX7_addLie_46 : decode cX7_addLie 46 = .ok (.putfield 16, 3) := by decide +kernel
theorem dX7_addLie_49 : decode cX7_addLie 49 = .ok (.return_, 1) := by decide +kernel
theorem dX7_addStranger_0 : decode cX7_addStranger 0 = .ok (.aload_n 0, 1) := by decide +kernel
theorem dX7_addStranger_1 : decode cX7_addStranger 1 = .ok (.getfield 19, 3) := by decide +kernel
theorem dX7_addStranger_4 : decode cX7_addStranger 4 = .ok (.iconst 4, 1) := by decide +kernel
theorem dX7_addStranger_5 : decode cX7_addStranger 5 = .ok (.if_icmp .ge 53, 3) := by decide +kernel
theorem dX7_addStranger_8 : decode cX7_addStranger 8 = .ok (.aload_n 0, 1) := by decide +kernel
theorem dX7_addStranger_9 : decode cX7_addStranger 9 = .ok (.getfield 32, 3) := by decide +kernel
theorem dX7_addStranger_12 : decode cX7_addStranger 12 = .ok (.aload_n 0, 1) := by decide +kernel
theorem dX7_addStranger_13 : decode cX7_addStranger 13 = .ok (.getfield 19, 3) := by decide +kernel
theorem dX7_addStranger_16 : decode cX7_addStranger 16 = .ok (.iload_n 1, 1) := by decide +kernel
theorem dX7_addStranger_17 : decode cX7_addStranger 17 = .ok (.iastore, 1) := by decide +kernel
theorem dX7_addStranger_18 : decode cX7_addStranger 18 = .ok (.aload_n 0, 1) := by decide +kernel
theorem dX7_addStranger_19 : decode cX7_addStranger 19 = .ok (.getfield 35, 3) := by decide +kernel
theorem dX7_addStranger_22 : decode cX7_addStranger 22 = .ok (.aload_n 0, 1) := by decide +kernel
theorem dX7_addStranger_23 : decode cX7_addStranger 23 = .ok (.getfield 19, 3) := by decide +kernel
theorem dX7_addStranger_26 : decode cX7_addStranger 26 = .ok (.iload_n 2, 1) := by decide +kernel
theorem dX7_addStranger_27 : decode cX7_addStranger 27 = .ok (.iastore, 1) := by decide +kernel
theorem dX7_addStranger_28 : decode cX7_addStranger 28 = .ok (.aload_n 0, 1) := by decide +kernel
theorem dX7_addStranger_29 : decode cX7_addStranger 29 = .ok (.getfield 38, 3) := by decide +kernel
theorem dX7_addStranger_32 : decode cX7_addStranger 32 = .ok (.aload_n 0, 1) := by decide +kernel
theorem dX7_addStranger_33 : decode cX7_addStranger 33 = .ok (.getfield 19, 3) := by decide +kernel
theorem dX7_addStranger_36 : decode cX7_addStranger 36 = .ok (.iconst 0, 1) := by decide +kernel
theorem dX7_addStranger_37 : decode cX7_addStranger 37 = .ok (.iastore, 1) := by decide +kernel
theorem dX7_addStranger_38 : decode cX7_addStranger 38 = .ok (.aload_n 0, 1) := by decide +kernel
theorem dX7_addStranger_39 : decode cX7_addStranger 39 = .ok (.getfield 41, 3) := by decide +kernel
theorem dX7_addStranger_42 : decode cX7_addStranger 42 = .ok (.aload_n 0, 1) := by decide +kernel
theorem dX7_addStranger_43 : decode cX7_addStranger 43 = .ok (.getfield 19, 3) := by decide +kernel
theorem dX7_addStranger_46 : decode cX7_addStranger 46 = .ok (.iconst 0, 1) := by decide +kernel
theorem dX7_addStranger_47 : decode cX7_addStranger 47 = .ok (.iastore, 1) := by decide +kernel
theorem dX7_addStranger_48 : decode cX7_addStranger 48 = .ok (.aload_n 0, 1) := by decide +kernel
theorem dX7_addStranger_49 : decode cX7_addStranger 49 = .ok (.dup, 1) := by decide +kernel
theorem dX7_addStranger_50 : decode cX7_addStranger 50 = .ok (.getfield 19, 3) := by decide +kernel
theorem dX7_addStranger_53 : decode cX7_addStranger 53 = .ok (.iconst 1, 1) := by decide +kernel
theorem dX7_addStranger_54 : decode cX7_addStranger 54 = .ok (.iadd, 1) := by decide +kernel
theorem dX7_addStranger_55 : decode cX7_addStranger 55 = .ok (.putfield 19, 3) := by decide +kernel
theorem dX7_addStranger_58 : decode cX7_addStranger 58 = .ok (.return_, 1) := by decide +kernel
theorem dX7_become_0 : decode cX7_become 0 = .ok (.aload_n 0, 1) := by decide +kernel
theorem dX7_become_1 : decode cX7_become 1 = .ok (.aload_n 1, 1) := by decide +kernel
theorem dX7_become_2 : decode cX7_become 2 = .ok (.getfield 7, 3) := by decide +kernel
theorem dX7_become_5 : decode cX7_become 5 = .ok (.putfield 7, 3) := by decide +kernel
theorem dX7_become_8 : decode cX7_become 8 = .ok (.aload_n 0, 1) := by decide +kernel
theorem dX7_become_9 : decode cX7_become 9 = .ok (.aload_n 1, 1) := by decide +kernel
theorem dX7_become_10 : decode cX7_become 10 = .ok (.getfield 13, 3) := by decide +kernel
theorem dX7_become_13 : decode cX7_become 13 = .ok (.putfield 13, 3) := by decide +kernel
theorem dX7_become_16 : decode cX7_become 16 = .ok (.aload_n 0, 1) := by decide +kernel
theorem dX7_become_17 : decode cX7_become 17 = .ok (.aload_n 1, 1) := by decide +kernel
theorem dX7_become_18 : decode cX7_become 18 = .ok (.getfield 16, 3) := by decide +kernel
theorem dX7_become_21 : decode cX7_become 21 = .ok (.putfield 16, 3) := by decide +kernel
theorem dX7_become_24 : decode cX7_become 24 = .ok (.aload_n 0, 1) := by decide +kernel
theorem dX7_become_25 : decode cX7_become 25 = .ok (.aload_n 1, 1) := by decide +kernel
theorem dX7_become_26 : decode cX7_become 26 = .ok (.getfield 19, 3) := by decide +kernel
theorem dX7_become_29 : decode cX7_become 29 = .ok (.putfield 19, 3) := by decide +kernel
theorem dX7_become_32 : decode cX7_become 32 = .ok (.iconst 0, 1) := by decide +kernel
theorem dX7_become_33 : decode cX7_become 33 = .ok (.istore_n 2, 1) := by decide +kernel
theorem dX7_become_34 : decode cX7_become 34 = .ok (.iload_n 2, 1) := by decide +kernel
theorem dX7_become_35 : decode cX7_become 35 = .ok (.bipush 6, 2) := by decide +kernel
theorem dX7_become_37 : decode cX7_become 37 = .ok (.if_icmp .ge 45, 3) := by decide +kernel
theorem dX7_become_40 : decode cX7_become 40 = .ok (.aload_n 0, 1) := by decide +kernel
theorem dX7_become_41 : decode cX7_become 41 = .ok (.getfield 22, 3) := by decide +kernel
theorem dX7_become_44 : decode cX7_become 44 = .ok (.iload_n 2, 1) := by decide +kernel
theorem dX7_become_45 : decode cX7_become 45 = .ok (.aload_n 1, 1) := by decide +kernel
theorem dX7_become_46 : decode cX7_become 46 = .ok (.getfield 22, 3) := by decide +kernel
theorem dX7_become_49 : decode cX7_become 49 = .ok (.iload_n 2, 1) := by decide +kernel
theorem dX7_become_50 : decode cX7_become 50 = .ok (.iaload, 1) := by decide +kernel
theorem dX7_become_51 : decode cX7_become 51 = .ok (.iastore, 1) := by decide +kernel
theorem dX7_become_52 : decode cX7_become 52 = .ok (.aload_n 0, 1) := by decide +kernel
theorem dX7_become_53 : decode cX7_become 53 = .ok (.getfield 26, 3) := by decide +kernel
theorem dX7_become_56 : decode cX7_become 56 = .ok (.iload_n 2, 1) := by decide +kernel
theorem dX7_become_57 : decode cX7_become 57 = .ok (.aload_n 1, 1) := by decide +kernel
theorem dX7_become_58 : decode cX7_become 58 = .ok (.getfield 26, 3) := by decide +kernel
theorem dX7_become_61 : decode cX7_become 61 = .ok (.iload_n 2, 1) := by decide +kernel
theorem dX7_become_62 : decode cX7_become 62 = .ok (.iaload, 1) := by decide +kernel
theorem dX7_become_63 : decode cX7_become 63 = .ok (.iastore, 1) := by decide +kernel
theorem dX7_become_64 : decode cX7_become 64 = .ok (.aload_n 0, 1) := by decide +kernel
theorem dX7_become_65 : decode cX7_become 65 = .ok (.getfield 29, 3) := by decide +kernel
theorem dX7_become_68 : decode cX7_become 68 = .ok (.iload_n 2, 1) := by decide +kernel
theorem dX7_become_69 : decode cX7_become 69 = .ok (.aload_n 1, 1) := by decide +kernel
theorem dX7_become_70 : decode cX7_become 70 = .ok (.getfield 29, 3) := by decide +kernel
theorem dX7_become_73 : decode cX7_become 73 = .ok (.iload_n 2, 1) := by decide +kernel
theorem dX7_become_74 : decode cX7_become 74 = .ok (.iaload, 1) := by decide +kernel
theorem dX7_become_75 : decode cX7_become 75 = .ok (.iastore, 1) := by decide +kernel
theorem dX7_become_76 : decode cX7_become 76 = .ok (.iinc 2 1, 3) := by decide +kernel
theorem dX7_become_79 : decode cX7_become 79 = .ok (.goto (-45), 3) := by decide +kernel
theorem dX7_become_82 : decode cX7_become 82 = .ok (.iconst 0, 1) := by decide +kernel
theorem dX7_become_83 : decode cX7_become 83 = .ok (.istore_n 2, 1) := by decide +kernel
theorem dX7_become_84 : decode cX7_become 84 = .ok (.iload_n 2, 1) := by decide +kernel
theorem dX7_become_85 : decode cX7_become 85 = .ok (.iconst 4, 1) := by decide +kernel
theorem dX7_become_86 : decode cX7_become 86 = .ok (.if_icmp .ge 57, 3) := by decide +kernel
theorem dX7_become_89 : decode cX7_become 89 = .ok (.aload_n 0, 1) := by decide +kernel
theorem dX7_become_90 : decode cX7_become 90 = .ok (.getfield 32, 3) := by decide +kernel
theorem dX7_become_93 : decode cX7_become 93 = .ok (.iload_n 2, 1) := by decide +kernel
theorem dX7_become_94 : decode cX7_become 94 = .ok (.aload_n 1, 1) := by decide +kernel
theorem dX7_become_95 : decode cX7_become 95 = .ok (.getfield 32, 3) := by decide +kernel
theorem dX7_become_98 : decode cX7_become 98 = .ok (.iload_n 2, 1) := by decide +kernel
theorem dX7_become_99 : decode cX7_become 99 = .ok (.iaload, 1) := by decide +kernel
theorem dX7_become_100 : decode cX7_become 100 = .ok (.iastore, 1) := by decide +kernel
theorem dX7_become_101 : decode cX7_become 101 = .ok (.aload_n 0, 1) := by decide +kernel
theorem dX7_become_102 : decode cX7_become 102 = .ok (.getfield 35, 3) := by decide +kernel
theorem dX7_become_105 : decode cX7_become 105 = .ok (.iload_n 2, 1) := by decide +kernel
theorem dX7_become_106 : decode cX7_become 106 = .ok (.aload_n 1, 1) := by decide +kernel
theorem dX7_become_107 : decode cX7_become 107 = .ok (.getfield 35, 3) := by decide +kernel
theorem dX7_become_110 : decode cX7_become 110 = .ok (.iload_n 2, 1) := by decide +kernel
theorem dX7_become_111 : decode cX7_become 111 = .ok (.iaload, 1) := by decide +kernel
theorem dX7_become_112 : decode cX7_become 112 = .ok (.iastore, 1) := by decide +kernel
theorem dX7_become_113 : decode cX7_become 113 = .ok (.aload_n 0, 1) := by decide +kernel
theorem dX7_become_114 : decode cX7_become 114 = .ok (.getfield 38, 3) := by decide +kernel
theorem dX7_become_117 : decode cX7_become 117 = .ok (.iload_n 2, 1) := by decide +kernel
theorem dX7_become_118 : decode cX7_become 118 = .ok (.aload_n 1, 1) := by decide +kernel
theorem dX7_become_119 : decode cX7_become 119 = .ok (.getfield 38, 3) := by decide +kernel
theorem dX7_become_122 : decode cX7_become 122 = .ok (.iload_n 2, 1) := by decide +kernel
theorem dX7_become_123 : decode cX7_become 123 = .ok (.iaload, 1) := by decide +kernel
theorem dX7_become_124 : decode cX7_become 124 = .ok (.iastore, 1) := by decide +kernel
theorem dX7_become_125 : decode cX7_become 125 = .ok (.aload_n 0, 1) := by decide +kernel
theorem dX7_become_126 : decode cX7_become 126 = .ok (.getfield 41, 3) := by decide +kernel
theorem dX7_become_129 : decode cX7_become 129 = .ok (.iload_n 2, 1) := by decide +kernel
theorem dX7_become_130 : decode cX7_become 130 = .ok (.aload_n 1, 1) := by decide +kernel
theorem dX7_become_131 : decode cX7_become 131 = .ok (.getfield 41, 3) := by decide +kernel
theorem dX7_become_134 : decode cX7_become 134 = .ok (.iload_n 2, 1) := by decide +kernel
theorem dX7_become_135 : decode cX7_become 135 = .ok (.iaload, 1) := by decide +kernel
theorem dX7_become_136 : decode cX7_become 136 = .ok (.iastore, 1) := by decide +kernel
theorem dX7_become_137 : decode cX7_become 137 = .ok (.iinc 2 1, 3) := by decide +kernel
theorem dX7_become_140 : decode cX7_become 140 = .ok (.goto (-56), 3) := by decide +kernel
theorem dX7_become_143 : decode cX7_become 143 = .ok (.return_, 1) := by decide +kernel
theorem dX7_noteTold_0 : decode cX7_noteTold 0 = .ok (.aload_n 0, 1) := by decide +kernel
theorem dX7_noteTold_1 : decode cX7_noteTold 1 = .ok (.getfield 38, 3) := by decide +kernel
theorem dX7_noteTold_4 : decode cX7_noteTold 4 = .ok (.iload_n 1, 1) := by decide +kernel
theorem dX7_noteTold_5 : decode cX7_noteTold 5 = .ok (.dup2, 1) := by decide +kernel
theorem dX7_noteTold_6 : decode cX7_noteTold 6 = .ok (.iaload, 1) := by decide +kernel
theorem dX7_noteTold_7 : decode cX7_noteTold 7 = .ok (.iconst 1, 1) := by decide +kernel
theorem dX7_noteTold_8 : decode cX7_noteTold 8 = .ok (.iload_n 2, 1) := by decide +kernel
theorem dX7_noteTold_9 : decode cX7_noteTold 9 = .ok (.ishl, 1) := by decide +kernel
theorem dX7_noteTold_10 : decode cX7_noteTold 10 = .ok (.ior, 1) := by decide +kernel
theorem dX7_noteTold_11 : decode cX7_noteTold 11 = .ok (.iastore, 1) := by decide +kernel
theorem dX7_noteTold_12 : decode cX7_noteTold 12 = .ok (.iload_n 3, 1) := by decide +kernel
theorem dX7_noteTold_13 : decode cX7_noteTold 13 = .ok (.ifCond .eq 15, 3) := by decide +kernel
theorem dX7_noteTold_16 : decode cX7_noteTold 16 = .ok (.aload_n 0, 1) := by decide +kernel
theorem dX7_noteTold_17 : decode cX7_noteTold 17 = .ok (.getfield 41, 3) := by decide +kernel
theorem dX7_noteTold_20 : decode cX7_noteTold 20 = .ok (.iload_n 1, 1) := by decide +kernel
theorem dX7_noteTold_21 : decode cX7_noteTold 21 = .ok (.dup2, 1) := by decide +kernel
theorem dX7_noteTold_22 : decode cX7_noteTold 22 = .ok (.iaload, 1) := by decide +kernel
theorem dX7_noteTold_23 : decode cX7_noteTold 23 = .ok (.iconst 1, 1) := by decide +kernel
theorem dX7_noteTold_24 : decode cX7_noteTold 24 = .ok (.iload_n 2, 1) := by decide +kernel
theorem dX7_noteTold_25 : decode cX7_noteTold 25 = .ok (.ishl, 1) := by decide +kernel
theorem dX7_noteTold_26 : decode cX7_noteTold 26 = .ok (.ior, 1) := by decide +kernel
theorem dX7_noteTold_27 : decode cX7_noteTold 27 = .ok (.iastore, 1) := by decide +kernel
theorem dX7_noteTold_28 : decode cX7_noteTold 28 = .ok (.aload_n 0, 1) := by decide +kernel
theorem dX7_noteTold_29 : decode cX7_noteTold 29 = .ok (.dup, 1) := by decide +kernel
theorem dX7_noteTold_30 : decode cX7_noteTold 30 = .ok (.getfield 13, 3) := by decide +kernel
theorem dX7_noteTold_33 : decode cX7_noteTold 33 = .ok (.iload_n 3, 1) := by decide +kernel
theorem dX7_noteTold_34 : decode cX7_noteTold 34 = .ok (.ifCond .eq 10, 3) := by decide +kernel
theorem dX7_noteTold_37 : decode cX7_noteTold 37 = .ok (.aload_n 0, 1) := by decide +kernel
theorem dX7_noteTold_38 : decode cX7_noteTold 38 = .ok (.getfield 7, 3) := by decide +kernel
theorem dX7_noteTold_41 : decode cX7_noteTold 41 = .ok (.goto 8, 3) := by decide +kernel
theorem dX7_noteTold_44 : decode cX7_noteTold 44 = .ok (.aload_n 0, 1) := by decide +kernel
theorem dX7_noteTold_45 : decode cX7_noteTold 45 = .ok (.getfield 7, 3) := by decide +kernel
theorem dX7_noteTold_48 : decode cX7_noteTold 48 = .ok (.ineg, 1) := by decide +kernel
theorem dX7_noteTold_49 : decode cX7_noteTold 49 = .ok (.iadd, 1) := by decide +kernel
theorem dX7_noteTold_50 : decode cX7_noteTold 50 = .ok (.putfield 13, 3) := by decide +kernel
theorem dX7_noteTold_53 : decode cX7_noteTold 53 = .ok (.aload_n 0, 1) := by decide +kernel
theorem dX7_noteTold_54 : decode cX7_noteTold 54 = .ok (.getfield 32, 3) := by decide +kernel
theorem dX7_noteTold_57 : decode cX7_noteTold 57 = .ok (.iload_n 1, 1) := by decide +kernel
theorem dX7_noteTold_58 : decode cX7_noteTold 58 = .ok (.iload 4, 2) := by decide +kernel
theorem dX7_noteTold_60 : decode cX7_noteTold 60 = .ok (.iastore, 1) := by decide +kernel
theorem dX7_noteTold_61 : decode cX7_noteTold 61 = .ok (.return_, 1) := by decide +kernel
theorem dX7_noteSupper_0 : decode cX7_noteSupper 0 = .ok (.aload_n 0, 1) := by decide +kernel
theorem dX7_noteSupper_1 : decode cX7_noteSupper 1 = .ok (.dup, 1) := by decide +kernel
theorem dX7_noteSupper_2 : decode cX7_noteSupper 2 = .ok (.getfield 13, 3) := by decide +kernel
theorem dX7_noteSupper_5 : decode cX7_noteSupper 5 = .ok (.iconst 1, 1) := by decide +kernel
theorem dX7_noteSupper_6 : decode cX7_noteSupper 6 = .ok (.isub, 1) := by decide +kernel
theorem dX7_noteSupper_7 : decode cX7_noteSupper 7 = .ok (.putfield 13, 3) := by decide +kernel
theorem dX7_noteSupper_10 : decode cX7_noteSupper 10 = .ok (.aload_n 0, 1) := by decide +kernel
theorem dX7_noteSupper_11 : decode cX7_noteSupper 11 = .ok (.getfield 32, 3) := by decide +kernel
theorem dX7_noteSupper_14 : decode cX7_noteSupper 14 = .ok (.iload_n 1, 1) := by decide +kernel
theorem dX7_noteSupper_15 : decode cX7_noteSupper 15 = .ok (.iload_n 2, 1) := by decide +kernel
theorem dX7_noteSupper_16 : decode cX7_noteSupper 16 = .ok (.iastore, 1) := by decide +kernel
theorem dX7_noteSupper_17 : decode cX7_noteSupper 17 = .ok (.return_, 1) := by decide +kernel
theorem dX7_noteForgotten_0 : decode cX7_noteForgotten 0 = .ok (.aload_n 0, 1) := by decide +kernel
theorem dX7_noteForgotten_1 : decode cX7_noteForgotten 1 = .ok (.getfield 38, 3) := by decide +kernel
theorem dX7_noteForgotten_4 : decode cX7_noteForgotten 4 = .ok (.iload_n 1, 1) := by decide +kernel
theorem dX7_noteForgotten_5 : decode cX7_noteForgotten 5 = .ok (.dup2, 1) := by decide +kernel
theorem dX7_noteForgotten_6 : decode cX7_noteForgotten 6 = .ok (.iaload, 1) := by decide +kernel
theorem dX7_noteForgotten_7 : decode cX7_noteForgotten 7 = .ok (.iconst 1, 1) := by decide +kernel
theorem dX7_noteForgotten_8 : decode cX7_noteForgotten 8 = .ok (.iload_n 2, 1) := by decide +kernel
theorem dX7_noteForgotten_9 : decode cX7_noteForgotten 9 = .ok (.ishl, 1) := by decide +kernel
theorem dX7_noteForgotten_10 : decode cX7_noteForgotten 10 = .ok (.iconst (-1), 1) := by decide +kernel
theorem dX7_noteForgotten_11 : decode cX7_noteForgotten 11 = .ok (.ixor, 1) := by decide +kernel
theorem dX7_noteForgotten_12 : decode cX7_noteForgotten 12 = .ok (.iand, 1) := by decide +kernel
theorem dX7_noteForgotten_13 : decode cX7_noteForgotten 13 = .ok (.iastore, 1) := by decide +kernel
theorem dX7_noteForgotten_14 : decode cX7_noteForgotten 14 = .ok (.aload_n 0, 1) := by decide +kernel
theorem dX7_noteForgotten_15 : decode cX7_noteForgotten 15 = .ok (.getfield 41, 3) := by decide +kernel
theorem dX7_noteForgotten_18 : decode cX7_noteForgotten 18 = .ok (.iload_n 1, 1) := by decide +kernel
theorem dX7_noteForgotten_19 : decode cX7_noteForgotten 19 = .ok (.dup2, 1) := by decide +kernel
theorem dX7_noteForgotten_20 : decode cX7_noteForgotten 20 = .ok (.iaload, 1) := by decide +kernel
theorem dX7_noteForgotten_21 : decode cX7_noteForgotten 21 = .ok (.iconst 1, 1) := by decide +kernel
theorem dX7_noteForgotten_22 : decode cX7_noteForgotten 22 = .ok (.iload_n 2, 1) := by decide +kernel
theorem dX7_noteForgotten_23 : decode cX7_noteForgotten 23 = .ok (.ishl, 1) := by decide +kernel
theorem dX7_noteForgotten_24 : decode cX7_noteForgotten 24 = .ok (.iconst (-1), 1) := by decide +kernel
theorem dX7_noteForgotten_25 : decode cX7_noteForgotten 25 = .ok (.ixor, 1) := by decide +kernel
theorem dX7_noteForgotten_26 : decode cX7_noteForgotten 26 = .ok (.iand, 1) := by decide +kernel
theorem dX7_noteForgotten_27 : decode cX7_noteForgotten 27 = .ok (.iastore, 1) := by decide +kernel
theorem dX7_noteForgotten_28 : decode cX7_noteForgotten 28 = .ok (.return_, 1) := by decide +kernel
end
section
/-- the lies (nl of them) that aren't in a set -/
def ut_ (nl x : Int) : Int := sb_iand (sb_ishl 1 nl - 1) (sb_ixor x (-1))
theorem sh_1 : ∀ n : Fin 7, 1 ≤ sb_ishl 1 ((n : Nat) : Int) ∧ sb_ishl 1 ((n : Nat) : Int) ≤ 64 := by decide +kernel
theorem sh_r {n : Int} (h : 0 ≤ n ∧ n ≤ 6) : 1 ≤ sb_ishl 1 n ∧ sb_ishl 1 n ≤ 64 := by
  have e := sh_1 ⟨n.toNat, by omega⟩
  rw [show (((⟨n.toNat, by omega⟩ : Fin 7) : Nat) : Int) = n from Int.toNat_of_nonneg h.1] at e
  exact e
/-- how many of the first n sets of a row have l -/
def ws_ (f : Int → Int) (l : Int) : Nat → Int
  | 0 => 0
  | n + 1 => ws_ f l n + bt_ (f n) l
theorem ws_r (f : Int → Int) (l : Int) (n : Nat) : 0 ≤ ws_ f l n ∧ ws_ f l n ≤ n := by
  induction n with
  | zero => exact ⟨Int.le_refl 0, Int.le_refl 0⟩
  | succ n ih =>
    have h1 := bt_01 (f n) l
    show 0 ≤ ws_ f l n + bt_ (f n) l ∧ ws_ f l n + bt_ (f n) l ≤ ((n + 1 : Nat) : Int)
    omega
section PT_
variable {g : SG_} {d : Nat} {h : SH_} {Post : Option SV_ → SH_ → Prop}
theorem c_stands {k : Int} (kt : 0 < h k 0 → Post (some (sv_i 1)) h) (kf : ¬ 0 < h k 0 → Post (some (sv_i 0)) h) : Ctr_ g d mX7_stands [sv_r 4 6 k] h Post := by
  refine V_mk (by decide +kernel) (Or.inr (Or.inr (Or.inl ⟨rfl, rfl⟩))) (Nat.le_of_ble_eq_true rfl) (by simp [sv_c]) ?_
  show V_ _ _ _ 0 [_] [] _ _
  refine vr_aload_n (q := 1) dX7_stands_0 rfl rfl ?_
  refine vr_getI (ji := 0) (q := 4) dX7_stands_1 rfl fX7_7 rfl rfl ?_
  refine vr_if_le (t := 11) (q := 7) dX7_stands_4 (by decide) rfl (fun c4 => ?_) (fun c4 => ?_)
  · refine vr_iconst (q := 12) dX7_stands_11 rfl ⟨by decide, by decide⟩ ?_
    refine vr_zret dX7_stands_12 rfl ?_ ?_
    · first | exact Or.inl rfl | exact Or.inr rfl | assumption
    · first | exact kt (by omega) | exact kf (by omega)
  · refine vr_iconst (q := 8) dX7_stands_7 rfl ⟨by decide, by decide⟩ ?_
    refine vr_goto (q := 12) dX7_stands_8 (by decide) ?_
    refine vr_zret dX7_stands_12 rfl ?_ ?_
    · first | exact Or.inl rfl | exact Or.inr rfl | assumption
    · first | exact kt (by omega) | exact kf (by omega)
theorem c_hasLie {l : Int} (kt : (0 ≤ l ∧ l < h 7 2) → Post (some (sv_i 1)) h) (kf : ¬ (0 ≤ l ∧ l < h 7 2) → Post (some (sv_i 0)) h) : Ctr_ g d mX7_hasLie [sv_r 4 6 7, sv_i l] h Post := by
  refine V_mk (by decide +kernel) (Or.inr (Or.inr (Or.inl ⟨rfl, rfl⟩))) (Nat.le_of_ble_eq_true rfl) (by simp [sv_c]) ?_
  show V_ _ _ _ 0 [_, _] [] _ _
  refine vr_iload_n (q := 1) dX7_hasLie_0 rfl rfl ?_
  refine vr_if_lt (t := 16) (q := 4) dX7_hasLie_1 (by decide) rfl (fun c1 => ?_) (fun c1 => ?_)
  · refine vr_iconst (q := 17) dX7_hasLie_16 rfl ⟨by decide, by decide⟩ ?_
    refine vr_zret dX7_hasLie_17 rfl ?_ ?_
    · first | exact Or.inl rfl | exact Or.inr rfl | assumption
    · first | exact kt (by omega) | exact kf (by omega)
  · refine vr_iload_n (q := 5) dX7_hasLie_4 rfl rfl ?_
    refine vr_aload_n (q := 6) dX7_hasLie_5 rfl rfl ?_
    refine vr_getI (ji := 2) (q := 9) dX7_hasLie_6 rfl fX7_16 rfl rfl ?_
    refine vr_ic_ge (t := 16) (q := 12) dX7_hasLie_9 (by decide) rfl (fun c9 => ?_) (fun c9 => ?_)
    · refine vr_iconst (q := 17) dX7_hasLie_16 rfl ⟨by decide, by decide⟩ ?_
      refine vr_zret dX7_hasLie_17 rfl ?_ ?_
      · first | exact Or.inl rfl | exact Or.inr rfl | assumption
      · first | exact kt (by omega) | exact kf (by omega)
    · refine vr_iconst (q := 13) dX7_hasLie_12 rfl ⟨by decide, by decide⟩ ?_
      refine vr_goto (q := 17) dX7_hasLie_13 (by decide) ?_
      refine vr_zret dX7_hasLie_17 rfl ?_ ?_
      · first | exact Or.inl rfl | exact Or.inr rfl | assumption
      · first | exact kt (by omega) | exact kf (by omega)
theorem c_hasStranger {l : Int} (kt : (0 ≤ l ∧ l < h 7 3) → Post (some (sv_i 1)) h) (kf : ¬ (0 ≤ l ∧ l < h 7 3) → Post (some (sv_i 0)) h) : Ctr_ g d mX7_hasStranger [sv_r 4 6 7, sv_i l] h Post := by
  refine V_mk (by decide +kernel) (Or.inr (Or.inr (Or.inl ⟨rfl, rfl⟩))) (Nat.le_of_ble_eq_true rfl) (by simp [sv_c]) ?_
  show V_ _ _ _ 0 [_, _] [] _ _
  refine vr_iload_n (q := 1) dX7_hasStranger_0 rfl rfl ?_
  refine vr_if_lt (t := 16) (q := 4) dX7_hasStranger_1 (by decide) rfl (fun c1 => ?_) (fun c1 => ?_)
  · refine vr_iconst (q := 17) dX7_hasStranger_16 rfl ⟨by decide, by decide⟩ ?_
    refine vr_zret dX7_hasStranger_17 rfl ?_ ?_
    · first | exact Or.inl rfl | exact Or.inr rfl | assumption
    · first | exact kt (by omega) | exact kf (by omega)
  · refine vr_iload_n (q := 5) dX7_hasStranger_4 rfl rfl ?_
    refine vr_aload_n (q := 6) dX7_hasStranger_5 rfl rfl ?_
    refine vr_getI (ji := 3) (q := 9) dX7_hasStranger_6 rfl fX7_19 rfl rfl ?_
    refine vr_ic_ge (t := 16) (q := 12) dX7_hasStranger_9 (by decide) rfl (fun c9 => ?_) (fun c9 => ?_)
    · refine vr_iconst (q := 17) dX7_hasStranger_16 rfl ⟨by decide, by decide⟩ ?_
      refine vr_zret dX7_hasStranger_17 rfl ?_ ?_
      · first | exact Or.inl rfl | exact Or.inr rfl | assumption
      · first | exact kt (by omega) | exact kf (by omega)
    · refine vr_iconst (q := 13) dX7_hasStranger_12 rfl ⟨by decide, by decide⟩ ?_
      refine vr_goto (q := 17) dX7_hasStranger_13 (by decide) ?_
      refine vr_zret dX7_hasStranger_17 rfl ?_ ?_
      · first | exact Or.inl rfl | exact Or.inr rfl | assumption
      · first | exact kt (by omega) | exact kf (by omega)
theorem c_isSetOfLies {l : Int} (kt : (0 ≤ l ∧ l < sb_ishl 1 (h 7 2)) → Post (some (sv_i 1)) h) (kf : ¬ (0 ≤ l ∧ l < sb_ishl 1 (h 7 2)) → Post (some (sv_i 0)) h) : Ctr_ g d mX7_isSetOfLies [sv_r 4 6 7, sv_i l] h Post := by
  refine V_mk (by decide +kernel) (Or.inr (Or.inr (Or.inl ⟨rfl, rfl⟩))) (Nat.le_of_ble_eq_true rfl) (by simp [sv_c]) ?_
  show V_ _ _ _ 0 [_, _] [] _ _
  refine vr_iload_n (q := 1) dX7_isSetOfLies_0 rfl rfl ?_
  refine vr_if_lt (t := 18) (q := 4) dX7_isSetOfLies_1 (by decide) rfl (fun c1 => ?_) (fun c1 => ?_)
  · refine vr_iconst (q := 19) dX7_isSetOfLies_18 rfl ⟨by decide, by decide⟩ ?_
    refine vr_zret dX7_isSetOfLies_19 rfl ?_ ?_
    · first | exact Or.inl rfl | exact Or.inr rfl | assumption
    · first | exact kt (by omega) | exact kf (by omega)
  · refine vr_iload_n (q := 5) dX7_isSetOfLies_4 rfl rfl ?_
    refine vr_iconst (q := 6) dX7_isSetOfLies_5 rfl ⟨by decide, by decide⟩ ?_
    refine vr_aload_n (q := 7) dX7_isSetOfLies_6 rfl rfl ?_
    refine vr_getI (ji := 2) (q := 10) dX7_isSetOfLies_7 rfl fX7_16 rfl rfl ?_
    refine vr_ishl (q := 11) dX7_isSetOfLies_10 rfl ?_
    refine vr_ic_ge (t := 18) (q := 14) dX7_isSetOfLies_11 (by decide) rfl (fun c11 => ?_) (fun c11 => ?_)
    · refine vr_iconst (q := 19) dX7_isSetOfLies_18 rfl ⟨by decide, by decide⟩ ?_
      refine vr_zret dX7_isSetOfLies_19 rfl ?_ ?_
      · first | exact Or.inl rfl | exact Or.inr rfl | assumption
      · first | exact kt (by omega) | exact kf (by omega)
    · refine vr_iconst (q := 15) dX7_isSetOfLies_14 rfl ⟨by decide, by decide⟩ ?_
      refine vr_goto (q := 19) dX7_isSetOfLies_15 (by decide) ?_
      refine vr_zret dX7_isSetOfLies_19 rfl ?_ ?_
      · first | exact Or.inl rfl | exact Or.inr rfl | assumption
      · first | exact kt (by omega) | exact kf (by omega)
theorem c_wasTold {s l : Int} (hs : 0 ≤ s ∧ s < 4) (kt : ¬ bt_ (h 13 s) l = 0 → Post (some (sv_i 1)) h) (kf : bt_ (h 13 s) l = 0 → Post (some (sv_i 0)) h) : Ctr_ g d mX7_wasTold [sv_r 4 6 7, sv_i s, sv_i l] h Post := by
  refine V_mk (by decide +kernel) (Or.inr (Or.inr (Or.inl ⟨rfl, rfl⟩))) (Nat.le_of_ble_eq_true rfl) (by simp [sv_c]) ?_
  show V_ _ _ _ 0 [_, _, _] [] _ _
  refine vr_aload_n (q := 1) dX7_wasTold_0 rfl rfl ?_
  refine vr_getR (q := 4) dX7_wasTold_1 rfl fX7_38 rfl y_X7_9 (by first | (simp only [Int.reduceAdd]; rfl) | rfl) ?_
  refine vr_iload_n (q := 5) dX7_wasTold_4 rfl rfl ?_
  refine vr_iald (q := 6) dX7_wasTold_5 rfl ⟨by omega, by omega⟩ ?_
  refine vr_iload_n (q := 7) dX7_wasTold_6 rfl rfl ?_
  refine vr_ishr (q := 8) dX7_wasTold_7 rfl ?_
  refine vr_iconst (q := 9) dX7_wasTold_8 rfl ⟨by decide, by decide⟩ ?_
  refine vr_iand (q := 10) dX7_wasTold_9 rfl ?_
  refine vr_if_eq (t := 17) (q := 13) dX7_wasTold_10 (by decide) rfl (fun c10 => ?_) (fun c10 => ?_)
  · refine vr_iconst (q := 18) dX7_wasTold_17 rfl ⟨by decide, by decide⟩ ?_
    refine vr_zret dX7_wasTold_18 rfl ?_ ?_
    · first | exact Or.inl rfl | exact Or.inr rfl | assumption
    · first | exact kt c10 | exact kf c10
  · refine vr_iconst (q := 14) dX7_wasTold_13 rfl ⟨by decide, by decide⟩ ?_
    refine vr_goto (q := 18) dX7_wasTold_14 (by decide) ?_
    refine vr_zret dX7_wasTold_18 rfl ?_ ?_
    · first | exact Or.inl rfl | exact Or.inr rfl | assumption
    · first | exact kt c10 | exact kf c10
theorem c_untold {s : Int} (hs : 0 ≤ s ∧ s < 4) (hl : 0 ≤ h 7 2 ∧ h 7 2 ≤ 6) (kk : Post (some (sv_i (ut_ (h 7 2) (h 13 s)))) h) : Ctr_ g d mX7_untold [sv_r 4 6 7, sv_i s] h Post := by
  have hr := sh_r hl
  refine V_mk (by decide +kernel) (Or.inr (Or.inl ⟨rfl, rfl⟩)) (Nat.le_of_ble_eq_true rfl) (by simp [sv_c]) ?_
  show V_ _ _ _ 0 [_, _] [] _ _
  refine vr_iconst (q := 1) dX7_untold_0 rfl ⟨by decide, by decide⟩ ?_
  refine vr_aload_n (q := 2) dX7_untold_1 rfl rfl ?_
  refine vr_getI (ji := 2) (q := 5) dX7_untold_2 rfl fX7_16 rfl rfl ?_
  refine vr_ishl (q := 6) dX7_untold_5 rfl ?_
  refine vr_iconst (q := 7) dX7_untold_6 rfl ⟨by decide, by decide⟩ ?_
  refine vr_isubN (q := 8) dX7_untold_7 rfl ⟨by omega, by omega⟩ ?_
  refine vr_aload_n (q := 9) dX7_untold_8 rfl rfl ?_
  refine vr_getR (q := 12) dX7_untold_9 rfl fX7_38 rfl y_X7_9 (by first | (simp only [Int.reduceAdd]; rfl) | rfl) ?_
  refine vr_iload_n (q := 13) dX7_untold_12 rfl rfl ?_
  refine vr_iald (q := 14) dX7_untold_13 rfl ⟨by omega, by omega⟩ ?_
  refine vr_iconst (q := 15) dX7_untold_14 rfl ⟨by decide, by decide⟩ ?_
  refine vr_ixor (q := 16) dX7_untold_15 rfl ?_
  refine vr_iand (q := 17) dX7_untold_16 rfl ?_
  refine vr_iret dX7_untold_17 rfl ?_
  first | exact kk | (exfalso; omega) | (repeat (first | exact kk | rw [if_pos (by omega)] at kk | rw [if_neg (by omega)] at kk))
theorem l_strangersWith {a l : Int} (hn : 0 ≤ h 7 3 ∧ h 7 3 ≤ 4) (kk : Post (some (sv_i (ws_ (h a) l (h 7 3).toNat))) h) : ∀ (m i : Nat), (i : Int) + m = h 7 3 → V_ g d mX7_strangersWith 5 [some (sv_r 4 6 7), some (sv_r 0 4 a), some (sv_i l), some (sv_i (ws_ (h a) l i)), some (sv_i i)] [] h Post := by
  intro m
  induction m with
  | zero =>
    intro i hi
    refine vr_iload (q := 7) dX7_strangersWith_5 rfl rfl ?_
    refine vr_aload_n (q := 8) dX7_strangersWith_7 rfl rfl ?_
    refine vr_getI (ji := 3) (q := 11) dX7_strangersWith_8 rfl fX7_19 rfl rfl ?_
    -- at X7.strangersWith 11: .if_icmp .ge 27
    refine vr_ic_ge (t := 38) (q := 14) dX7_strangersWith_11 (by decide) rfl (fun _ => ?_) (fun c9 => absurd c9 (by omega))
    refine vr_iload_n (q := 39) dX7_strangersWith_38 rfl rfl ?_
    -- at X7.strangersWith 39: .ireturn
    refine vr_iret dX7_strangersWith_39 rfl ?_
    rw [show (h 7 3).toNat = i by omega] at kk
    exact kk
  | succ m ih =>
    intro i hi
    have h1 := bt_01 (h a i) l
    have h2 := ws_r (h a) l i
    refine vr_iload (q := 7) dX7_strangersWith_5 rfl rfl ?_
    refine vr_aload_n (q := 8) dX7_strangersWith_7 rfl rfl ?_
    refine vr_getI (ji := 3) (q := 11) dX7_strangersWith_8 rfl fX7_19 rfl rfl ?_
    -- at X7.strangersWith 11: .if_icmp .ge 27
    refine vr_ic_ge (t := 38) (q := 14) dX7_strangersWith_11 (by decide) rfl (fun c9 => absurd c9 (by omega)) (fun _ => ?_)
    refine vr_iload (q := 16) dX7_strangersWith_14 rfl rfl ?_
    refine vr_aload_n (q := 17) dX7_strangersWith_16 rfl rfl ?_
    refine vr_alen (q := 18) dX7_strangersWith_17 rfl (by decide) ?_
    -- at X7.strangersWith 18: .if_icmp .ge 20
    refine vr_ic_ge (t := 38) (q := 21) dX7_strangersWith_18 (by decide) rfl (fun c9 => absurd c9 (by omega)) (fun _ => ?_)
    refine vr_iload_n (q := 22) dX7_strangersWith_21 rfl rfl ?_
    refine vr_aload_n (q := 23) dX7_strangersWith_22 rfl rfl ?_
    refine vr_iload (q := 25) dX7_strangersWith_23 rfl rfl ?_
    refine vr_iald (q := 26) dX7_strangersWith_25 rfl ⟨by omega, by omega⟩ ?_
    refine vr_iload_n (q := 27) dX7_strangersWith_26 rfl rfl ?_
    refine vr_ishr (q := 28) dX7_strangersWith_27 rfl ?_
    refine vr_iconst (q := 29) dX7_strangersWith_28 rfl ⟨by decide, by decide⟩ ?_
    refine vr_iand (q := 30) dX7_strangersWith_29 rfl ?_
    refine vr_iaddN (q := 31) dX7_strangersWith_30 rfl ⟨by show -2147483648 ≤ ws_ (h a) l i + bt_ (h a i) l; omega, by show ws_ (h a) l i + bt_ (h a i) l < 2147483648; omega⟩ ?_
    refine vr_istore_n (q := 32) dX7_strangersWith_31 rfl rfl (Nat.le_of_ble_eq_true rfl) rfl rfl ?_
    refine vr_iinc (q := 35) dX7_strangersWith_32 rfl rfl ⟨by omega, by omega⟩ (Nat.le_of_ble_eq_true rfl) rfl rfl ?_
    refine vr_goto (q := 5) dX7_strangersWith_35 (by decide) ?_
    -- at X7.strangersWith 5: .iload 4
    exact ih (i + 1) (by omega)
theorem c_strangersWith {a l : Int} (hn : 0 ≤ h 7 3 ∧ h 7 3 ≤ 4) (kk : Post (some (sv_i (ws_ (h a) l (h 7 3).toNat))) h) : Ctr_ g d mX7_strangersWith [sv_r 4 6 7, sv_r 0 4 a, sv_i l] h Post := by
  refine V_mk (by decide +kernel) (Or.inr (Or.inl ⟨rfl, rfl⟩)) (Nat.le_of_ble_eq_true rfl) (by simp [sv_c]) ?_
  show V_ _ _ _ 0 [_, _, _, _, _] [] _ _
  refine vr_iconst (q := 1) dX7_strangersWith_0 rfl ⟨by decide, by decide⟩ ?_
  refine vr_istore_n (q := 2) dX7_strangersWith_1 rfl rfl (Nat.le_of_ble_eq_true rfl) rfl rfl ?_
  refine vr_iconst (q := 3) dX7_strangersWith_2 rfl ⟨by decide, by decide⟩ ?_
  refine vr_istore (q := 5) dX7_strangersWith_3 rfl (Nat.le_of_ble_eq_true rfl) rfl rfl ?_
  -- at X7.strangersWith 5: .iload 4
  exact l_strangersWith hn kk (h 7 3).toNat 0 (by omega)
theorem c_begin {x : Int} (kk : Post none (hs_ (hs_ (hs_ (hs_ h 15 0 x) 15 1 0) 15 2 0) 15 3 0)) : Ctr_ g d mX7_begin [sv_r 4 6 15, sv_i x] h Post := by
  refine V_mk (by decide +kernel) (Or.inl ⟨rfl, rfl⟩) (Nat.le_of_ble_eq_true rfl) (by simp [sv_c]) ?_
  show V_ _ _ _ 0 [_, _] [] _ _
  refine vr_aload_n (q := 1) dX7_begin_0 rfl rfl ?_
  refine vr_iload_n (q := 2) dX7_begin_1 rfl rfl ?_
  refine vr_put (ji := 0) (q := 5) dX7_begin_2 rfl pX7_7 rfl rfl ?_
  refine vr_aload_n (q := 6) dX7_begin_5 rfl rfl ?_
  refine vr_iconst (q := 7) dX7_begin_6 rfl ⟨by decide, by decide⟩ ?_
  refine vr_put (ji := 1) (q := 10) dX7_begin_7 rfl pX7_13 rfl rfl ?_
  refine vr_aload_n (q := 11) dX7_begin_10 rfl rfl ?_
  refine vr_iconst (q := 12) dX7_begin_11 rfl ⟨by decide, by decide⟩ ?_
  refine vr_put (ji := 2) (q := 15) dX7_begin_12 rfl pX7_16 rfl rfl ?_
  refine vr_aload_n (q := 16) dX7_begin_15 rfl rfl ?_
  refine vr_iconst (q := 17) dX7_begin_16 rfl ⟨by decide, by decide⟩ ?_
  refine vr_put (ji := 3) (q := 20) dX7_begin_17 rfl pX7_19 rfl rfl ?_
  refine vr_vret dX7_begin_20 rfl ?_
  first | exact kk | (exfalso; omega) | (repeat (first | exact kk | rw [if_pos (by omega)] at kk | rw [if_neg (by omega)] at kk))
theorem c_addLie {a b c : Int} (hl : 0 ≤ h 15 2 ∧ h 15 2 < 6) (kk : Post none (hs_ (hs_ (hs_ (hs_ h 16 (h 15 2) a) 17 (h 15 2) b) 18 (h 15 2) c) 15 2 (h 15 2 + 1))) : Ctr_ g d mX7_addLie [sv_r 4 6 15, sv_i a, sv_i b, sv_i c] h Post := by
  refine V_mk (by decide +kernel) (Or.inl ⟨rfl, rfl⟩) (Nat.le_of_ble_eq_true rfl) (by simp [sv_c]) ?_
  show V_ _ _ _ 0 [_, _, _, _] [] _ _
  refine vr_aload_n (q := 1) dX7_addLie_0 rfl rfl ?_
  refine vr_getI (ji := 2) (q := 4) dX7_addLie_1 rfl fX7_16 rfl rfl ?_
  refine vr_bipush (q := 6) dX7_addLie_4 rfl ⟨by decide, by decide⟩ (by decide) ?_
  refine vr_ic_ge (t := 49) (q := 9) dX7_addLie_6 (by decide) rfl (fun c9 => absurd c9 (by omega)) (fun _ => ?_)
  refine vr_aload_n (q := 10) dX7_addLie_9 rfl rfl ?_
  refine vr_getR (q := 13) dX7_addLie_10 rfl fX7_22 rfl y_X7_4 (by first | (simp only [Int.reduceAdd]; rfl) | rfl) ?_
  refine vr_aload_n (q := 14) dX7_addLie_13 rfl rfl ?_
  refine vr_getI (ji := 2) (q := 17) dX7_addLie_14 rfl fX7_16 rfl rfl ?_
  refine vr_iload_n (q := 18) dX7_addLie_17 rfl rfl ?_
  refine vr_iast (q := 19) dX7_addLie_18 rfl ⟨by omega, by omega⟩ ?_
  refine vr_aload_n (q := 20) dX7_addLie_19 rfl rfl ?_
  refine vr_getR (q := 23) dX7_addLie_20 rfl fX7_26 rfl y_X7_5 (by first | (simp only [Int.reduceAdd]; rfl) | rfl) ?_
  refine vr_aload_n (q := 24) dX7_addLie_23 rfl rfl ?_
  refine vr_getV (ji := 2) (q := 27) dX7_addLie_24 rfl fX7_16 rfl rfl (hs_n (by omega)) ?_
  refine vr_iload_n (q := 28) dX7_addLie_27 rfl rfl ?_
  refine vr_iast (q := 29) dX7_addLie_28 rfl ⟨by omega, by omega⟩ ?_
  refine vr_aload_n (q := 30) dX7_addLie_29 rfl rfl ?_
  refine vr_getR (q := 33) dX7_addLie_30 rfl fX7_29 rfl y_X7_6 (by first | (simp only [Int.reduceAdd]; rfl) | rfl) ?_
  refine vr_aload_n (q := 34) dX7_addLie_33 rfl rfl ?_
  refine vr_getV (ji := 2) (q := 37) dX7_addLie_34 rfl fX7_16 rfl rfl (by rw [hs_n (by omega), hs_n (by omega)]) ?_
  refine vr_iload_n (q := 38) dX7_addLie_37 rfl rfl ?_
  refine vr_iast (q := 39) dX7_addLie_38 rfl ⟨by omega, by omega⟩ ?_
  refine vr_aload_n (q := 40) dX7_addLie_39 rfl rfl ?_
  refine vr_dup (q := 41) dX7_addLie_40 rfl rfl ?_
  refine vr_getV (ji := 2) (q := 44) dX7_addLie_41 rfl fX7_16 rfl rfl (by rw [hs_n (by omega), hs_n (by omega), hs_n (by omega)]) ?_
  refine vr_iconst (q := 45) dX7_addLie_44 rfl ⟨by decide, by decide⟩ ?_
  refine vr_iaddN (q := 46) dX7_addLie_45 rfl ⟨by omega, by omega⟩ ?_
  refine vr_put (ji := 2) (q := 49) dX7_addLie_46 rfl pX7_16 rfl rfl ?_
  refine vr_vret dX7_addLie_49 rfl ?_
  first | exact kk | (exfalso; omega) | (repeat (first | exact kk | rw [if_pos (by omega)] at kk | rw [if_neg (by omega)] at kk))
theorem c_addStranger {a b : Int} (hl : 0 ≤ h 15 3 ∧ h 15 3 < 4) (kk : Post none (hs_ (hs_ (hs_ (hs_ (hs_ h 19 (h 15 3) a) 20 (h 15 3) b) 21 (h 15 3) 0) 22 (h 15 3) 0) 15 3 (h 15 3 + 1))) : Ctr_ g d mX7_addStranger [sv_r 4 6 15, sv_i a, sv_i b] h Post := by
  refine V_mk (by decide +kernel) (Or.inl ⟨rfl, rfl⟩) (Nat.le_of_ble_eq_true rfl) (by simp [sv_c]) ?_
  show V_ _ _ _ 0 [_, _, _] [] _ _
  refine vr_aload_n (q := 1) dX7_addStranger_0 rfl rfl ?_
  refine vr_getI (ji := 3) (q := 4) dX7_addStranger_1 rfl fX7_19 rfl rfl ?_
  refine vr_iconst (q := 5) dX7_addStranger_4 rfl ⟨by decide, by decide⟩ ?_
  refine vr_ic_ge (t := 58) (q := 8) dX7_addStranger_5 (by decide) rfl (fun c9 => absurd c9 (by omega)) (fun _ => ?_)
  refine vr_aload_n (q := 9) dX7_addStranger_8 rfl rfl ?_
  refine vr_getR (q := 12) dX7_addStranger_9 rfl fX7_32 rfl y_X7_7 (by first | (simp only [Int.reduceAdd]; rfl) | rfl) ?_
  refine vr_aload_n (q := 13) dX7_addStranger_12 rfl rfl ?_
  refine vr_getI (ji := 3) (q := 16) dX7_addStranger_13 rfl fX7_19 rfl rfl ?_
  refine vr_iload_n (q := 17) dX7_addStranger_16 rfl rfl ?_
  refine vr_iast (q := 18) dX7_addStranger_17 rfl ⟨by omega, by omega⟩ ?_
  refine vr_aload_n (q := 19) dX7_addStranger_18 rfl rfl ?_
  refine vr_getR (q := 22) dX7_addStranger_19 rfl fX7_35 rfl y_X7_8 (by first | (simp only [Int.reduceAdd]; rfl) | rfl) ?_
  refine vr_aload_n (q := 23) dX7_addStranger_22 rfl rfl ?_
  refine vr_getV (ji := 3) (q := 26) dX7_addStranger_23 rfl fX7_19 rfl rfl (hs_n (by omega)) ?_
  refine vr_iload_n (q := 27) dX7_addStranger_26 rfl rfl ?_
  refine vr_iast (q := 28) dX7_addStranger_27 rfl ⟨by omega, by omega⟩ ?_
  refine vr_aload_n (q := 29) dX7_addStranger_28 rfl rfl ?_
  refine vr_getR (q := 32) dX7_addStranger_29 rfl fX7_38 rfl y_X7_9 (by first | (simp only [Int.reduceAdd]; rfl) | rfl) ?_
  refine vr_aload_n (q := 33) dX7_addStranger_32 rfl rfl ?_
  refine vr_getV (ji := 3) (q := 36) dX7_addStranger_33 rfl fX7_19 rfl rfl (by rw [hs_n (by omega), hs_n (by omega)]) ?_
  refine vr_iconst (q := 37) dX7_addStranger_36 rfl ⟨by decide, by decide⟩ ?_
  refine vr_iast (q := 38) dX7_addStranger_37 rfl ⟨by omega, by omega⟩ ?_
  refine vr_aload_n (q := 39) dX7_addStranger_38 rfl rfl ?_
  refine vr_getR (q := 42) dX7_addStranger_39 rfl fX7_41 rfl y_X7_10 (by first | (simp only [Int.reduceAdd]; rfl) | rfl) ?_
  refine vr_aload_n (q := 43) dX7_addStranger_42 rfl rfl ?_
  refine vr_getV (ji := 3) (q := 46) dX7_addStranger_43 rfl fX7_19 rfl rfl (by rw [hs_n (by omega), hs_n (by omega), hs_n (by omega)]) ?_
  refine vr_iconst (q := 47) dX7_addStranger_46 rfl ⟨by decide, by decide⟩ ?_
  refine vr_iast (q := 48) dX7_addStranger_47 rfl ⟨by omega, by omega⟩ ?_
  refine vr_aload_n (q := 49) dX7_addStranger_48 rfl rfl ?_
  refine vr_dup (q := 50) dX7_addStranger_49 rfl rfl ?_
  refine vr_getV (ji := 3) (q := 53) dX7_addStranger_50 rfl fX7_19 rfl rfl (by rw [hs_n (by omega), hs_n (by omega), hs_n (by omega), hs_n (by omega)]) ?_
  refine vr_iconst (q := 54) dX7_addStranger_53 rfl ⟨by decide, by decide⟩ ?_
  refine vr_iaddN (q := 55) dX7_addStranger_54 rfl ⟨by omega, by omega⟩ ?_
  refine vr_put (ji := 3) (q := 58) dX7_addStranger_55 rfl pX7_19 rfl rfl ?_
  refine vr_vret dX7_addStranger_58 rfl ?_
  first | exact kk | (exfalso; omega) | (repeat (first | exact kk | rw [if_pos (by omega)] at kk | rw [if_neg (by omega)] at kk))
theorem c_noteSupper {s t : Int} (hs : 0 ≤ s ∧ s < 4) (kk : Post none (hs_ (hs_ h 7 1 (sw_32 (h 7 1 - 1))) 11 s t)) : Ctr_ g d mX7_noteSupper [sv_r 4 6 7, sv_i s, sv_i t] h Post := by
  refine V_mk (by decide +kernel) (Or.inl ⟨rfl, rfl⟩) (Nat.le_of_ble_eq_true rfl) (by simp [sv_c]) ?_
  show V_ _ _ _ 0 [_, _, _] [] _ _
  refine vr_aload_n (q := 1) dX7_noteSupper_0 rfl rfl ?_
  refine vr_dup (q := 2) dX7_noteSupper_1 rfl rfl ?_
  refine vr_getI (ji := 1) (q := 5) dX7_noteSupper_2 rfl fX7_13 rfl rfl ?_
  refine vr_iconst (q := 6) dX7_noteSupper_5 rfl ⟨by decide, by decide⟩ ?_
  refine vr_isub (q := 7) dX7_noteSupper_6 rfl ?_
  refine vr_put (ji := 1) (q := 10) dX7_noteSupper_7 rfl pX7_13 rfl rfl ?_
  refine vr_aload_n (q := 11) dX7_noteSupper_10 rfl rfl ?_
  refine vr_getR (q := 14) dX7_noteSupper_11 rfl fX7_32 rfl y_X7_7 (by first | (simp only [Int.reduceAdd]; rfl) | rfl) ?_
  refine vr_iload_n (q := 15) dX7_noteSupper_14 rfl rfl ?_
  refine vr_iload_n (q := 16) dX7_noteSupper_15 rfl rfl ?_
  refine vr_iast (q := 17) dX7_noteSupper_16 rfl ⟨by omega, by omega⟩ ?_
  refine vr_vret dX7_noteSupper_17 rfl ?_
  first | exact kk | (exfalso; omega) | (repeat (first | exact kk | rw [if_pos (by omega)] at kk | rw [if_neg (by omega)] at kk))
theorem c_noteForgotten {s l : Int} (hs : 0 ≤ s ∧ s < 4) (kk : Post none (hs_ (hs_ h 13 s (sb_iand (h 13 s) (sb_ixor (sb_ishl 1 l) (-1)))) 14 s (sb_iand (h 14 s) (sb_ixor (sb_ishl 1 l) (-1))))) : Ctr_ g d mX7_noteForgotten [sv_r 4 6 7, sv_i s, sv_i l] h Post := by
  refine V_mk (by decide +kernel) (Or.inl ⟨rfl, rfl⟩) (Nat.le_of_ble_eq_true rfl) (by simp [sv_c]) ?_
  show V_ _ _ _ 0 [_, _, _] [] _ _
  refine vr_aload_n (q := 1) dX7_noteForgotten_0 rfl rfl ?_
  refine vr_getR (q := 4) dX7_noteForgotten_1 rfl fX7_38 rfl y_X7_9 (by first | (simp only [Int.reduceAdd]; rfl) | rfl) ?_
  refine vr_iload_n (q := 5) dX7_noteForgotten_4 rfl rfl ?_
  refine vr_dup2 (q := 6) dX7_noteForgotten_5 rfl rfl rfl ?_
  refine vr_iald (q := 7) dX7_noteForgotten_6 rfl ⟨by omega, by omega⟩ ?_
  refine vr_iconst (q := 8) dX7_noteForgotten_7 rfl ⟨by decide, by decide⟩ ?_
  refine vr_iload_n (q := 9) dX7_noteForgotten_8 rfl rfl ?_
  refine vr_ishl (q := 10) dX7_noteForgotten_9 rfl ?_
  refine vr_iconst (q := 11) dX7_noteForgotten_10 rfl ⟨by decide, by decide⟩ ?_
  refine vr_ixor (q := 12) dX7_noteForgotten_11 rfl ?_
  refine vr_iand (q := 13) dX7_noteForgotten_12 rfl ?_
  refine vr_iast (q := 14) dX7_noteForgotten_13 rfl ⟨by omega, by omega⟩ ?_
  refine vr_aload_n (q := 15) dX7_noteForgotten_14 rfl rfl ?_
  refine vr_getR (q := 18) dX7_noteForgotten_15 rfl fX7_41 rfl y_X7_10 (by first | (simp only [Int.reduceAdd]; rfl) | rfl) ?_
  refine vr_iload_n (q := 19) dX7_noteForgotten_18 rfl rfl ?_
  refine vr_dup2 (q := 20) dX7_noteForgotten_19 rfl rfl rfl ?_
  refine vr_ialdV (q := 21) dX7_noteForgotten_20 rfl ⟨by omega, by omega⟩ (hs_n (by omega)) ?_
  refine vr_iconst (q := 22) dX7_noteForgotten_21 rfl ⟨by decide, by decide⟩ ?_
  refine vr_iload_n (q := 23) dX7_noteForgotten_22 rfl rfl ?_
  refine vr_ishl (q := 24) dX7_noteForgotten_23 rfl ?_
  refine vr_iconst (q := 25) dX7_noteForgotten_24 rfl ⟨by decide, by decide⟩ ?_
  refine vr_ixor (q := 26) dX7_noteForgotten_25 rfl ?_
  refine vr_iand (q := 27) dX7_noteForgotten_26 rfl ?_
  refine vr_iast (q := 28) dX7_noteForgotten_27 rfl ⟨by omega, by omega⟩ ?_
  refine vr_vret dX7_noteForgotten_28 rfl ?_
  first | exact kk | (exfalso; omega) | (repeat (first | exact kk | rw [if_pos (by omega)] at kk | rw [if_neg (by omega)] at kk))
/-- the current town, when a stranger has been told a lie -/
def nt_ (h : SH_) (s l b t : Int) : SH_ := hs_ (hs_ (hs_ (hs_ h 13 s (sb_ior (h 13 s) (sb_ishl 1 l))) 14 s (if b = 0 then h 14 s else sb_ior (h 14 s) (sb_ishl 1 l))) 7 1 (sw_32 (h 7 1 + (if b = 0 then -(h 7 0) else h 7 0)))) 11 s t
theorem hs_same (h : SH_) (a b : Int) : hs_ h a b (h a b) = h := by
  funext x y
  unfold hs_
  split
  · next c => rw [c.1, c.2]
  · rfl
theorem c_noteTold {s l b t : Int} (hs : 0 ≤ s ∧ s < 4) (h0 : 0 ≤ h 7 0 ∧ h 7 0 ≤ 9) (kk : Post none (nt_ h s l b t)) : Ctr_ g d mX7_noteTold [sv_r 4 6 7, sv_i s, sv_i l, sv_i b, sv_i t] h Post := by
  unfold nt_ at kk
  refine V_mk (by decide +kernel) (Or.inl ⟨rfl, rfl⟩) (Nat.le_of_ble_eq_true rfl) (by simp [sv_c]) ?_
  show V_ _ _ _ 0 [_, _, _, _, _] [] _ _
  refine vr_aload_n (q := 1) dX7_noteTold_0 rfl rfl ?_
  refine vr_getR (q := 4) dX7_noteTold_1 rfl fX7_38 rfl y_X7_9 (by first | (simp only [Int.reduceAdd]; rfl) | rfl) ?_
  refine vr_iload_n (q := 5) dX7_noteTold_4 rfl rfl ?_
  refine vr_dup2 (q := 6) dX7_noteTold_5 rfl rfl rfl ?_
  refine vr_iald (q := 7) dX7_noteTold_6 rfl ⟨by omega, by omega⟩ ?_
  refine vr_iconst (q := 8) dX7_noteTold_7 rfl ⟨by decide, by decide⟩ ?_
  refine vr_iload_n (q := 9) dX7_noteTold_8 rfl rfl ?_
  refine vr_ishl (q := 10) dX7_noteTold_9 rfl ?_
  refine vr_ior (q := 11) dX7_noteTold_10 rfl ?_
  refine vr_iast (q := 12) dX7_noteTold_11 rfl ⟨by omega, by omega⟩ ?_
  refine vr_iload_n (q := 13) dX7_noteTold_12 rfl rfl ?_
  -- at X7.noteTold 13: .ifCond .eq 15
  refine vr_if_eq (t := 28) (q := 16) dX7_noteTold_13 (by decide) rfl (fun c1 => ?_) (fun c1 => ?_)
  · rw [if_pos c1, if_pos c1] at kk
    have e : hs_ (hs_ h 13 s (sb_ior (h 13 s) (sb_ishl 1 l))) 14 s (h 14 s) = hs_ h 13 s (sb_ior (h 13 s) (sb_ishl 1 l)) := by
      have e2 := hs_same (hs_ h 13 s (sb_ior (h 13 s) (sb_ishl 1 l))) 14 s
      rw [hs_n (a := 14) (by omega)] at e2
      exact e2
    rw [e] at kk
    refine vr_aload_n (q := 29) dX7_noteTold_28 rfl rfl ?_
    refine vr_dup (q := 30) dX7_noteTold_29 rfl rfl ?_
    refine vr_getV (ji := 1) (q := 33) dX7_noteTold_30 rfl fX7_13 rfl rfl (hs_n (by omega)) ?_
    refine vr_iload_n (q := 34) dX7_noteTold_33 rfl rfl ?_
    -- at X7.noteTold 34: .ifCond .eq 10
    refine vr_if_eq (t := 44) (q := 37) dX7_noteTold_34 (by decide) rfl (fun _ => ?_) (fun c9 => absurd c9 (by omega))
    refine vr_aload_n (q := 45) dX7_noteTold_44 rfl rfl ?_
    refine vr_getV (ji := 0) (q := 48) dX7_noteTold_45 rfl fX7_7 rfl rfl (hs_n (by omega)) ?_
    refine vr_ineg (q := 49) dX7_noteTold_48 rfl ⟨by omega, by omega⟩ ?_
    refine vr_iadd (q := 50) dX7_noteTold_49 rfl ?_
    refine vr_put (ji := 1) (q := 53) dX7_noteTold_50 rfl pX7_13 rfl rfl ?_
    refine vr_aload_n (q := 54) dX7_noteTold_53 rfl rfl ?_
    refine vr_getR (q := 57) dX7_noteTold_54 rfl fX7_32 rfl y_X7_7 (by first | (simp only [Int.reduceAdd]; rfl) | rfl) ?_
    refine vr_iload_n (q := 58) dX7_noteTold_57 rfl rfl ?_
    refine vr_iload (q := 60) dX7_noteTold_58 rfl rfl ?_
    refine vr_iast (q := 61) dX7_noteTold_60 rfl ⟨by omega, by omega⟩ ?_
    -- at X7.noteTold 61: .return_
    refine vr_vret dX7_noteTold_61 rfl ?_
    exact kk
  · rw [if_neg c1, if_neg c1] at kk
    refine vr_aload_n (q := 17) dX7_noteTold_16 rfl rfl ?_
    refine vr_getR (q := 20) dX7_noteTold_17 rfl fX7_41 rfl y_X7_10 (by first | (simp only [Int.reduceAdd]; rfl) | rfl) ?_
    refine vr_iload_n (q := 21) dX7_noteTold_20 rfl rfl ?_
    refine vr_dup2 (q := 22) dX7_noteTold_21 rfl rfl rfl ?_
    refine vr_ialdV (q := 23) dX7_noteTold_22 rfl ⟨by omega, by omega⟩ (hs_n (by omega)) ?_
    refine vr_iconst (q := 24) dX7_noteTold_23 rfl ⟨by decide, by decide⟩ ?_
    refine vr_iload_n (q := 25) dX7_noteTold_24 rfl rfl ?_
    refine vr_ishl (q := 26) dX7_noteTold_25 rfl ?_
    refine vr_ior (q := 27) dX7_noteTold_26 rfl ?_
    refine vr_iast (q := 28) dX7_noteTold_27 rfl ⟨by omega, by omega⟩ ?_
    refine vr_aload_n (q := 29) dX7_noteTold_28 rfl rfl ?_
    refine vr_dup (q := 30) dX7_noteTold_29 rfl rfl ?_
    refine vr_getV (ji := 1) (q := 33) dX7_noteTold_30 rfl fX7_13 rfl rfl (by rw [hs_n (by omega), hs_n (by omega)]) ?_
    refine vr_iload_n (q := 34) dX7_noteTold_33 rfl rfl ?_
    -- at X7.noteTold 34: .ifCond .eq 10
    refine vr_if_eq (t := 44) (q := 37) dX7_noteTold_34 (by decide) rfl (fun c9 => absurd c9 (by omega)) (fun _ => ?_)
    refine vr_aload_n (q := 38) dX7_noteTold_37 rfl rfl ?_
    refine vr_getV (ji := 0) (q := 41) dX7_noteTold_38 rfl fX7_7 rfl rfl (by rw [hs_n (by omega), hs_n (by omega)]) ?_
    refine vr_goto (q := 49) dX7_noteTold_41 (by decide) ?_
    refine vr_iadd (q := 50) dX7_noteTold_49 rfl ?_
    refine vr_put (ji := 1) (q := 53) dX7_noteTold_50 rfl pX7_13 rfl rfl ?_
    refine vr_aload_n (q := 54) dX7_noteTold_53 rfl rfl ?_
    refine vr_getR (q := 57) dX7_noteTold_54 rfl fX7_32 rfl y_X7_7 (by first | (simp only [Int.reduceAdd]; rfl) | rfl) ?_
    refine vr_iload_n (q := 58) dX7_noteTold_57 rfl rfl ?_
    refine vr_iload (q := 60) dX7_noteTold_58 rfl rfl ?_
    refine vr_iast (q := 61) dX7_noteTold_60 rfl ⟨by omega, by omega⟩ ?_
    -- at X7.noteTold 61: .return_
    refine vr_vret dX7_noteTold_61 rfl ?_
    exact kk
end PT_
end
section
/-- the town at k is that at o, as far as copied; all else is as it was -/
def tc_ (h : SH_) (k o i j : Int) (hc : SH_) : Prop := (∀ a, (a < k ∨ k + 7 < a) → hc a = h a) ∧ (∀ b, 0 ≤ b → b < 4 → hc k b = h o b) ∧
  (∀ b, 0 ≤ b → b < i → hc (k + 1) b = h (o + 1) b ∧ hc (k + 2) b = h (o + 2) b ∧ hc (k + 3) b = h (o + 3) b) ∧
  (∀ b, 0 ≤ b → b < j → hc (k + 4) b = h (o + 4) b ∧ hc (k + 5) b = h (o + 5) b ∧ hc (k + 6) b = h (o + 6) b ∧ hc (k + 7) b = h (o + 7) b)
theorem tc_i {h hc : SH_} {k o i : Int} (hi : tc_ h k o i 0 hc) : tc_ h k o (i + 1) 0 (hs_ (hs_ (hs_ hc (k + 1) i (h (o + 1) i)) (k + 2) i (h (o + 2) i)) (k + 3) i (h (o + 3) i)) := by
  obtain ⟨h1, h2, h3, h4⟩ := hi
  refine ⟨fun a ha => ?_, fun b b0 b1 => ?_, fun b b0 b1 => ?_, fun b b0 b1 => by omega⟩
  · rw [hs_k (by omega), hs_k (by omega), hs_k (by omega)]
    exact h1 a ha
  · rw [hs_k (by omega), hs_k (by omega), hs_k (by omega)]
    exact h2 b b0 b1
  · refine ⟨?_, ?_, ?_⟩
    · rw [hs_k (by omega), hs_k (by omega)]
      by_cases hb : b = i
      · subst hb; rw [hs_e]
      · rw [hs_n (by omega)]; exact (h3 b b0 (by omega)).1
    · rw [hs_k (by omega)]
      by_cases hb : b = i
      · subst hb; rw [hs_e]
      · rw [hs_n (by omega), hs_k (by omega)]; exact (h3 b b0 (by omega)).2.1
    · by_cases hb : b = i
      · subst hb; rw [hs_e]
      · rw [hs_n (by omega), hs_k (by omega), hs_k (by omega)]; exact (h3 b b0 (by omega)).2.2
theorem tc_j {h hc : SH_} {k o j : Int} (hi : tc_ h k o 6 j hc) : tc_ h k o 6 (j + 1) (hs_ (hs_ (hs_ (hs_ hc (k + 4) j (h (o + 4) j)) (k + 5) j (h (o + 5) j)) (k + 6) j (h (o + 6) j)) (k + 7) j (h (o + 7) j)) := by
  obtain ⟨h1, h2, h3, h4⟩ := hi
  refine ⟨fun a ha => ?_, fun b b0 b1 => ?_, fun b b0 b1 => ?_, fun b b0 b1 => ?_⟩
  · rw [hs_k (by omega), hs_k (by omega), hs_k (by omega), hs_k (by omega)]
    exact h1 a ha
  · rw [hs_k (by omega), hs_k (by omega), hs_k (by omega), hs_k (by omega)]
    exact h2 b b0 b1
  · rw [hs_k (by omega), hs_k (by omega), hs_k (by omega), hs_k (by omega), hs_k (by omega), hs_k (by omega), hs_k (by omega), hs_k (by omega), hs_k (by omega), hs_k (by omega), hs_k (by omega), hs_k (by omega)]
    exact h3 b b0 b1
  · refine ⟨?_, ?_, ?_, ?_⟩
    · rw [hs_k (by omega), hs_k (by omega), hs_k (by omega)]
      by_cases hb : b = j
      · subst hb; rw [hs_e]
      · rw [hs_n (by omega)]; exact (h4 b b0 (by omega)).1
    · rw [hs_k (by omega), hs_k (by omega)]
      by_cases hb : b = j
      · subst hb; rw [hs_e]
      · rw [hs_n (by omega), hs_k (by omega)]; exact (h4 b b0 (by omega)).2.1
    · rw [hs_k (by omega)]
      by_cases hb : b = j
      · subst hb; rw [hs_e]
      · rw [hs_n (by omega), hs_k (by omega), hs_k (by omega)]; exact (h4 b b0 (by omega)).2.2.1
    · by_cases hb : b = j
      · subst hb; rw [hs_e]
      · rw [hs_n (by omega), hs_k (by omega), hs_k (by omega), hs_k (by omega)]; exact (h4 b b0 (by omega)).2.2.2
section PT2_
variable {g : SG_} {d : Nat} {h : SH_} {Post : Option SV_ → SH_ → Prop}
theorem l_become2 {k o : Int} (hko : k + 8 ≤ o ∨ o + 8 ≤ k) (kk : ∀ h2, tc_ h k o 6 4 h2 → Post none h2) : ∀ (m i : Nat), (i : Int) + m = 4 → ∀ hc, tc_ h k o 6 i hc → V_ g d mX7_become 84 [some (sv_r 4 6 k), some (sv_r 4 6 o), some (sv_i i)] [] hc Post := by
  intro m
  induction m with
  | zero =>
    intro i hi hc hI
    rw [show (i : Int) = 4 by omega] at hI
    refine vr_iload_n (q := 85) dX7_become_84 rfl rfl ?_
    refine vr_iconst (q := 86) dX7_become_85 rfl ⟨by decide, by decide⟩ ?_
    -- at X7.become 86: .if_icmp .ge 57
    refine vr_ic_ge (t := 143) (q := 89) dX7_become_86 (by decide) rfl (fun _ => ?_) (fun c9 => absurd c9 (by omega))
    refine vr_vret dX7_become_143 rfl ?_
    exact kk hc hI
  | succ m ih =>
    intro i hi hc hI
    have e4 := hI.1 (o + 4) (by omega)
    have e5 := hI.1 (o + 5) (by omega)
    have e6 := hI.1 (o + 6) (by omega)
    have e7 := hI.1 (o + 7) (by omega)
    refine vr_iload_n (q := 85) dX7_become_84 rfl rfl ?_
    refine vr_iconst (q := 86) dX7_become_85 rfl ⟨by decide, by decide⟩ ?_
    -- at X7.become 86: .if_icmp .ge 57
    refine vr_ic_ge (t := 143) (q := 89) dX7_become_86 (by decide) rfl (fun c9 => absurd c9 (by omega)) (fun _ => ?_)
    refine vr_aload_n (q := 90) dX7_become_89 rfl rfl ?_
    refine vr_getR (q := 93) dX7_become_90 rfl fX7_32 rfl y_X7_7 (by first | (simp only [Int.reduceAdd]; rfl) | rfl) ?_
    refine vr_iload_n (q := 94) dX7_become_93 rfl rfl ?_
    refine vr_aload_n (q := 95) dX7_become_94 rfl rfl ?_
    refine vr_getR (q := 98) dX7_become_95 rfl fX7_32 rfl y_X7_7 (by first | (simp only [Int.reduceAdd]; rfl) | rfl) ?_
    refine vr_iload_n (q := 99) dX7_become_98 rfl rfl ?_
    refine vr_ialdV (q := 100) dX7_become_99 rfl ⟨by omega, by omega⟩ (by rw [e4]) ?_
    refine vr_iast (q := 101) dX7_become_100 rfl ⟨by omega, by omega⟩ ?_
    refine vr_aload_n (q := 102) dX7_become_101 rfl rfl ?_
    refine vr_getR (q := 105) dX7_become_102 rfl fX7_35 rfl y_X7_8 (by first | (simp only [Int.reduceAdd]; rfl) | rfl) ?_
    refine vr_iload_n (q := 106) dX7_become_105 rfl rfl ?_
    refine vr_aload_n (q := 107) dX7_become_106 rfl rfl ?_
    refine vr_getR (q := 110) dX7_become_107 rfl fX7_35 rfl y_X7_8 (by first | (simp only [Int.reduceAdd]; rfl) | rfl) ?_
    refine vr_iload_n (q := 111) dX7_become_110 rfl rfl ?_
    refine vr_ialdV (q := 112) dX7_become_111 rfl ⟨by omega, by omega⟩ (by rw [hs_k (by omega), e5]) ?_
    refine vr_iast (q := 113) dX7_become_112 rfl ⟨by omega, by omega⟩ ?_
    refine vr_aload_n (q := 114) dX7_become_113 rfl rfl ?_
    refine vr_getR (q := 117) dX7_become_114 rfl fX7_38 rfl y_X7_9 (by first | (simp only [Int.reduceAdd]; rfl) | rfl) ?_
    refine vr_iload_n (q := 118) dX7_become_117 rfl rfl ?_
    refine vr_aload_n (q := 119) dX7_become_118 rfl rfl ?_
    refine vr_getR (q := 122) dX7_become_119 rfl fX7_38 rfl y_X7_9 (by first | (simp only [Int.reduceAdd]; rfl) | rfl) ?_
    refine vr_iload_n (q := 123) dX7_become_122 rfl rfl ?_
    refine vr_ialdV (q := 124) dX7_become_123 rfl ⟨by omega, by omega⟩ (by rw [hs_k (by omega), hs_k (by omega), e6]) ?_
    refine vr_iast (q := 125) dX7_become_124 rfl ⟨by omega, by omega⟩ ?_
    refine vr_aload_n (q := 126) dX7_become_125 rfl rfl ?_
    refine vr_getR (q := 129) dX7_become_126 rfl fX7_41 rfl y_X7_10 (by first | (simp only [Int.reduceAdd]; rfl) | rfl) ?_
    refine vr_iload_n (q := 130) dX7_become_129 rfl rfl ?_
    refine vr_aload_n (q := 131) dX7_become_130 rfl rfl ?_
    refine vr_getR (q := 134) dX7_become_131 rfl fX7_41 rfl y_X7_10 (by first | (simp only [Int.reduceAdd]; rfl) | rfl) ?_
    refine vr_iload_n (q := 135) dX7_become_134 rfl rfl ?_
    refine vr_ialdV (q := 136) dX7_become_135 rfl ⟨by omega, by omega⟩ (by rw [hs_k (by omega), hs_k (by omega), hs_k (by omega), e7]) ?_
    refine vr_iast (q := 137) dX7_become_136 rfl ⟨by omega, by omega⟩ ?_
    refine vr_iinc (q := 140) dX7_become_137 rfl rfl ⟨by omega, by omega⟩ (Nat.le_of_ble_eq_true rfl) rfl rfl ?_
    refine vr_goto (q := 84) dX7_become_140 (by decide) ?_
    -- at X7.become 84: .iload_n 2
    exact ih (i + 1) (by omega) _ (tc_j hI)
theorem l_become1 {k o : Int} (hko : k + 8 ≤ o ∨ o + 8 ≤ k) (kk : ∀ h2, tc_ h k o 6 4 h2 → Post none h2) : ∀ (m i : Nat), (i : Int) + m = 6 → ∀ hc, tc_ h k o i 0 hc → V_ g d mX7_become 34 [some (sv_r 4 6 k), some (sv_r 4 6 o), some (sv_i i)] [] hc Post := by
  intro m
  induction m with
  | zero =>
    intro i hi hc hI
    rw [show (i : Int) = 6 by omega] at hI
    refine vr_iload_n (q := 35) dX7_become_34 rfl rfl ?_
    refine vr_bipush (q := 37) dX7_become_35 rfl ⟨by decide, by decide⟩ (by decide) ?_
    -- at X7.become 37: .if_icmp .ge 45
    refine vr_ic_ge (t := 82) (q := 40) dX7_become_37 (by decide) rfl (fun _ => ?_) (fun c9 => absurd c9 (by omega))
    refine vr_iconst (q := 83) dX7_become_82 rfl ⟨by decide, by decide⟩ ?_
    refine vr_istore_n (q := 84) dX7_become_83 rfl rfl (Nat.le_of_ble_eq_true rfl) rfl rfl ?_
    -- at X7.become 84: .iload_n 2
    exact l_become2 hko kk 4 0 (by omega) hc hI
  | succ m ih =>
    intro i hi hc hI
    have e1 := hI.1 (o + 1) (by omega)
    have e2 := hI.1 (o + 2) (by omega)
    have e3 := hI.1 (o + 3) (by omega)
    refine vr_iload_n (q := 35) dX7_become_34 rfl rfl ?_
    refine vr_bipush (q := 37) dX7_become_35 rfl ⟨by decide, by decide⟩ (by decide) ?_
    -- at X7.become 37: .if_icmp .ge 45
    refine vr_ic_ge (t := 82) (q := 40) dX7_become_37 (by decide) rfl (fun c9 => absurd c9 (by omega)) (fun _ => ?_)
    refine vr_aload_n (q := 41) dX7_become_40 rfl rfl ?_
    refine vr_getR (q := 44) dX7_become_41 rfl fX7_22 rfl y_X7_4 (by first | (simp only [Int.reduceAdd]; rfl) | rfl) ?_
    refine vr_iload_n (q := 45) dX7_become_44 rfl rfl ?_
    refine vr_aload_n (q := 46) dX7_become_45 rfl rfl ?_
    refine vr_getR (q := 49) dX7_become_46 rfl fX7_22 rfl y_X7_4 (by first | (simp only [Int.reduceAdd]; rfl) | rfl) ?_
    refine vr_iload_n (q := 50) dX7_become_49 rfl rfl ?_
    refine vr_ialdV (q := 51) dX7_become_50 rfl ⟨by omega, by omega⟩ (by rw [e1]) ?_
    refine vr_iast (q := 52) dX7_become_51 rfl ⟨by omega, by omega⟩ ?_
    refine vr_aload_n (q := 53) dX7_become_52 rfl rfl ?_
    refine vr_getR (q := 56) dX7_become_53 rfl fX7_26 rfl y_X7_5 (by first | (simp only [Int.reduceAdd]; rfl) | rfl) ?_
    refine vr_iload_n (q := 57) dX7_become_56 rfl rfl ?_
    refine vr_aload_n (q := 58) dX7_become_57 rfl rfl ?_
    refine vr_getR (q := 61) dX7_become_58 rfl fX7_26 rfl y_X7_5 (by first | (simp only [Int.reduceAdd]; rfl) | rfl) ?_
    refine vr_iload_n (q := 62) dX7_become_61 rfl rfl ?_
    refine vr_ialdV (q := 63) dX7_become_62 rfl ⟨by omega, by omega⟩ (by rw [hs_k (by omega), e2]) ?_
    refine vr_iast (q := 64) dX7_become_63 rfl ⟨by omega, by omega⟩ ?_
    refine vr_aload_n (q := 65) dX7_become_64 rfl rfl ?_
    refine vr_getR (q := 68) dX7_become_65 rfl fX7_29 rfl y_X7_6 (by first | (simp only [Int.reduceAdd]; rfl) | rfl) ?_
    refine vr_iload_n (q := 69) dX7_become_68 rfl rfl ?_
    refine vr_aload_n (q := 70) dX7_become_69 rfl rfl ?_
    refine vr_getR (q := 73) dX7_become_70 rfl fX7_29 rfl y_X7_6 (by first | (simp only [Int.reduceAdd]; rfl) | rfl) ?_
    refine vr_iload_n (q := 74) dX7_become_73 rfl rfl ?_
    refine vr_ialdV (q := 75) dX7_become_74 rfl ⟨by omega, by omega⟩ (by rw [hs_k (by omega), hs_k (by omega), e3]) ?_
    refine vr_iast (q := 76) dX7_become_75 rfl ⟨by omega, by omega⟩ ?_
    refine vr_iinc (q := 79) dX7_become_76 rfl rfl ⟨by omega, by omega⟩ (Nat.le_of_ble_eq_true rfl) rfl rfl ?_
    refine vr_goto (q := 34) dX7_become_79 (by decide) ?_
    -- at X7.become 34: .iload_n 2
    exact ih (i + 1) (by omega) _ (tc_i hI)
theorem c_townBecome {k o : Int} (hko : k + 8 ≤ o ∨ o + 8 ≤ k) (kk : ∀ h2, tc_ h k o 6 4 h2 → Post none h2) : Ctr_ g d mX7_become [sv_r 4 6 k, sv_r 4 6 o] h Post := by
  refine V_mk (by decide +kernel) (Or.inl ⟨rfl, rfl⟩) (Nat.le_of_ble_eq_true rfl) (by simp [sv_c]) ?_
  show V_ _ _ _ 0 [_, _, _] [] _ _
  refine vr_aload_n (q := 1) dX7_become_0 rfl rfl ?_
  refine vr_aload_n (q := 2) dX7_become_1 rfl rfl ?_
  refine vr_getI (ji := 0) (q := 5) dX7_become_2 rfl fX7_7 rfl rfl ?_
  refine vr_put (ji := 0) (q := 8) dX7_become_5 rfl pX7_7 rfl rfl ?_
  refine vr_aload_n (q := 9) dX7_become_8 rfl rfl ?_
  refine vr_aload_n (q := 10) dX7_become_9 rfl rfl ?_
  refine vr_getV (ji := 1) (q := 13) dX7_become_10 rfl fX7_13 rfl rfl (by rw [hs_k (by omega)]) ?_
  refine vr_put (ji := 1) (q := 16) dX7_become_13 rfl pX7_13 rfl rfl ?_
  refine vr_aload_n (q := 17) dX7_become_16 rfl rfl ?_
  refine vr_aload_n (q := 18) dX7_become_17 rfl rfl ?_
  refine vr_getV (ji := 2) (q := 21) dX7_become_18 rfl fX7_16 rfl rfl (by rw [hs_k (by omega), hs_k (by omega)]) ?_
  refine vr_put (ji := 2) (q := 24) dX7_become_21 rfl pX7_16 rfl rfl ?_
  refine vr_aload_n (q := 25) dX7_become_24 rfl rfl ?_
  refine vr_aload_n (q := 26) dX7_become_25 rfl rfl ?_
  refine vr_getV (ji := 3) (q := 29) dX7_become_26 rfl fX7_19 rfl rfl (by rw [hs_k (by omega), hs_k (by omega), hs_k (by omega)]) ?_
  refine vr_put (ji := 3) (q := 32) dX7_become_29 rfl pX7_19 rfl rfl ?_
  refine vr_iconst (q := 33) dX7_become_32 rfl ⟨by decide, by decide⟩ ?_
  refine vr_istore_n (q := 34) dX7_become_33 rfl rfl (Nat.le_of_ble_eq_true rfl) rfl rfl ?_
  -- at X7.become 34: .iload_n 2
  refine l_become1 hko kk 6 0 (by omega) _ ⟨fun a ha => ?_, fun b b0 b1 => ?_, fun b b0 b1 => absurd b1 (by omega), fun b b0 b1 => absurd b1 (by omega)⟩
  · rw [hs_k (by omega), hs_k (by omega), hs_k (by omega), hs_k (by omega)]
  · rcases (by omega : b = 0 ∨ b = 1 ∨ b = 2 ∨ b = 3) with rfl | rfl | rfl | rfl <;> simp [hs_]
end PT2_
end
section
/-- n items of k0 from sp on come to k1 from dp on -/
def hc_ (h : SH_) (k0 sp k1 dp n : Int) : SH_ := fun a b => if a = k1 ∧ dp ≤ b ∧ b < dp + n then h k0 (sp + (b - dp)) else h a b
theorem ac_w0 : Cond.native arraycopyName ∈ lw_g ∧ Cond.static arraycopyName ∈ lw_g ∧ Cond.initialized "java/lang/System" ∈ lw_g := by decide +kernel
section VAC_
variable {g : SG_} {d : Nat} {M : MD_} {pc q : Nat} {ls : List (Option SV_)} {rest : List SV_} {h : SH_} {Post : Option SV_ → SH_ → Prop}
theorem si_nn {x : Int} (hx : sr_32 x) (h0 : 0 ≤ x) : ¬ Int32.ofInt x < 0 := fun z => by
  rw [si_0, si_lt hx sr_320] at z
  omega
theorem vr_acopy {idx n0 n1 : Nat} {k0 k1 sp dp n : Int} (hd : decode M.2.1 pc = .ok (.invokestatic idx, 3)) (hq : pc + 3 = q) (hw : Cond.methodLink M.1.cls idx arraycopyName ∈ lw_g) (hW : (rest.map sv_c).sum ≤ 8) (hi : 0 ≤ sp ∧ 0 ≤ dp ∧ 0 ≤ n ∧ sp + n ≤ n0 ∧ dp + n ≤ n1) (kk : V_ g (d + 1) M q ls rest (hc_ h k0 sp k1 dp n) Post) : V_ g (d + 1) M pc ls (sv_i n :: sv_i dp :: sv_r 0 n1 k1 :: sv_i sp :: sv_r 0 n0 k0 :: rest) h Post := by
  subst hq
  intro p e R s m args below meth cd cells slots QQ C hr H locs lsA oL oS oH hP hS hl
  obtain ⟨hx, hb, hml, hown, hts, hK, hR1, hR2, hR3, hR4⟩ := id C
  have on := so_hi oS
  have od := so_hi (so_t oS)
  have os := so_hi (so_t (so_t (so_t oS)))
  obtain ⟨a0, a1⟩ := so_rk (so_t (so_t oS)) (by decide)
  obtain ⟨b0, b1⟩ := so_rk (so_t (so_t (so_t (so_t oS)))) (by decide)
  have oR : sv_oks rest := so_t (so_t (so_t (so_t (so_t oS))))
  have hr0 : List.map (sv_v g) (sv_i n :: sv_i dp :: sv_r 0 n1 k1 :: sv_i sp :: sv_r 0 n0 k0 :: rest) = .int (Int32.ofInt n) :: .int (Int32.ofInt dp) :: .ref (sg_a g k1.toNat) :: .int (Int32.ofInt sp) :: .ref (sg_a g k0.toNat) :: List.map (sv_v g) rest := by
    rw [List.map_cons, List.map_cons, List.map_cons, List.map_cons, List.map_cons, sv_vr (by decide), sv_vr (by decide)]
    rfl
  rw [hr0]
  have hnw : nativeFrameWords "java/lang/System" "arraycopy" 5 ≤ 40 := by decide
  refine va_copyi (D := sg_D g) (cl := vwCl) (ty := .int) hx hb (hml.trans hl.1.symm) hown (hts _ hw) (hts _ ac_w0.1) (hts _ ac_w0.2.1) (hts _ ac_w0.2.2) hK.1 hP (sg_Dw hK h) hS k0.toNat k1.toNat 0 0 (sw_get b0 b1) (sw_get a0 a1) rfl rfl rfl (si_nn os hi.1) (si_nn od hi.2.1) (si_nn on hi.2.2.1) (by rw [si_cl os, si_cl on]; omega) (by rw [si_cl od, si_cl on]; omega) (fun _ _ => rfl) (by omega) (by rw [sm_cat]; omega) hd (fun H1 locs1 hP1 hD1 hS1 => ?_)
  rw [si_cl os, si_cl od, si_cl on] at hP1
  have hE : va_cpy (fun j : Nat => Int32.ofInt (h k0 (j : Int))) (fun j : Nat => Int32.ofInt (h k1 (j : Int))) sp.toNat dp.toNat n.toNat = fun j : Nat => Int32.ofInt (hc_ h k0 sp k1 dp n k1 (j : Int)) := by
    funext j
    unfold va_cpy hc_
    by_cases c1 : dp.toNat ≤ j ∧ j < dp.toNat + n.toNat
    · rw [if_pos c1, if_pos ⟨rfl, by omega, by omega⟩]
      have e1 : (((sp.toNat + (j - dp.toNat)) : Nat) : Int) = sp + ((j : Int) - dp) := by omega
      show Int32.ofInt (h k0 (((sp.toNat + (j - dp.toNat)) : Nat) : Int)) = _
      rw [e1]
    · rw [if_neg c1, if_neg (fun z => c1 ⟨by omega, by omega⟩)]
  rw [hE, sw_set a0 a1 (fun a ha => by funext b; unfold hc_; rw [if_neg (fun z => ha z.1)]) (E := .inl (sg_I g, n1, .inl (fun j : Nat => Int32.ofInt (hc_ h k0 sp k1 dp n k1 (j : Int))))) rfl] at hP1
  exact kk p e R s m args below meth cd cells slots QQ C hr H1 locs1 lsA oL oR (fun a b => by unfold hc_; split <;> exact oH _ _) hP1 hS1 hl
end VAC_
end
section
theorem dX6_init_0 : decode cX6_init 0 = .ok (.aload_n 0, 1) := by decide +kernel
theorem dX6_init_1 : decode cX6_init 1 = .ok (.invokespecial 1, 3) := by decide +kernel
theorem dX6_init_4 : decode cX6_init 4 = .ok (.aload_n 0, 1) := by decide +kernel
theorem dX6_init_5 : decode cX6_init 5 = .ok (.bipush 8, 2) := by decide +kernel
theorem dX6_init_7 : decode cX6_init 7 = .ok (.newarray .int, 2) := by decide +kernel
theorem dX6_init_9 : decode cX6_init 9 = .ok (.putfield 9, 3) := by decide +kernel
theorem dX6_init_12 : decode cX6_init 12 = .ok (.aload_n 0, 1) := by decide +kernel
theorem dX6_init_13 : decode cX6_init 13 = .ok (.bipush 8, 2) := by decide +kernel
theorem dX6_init_15 : decode cX6_init 15 = .ok (.newarray .int, 2) := by decide +kernel
theorem dX6_init_17 : decode cX6_init 17 = .ok (.putfield 13, 3) := by decide +kernel
theorem dX6_init_20 : decode cX6_init 20 = .ok (.aload_n 0, 1) := by decide +kernel
theorem dX6_init_21 : decode cX6_init 21 = .ok (.sipush 320, 3) := by decide +kernel
theorem dX6_init_24 : decode cX6_init 24 = .ok (.newarray .int, 2) := by decide +kernel
theorem dX6_init_26 : decode cX6_init 26 = .ok (.putfield 16, 3) := by decide +kernel
theorem dX6_init_29 : decode cX6_init 29 = .ok (.iconst 0, 1) := by decide +kernel
theorem dX6_init_30 : decode cX6_init 30 = .ok (.istore_n 1, 1) := by decide +kernel
theorem dX6_init_31 : decode cX6_init 31 = .ok (.iload_n 1, 1) := by decide +kernel
theorem dX6_init_32 : decode cX6_init 32 = .ok (.bipush 8, 2) := by decide +kernel
theorem dX6_init_34 : decode cX6_init 34 = .ok (.if_icmp .ge 16, 3) := by decide +kernel
theorem dX6_init_37 : decode cX6_init 37 = .ok (.aload_n 0, 1) := by decide +kernel
theorem dX6_init_38 : decode cX6_init 38 = .ok (.getfield 9, 3) := by decide +kernel
theorem dX6_init_41 : decode cX6_init 41 = .ok (.iload_n 1, 1) := by decide +kernel
theorem dX6_init_42 : decode cX6_init 42 = .ok (.iconst (-1), 1) := by decide +kernel
theorem dX6_init_43 : decode cX6_init 43 = .ok (.iastore, 1) := by decide +kernel
theorem dX6_init_44 : decode cX6_init 44 = .ok (.iinc 1 1, 3) := by decide +kernel
theorem dX6_init_47 : decode cX6_init 47 = .ok (.goto (-16), 3) := by decide +kernel
theorem dX6_init_50 : decode cX6_init 50 = .ok (.return_, 1) := by decide +kernel
theorem dX6_isRow_0 : decode cX6_isRow 0 = .ok (.iload_n 0, 1) := by decide +kernel
theorem dX6_isRow_1 : decode cX6_isRow 1 = .ok (.ifCond .lt 13, 3) := by decide +kernel
theorem dX6_isRow_4 : decode cX6_isRow 4 = .ok (.iload_n 0, 1) := by decide +kernel
theorem dX6_isRow_5 : decode cX6_isRow 5 = .ok (.bipush 8, 2) := by decide +kernel
theorem dX6_isRow_7 : decode cX6_isRow 7 = .ok (.if_icmp .ge 7, 3) := by decide +kernel
theorem dX6_isRow_10 : decode cX6_isRow 10 = .ok (.iconst 1, 1) := by decide +kernel
theorem dX6_isRow_11 : decode cX6_isRow 11 = .ok (.goto 4, 3) := by decide +kernel
theorem dX6_isRow_14 : decode cX6_isRow 14 = .ok (.iconst 0, 1) := by decide +kernel
theorem dX6_isRow_15 : decode cX6_isRow 15 = .ok (.ireturn, 1) := by decide +kernel
theorem dX6_isLane_0 : decode cX6_isLane 0 = .ok (.iload_n 0, 1) := by decide +kernel
theorem dX6_isLane_1 : decode cX6_isLane 1 = .ok (.ifCond .lt 12, 3) := by decide +kernel
theorem dX6_isLane_4 : decode cX6_isLane 4 = .ok (.iload_n 0, 1) := by decide +kernel
theorem dX6_isLane_5 : decode cX6_isLane 5 = .ok (.iconst 2, 1) := by decide +kernel
theorem dX6_isLane_6 : decode cX6_isLane 6 = .ok (.if_icmp .gt 7, 3) := by decide +kernel
theorem dX6_isLane_9 : decode cX6_isLane 9 = .ok (.iconst 1, 1) := by decide +kernel
theorem dX6_isLane_10 : decode cX6_isLane 10 = .ok (.goto 4, 3) := by decide +kernel
theorem dX6_isLane_13 : decode cX6_isLane 13 = .ok (.iconst 0, 1) := by decide +kernel
theorem dX6_isLane_14 : decode cX6_isLane 14 = .ok (.ireturn, 1) := by decide +kernel
theorem dX6_isMissing_0 : decode cX6_isMissing 0 = .ok (.aload_n 0, 1) := by decide +kernel
theorem dX6_isMissing_1 : decode cX6_isMissing 1 = .ok (.getfield 9, 3) := by decide +kernel
theorem dX6_isMissing_4 : decode cX6_isMissing 4 = .ok (.iload_n 1, 1) := by decide +kernel
theorem dX6_isMissing_5 : decode cX6_isMissing 5 = .ok (.iaload, 1) := by decide +kernel
theorem dX6_isMissing_6 : decode cX6_isMissing 6 = .ok (.iconst (-1), 1) := by decide +kernel
theorem dX6_isMissing_7 : decode cX6_isMissing 7 = .ok (.if_icmp .ne 7, 3) := by decide +kernel
theorem dX6_isMissing_10 : decode cX6_isMissing 10 = .ok (.iconst 1, 1) := by decide +kernel
theorem dX6_isMissing_11 : decode cX6_isMissing 11 = .ok (.goto 4, 3) := by decide +kernel
theorem dX6_isMissing_14 : decode cX6_isMissing 14 = .ok (.iconst 0, 1) := by decide +kernel
theorem dX6_isMissing_15 : decode cX6_isMissing 15 = .ok (.ireturn, 1) := by decide +kernel
theorem dX6_laneOf_0 : decode cX6_laneOf 0 = .ok (.aload_n 0, 1) := by decide +kernel
theorem dX6_laneOf_1 : decode cX6_laneOf 1 = .ok (.getfield 9, 3) := by decide +kernel
theorem dX6_laneOf_4 : decode cX6_laneOf 4 = .ok (.iload_n 1, 1) := by decide +kernel
theorem dX6_laneOf_5 : decode cX6_laneOf 5 = .ok (.iaload, 1) := by decide +kernel
theorem dX6_laneOf_6 : decode cX6_laneOf 6 = .ok (.ireturn, 1) := by decide +kernel
theorem dX6_hasPlaces_0 : decode cX6_hasPlaces 0 = .ok (.iload_n 2, 1) := by decide +kernel
theorem dX6_hasPlaces_1 : decode cX6_hasPlaces 1 = .ok (.ifCond .lt 23, 3) := by decide +kernel
theorem dX6_hasPlaces_4 : decode cX6_hasPlaces 4 = .ok (.iload_n 3, 1) := by decide +kernel
theorem dX6_hasPlaces_5 : decode cX6_hasPlaces 5 = .ok (.ifCond .lt 19, 3) := by decide +kernel
theorem dX6_hasPlaces_8 : decode cX6_hasPlaces 8 = .ok (.iload_n 2, 1) := by decide +kernel
theorem dX6_hasPlaces_9 : decode cX6_hasPlaces 9 = .ok (.aload_n 0, 1) := by decide +kernel
theorem dX6_hasPlaces_10 : decode cX6_hasPlaces 10 = .ok (.getfield 13, 3) := by decide +kernel
theorem dX6_hasPlaces_13 : decode cX6_hasPlaces 13 = .ok (.iload_n 1, 1) := by decide +kernel
theorem dX6_hasPlaces_14 : decode cX6_hasPlaces 14 = .ok (.iaload, 1) := by decide +kernel
theorem dX6_hasPlaces_15 : decode cX6_hasPlaces 15 = .ok (.iload_n 3, 1) := by decide +kernel
theorem dX6_hasPlaces_16 : decode cX6_hasPlaces 16 = .ok (.isub, 1) := by decide +kernel
theorem dX6_hasPlaces_17 : decode cX6_hasPlaces 17 = .ok (.if_icmp .gt 7, 3) := by decide +kernel
theorem dX6_hasPlaces_20 : decode cX6_hasPlaces 20 = .ok (.iconst 1, 1) := by decide +kernel
theorem dX6_hasPlaces_21 : decode cX6_hasPlaces 21 = .ok (.goto 4, 3) := by decide +kernel
theorem dX6_hasPlaces_24 : decode cX6_hasPlaces 24 = .ok (.iconst 0, 1) := by decide +kernel
theorem dX6_hasPlaces_25 : decode cX6_hasPlaces 25 = .ok (.ireturn, 1) := by decide +kernel
theorem dX6_make_0 : decode cX6_make 0 = .ok (.aload_n 0, 1) := by decide +kernel
theorem dX6_make_1 : decode cX6_make 1 = .ok (.getfield 9, 3) := by decide +kernel
theorem dX6_make_4 : decode cX6_make 4 = .ok (.iload_n 1, 1) := by decide +kernel
theorem dX6_make_5 : decode cX6_make 5 = .ok (.iload_n 2, 1) := by decide +kernel
theorem dX6_make_6 : decode cX6_make 6 = .ok (.iastore, 1) := by decide +kernel
theorem dX6_make_7 : decode cX6_make 7 = .ok (.aload_n 0, 1) := by decide +kernel
theorem dX6_make_8 : decode cX6_make 8 = .ok (.getfield 13, 3) := by decide +kernel
theorem dX6_make_11 : decode cX6_make 11 = .ok (.iload_n 1, 1) := by decide +kernel
theorem dX6_make_12 : decode cX6_make 12 = .ok (.iload_n 3, 1) := by decide +kernel
theorem dX6_make_13 : decode cX6_make 13 = .ok (.iastore, 1) := by decide +kernel
theorem dX6_make_14 : decode cX6_make 14 = .ok (.iconst 0, 1) := by decide +kernel
theorem dX6_make_15 : decode cX6_make 15 = .ok (.istore 4, 2) := by decide +kernel
theorem dX6_make_17 : decode cX6_make 17 = .ok (.iload 4, 2) := by decide +kernel
theorem dX6_make_19 : decode cX6_make 19 = .ok (.iload_n 3, 1) := by decide +kernel
theorem dX6_make_20 : decode cX6_make 20 = .ok (.if_icmp .ge 22, 3) := by decide +kernel
theorem dX6_make_23 : decode cX6_make 23 = .ok (.aload_n 0, 1) := by decide +kernel
theorem dX6_make_24 : decode cX6_make 24 = .ok (.getfield 16, 3) := by decide +kernel
theorem dX6_make_27 : decode cX6_make 27 = .ok (.iload_n 1, 1) := by decide +kernel
theorem dX6_make_28 : decode cX6_make 28 = .ok (.bipush 40, 2) := by decide +kernel
theorem dX6_make_30 : decode cX6_make 30 = .ok (.imul, 1) := by decide +kernel
theorem dX6_make_31 : decode cX6_make 31 = .ok (.iload 4, 2) := by decide +kernel
theorem dX6_make_33 : decode cX6_make 33 = .ok (.iadd, 1) := by decide +kernel
theorem dX6_make_34 : decode cX6_make 34 = .ok (.iconst 0, 1) := by decide +kernel
theorem dX6_make_35 : decode cX6_make 35 = .ok (.iastore, 1) := by decide +kernel
theorem dX6_make_36 : decode cX6_make 36 = .ok (.iinc 4 1, 3) := by decide +kernel
theorem dX6_make_39 : decode cX6_make 39 = .ok (.goto (-22), 3) := by decide +kernel
theorem dX6_make_42 : decode cX6_make 42 = .ok (.return_, 1) := by decide +kernel
theorem dX6_put_0 : decode cX6_put 0 = .ok (.iload_n 3, 1) := by decide +kernel
theorem dX6_put_1 : decode cX6_put 1 = .ok (.aload_n 0, 1) := by decide +kernel
theorem dX6_put_2 : decode cX6_put 2 = .ok (.getfield 9, 3) := by decide +kernel
theorem dX6_put_5 : decode cX6_put 5 = .ok (.iload_n 1, 1) := by decide +kernel
theorem dX6_put_6 : decode cX6_put 6 = .ok (.iaload, 1) := by decide +kernel
theorem dX6_put_7 : decode cX6_put 7 = .ok (.invokestatic 19, 3) := by decide +kernel
theorem dX6_put_10 : decode cX6_put 10 = .ok (.istore 4, 2) := by decide +kernel
theorem dX6_put_12 : decode cX6_put 12 = .ok (.aload_n 0, 1) := by decide +kernel
theorem dX6_put_13 : decode cX6_put 13 = .ok (.getfield 16, 3) := by decide +kernel
theorem dX6_put_16 : decode cX6_put 16 = .ok (.iload_n 1, 1) := by decide +kernel
theorem dX6_put_17 : decode cX6_put 17 = .ok (.bipush 40, 2) := by decide +kernel
theorem dX6_put_19 : decode cX6_put 19 = .ok (.imul, 1) := by decide +kernel
theorem dX6_put_20 : decode cX6_put 20 = .ok (.iload_n 2, 1) := by decide +kernel
theorem dX6_put_21 : decode cX6_put 21 = .ok (.iadd, 1) := by decide +kernel
theorem dX6_put_22 : decode cX6_put 22 = .ok (.iload 4, 2) := by decide +kernel
theorem dX6_put_24 : decode cX6_put 24 = .ok (.iastore, 1) := by decide +kernel
theorem dX6_put_25 : decode cX6_put 25 = .ok (.iload 4, 2) := by decide +kernel
theorem dX6_put_27 : decode cX6_put 27 = .ok (.ireturn, 1) := by decide +kernel
theorem dX6_itemAt_0 : decode cX6_itemAt 0 = .ok (.aload_n 0, 1) := by decide +kernel
theorem dX6_itemAt_1 : decode cX6_itemAt 1 = .ok (.getfield 16, 3) := by decide +kernel
theorem dX6_itemAt_4 : decode cX6_itemAt 4 = .ok (.iload_n 1, 1) := by decide +kernel
theorem dX6_itemAt_5 : decode cX6_itemAt 5 = .ok (.bipush 40, 2) := by decide +kernel
theorem dX6_itemAt_7 : decode cX6_itemAt 7 = .ok (.imul, 1) := by decide +kernel
theorem dX6_itemAt_8 : decode cX6_itemAt 8 = .ok (.iload_n 2, 1) := by decide +kernel
theorem dX6_itemAt_9 : decode cX6_itemAt 9 = .ok (.iadd, 1) := by decide +kernel
theorem dX6_itemAt_10 : decode cX6_itemAt 10 = .ok (.iaload, 1) := by decide +kernel
theorem dX6_itemAt_11 : decode cX6_itemAt 11 = .ok (.ireturn, 1) := by decide +kernel
theorem dX6_move_0 : decode cX6_move 0 = .ok (.aload_n 0, 1) := by decide +kernel
theorem dX6_move_1 : decode cX6_move 1 = .ok (.getfield 16, 3) := by decide +kernel
theorem dX6_move_4 : decode cX6_move 4 = .ok (.iload_n 1, 1) := by decide +kernel
theorem dX6_move_5 : decode cX6_move 5 = .ok (.bipush 40, 2) := by decide +kernel
theorem dX6_move_7 : decode cX6_move 7 = .ok (.imul, 1) := by decide +kernel
theorem dX6_move_8 : decode cX6_move 8 = .ok (.iload_n 2, 1) := by decide +kernel
theorem dX6_move_9 : decode cX6_move 9 = .ok (.iadd, 1) := by decide +kernel
theorem dX6_move_10 : decode cX6_move 10 = .ok (.aload_n 0, 1) := by decide +kernel
theorem dX6_move_11 : decode cX6_move 11 = .ok (.getfield 16, 3) := by decide +kernel
theorem dX6_move_14 : decode cX6_move 14 = .ok (.iload_n 3, 1) := by decide +kernel
theorem dX6_move_15 : decode cX6_move 15 = .ok (.bipush 40, 2) := by decide +kernel
theorem dX6_move_17 : decode cX6_move 17 = .ok (.imul, 1) := by decide +kernel
theorem dX6_move_18 : decode cX6_move 18 = .ok (.iload 4, 2) := by decide +kernel
theorem dX6_move_20 : decode cX6_move 20 = .ok (.iadd, 1) := by decide +kernel
theorem dX6_move_21 : decode cX6_move 21 = .ok (.iload 5, 2) := by decide +kernel
theorem dX6_move_23 : decode cX6_move 23 = .ok (.invokestatic 23, 3) := by decide +kernel
theorem dX6_move_26 : decode cX6_move 26 = .ok (.return_, 1) := by decide +kernel
theorem dX6_remove_0 : decode cX6_remove 0 = .ok (.aload_n 0, 1) := by decide +kernel
theorem dX6_remove_1 : decode cX6_remove 1 = .ok (.getfield 13, 3) := by decide +kernel
theorem dX6_remove_4 : decode cX6_remove 4 = .ok (.iload_n 1, 1) := by decide +kernel
theorem dX6_remove_5 : decode cX6_remove 5 = .ok (.iaload, 1) := by decide +kernel
theorem dX6_remove_6 : decode cX6_remove 6 = .ok (.istore_n 2, 1) := by decide +kernel
theorem dX6_remove_7 : decode cX6_remove 7 = .ok (.aload_n 0, 1) := by decide +kernel
theorem dX6_remove_8 : decode cX6_remove 8 = .ok (.getfield 9, 3) := by decide +kernel
theorem dX6_remove_11 : decode cX6_remove 11 = .ok (.iload_n 1, 1) := by decide +kernel
theorem dX6_remove_12 : decode cX6_remove 12 = .ok (.iconst (-1), 1) := by decide +kernel
theorem dX6_remove_13 : decode cX6_remove 13 = .ok (.iastore, 1) := by decide +kernel
theorem dX6_remove_14 : decode cX6_remove 14 = .ok (.aload_n 0, 1) := by decide +kernel
theorem dX6_remove_15 : decode cX6_remove 15 = .ok (.getfield 13, 3) := by decide +kernel
theorem dX6_remove_18 : decode cX6_remove 18 = .ok (.iload_n 1, 1) := by decide +kernel
theorem dX6_remove_19 : decode cX6_remove 19 = .ok (.iconst 0, 1) := by decide +kernel
theorem dX6_remove_20 : decode cX6_remove 20 = .ok (.iastore, 1) := by decide +kernel
theorem dX6_remove_21 : decode cX6_remove 21 = .ok (.iload_n 2, 1) := by decide +kernel
theorem dX6_remove_22 : decode cX6_remove 22 = .ok (.ireturn, 1) := by decide +kernel
theorem dX6_present_0 : decode cX6_present 0 = .ok (.iconst 0, 1) := by decide +kernel
theorem dX6_present_1 : decode cX6_present 1 = .ok (.istore_n 1, 1) := by decide +kernel
theorem dX6_present_2 : decode cX6_present 2 = .ok (.iconst 0, 1) := by decide +kernel
theorem dX6_present_3 : decode cX6_present 3 = .ok (.istore_n 2, 1) := by decide +kernel
theorem dX6_present_4 : decode cX6_present 4 = .ok (.iload_n 2, 1) := by decide +kernel
theorem dX6_present_5 : decode cX6_present 5 = .ok (.bipush 8, 2) := by decide +kernel
theorem dX6_present_7 : decode cX6_present 7 = .ok (.if_icmp .ge 27, 3) := by decide +kernel
theorem dX6_present_10 : decode cX6_present 10 = .ok (.iload_n 1, 1) := by decide +kernel
theorem dX6_present_11 : decode cX6_present 11 = .ok (.aload_n 0, 1) := by decide +kernel
theorem dX6_present_12 : decode cX6_present 12 = .ok (.getfield 9, 3) := by decide +kernel
theorem dX6_present_15 : decode cX6_present 15 = .ok (.iload_n 2, 1) := by decide +kernel
theorem dX6_present_16 : decode cX6_present 16 = .ok (.iaload, 1) := by decide +kernel
theorem dX6_present_17 : decode cX6_present 17 = .ok (.iconst (-1), 1) := by decide +kernel
theorem dX6_present_18 : decode cX6_present 18 = .ok (.if_icmp .ne 7, 3) := by decide +kernel
theorem dX6_present_21 : decode cX6_present 21 = .ok (.iconst 0, 1) := by decide +kernel
theorem dX6_present_22 : decode cX6_present 22 = .ok (.goto 4, 3) := by decide +kernel
theorem dX6_present_25 : decode cX6_present 25 = .ok (.iconst 1, 1) := by decide +kernel
theorem dX6_present_26 : decode cX6_present 26 = .ok (.iadd, 1) := by decide +kernel
theorem dX6_present_27 : decode cX6_present 27 = .ok (.istore_n 1, 1) := by decide +kernel
theorem dX6_present_28 : decode cX6_present 28 = .ok (.iinc 2 1, 3) := by decide +kernel
theorem dX6_present_31 : decode cX6_present 31 = .ok (.goto (-27), 3) := by decide +kernel
theorem dX6_present_34 : decode cX6_present 34 = .ok (.iload_n 1, 1) := by decide +kernel
theorem dX6_present_35 : decode cX6_present 35 = .ok (.ireturn, 1) := by decide +kernel
theorem dX6_cutToLane_0 : decode cX6_cutToLane 0 = .ok (.iload_n 1, 1) := by decide +kernel
theorem dX6_cutToLane_1 : decode cX6_cutToLane 1 = .ok (.lookupswitch 33 #[(0, 27), (1, 30)], 27) := by decide +kernel
theorem dX6_cutToLane_28 : decode cX6_cutToLane 28 = .ok (.iload_n 0, 1) := by decide +kernel
theorem dX6_cutToLane_29 : decode cX6_cutToLane 29 = .ok (.i2b, 1) := by decide +kernel
theorem dX6_cutToLane_30 : decode cX6_cutToLane 30 = .ok (.ireturn, 1) := by decide +kernel
theorem dX6_cutToLane_31 : decode cX6_cutToLane 31 = .ok (.iload_n 0, 1) := by decide +kernel
theorem dX6_cutToLane_32 : decode cX6_cutToLane 32 = .ok (.i2s, 1) := by decide +kernel
theorem dX6_cutToLane_33 : decode cX6_cutToLane 33 = .ok (.ireturn, 1) := by decide +kernel
theorem dX6_cutToLane_34 : decode cX6_cutToLane 34 = .ok (.iload_n 0, 1) := by decide +kernel
theorem dX6_cutToLane_35 : decode cX6_cutToLane 35 = .ok (.ireturn, 1) := by decide +kernel
end
section
/-- n slots of k from i on are 0 -/
def zf_ (h : SH_) (k i n : Int) : SH_ := fun a b => if a = k ∧ i ≤ b ∧ b < i + n then 0 else h a b
theorem zf_0 (h : SH_) (k i : Int) : zf_ h k i 0 = h := by
  funext a b
  unfold zf_
  rw [if_neg (by omega)]
theorem zf_s (h : SH_) (k i : Int) {n : Int} (hn : 0 ≤ n) : hs_ (zf_ h k i n) k (i + n) 0 = zf_ h k i (n + 1) := by
  funext a b
  unfold zf_ hs_
  by_cases c1 : a = k ∧ b = i + n
  · rw [if_pos c1, if_pos ⟨c1.1, by omega, by omega⟩]
  · rw [if_neg c1]
    dsimp only
    by_cases c2 : a = k ∧ i ≤ b ∧ b < i + n
    · rw [if_pos c2, if_pos ⟨c2.1, by omega, by omega⟩]
    · rw [if_neg c2, if_neg (fun z => c2 ⟨z.1, z.2.1, by have h1 := z.2.2; have h2 := z.1; omega⟩)]
def ct_ (lane v : Int) : Int := if lane = 0 then sb_i2b v else if lane = 1 then sb_i2s v else v
/-- how many of the first n aren't m -/
def pr_ (f : Int → Int) (m : Int) : Nat → Int
  | 0 => 0
  | n + 1 => pr_ f m n + (if f n = m then 0 else 1)
theorem pr_r (f : Int → Int) (m : Int) (n : Nat) : 0 ≤ pr_ f m n ∧ pr_ f m n ≤ n := by
  induction n with
  | zero => exact ⟨Int.le_refl 0, Int.le_refl 0⟩
  | succ n ih =>
    show 0 ≤ pr_ f m n + (if f n = m then 0 else 1) ∧ pr_ f m n + (if f n = m then 0 else 1) ≤ ((n + 1 : Nat) : Int)
    split <;> omega
theorem ac_w1 : Cond.methodLink RX6 23 arraycopyName ∈ lw_g := by decide +kernel
section PR_
variable {g : SG_} {d : Nat} {h : SH_} {Post : Option SV_ → SH_ → Prop}
theorem c_isRow {r : Int} (kt : (0 ≤ r ∧ r < 8) → Post (some (sv_i 1)) h) (kf : ¬ (0 ≤ r ∧ r < 8) → Post (some (sv_i 0)) h) : Ctr_ g d mX6_isRow [sv_i r] h Post := by
  refine V_mk (by decide +kernel) (Or.inr (Or.inr (Or.inl ⟨rfl, rfl⟩))) (Nat.le_of_ble_eq_true rfl) (by simp [sv_c]) ?_
  show V_ _ _ _ 0 [_] [] _ _
  refine vr_iload_n (q := 1) dX6_isRow_0 rfl rfl ?_
  refine vr_if_lt (t := 14) (q := 4) dX6_isRow_1 (by decide) rfl (fun c1 => ?_) (fun c1 => ?_)
  · refine vr_iconst (q := 15) dX6_isRow_14 rfl ⟨by decide, by decide⟩ ?_
    refine vr_zret dX6_isRow_15 rfl ?_ ?_
    · first | exact Or.inl rfl | exact Or.inr rfl | assumption
    · first | exact kt (by omega) | exact kf (by omega)
  · refine vr_iload_n (q := 5) dX6_isRow_4 rfl rfl ?_
    refine vr_bipush (q := 7) dX6_isRow_5 rfl ⟨by decide, by decide⟩ (by decide) ?_
    refine vr_ic_ge (t := 14) (q := 10) dX6_isRow_7 (by decide) rfl (fun c7 => ?_) (fun c7 => ?_)
    · refine vr_iconst (q := 15) dX6_isRow_14 rfl ⟨by decide, by decide⟩ ?_
      refine vr_zret dX6_isRow_15 rfl ?_ ?_
      · first | exact Or.inl rfl | exact Or.inr rfl | assumption
      · first | exact kt (by omega) | exact kf (by omega)
    · refine vr_iconst (q := 11) dX6_isRow_10 rfl ⟨by decide, by decide⟩ ?_
      refine vr_goto (q := 15) dX6_isRow_11 (by decide) ?_
      refine vr_zret dX6_isRow_15 rfl ?_ ?_
      · first | exact Or.inl rfl | exact Or.inr rfl | assumption
      · first | exact kt (by omega) | exact kf (by omega)
theorem c_isLane {r : Int} (kt : (0 ≤ r ∧ r ≤ 2) → Post (some (sv_i 1)) h) (kf : ¬ (0 ≤ r ∧ r ≤ 2) → Post (some (sv_i 0)) h) : Ctr_ g d mX6_isLane [sv_i r] h Post := by
  refine V_mk (by decide +kernel) (Or.inr (Or.inr (Or.inl ⟨rfl, rfl⟩))) (Nat.le_of_ble_eq_true rfl) (by simp [sv_c]) ?_
  show V_ _ _ _ 0 [_] [] _ _
  refine vr_iload_n (q := 1) dX6_isLane_0 rfl rfl ?_
  refine vr_if_lt (t := 13) (q := 4) dX6_isLane_1 (by decide) rfl (fun c1 => ?_) (fun c1 => ?_)
  · refine vr_iconst (q := 14) dX6_isLane_13 rfl ⟨by decide, by decide⟩ ?_
    refine vr_zret dX6_isLane_14 rfl ?_ ?_
    · first | exact Or.inl rfl | exact Or.inr rfl | assumption
    · first | exact kt (by omega) | exact kf (by omega)
  · refine vr_iload_n (q := 5) dX6_isLane_4 rfl rfl ?_
    refine vr_iconst (q := 6) dX6_isLane_5 rfl ⟨by decide, by decide⟩ ?_
    refine vr_ic_gt (t := 13) (q := 9) dX6_isLane_6 (by decide) rfl (fun c6 => ?_) (fun c6 => ?_)
    · refine vr_iconst (q := 14) dX6_isLane_13 rfl ⟨by decide, by decide⟩ ?_
      refine vr_zret dX6_isLane_14 rfl ?_ ?_
      · first | exact Or.inl rfl | exact Or.inr rfl | assumption
      · first | exact kt (by omega) | exact kf (by omega)
    · refine vr_iconst (q := 10) dX6_isLane_9 rfl ⟨by decide, by decide⟩ ?_
      refine vr_goto (q := 14) dX6_isLane_10 (by decide) ?_
      refine vr_zret dX6_isLane_14 rfl ?_ ?_
      · first | exact Or.inl rfl | exact Or.inr rfl | assumption
      · first | exact kt (by omega) | exact kf (by omega)
theorem c_isMissing {r : Int} (hr : 0 ≤ r ∧ r < 8) (kt : h 2 r = -1 → Post (some (sv_i 1)) h) (kf : ¬ h 2 r = -1 → Post (some (sv_i 0)) h) : Ctr_ g d mX6_isMissing [sv_r 4 5 1, sv_i r] h Post := by
  refine V_mk (by decide +kernel) (Or.inr (Or.inr (Or.inl ⟨rfl, rfl⟩))) (Nat.le_of_ble_eq_true rfl) (by simp [sv_c]) ?_
  show V_ _ _ _ 0 [_, _] [] _ _
  refine vr_aload_n (q := 1) dX6_isMissing_0 rfl rfl ?_
  refine vr_getR (q := 4) dX6_isMissing_1 rfl fX6_9 rfl y_X6_0 (by first | (simp only [Int.reduceAdd]; rfl) | rfl) ?_
  refine vr_iload_n (q := 5) dX6_isMissing_4 rfl rfl ?_
  refine vr_iald (q := 6) dX6_isMissing_5 rfl ⟨by omega, by omega⟩ ?_
  refine vr_iconst (q := 7) dX6_isMissing_6 rfl ⟨by decide, by decide⟩ ?_
  refine vr_ic_ne (t := 14) (q := 10) dX6_isMissing_7 (by decide) rfl (fun c7 => ?_) (fun c7 => ?_)
  · refine vr_iconst (q := 15) dX6_isMissing_14 rfl ⟨by decide, by decide⟩ ?_
    refine vr_zret dX6_isMissing_15 rfl ?_ ?_
    · first | exact Or.inl rfl | exact Or.inr rfl | assumption
    · first | exact kt (by omega) | exact kf (by omega)
  · refine vr_iconst (q := 11) dX6_isMissing_10 rfl ⟨by decide, by decide⟩ ?_
    refine vr_goto (q := 15) dX6_isMissing_11 (by decide) ?_
    refine vr_zret dX6_isMissing_15 rfl ?_ ?_
    · first | exact Or.inl rfl | exact Or.inr rfl | assumption
    · first | exact kt (by omega) | exact kf (by omega)
theorem c_laneOf {r : Int} (hr : 0 ≤ r ∧ r < 8) (kk : Post (some (sv_i (h 2 r))) h) : Ctr_ g d mX6_laneOf [sv_r 4 5 1, sv_i r] h Post := by
  refine V_mk (by decide +kernel) (Or.inr (Or.inl ⟨rfl, rfl⟩)) (Nat.le_of_ble_eq_true rfl) (by simp [sv_c]) ?_
  show V_ _ _ _ 0 [_, _] [] _ _
  refine vr_aload_n (q := 1) dX6_laneOf_0 rfl rfl ?_
  refine vr_getR (q := 4) dX6_laneOf_1 rfl fX6_9 rfl y_X6_0 (by first | (simp only [Int.reduceAdd]; rfl) | rfl) ?_
  refine vr_iload_n (q := 5) dX6_laneOf_4 rfl rfl ?_
  refine vr_iald (q := 6) dX6_laneOf_5 rfl ⟨by omega, by omega⟩ ?_
  refine vr_iret dX6_laneOf_6 rfl ?_
  first | exact kk | (exfalso; omega) | (repeat (first | exact kk | rw [if_pos (by omega)] at kk | rw [if_neg (by omega)] at kk))
theorem c_hasPlaces {r i n : Int} (hr : 0 ≤ r ∧ r < 8) (hl : 0 ≤ h 3 r ∧ h 3 r ≤ 40) (hn : n < 2147483648) (kt : (0 ≤ i ∧ 0 ≤ n ∧ i ≤ h 3 r - n) → Post (some (sv_i 1)) h) (kf : ¬ (0 ≤ i ∧ 0 ≤ n ∧ i ≤ h 3 r - n) → Post (some (sv_i 0)) h) : Ctr_ g d mX6_hasPlaces [sv_r 4 5 1, sv_i r, sv_i i, sv_i n] h Post := by
  refine V_mk (by decide +kernel) (Or.inr (Or.inr (Or.inl ⟨rfl, rfl⟩))) (Nat.le_of_ble_eq_true rfl) (by simp [sv_c]) ?_
  show V_ _ _ _ 0 [_, _, _, _] [] _ _
  refine vr_iload_n (q := 1) dX6_hasPlaces_0 rfl rfl ?_
  refine vr_if_lt (t := 24) (q := 4) dX6_hasPlaces_1 (by decide) rfl (fun c1 => ?_) (fun c1 => ?_)
  · refine vr_iconst (q := 25) dX6_hasPlaces_24 rfl ⟨by decide, by decide⟩ ?_
    refine vr_zret dX6_hasPlaces_25 rfl ?_ ?_
    · first | exact Or.inl rfl | exact Or.inr rfl | assumption
    · first | exact kt (by omega) | exact kf (by omega)
  · refine vr_iload_n (q := 5) dX6_hasPlaces_4 rfl rfl ?_
    refine vr_if_lt (t := 24) (q := 8) dX6_hasPlaces_5 (by decide) rfl (fun c5 => ?_) (fun c5 => ?_)
    · refine vr_iconst (q := 25) dX6_hasPlaces_24 rfl ⟨by decide, by decide⟩ ?_
      refine vr_zret dX6_hasPlaces_25 rfl ?_ ?_
      · first | exact Or.inl rfl | exact Or.inr rfl | assumption
      · first | exact kt (by omega) | exact kf (by omega)
    · refine vr_iload_n (q := 9) dX6_hasPlaces_8 rfl rfl ?_
      refine vr_aload_n (q := 10) dX6_hasPlaces_9 rfl rfl ?_
      refine vr_getR (q := 13) dX6_hasPlaces_10 rfl fX6_13 rfl y_X6_1 (by first | (simp only [Int.reduceAdd]; rfl) | rfl) ?_
      refine vr_iload_n (q := 14) dX6_hasPlaces_13 rfl rfl ?_
      refine vr_iald (q := 15) dX6_hasPlaces_14 rfl ⟨by omega, by omega⟩ ?_
      refine vr_iload_n (q := 16) dX6_hasPlaces_15 rfl rfl ?_
      refine vr_isubN (q := 17) dX6_hasPlaces_16 rfl ⟨by omega, by omega⟩ ?_
      refine vr_ic_gt (t := 24) (q := 20) dX6_hasPlaces_17 (by decide) rfl (fun c17 => ?_) (fun c17 => ?_)
      · refine vr_iconst (q := 25) dX6_hasPlaces_24 rfl ⟨by decide, by decide⟩ ?_
        refine vr_zret dX6_hasPlaces_25 rfl ?_ ?_
        · first | exact Or.inl rfl | exact Or.inr rfl | assumption
        · first | exact kt (by omega) | exact kf (by omega)
      · refine vr_iconst (q := 21) dX6_hasPlaces_20 rfl ⟨by decide, by decide⟩ ?_
        refine vr_goto (q := 25) dX6_hasPlaces_21 (by decide) ?_
        refine vr_zret dX6_hasPlaces_25 rfl ?_ ?_
        · first | exact Or.inl rfl | exact Or.inr rfl | assumption
        · first | exact kt (by omega) | exact kf (by omega)
theorem l_make {r lane n : Int} {h0 : SH_} (hr : 0 ≤ r ∧ r < 8) (hn : 0 ≤ n ∧ n ≤ 40) (kk : Post none (zf_ h0 4 (r * 40) n)) : ∀ (m i : Nat), (i : Int) + m = n → V_ g d mX6_make 17 [some (sv_r 4 5 1), some (sv_i r), some (sv_i lane), some (sv_i n), some (sv_i i)] [] (zf_ h0 4 (r * 40) i) Post := by
  intro m
  induction m with
  | zero =>
    intro i hi
    refine vr_iload (q := 19) dX6_make_17 rfl rfl ?_
    refine vr_iload_n (q := 20) dX6_make_19 rfl rfl ?_
    -- at X6.make 20: .if_icmp .ge 22
    refine vr_ic_ge (t := 42) (q := 23) dX6_make_20 (by decide) rfl (fun _ => ?_) (fun c9 => absurd c9 (by omega))
    refine vr_vret dX6_make_42 rfl ?_
    rw [show n = i by omega] at kk
    exact kk
  | succ m ih =>
    intro i hi
    refine vr_iload (q := 19) dX6_make_17 rfl rfl ?_
    refine vr_iload_n (q := 20) dX6_make_19 rfl rfl ?_
    -- at X6.make 20: .if_icmp .ge 22
    refine vr_ic_ge (t := 42) (q := 23) dX6_make_20 (by decide) rfl (fun c9 => absurd c9 (by omega)) (fun _ => ?_)
    refine vr_aload_n (q := 24) dX6_make_23 rfl rfl ?_
    refine vr_getR (q := 27) dX6_make_24 rfl fX6_16 rfl y_X6_2 (by first | (simp only [Int.reduceAdd]; rfl) | rfl) ?_
    refine vr_iload_n (q := 28) dX6_make_27 rfl rfl ?_
    refine vr_bipush (q := 30) dX6_make_28 rfl ⟨by decide, by decide⟩ (by decide) ?_
    refine vr_imulN (q := 31) dX6_make_30 rfl ⟨by omega, by omega⟩ ?_
    refine vr_iload (q := 33) dX6_make_31 rfl rfl ?_
    refine vr_iaddN (q := 34) dX6_make_33 rfl ⟨by omega, by omega⟩ ?_
    refine vr_iconst (q := 35) dX6_make_34 rfl ⟨by decide, by decide⟩ ?_
    refine vr_iast (q := 36) dX6_make_35 rfl ⟨by omega, by omega⟩ ?_
    refine vr_iinc (q := 39) dX6_make_36 rfl rfl ⟨by omega, by omega⟩ (Nat.le_of_ble_eq_true rfl) rfl rfl ?_
    refine vr_goto (q := 17) dX6_make_39 (by decide) ?_
    -- at X6.make 17: .iload 4
    rw [zf_s _ _ _ (by omega)]
    exact ih (i + 1) (by omega)
theorem c_make {r lane n : Int} (hr : 0 ≤ r ∧ r < 8) (hn : 0 ≤ n ∧ n ≤ 40) (kk : Post none (zf_ (hs_ (hs_ h 2 r lane) 3 r n) 4 (r * 40) n)) : Ctr_ g d mX6_make [sv_r 4 5 1, sv_i r, sv_i lane, sv_i n] h Post := by
  refine V_mk (by decide +kernel) (Or.inl ⟨rfl, rfl⟩) (Nat.le_of_ble_eq_true rfl) (by simp [sv_c]) ?_
  show V_ _ _ _ 0 [_, _, _, _, _] [] _ _
  refine vr_aload_n (q := 1) dX6_make_0 rfl rfl ?_
  refine vr_getR (q := 4) dX6_make_1 rfl fX6_9 rfl y_X6_0 (by first | (simp only [Int.reduceAdd]; rfl) | rfl) ?_
  refine vr_iload_n (q := 5) dX6_make_4 rfl rfl ?_
  refine vr_iload_n (q := 6) dX6_make_5 rfl rfl ?_
  refine vr_iast (q := 7) dX6_make_6 rfl ⟨by omega, by omega⟩ ?_
  refine vr_aload_n (q := 8) dX6_make_7 rfl rfl ?_
  refine vr_getR (q := 11) dX6_make_8 rfl fX6_13 rfl y_X6_1 (by first | (simp only [Int.reduceAdd]; rfl) | rfl) ?_
  refine vr_iload_n (q := 12) dX6_make_11 rfl rfl ?_
  refine vr_iload_n (q := 13) dX6_make_12 rfl rfl ?_
  refine vr_iast (q := 14) dX6_make_13 rfl ⟨by omega, by omega⟩ ?_
  refine vr_iconst (q := 15) dX6_make_14 rfl ⟨by decide, by decide⟩ ?_
  refine vr_istore (q := 17) dX6_make_15 rfl (Nat.le_of_ble_eq_true rfl) rfl rfl ?_
  -- at X6.make 17: .iload 4
  have k2 := l_make (g := g) (d := d) (lane := lane) hr hn kk n.toNat 0 (by omega)
  rw [show ((0 : Nat) : Int) = 0 from rfl, zf_0] at k2
  exact k2
theorem c_cutToLane {v lane : Int} (kk : Post (some (sv_i (ct_ lane v))) h) : Ctr_ g d mX6_cutToLane [sv_i v, sv_i lane] h Post := by
  unfold ct_ at kk
  refine V_mk (by decide +kernel) (Or.inr (Or.inl ⟨rfl, rfl⟩)) (Nat.le_of_ble_eq_true rfl) (by simp [sv_c]) ?_
  show V_ _ _ _ 0 [_, _] [] _ _
  refine vr_iload_n (q := 1) dX6_cutToLane_0 rfl rfl ?_
  -- at X6.cutToLane 1: .lookupswitch 33 #[(0, 27), (1, 30)]
  by_cases c0 : lane = 0
  · subst c0
    refine vr_lsw (q := 28) dX6_cutToLane_1 rfl rfl (by decide) ?_
    refine vr_iload_n (q := 29) dX6_cutToLane_28 rfl rfl ?_
    refine vr_i2b (q := 30) dX6_cutToLane_29 rfl ?_
    refine vr_iret dX6_cutToLane_30 rfl ?_
    first | exact kk | (exfalso; omega) | (repeat (first | exact kk | rw [if_pos (by omega)] at kk | rw [if_neg (by omega)] at kk))
  · by_cases c1 : lane = 1
    · subst c1
      refine vr_lsw (q := 31) dX6_cutToLane_1 rfl rfl (by decide) ?_
      refine vr_iload_n (q := 32) dX6_cutToLane_31 rfl rfl ?_
      refine vr_i2s (q := 33) dX6_cutToLane_32 rfl ?_
      refine vr_iret dX6_cutToLane_33 rfl ?_
      first | exact kk | (exfalso; omega) | (repeat (first | exact kk | rw [if_pos (by omega)] at kk | rw [if_neg (by omega)] at kk))
    · rw [if_neg c0, if_neg c1] at kk
      refine vr_lsw (q := 34) dX6_cutToLane_1 rfl (by simp only [Op.lookupswitch.offset_cons, Op.lookupswitch.offset_nil]; rw [if_neg (by omega), if_neg (by omega)]) (by decide) ?_
      refine vr_iload_n (q := 35) dX6_cutToLane_34 rfl rfl ?_
      refine vr_iret dX6_cutToLane_35 rfl ?_
      first | exact kk | (exfalso; omega) | (repeat (first | exact kk | rw [if_pos (by omega)] at kk | rw [if_neg (by omega)] at kk))
theorem c_put {r i v : Int} (hr : 0 ≤ r ∧ r < 8) (hi : 0 ≤ i ∧ i < 40) (kk : Post (some (sv_i (ct_ (h 2 r) v))) (hs_ h 4 (r * 40 + i) (ct_ (h 2 r) v))) : Ctr_ g (d + 1) mX6_put [sv_r 4 5 1, sv_i r, sv_i i, sv_i v] h Post := by
  refine V_mk (by decide +kernel) (Or.inr (Or.inl ⟨rfl, rfl⟩)) (Nat.le_of_ble_eq_true rfl) (by simp [sv_c]) ?_
  show V_ _ _ _ 0 [_, _, _, _, _] [] _ _
  refine vr_iload_n (q := 1) dX6_put_0 rfl rfl ?_
  refine vr_aload_n (q := 2) dX6_put_1 rfl rfl ?_
  refine vr_getR (q := 5) dX6_put_2 rfl fX6_9 rfl y_X6_0 (by first | (simp only [Int.reduceAdd]; rfl) | rfl) ?_
  refine vr_iload_n (q := 6) dX6_put_5 rfl rfl ?_
  refine vr_iald (q := 7) dX6_put_6 rfl ⟨by omega, by omega⟩ ?_
  refine vr_is2 (q := 10) dX6_put_7 rfl vX6_19 (Nat.le_of_ble_eq_true rfl) ?_
  refine c_cutToLane ?_
  refine vr_istore (q := 12) dX6_put_10 rfl (Nat.le_of_ble_eq_true rfl) rfl rfl ?_
  refine vr_aload_n (q := 13) dX6_put_12 rfl rfl ?_
  refine vr_getR (q := 16) dX6_put_13 rfl fX6_16 rfl y_X6_2 (by first | (simp only [Int.reduceAdd]; rfl) | rfl) ?_
  refine vr_iload_n (q := 17) dX6_put_16 rfl rfl ?_
  refine vr_bipush (q := 19) dX6_put_17 rfl ⟨by decide, by decide⟩ (by decide) ?_
  refine vr_imulN (q := 20) dX6_put_19 rfl ⟨by omega, by omega⟩ ?_
  refine vr_iload_n (q := 21) dX6_put_20 rfl rfl ?_
  refine vr_iaddN (q := 22) dX6_put_21 rfl ⟨by omega, by omega⟩ ?_
  refine vr_iload (q := 24) dX6_put_22 rfl rfl ?_
  refine vr_iast (q := 25) dX6_put_24 rfl ⟨by omega, by omega⟩ ?_
  refine vr_iload (q := 27) dX6_put_25 rfl rfl ?_
  refine vr_iret dX6_put_27 rfl ?_
  first | exact kk | (exfalso; omega) | (repeat (first | exact kk | rw [if_pos (by omega)] at kk | rw [if_neg (by omega)] at kk))
theorem c_itemAt {r i : Int} (hr : 0 ≤ r ∧ r < 8) (hi : 0 ≤ i ∧ i < 40) (kk : Post (some (sv_i (h 4 (r * 40 + i)))) h) : Ctr_ g d mX6_itemAt [sv_r 4 5 1, sv_i r, sv_i i] h Post := by
  refine V_mk (by decide +kernel) (Or.inr (Or.inl ⟨rfl, rfl⟩)) (Nat.le_of_ble_eq_true rfl) (by simp [sv_c]) ?_
  show V_ _ _ _ 0 [_, _, _] [] _ _
  refine vr_aload_n (q := 1) dX6_itemAt_0 rfl rfl ?_
  refine vr_getR (q := 4) dX6_itemAt_1 rfl fX6_16 rfl y_X6_2 (by first | (simp only [Int.reduceAdd]; rfl) | rfl) ?_
  refine vr_iload_n (q := 5) dX6_itemAt_4 rfl rfl ?_
  refine vr_bipush (q := 7) dX6_itemAt_5 rfl ⟨by decide, by decide⟩ (by decide) ?_
  refine vr_imulN (q := 8) dX6_itemAt_7 rfl ⟨by omega, by omega⟩ ?_
  refine vr_iload_n (q := 9) dX6_itemAt_8 rfl rfl ?_
  refine vr_iaddN (q := 10) dX6_itemAt_9 rfl ⟨by omega, by omega⟩ ?_
  refine vr_iald (q := 11) dX6_itemAt_10 rfl ⟨by omega, by omega⟩ ?_
  refine vr_iret dX6_itemAt_11 rfl ?_
  first | exact kk | (exfalso; omega) | (repeat (first | exact kk | rw [if_pos (by omega)] at kk | rw [if_neg (by omega)] at kk))
theorem c_move {a i b j n : Int} (ha : 0 ≤ a ∧ a < 8) (hb : 0 ≤ b ∧ b < 8) (hi : 0 ≤ i ∧ 0 ≤ j ∧ 0 ≤ n ∧ i + n ≤ 40 ∧ j + n ≤ 40) (kk : Post none (hc_ h 4 (a * 40 + i) 4 (b * 40 + j) n)) : Ctr_ g (d + 1) mX6_move [sv_r 4 5 1, sv_i a, sv_i i, sv_i b, sv_i j, sv_i n] h Post := by
  refine V_mk (by decide +kernel) (Or.inl ⟨rfl, rfl⟩) (Nat.le_of_ble_eq_true rfl) (by simp [sv_c]) ?_
  show V_ _ _ _ 0 [_, _, _, _, _, _] [] _ _
  refine vr_aload_n (q := 1) dX6_move_0 rfl rfl ?_
  refine vr_getR (q := 4) dX6_move_1 rfl fX6_16 rfl y_X6_2 (by first | (simp only [Int.reduceAdd]; rfl) | rfl) ?_
  refine vr_iload_n (q := 5) dX6_move_4 rfl rfl ?_
  refine vr_bipush (q := 7) dX6_move_5 rfl ⟨by decide, by decide⟩ (by decide) ?_
  refine vr_imulN (q := 8) dX6_move_7 rfl ⟨by omega, by omega⟩ ?_
  refine vr_iload_n (q := 9) dX6_move_8 rfl rfl ?_
  refine vr_iaddN (q := 10) dX6_move_9 rfl ⟨by omega, by omega⟩ ?_
  refine vr_aload_n (q := 11) dX6_move_10 rfl rfl ?_
  refine vr_getR (q := 14) dX6_move_11 rfl fX6_16 rfl y_X6_2 (by first | (simp only [Int.reduceAdd]; rfl) | rfl) ?_
  refine vr_iload_n (q := 15) dX6_move_14 rfl rfl ?_
  refine vr_bipush (q := 17) dX6_move_15 rfl ⟨by decide, by decide⟩ (by decide) ?_
  refine vr_imulN (q := 18) dX6_move_17 rfl ⟨by omega, by omega⟩ ?_
  refine vr_iload (q := 20) dX6_move_18 rfl rfl ?_
  refine vr_iaddN (q := 21) dX6_move_20 rfl ⟨by omega, by omega⟩ ?_
  refine vr_iload (q := 23) dX6_move_21 rfl rfl ?_
  -- at X6.move 23: .invokestatic 23
  refine vr_acopy (q := 26) dX6_move_23 rfl ac_w1 (Nat.le_of_ble_eq_true rfl) ⟨by omega, by omega, by omega, by omega, by omega⟩ ?_
  refine vr_vret dX6_move_26 rfl ?_
  exact kk
theorem c_remove {r : Int} (hr : 0 ≤ r ∧ r < 8) (kk : Post (some (sv_i (h 3 r))) (hs_ (hs_ h 2 r (-1)) 3 r 0)) : Ctr_ g d mX6_remove [sv_r 4 5 1, sv_i r] h Post := by
  refine V_mk (by decide +kernel) (Or.inr (Or.inl ⟨rfl, rfl⟩)) (Nat.le_of_ble_eq_true rfl) (by simp [sv_c]) ?_
  show V_ _ _ _ 0 [_, _, _] [] _ _
  refine vr_aload_n (q := 1) dX6_remove_0 rfl rfl ?_
  refine vr_getR (q := 4) dX6_remove_1 rfl fX6_13 rfl y_X6_1 (by first | (simp only [Int.reduceAdd]; rfl) | rfl) ?_
  refine vr_iload_n (q := 5) dX6_remove_4 rfl rfl ?_
  refine vr_iald (q := 6) dX6_remove_5 rfl ⟨by omega, by omega⟩ ?_
  refine vr_istore_n (q := 7) dX6_remove_6 rfl rfl (Nat.le_of_ble_eq_true rfl) rfl rfl ?_
  refine vr_aload_n (q := 8) dX6_remove_7 rfl rfl ?_
  refine vr_getR (q := 11) dX6_remove_8 rfl fX6_9 rfl y_X6_0 (by first | (simp only [Int.reduceAdd]; rfl) | rfl) ?_
  refine vr_iload_n (q := 12) dX6_remove_11 rfl rfl ?_
  refine vr_iconst (q := 13) dX6_remove_12 rfl ⟨by decide, by decide⟩ ?_
  refine vr_iast (q := 14) dX6_remove_13 rfl ⟨by omega, by omega⟩ ?_
  refine vr_aload_n (q := 15) dX6_remove_14 rfl rfl ?_
  refine vr_getR (q := 18) dX6_remove_15 rfl fX6_13 rfl y_X6_1 (by first | (simp only [Int.reduceAdd]; rfl) | rfl) ?_
  refine vr_iload_n (q := 19) dX6_remove_18 rfl rfl ?_
  refine vr_iconst (q := 20) dX6_remove_19 rfl ⟨by decide, by decide⟩ ?_
  refine vr_iast (q := 21) dX6_remove_20 rfl ⟨by omega, by omega⟩ ?_
  refine vr_iload_n (q := 22) dX6_remove_21 rfl rfl ?_
  refine vr_iret dX6_remove_22 rfl ?_
  first | exact kk | (exfalso; omega) | (repeat (first | exact kk | rw [if_pos (by omega)] at kk | rw [if_neg (by omega)] at kk))
theorem l_present (kk : Post (some (sv_i (pr_ (h 2) (-1) 8))) h) : ∀ (m i : Nat), (i : Int) + m = 8 → V_ g d mX6_present 4 [some (sv_r 4 5 1), some (sv_i (pr_ (h 2) (-1) i)), some (sv_i i)] [] h Post := by
  intro m
  induction m with
  | zero =>
    intro i hi
    refine vr_iload_n (q := 5) dX6_present_4 rfl rfl ?_
    refine vr_bipush (q := 7) dX6_present_5 rfl ⟨by decide, by decide⟩ (by decide) ?_
    -- at X6.present 7: .if_icmp .ge 27
    refine vr_ic_ge (t := 34) (q := 10) dX6_present_7 (by decide) rfl (fun _ => ?_) (fun c9 => absurd c9 (by omega))
    refine vr_iload_n (q := 35) dX6_present_34 rfl rfl ?_
    -- at X6.present 35: .ireturn
    refine vr_iret dX6_present_35 rfl ?_
    rw [show i = 8 by omega]
    exact kk
  | succ m ih =>
    intro i hi
    have h2 := pr_r (h 2) (-1) i
    have k2 := ih (i + 1) (by omega)
    have e : pr_ (h 2) (-1) (i + 1) = pr_ (h 2) (-1) i + (if h 2 i = -1 then 0 else 1) := rfl
    rw [e] at k2
    refine vr_iload_n (q := 5) dX6_present_4 rfl rfl ?_
    refine vr_bipush (q := 7) dX6_present_5 rfl ⟨by decide, by decide⟩ (by decide) ?_
    -- at X6.present 7: .if_icmp .ge 27
    refine vr_ic_ge (t := 34) (q := 10) dX6_present_7 (by decide) rfl (fun c9 => absurd c9 (by omega)) (fun _ => ?_)
    refine vr_iload_n (q := 11) dX6_present_10 rfl rfl ?_
    refine vr_aload_n (q := 12) dX6_present_11 rfl rfl ?_
    refine vr_getR (q := 15) dX6_present_12 rfl fX6_9 rfl y_X6_0 (by first | (simp only [Int.reduceAdd]; rfl) | rfl) ?_
    refine vr_iload_n (q := 16) dX6_present_15 rfl rfl ?_
    refine vr_iald (q := 17) dX6_present_16 rfl ⟨by omega, by omega⟩ ?_
    refine vr_iconst (q := 18) dX6_present_17 rfl ⟨by decide, by decide⟩ ?_
    -- at X6.present 18: .if_icmp .ne 7
    refine vr_ic_ne (t := 25) (q := 21) dX6_present_18 (by decide) rfl (fun c1 => ?_) (fun c1 => ?_)
    · rw [if_neg c1] at k2
      refine vr_iconst (q := 26) dX6_present_25 rfl ⟨by decide, by decide⟩ ?_
      refine vr_iaddN (q := 27) dX6_present_26 rfl ⟨by omega, by omega⟩ ?_
      refine vr_istore_n (q := 28) dX6_present_27 rfl rfl (Nat.le_of_ble_eq_true rfl) rfl rfl ?_
      refine vr_iinc (q := 31) dX6_present_28 rfl rfl ⟨by omega, by omega⟩ (Nat.le_of_ble_eq_true rfl) rfl rfl ?_
      refine vr_goto (q := 4) dX6_present_31 (by decide) ?_
      -- at X6.present 4: .iload_n 2
      exact k2
    · rw [if_pos (by omega)] at k2
      refine vr_iconst (q := 22) dX6_present_21 rfl ⟨by decide, by decide⟩ ?_
      refine vr_goto (q := 26) dX6_present_22 (by decide) ?_
      refine vr_iaddN (q := 27) dX6_present_26 rfl ⟨by omega, by omega⟩ ?_
      refine vr_istore_n (q := 28) dX6_present_27 rfl rfl (Nat.le_of_ble_eq_true rfl) rfl rfl ?_
      refine vr_iinc (q := 31) dX6_present_28 rfl rfl ⟨by omega, by omega⟩ (Nat.le_of_ble_eq_true rfl) rfl rfl ?_
      refine vr_goto (q := 4) dX6_present_31 (by decide) ?_
      -- at X6.present 4: .iload_n 2
      exact k2
theorem c_present (kk : Post (some (sv_i (pr_ (h 2) (-1) 8))) h) : Ctr_ g d mX6_present [sv_r 4 5 1] h Post := by
  refine V_mk (by decide +kernel) (Or.inr (Or.inl ⟨rfl, rfl⟩)) (Nat.le_of_ble_eq_true rfl) (by simp [sv_c]) ?_
  show V_ _ _ _ 0 [_, _, _] [] _ _
  refine vr_iconst (q := 1) dX6_present_0 rfl ⟨by decide, by decide⟩ ?_
  refine vr_istore_n (q := 2) dX6_present_1 rfl rfl (Nat.le_of_ble_eq_true rfl) rfl rfl ?_
  refine vr_iconst (q := 3) dX6_present_2 rfl ⟨by decide, by decide⟩ ?_
  refine vr_istore_n (q := 4) dX6_present_3 rfl rfl (Nat.le_of_ble_eq_true rfl) rfl rfl ?_
  -- at X6.present 4: .iload_n 2
  exact l_present kk 8 0 (by omega)
end PR_
end
section
theorem dX3_isKind_0 : decode cX3_isKind 0 = .ok (.iload_n 0, 1) := by decide +kernel
theorem dX3_isKind_1 : decode cX3_isKind 1 = .ok (.ifCond .lt 13, 3) := by decide +kernel
theorem dX3_isKind_4 : decode cX3_isKind 4 = .ok (.iload_n 0, 1) := by decide +kernel
theorem dX3_isKind_5 : decode cX3_isKind 5 = .ok (.bipush 6, 2) := by decide +kernel
theorem dX3_isKind_7 : decode cX3_isKind 7 = .ok (.if_icmp .ge 7, 3) := by decide +kernel
theorem dX3_isKind_10 : decode cX3_isKind 10 = .ok (.iconst 1, 1) := by decide +kernel
theorem dX3_isKind_11 : decode cX3_isKind 11 = .ok (.goto 4, 3) := by decide +kernel
theorem dX3_isKind_14 : decode cX3_isKind 14 = .ok (.iconst 0, 1) := by decide +kernel
theorem dX3_isKind_15 : decode cX3_isKind 15 = .ok (.ireturn, 1) := by decide +kernel
theorem dX3_isOne_0 : decode cX3_isOne 0 = .ok (.iload_n 0, 1) := by decide +kernel
theorem dX3_isOne_1 : decode cX3_isOne 1 = .ok (.istore_n 2, 1) := by decide +kernel
theorem dX3_isOne_2 : decode cX3_isOne 2 = .ok (.iconst 0, 1) := by decide +kernel
theorem dX3_isOne_3 : decode cX3_isOne 3 = .ok (.istore_n 3, 1) := by decide +kernel
theorem dX3_isOne_4 : decode cX3_isOne 4 = .ok (.iload_n 3, 1) := by decide +kernel
theorem dX3_isOne_5 : decode cX3_isOne 5 = .ok (.bipush 6, 2) := by decide +kernel
theorem dX3_isOne_7 : decode cX3_isOne 7 = .ok (.if_icmp .ge 19, 3) := by decide +kernel
theorem dX3_isOne_10 : decode cX3_isOne 10 = .ok (.iload_n 2, 1) := by decide +kernel
theorem dX3_isOne_11 : decode cX3_isOne 11 = .ok (.iload_n 1, 1) := by decide +kernel
theorem dX3_isOne_12 : decode cX3_isOne 12 = .ok (.if_icmp .eq 14, 3) := by decide +kernel
theorem dX3_isOne_15 : decode cX3_isOne 15 = .ok (.iload_n 2, 1) := by decide +kernel
theorem dX3_isOne_16 : decode cX3_isOne 16 = .ok (.invokestatic 9, 3) := by decide +kernel
theorem dX3_isOne_19 : decode cX3_isOne 19 = .ok (.istore_n 2, 1) := by decide +kernel
theorem dX3_isOne_20 : decode cX3_isOne 20 = .ok (.iinc 3 1, 3) := by decide +kernel
theorem dX3_isOne_23 : decode cX3_isOne 23 = .ok (.goto (-19), 3) := by decide +kernel
theorem dX3_isOne_26 : decode cX3_isOne 26 = .ok (.iload_n 2, 1) := by decide +kernel
theorem dX3_isOne_27 : decode cX3_isOne 27 = .ok (.iload_n 1, 1) := by decide +kernel
theorem dX3_isOne_28 : decode cX3_isOne 28 = .ok (.if_icmp .ne 7, 3) := by decide +kernel
theorem dX3_isOne_31 : decode cX3_isOne 31 = .ok (.iconst 1, 1) := by decide +kernel
theorem dX3_isOne_32 : decode cX3_isOne 32 = .ok (.goto 4, 3) := by decide +kernel
theorem dX3_isOne_35 : decode cX3_isOne 35 = .ok (.iconst 0, 1) := by decide +kernel
theorem dX3_isOne_36 : decode cX3_isOne 36 = .ok (.ireturn, 1) := by decide +kernel
theorem dX3_above_0 : decode cX3_above 0 = .ok (.iload_n 0, 1) := by decide +kernel
theorem dX3_above_1 : decode cX3_above 1 = .ok (.invokestatic 13, 3) := by decide +kernel
theorem dX3_above_4 : decode cX3_above 4 = .ok (.ifCond .eq 11, 3) := by decide +kernel
theorem dX3_above_7 : decode cX3_above 7 = .ok (.getstatic 17, 3) := by decide +kernel
theorem dX3_above_10 : decode cX3_above 10 = .ok (.iload_n 0, 1) := by decide +kernel
theorem dX3_above_11 : decode cX3_above 11 = .ok (.iaload, 1) := by decide +kernel
theorem dX3_above_12 : decode cX3_above 12 = .ok (.goto 4, 3) := by decide +kernel
theorem dX3_above_15 : decode cX3_above 15 = .ok (.iconst 0, 1) := by decide +kernel
theorem dX3_above_16 : decode cX3_above 16 = .ok (.ireturn, 1) := by decide +kernel
theorem dX3_ofLetter_0 : decode cX3_ofLetter 0 = .ok (.iload_n 0, 1) := by decide +kernel
theorem dX3_ofLetter_1 : decode cX3_ofLetter 1 = .ok (.lookupswitch 61 #[(97, 53), (101, 51), (104, 55), (108, 59), (112, 57)], 51) := by decide +kernel
theorem dX3_ofLetter_52 : decode cX3_ofLetter 52 = .ok (.iconst 1, 1) := by decide +kernel
theorem dX3_ofLetter_53 : decode cX3_ofLetter 53 = .ok (.ireturn, 1) := by decide +kernel
theorem dX3_ofLetter_54 : decode cX3_ofLetter 54 = .ok (.iconst 2, 1) := by decide +kernel
theorem dX3_ofLetter_55 : decode cX3_ofLetter 55 = .ok (.ireturn, 1) := by decide +kernel
theorem dX3_ofLetter_56 : decode cX3_ofLetter 56 = .ok (.iconst 3, 1) := by decide +kernel
theorem dX3_ofLetter_57 : decode cX3_ofLetter 57 = .ok (.ireturn, 1) := by decide +kernel
theorem dX3_ofLetter_58 : decode cX3_ofLetter 58 = .ok (.iconst 4, 1) := by decide +kernel
theorem dX3_ofLetter_59 : decode cX3_ofLetter 59 = .ok (.ireturn, 1) := by decide +kernel
theorem dX3_ofLetter_60 : decode cX3_ofLetter 60 = .ok (.iconst 5, 1) := by decide +kernel
theorem dX3_ofLetter_61 : decode cX3_ofLetter 61 = .ok (.ireturn, 1) := by decide +kernel
theorem dX3_ofLetter_62 : decode cX3_ofLetter 62 = .ok (.iconst 0, 1) := by decide +kernel
theorem dX3_ofLetter_63 : decode cX3_ofLetter 63 = .ok (.ireturn, 1) := by decide +kernel
end
section
/-- what the static rows hold -/
def sx_f (i : Nat) : Nat → Int := fun j => (if i = 0 then ([0, 0, 1, 1, 0, 4] : List Int) else if i = 1 then [10, 11, 12, 0, 13, 14] else [20, 21, 24, 22, 23, 0]).getD j 0
def sx_ (g : SG_) : Prop := ∀ i, i < 3 → sg_X g i = (6, sx_f i)
section PK0_
variable {g : SG_} {d : Nat} {M : MD_} {pc q : Nat} {ls : List (Option SV_)} {st : List SV_} {h : SH_} {Post : Option SV_ → SH_ → Prop}
theorem vr_xaldV {n : Nat} {k i x : Int} (hd : decode M.2.1 pc = .ok (.iaload, 1)) (hq : pc + 1 = q) (hi : 0 ≤ i ∧ i < (sg_X g n).1) (hx : (sg_X g n).2 i.toNat = x) (kk : V_ g d M q ls (sv_i x :: st) h Post) : V_ g d M pc ls (sv_i i :: sv_r 5 n k :: st) h Post := vr_xald hd hq hi (hx ▸ kk)
end PK0_
section PK_
variable {g : SG_} {d : Nat} {h : SH_} {Post : Option SV_ → SH_ → Prop}
theorem c_isKind {r : Int} (kt : (0 ≤ r ∧ r < 6) → Post (some (sv_i 1)) h) (kf : ¬ (0 ≤ r ∧ r < 6) → Post (some (sv_i 0)) h) : Ctr_ g d mX3_isKind [sv_i r] h Post := by
  refine V_mk (by decide +kernel) (Or.inr (Or.inr (Or.inl ⟨rfl, rfl⟩))) (Nat.le_of_ble_eq_true rfl) (by simp [sv_c]) ?_
  show V_ _ _ _ 0 [_] [] _ _
  refine vr_iload_n (q := 1) dX3_isKind_0 rfl rfl ?_
  refine vr_if_lt (t := 14) (q := 4) dX3_isKind_1 (by decide) rfl (fun c1 => ?_) (fun c1 => ?_)
  · refine vr_iconst (q := 15) dX3_isKind_14 rfl ⟨by decide, by decide⟩ ?_
    refine vr_zret dX3_isKind_15 rfl ?_ ?_
    · first | exact Or.inl rfl | exact Or.inr rfl | assumption
    · first | exact kt (by omega) | exact kf (by omega)
  · refine vr_iload_n (q := 5) dX3_isKind_4 rfl rfl ?_
    refine vr_bipush (q := 7) dX3_isKind_5 rfl ⟨by decide, by decide⟩ (by decide) ?_
    refine vr_ic_ge (t := 14) (q := 10) dX3_isKind_7 (by decide) rfl (fun c7 => ?_) (fun c7 => ?_)
    · refine vr_iconst (q := 15) dX3_isKind_14 rfl ⟨by decide, by decide⟩ ?_
      refine vr_zret dX3_isKind_15 rfl ?_ ?_
      · first | exact Or.inl rfl | exact Or.inr rfl | assumption
      · first | exact kt (by omega) | exact kf (by omega)
    · refine vr_iconst (q := 11) dX3_isKind_10 rfl ⟨by decide, by decide⟩ ?_
      refine vr_goto (q := 15) dX3_isKind_11 (by decide) ?_
      refine vr_zret dX3_isKind_15 rfl ?_ ?_
      · first | exact Or.inl rfl | exact Or.inr rfl | assumption
      · first | exact kt (by omega) | exact kf (by omega)
def ab_ (k : Int) : Int := sx_f 0 k.toNat
theorem c_above {k : Int} (hX : sx_ g) (hk : 0 ≤ k ∧ k < 6) (kk : Post (some (sv_i (ab_ k))) h) : Ctr_ g (d + 1) mX3_above [sv_i k] h Post := by
  have e0 := hX 0 (by decide)
  refine V_mk (by decide +kernel) (Or.inr (Or.inl ⟨rfl, rfl⟩)) (Nat.le_of_ble_eq_true rfl) (by simp [sv_c]) ?_
  show V_ _ _ _ 0 [_] [] _ _
  refine vr_iload_n (q := 1) dX3_above_0 rfl rfl ?_
  refine vr_is1 (q := 4) dX3_above_1 rfl vX3_13 (Nat.le_of_ble_eq_true rfl) ?_
  refine c_isKind (fun c1 => ?_) (fun c1 => ?_)
  · refine vr_if_eq (t := 15) (q := 7) dX3_above_4 (by decide) rfl (fun c9 => absurd c9 (by omega)) (fun _ => ?_)
    refine vr_gets (i := 0) (q := 10) dX3_above_7 rfl (by decide) gX3_17 ?_
    refine vr_iload_n (q := 11) dX3_above_10 rfl rfl ?_
    refine vr_xaldV (q := 12) dX3_above_11 rfl (by rw [e0]; exact hk) (by rw [e0]) ?_
    refine vr_goto (q := 16) dX3_above_12 (by decide) ?_
    refine vr_iret dX3_above_16 rfl ?_
    first | exact kk | (exfalso; omega) | (repeat (first | exact kk | rw [if_pos (by omega)] at kk | rw [if_neg (by omega)] at kk))
  · refine vr_if_eq (t := 15) (q := 7) dX3_above_4 (by decide) rfl (fun _ => ?_) (fun c9 => absurd c9 (by omega))
    refine vr_iconst (q := 16) dX3_above_15 rfl ⟨by decide, by decide⟩ ?_
    refine vr_iret dX3_above_16 rfl ?_
    first | exact kk | (exfalso; omega) | (repeat (first | exact kk | rw [if_pos (by omega)] at kk | rw [if_neg (by omega)] at kk))
/-- climbing from c towards w, n steps at most -/
def io_ (w : Int) : Nat → Int → Int
  | 0, c => c
  | n + 1, c => if c = w then c else io_ w n (ab_ c)
theorem ab_r : ∀ n : Fin 6, 0 ≤ ab_ ((n : Nat) : Int) ∧ ab_ ((n : Nat) : Int) < 6 := by decide +kernel
theorem ab_i {k : Int} (hk : 0 ≤ k ∧ k < 6) : 0 ≤ ab_ k ∧ ab_ k < 6 := by
  have e := ab_r ⟨k.toNat, by omega⟩
  rw [show (((⟨k.toNat, by omega⟩ : Fin 6) : Nat) : Int) = k from Int.toNat_of_nonneg hk.1] at e
  exact e
theorem l_isOne {k w : Int} (hX : sx_ g) (kk : Post (some (sv_i (if io_ w 6 k = w then 1 else 0))) h) : ∀ (n i : Nat) (c : Int), (i : Int) + n = 6 → 0 ≤ c ∧ c < 6 → io_ w n c = io_ w 6 k → V_ g (d + 2) mX3_isOne 4 [some (sv_i k), some (sv_i w), some (sv_i c), some (sv_i i)] [] h Post := by
  intro n
  induction n with
  | zero =>
    intro i c hi hc e
    have e2 : c = io_ w 6 k := e
    rw [← e2] at kk
    refine vr_iload_n (q := 5) dX3_isOne_4 rfl rfl ?_
    refine vr_bipush (q := 7) dX3_isOne_5 rfl ⟨by decide, by decide⟩ (by decide) ?_
    -- at X3.isOne 7: .if_icmp .ge 19
    refine vr_ic_ge (t := 26) (q := 10) dX3_isOne_7 (by decide) rfl (fun _ => ?_) (fun c9 => absurd c9 (by omega))
    refine vr_iload_n (q := 27) dX3_isOne_26 rfl rfl ?_
    refine vr_iload_n (q := 28) dX3_isOne_27 rfl rfl ?_
    refine vr_ic_ne (t := 35) (q := 31) dX3_isOne_28 (by decide) rfl (fun c28 => ?_) (fun c28 => ?_)
    · refine vr_iconst (q := 36) dX3_isOne_35 rfl ⟨by decide, by decide⟩ ?_
      refine vr_zret dX3_isOne_36 rfl ?_ ?_
      · first | exact Or.inl rfl | exact Or.inr rfl | assumption
      · first | exact kk | (exfalso; omega) | (repeat (first | exact kk | rw [if_pos (by omega)] at kk | rw [if_neg (by omega)] at kk))
    · refine vr_iconst (q := 32) dX3_isOne_31 rfl ⟨by decide, by decide⟩ ?_
      refine vr_goto (q := 36) dX3_isOne_32 (by decide) ?_
      refine vr_zret dX3_isOne_36 rfl ?_ ?_
      · first | exact Or.inl rfl | exact Or.inr rfl | assumption
      · first | exact kk | (exfalso; omega) | (repeat (first | exact kk | rw [if_pos (by omega)] at kk | rw [if_neg (by omega)] at kk))
  | succ n ih =>
    intro i c hi hc e
    refine vr_iload_n (q := 5) dX3_isOne_4 rfl rfl ?_
    refine vr_bipush (q := 7) dX3_isOne_5 rfl ⟨by decide, by decide⟩ (by decide) ?_
    -- at X3.isOne 7: .if_icmp .ge 19
    refine vr_ic_ge (t := 26) (q := 10) dX3_isOne_7 (by decide) rfl (fun c9 => absurd c9 (by omega)) (fun _ => ?_)
    refine vr_iload_n (q := 11) dX3_isOne_10 rfl rfl ?_
    refine vr_iload_n (q := 12) dX3_isOne_11 rfl rfl ?_
    -- at X3.isOne 12: .if_icmp .eq 14
    refine vr_ic_eq (t := 26) (q := 15) dX3_isOne_12 (by decide) rfl (fun c1 => ?_) (fun c1 => ?_)
    · have e2 : c = io_ w 6 k := by rw [← e]; show c = if c = w then c else _; rw [if_pos c1]
      rw [← e2] at kk
      refine vr_iload_n (q := 27) dX3_isOne_26 rfl rfl ?_
      refine vr_iload_n (q := 28) dX3_isOne_27 rfl rfl ?_
      refine vr_ic_ne (t := 35) (q := 31) dX3_isOne_28 (by decide) rfl (fun c28 => ?_) (fun c28 => ?_)
      · refine vr_iconst (q := 36) dX3_isOne_35 rfl ⟨by decide, by decide⟩ ?_
        refine vr_zret dX3_isOne_36 rfl ?_ ?_
        · first | exact Or.inl rfl | exact Or.inr rfl | assumption
        · first | exact kk | (exfalso; omega) | (repeat (first | exact kk | rw [if_pos (by omega)] at kk | rw [if_neg (by omega)] at kk))
      · refine vr_iconst (q := 32) dX3_isOne_31 rfl ⟨by decide, by decide⟩ ?_
        refine vr_goto (q := 36) dX3_isOne_32 (by decide) ?_
        refine vr_zret dX3_isOne_36 rfl ?_ ?_
        · first | exact Or.inl rfl | exact Or.inr rfl | assumption
        · first | exact kk | (exfalso; omega) | (repeat (first | exact kk | rw [if_pos (by omega)] at kk | rw [if_neg (by omega)] at kk))
    · have e2 : io_ w n (ab_ c) = io_ w 6 k := by rw [← e]; show _ = if c = w then c else _; rw [if_neg c1]
      refine vr_iload_n (q := 16) dX3_isOne_15 rfl rfl ?_
      -- at X3.isOne 16: .invokestatic 9
      refine vr_is1 (q := 19) dX3_isOne_16 rfl vX3_9 (Nat.le_of_ble_eq_true rfl) ?_
      refine c_above hX hc ?_
      refine vr_istore_n (q := 20) dX3_isOne_19 rfl rfl (Nat.le_of_ble_eq_true rfl) rfl rfl ?_
      refine vr_iinc (q := 23) dX3_isOne_20 rfl rfl ⟨by omega, by omega⟩ (Nat.le_of_ble_eq_true rfl) rfl rfl ?_
      refine vr_goto (q := 4) dX3_isOne_23 (by decide) ?_
      -- at X3.isOne 4: .iload_n 3
      exact ih (i + 1) (ab_ c) (by omega) (ab_i hc) e2
/-- whether a lie of kind k is one of kind w -/
def is_ (k w : Int) : Prop := w = 0 ∨ w = k ∨ (w = 1 ∧ (k = 2 ∨ k = 3)) ∨ (w = 4 ∧ k = 5)
theorem io_is {k w : Int} (hk : 1 ≤ k ∧ k ≤ 5) (hw : 0 ≤ w ∧ w < 6) : io_ w 6 k = w ↔ is_ k w := by
  unfold is_
  rcases (by omega : k = 1 ∨ k = 2 ∨ k = 3 ∨ k = 4 ∨ k = 5) with rfl | rfl | rfl | rfl | rfl <;> rcases (by omega : w = 0 ∨ w = 1 ∨ w = 2 ∨ w = 3 ∨ w = 4 ∨ w = 5) with rfl | rfl | rfl | rfl | rfl | rfl <;> decide +kernel
theorem c_isOne {k w : Int} (hX : sx_ g) (hk : 1 ≤ k ∧ k ≤ 5) (hw : 0 ≤ w ∧ w < 6) (kt : is_ k w → Post (some (sv_i 1)) h) (kf : ¬ is_ k w → Post (some (sv_i 0)) h) : Ctr_ g (d + 2) mX3_isOne [sv_i k, sv_i w] h Post := by
  refine V_mk (by decide +kernel) (Or.inr (Or.inr (Or.inl ⟨rfl, rfl⟩))) (Nat.le_of_ble_eq_true rfl) (by simp [sv_c]) ?_
  show V_ _ _ _ 0 [_, _, _, _] [] _ _
  refine vr_iload_n (q := 1) dX3_isOne_0 rfl rfl ?_
  refine vr_istore_n (q := 2) dX3_isOne_1 rfl rfl (Nat.le_of_ble_eq_true rfl) rfl rfl ?_
  refine vr_iconst (q := 3) dX3_isOne_2 rfl ⟨by decide, by decide⟩ ?_
  refine vr_istore_n (q := 4) dX3_isOne_3 rfl rfl (Nat.le_of_ble_eq_true rfl) rfl rfl ?_
  -- at X3.isOne 4: .iload_n 3
  refine l_isOne hX ?_ 6 0 k (by omega) (by omega) rfl
  by_cases c1 : io_ w 6 k = w
  · rw [if_pos c1]
    exact kt ((io_is hk hw).mp c1)
  · rw [if_neg c1]
    exact kf (fun z => c1 ((io_is hk hw).mpr z))
/-- the kind that a letter begins; 0 none -/
def kl_ (x : Int) : Int := if x = 101 then 1 else if x = 97 then 2 else if x = 104 then 3 else if x = 112 then 4 else if x = 108 then 5 else 0
theorem c_ofLetter {x : Int} (kk : Post (some (sv_i (kl_ x))) h) : Ctr_ g d mX3_ofLetter [sv_i x] h Post := by
  unfold kl_ at kk
  refine V_mk (by decide +kernel) (Or.inr (Or.inl ⟨rfl, rfl⟩)) (Nat.le_of_ble_eq_true rfl) (by simp [sv_c]) ?_
  show V_ _ _ _ 0 [_] [] _ _
  refine vr_iload_n (q := 1) dX3_ofLetter_0 rfl rfl ?_
  -- at X3.ofLetter 1: .lookupswitch 61 #[(97, 53), (101, 51), (104, 55), (108, 59), (112, 57)]
  by_cases c1 : x = 101
  · subst c1
    refine vr_lsw (q := 52) dX3_ofLetter_1 rfl rfl (by decide) ?_
    refine vr_iconst (q := 53) dX3_ofLetter_52 rfl ⟨by decide, by decide⟩ ?_
    refine vr_iret dX3_ofLetter_53 rfl ?_
    first | exact kk | (exfalso; omega) | (repeat (first | exact kk | rw [if_pos (by omega)] at kk | rw [if_neg (by omega)] at kk))
  by_cases c2 : x = 97
  · subst c2
    refine vr_lsw (q := 54) dX3_ofLetter_1 rfl rfl (by decide) ?_
    refine vr_iconst (q := 55) dX3_ofLetter_54 rfl ⟨by decide, by decide⟩ ?_
    refine vr_iret dX3_ofLetter_55 rfl ?_
    first | exact kk | (exfalso; omega) | (repeat (first | exact kk | rw [if_pos (by omega)] at kk | rw [if_neg (by omega)] at kk))
  by_cases c3 : x = 104
  · subst c3
    refine vr_lsw (q := 56) dX3_ofLetter_1 rfl rfl (by decide) ?_
    refine vr_iconst (q := 57) dX3_ofLetter_56 rfl ⟨by decide, by decide⟩ ?_
    refine vr_iret dX3_ofLetter_57 rfl ?_
    first | exact kk | (exfalso; omega) | (repeat (first | exact kk | rw [if_pos (by omega)] at kk | rw [if_neg (by omega)] at kk))
  by_cases c4 : x = 112
  · subst c4
    refine vr_lsw (q := 58) dX3_ofLetter_1 rfl rfl (by decide) ?_
    refine vr_iconst (q := 59) dX3_ofLetter_58 rfl ⟨by decide, by decide⟩ ?_
    refine vr_iret dX3_ofLetter_59 rfl ?_
    first | exact kk | (exfalso; omega) | (repeat (first | exact kk | rw [if_pos (by omega)] at kk | rw [if_neg (by omega)] at kk))
  by_cases c5 : x = 108
  · subst c5
    refine vr_lsw (q := 60) dX3_ofLetter_1 rfl rfl (by decide) ?_
    refine vr_iconst (q := 61) dX3_ofLetter_60 rfl ⟨by decide, by decide⟩ ?_
    refine vr_iret dX3_ofLetter_61 rfl ?_
    first | exact kk | (exfalso; omega) | (repeat (first | exact kk | rw [if_pos (by omega)] at kk | rw [if_neg (by omega)] at kk))
  rw [if_neg c1, if_neg c2, if_neg c3, if_neg c4, if_neg c5] at kk
  refine vr_lsw (q := 62) dX3_ofLetter_1 rfl (by simp only [Op.lookupswitch.offset_cons, Op.lookupswitch.offset_nil]; rw [if_neg (by omega), if_neg (by omega), if_neg (by omega), if_neg (by omega), if_neg (by omega)]) (by decide) ?_
  refine vr_iconst (q := 63) dX3_ofLetter_62 rfl ⟨by decide, by decide⟩ ?_
  refine vr_iret dX3_ofLetter_63 rfl ?_
  first | exact kk | (exfalso; omega) | (repeat (first | exact kk | rw [if_pos (by omega)] at kk | rw [if_neg (by omega)] at kk))
end PK_
end
section
theorem dX1_init_0 : decode cX1_init 0 = .ok (.aload_n 0, 1) := by decide +kernel
theorem dX1_init_1 : decode cX1_init 1 = .ok (.invokespecial 3, 3) := by decide +kernel
theorem dX1_init_4 : decode cX1_init 4 = .ok (.aload_n 0, 1) := by decide +kernel
theorem dX1_init_5 : decode cX1_init 5 = .ok (.bipush 16, 2) := by decide +kernel
theorem dX1_init_7 : decode cX1_init 7 = .ok (.newarray .int, 2) := by decide +kernel
theorem dX1_init_9 : decode cX1_init 9 = .ok (.putfield 11, 3) := by decide +kernel
theorem dX1_init_12 : decode cX1_init 12 = .ok (.aload_n 0, 1) := by decide +kernel
theorem dX1_init_13 : decode cX1_init 13 = .ok (.iconst 0, 1) := by decide +kernel
theorem dX1_init_14 : decode cX1_init 14 = .ok (.putfield 15, 3) := by decide +kernel
theorem dX1_init_17 : decode cX1_init 17 = .ok (.aload_n 0, 1) := by decide +kernel
theorem dX1_init_18 : decode cX1_init 18 = .ok (.aload_n 1, 1) := by decide +kernel
theorem dX1_init_19 : decode cX1_init 19 = .ok (.putfield 19, 3) := by decide +kernel
theorem dX1_init_22 : decode cX1_init 22 = .ok (.return_, 1) := by decide +kernel
theorem dX1_answer_0 : decode cX1_answer 0 = .ok (.aload_n 0, 1) := by decide +kernel
theorem dX1_answer_1 : decode cX1_answer 1 = .ok (.iconst 0, 1) := by decide +kernel
theorem dX1_answer_2 : decode cX1_answer 2 = .ok (.putfield 15, 3) := by decide +kernel
theorem dX1_answer_5 : decode cX1_answer 5 = .ok (.iload_n 2, 1) := by decide +kernel
theorem dX1_answer_6 : decode cX1_answer 6 = .ok (.ifCond .ne 12, 3) := by decide +kernel
theorem dX1_answer_9 : decode cX1_answer 9 = .ok (.aload_n 0, 1) := by decide +kernel
theorem dX1_answer_10 : decode cX1_answer 10 = .ok (.iload_n 1, 1) := by decide +kernel
theorem dX1_answer_11 : decode cX1_answer 11 = .ok (.iconst 0, 1) := by decide +kernel
theorem dX1_answer_12 : decode cX1_answer 12 = .ok (.invokevirtual 23, 3) := by decide +kernel
theorem dX1_answer_15 : decode cX1_answer 15 = .ok (.goto 9, 3) := by decide +kernel
theorem dX1_answer_18 : decode cX1_answer 18 = .ok (.aload_n 0, 1) := by decide +kernel
theorem dX1_answer_19 : decode cX1_answer 19 = .ok (.iload_n 1, 1) := by decide +kernel
theorem dX1_answer_20 : decode cX1_answer 20 = .ok (.iconst 0, 1) := by decide +kernel
theorem dX1_answer_21 : decode cX1_answer 21 = .ok (.invokevirtual 27, 3) := by decide +kernel
theorem dX1_answer_24 : decode cX1_answer 24 = .ok (.ireturn, 1) := by decide +kernel
theorem dX1_traceAt_0 : decode cX1_traceAt 0 = .ok (.iload_n 1, 1) := by decide +kernel
theorem dX1_traceAt_1 : decode cX1_traceAt 1 = .ok (.ifCond .lt 20, 3) := by decide +kernel
theorem dX1_traceAt_4 : decode cX1_traceAt 4 = .ok (.iload_n 1, 1) := by decide +kernel
theorem dX1_traceAt_5 : decode cX1_traceAt 5 = .ok (.aload_n 0, 1) := by decide +kernel
theorem dX1_traceAt_6 : decode cX1_traceAt 6 = .ok (.getfield 15, 3) := by decide +kernel
theorem dX1_traceAt_9 : decode cX1_traceAt 9 = .ok (.if_icmp .ge 12, 3) := by decide +kernel
theorem dX1_traceAt_12 : decode cX1_traceAt 12 = .ok (.aload_n 0, 1) := by decide +kernel
theorem dX1_traceAt_13 : decode cX1_traceAt 13 = .ok (.getfield 11, 3) := by decide +kernel
theorem dX1_traceAt_16 : decode cX1_traceAt 16 = .ok (.iload_n 1, 1) := by decide +kernel
theorem dX1_traceAt_17 : decode cX1_traceAt 17 = .ok (.iaload, 1) := by decide +kernel
theorem dX1_traceAt_18 : decode cX1_traceAt 18 = .ok (.goto 5, 3) := by decide +kernel
theorem dX1_traceAt_21 : decode cX1_traceAt 21 = .ok (.ldc 30, 2) := by decide +kernel
theorem dX1_traceAt_23 : decode cX1_traceAt 23 = .ok (.ireturn, 1) := by decide +kernel
theorem dX1_sizeOf_0 : decode cX1_sizeOf 0 = .ok (.aload_n 0, 1) := by decide +kernel
theorem dX1_sizeOf_1 : decode cX1_sizeOf 1 = .ok (.getstatic 31, 3) := by decide +kernel
theorem dX1_sizeOf_4 : decode cX1_sizeOf 4 = .ok (.aload_n 0, 1) := by decide +kernel
theorem dX1_sizeOf_5 : decode cX1_sizeOf 5 = .ok (.getfield 19, 3) := by decide +kernel
theorem dX1_sizeOf_8 : decode cX1_sizeOf 8 = .ok (.getfield 34, 3) := by decide +kernel
theorem dX1_sizeOf_11 : decode cX1_sizeOf 11 = .ok (.iload_n 1, 1) := by decide +kernel
theorem dX1_sizeOf_12 : decode cX1_sizeOf 12 = .ok (.iaload, 1) := by decide +kernel
theorem dX1_sizeOf_13 : decode cX1_sizeOf 13 = .ok (.invokestatic 39, 3) := by decide +kernel
theorem dX1_sizeOf_16 : decode cX1_sizeOf 16 = .ok (.iload_n 1, 1) := by decide +kernel
theorem dX1_sizeOf_17 : decode cX1_sizeOf 17 = .ok (.iload_n 2, 1) := by decide +kernel
theorem dX1_sizeOf_18 : decode cX1_sizeOf 18 = .ok (.invokevirtual 43, 3) := by decide +kernel
theorem dX1_sizeOf_21 : decode cX1_sizeOf 21 = .ok (.ireturn, 1) := by decide +kernel
theorem dX1_markOf_0 : decode cX1_markOf 0 = .ok (.aload_n 0, 1) := by decide +kernel
theorem dX1_markOf_1 : decode cX1_markOf 1 = .ok (.getstatic 47, 3) := by decide +kernel
theorem dX1_markOf_4 : decode cX1_markOf 4 = .ok (.aload_n 0, 1) := by decide +kernel
theorem dX1_markOf_5 : decode cX1_markOf 5 = .ok (.getfield 19, 3) := by decide +kernel
theorem dX1_markOf_8 : decode cX1_markOf 8 = .ok (.getfield 34, 3) := by decide +kernel
theorem dX1_markOf_11 : decode cX1_markOf 11 = .ok (.iload_n 1, 1) := by decide +kernel
theorem dX1_markOf_12 : decode cX1_markOf 12 = .ok (.iaload, 1) := by decide +kernel
theorem dX1_markOf_13 : decode cX1_markOf 13 = .ok (.invokestatic 39, 3) := by decide +kernel
theorem dX1_markOf_16 : decode cX1_markOf 16 = .ok (.iload_n 1, 1) := by decide +kernel
theorem dX1_markOf_17 : decode cX1_markOf 17 = .ok (.iload_n 2, 1) := by decide +kernel
theorem dX1_markOf_18 : decode cX1_markOf 18 = .ok (.invokevirtual 43, 3) := by decide +kernel
theorem dX1_markOf_21 : decode cX1_markOf 21 = .ok (.ireturn, 1) := by decide +kernel
theorem dX1_nearestBody_0 : decode cX1_nearestBody 0 = .ok (.iload_n 1, 1) := by decide +kernel
theorem dX1_nearestBody_1 : decode cX1_nearestBody 1 = .ok (.istore_n 2, 1) := by decide +kernel
theorem dX1_nearestBody_2 : decode cX1_nearestBody 2 = .ok (.iconst 0, 1) := by decide +kernel
theorem dX1_nearestBody_3 : decode cX1_nearestBody 3 = .ok (.istore_n 3, 1) := by decide +kernel
theorem dX1_nearestBody_4 : decode cX1_nearestBody 4 = .ok (.iload_n 3, 1) := by decide +kernel
theorem dX1_nearestBody_5 : decode cX1_nearestBody 5 = .ok (.bipush 6, 2) := by decide +kernel
theorem dX1_nearestBody_7 : decode cX1_nearestBody 7 = .ok (.if_icmp .ge 20, 3) := by decide +kernel
theorem dX1_nearestBody_10 : decode cX1_nearestBody 10 = .ok (.aload_n 0, 1) := by decide +kernel
theorem dX1_nearestBody_11 : decode cX1_nearestBody 11 = .ok (.iload_n 2, 1) := by decide +kernel
theorem dX1_nearestBody_12 : decode cX1_nearestBody 12 = .ok (.iaload, 1) := by decide +kernel
theorem dX1_nearestBody_13 : decode cX1_nearestBody 13 = .ok (.ifCond .ne 14, 3) := by decide +kernel
theorem dX1_nearestBody_16 : decode cX1_nearestBody 16 = .ok (.iload_n 2, 1) := by decide +kernel
theorem dX1_nearestBody_17 : decode cX1_nearestBody 17 = .ok (.invokestatic 52, 3) := by decide +kernel
theorem dX1_nearestBody_20 : decode cX1_nearestBody 20 = .ok (.istore_n 2, 1) := by decide +kernel
theorem dX1_nearestBody_21 : decode cX1_nearestBody 21 = .ok (.iinc 3 1, 3) := by decide +kernel
theorem dX1_nearestBody_24 : decode cX1_nearestBody 24 = .ok (.goto (-20), 3) := by decide +kernel
theorem dX1_nearestBody_27 : decode cX1_nearestBody 27 = .ok (.aload_n 0, 1) := by decide +kernel
theorem dX1_nearestBody_28 : decode cX1_nearestBody 28 = .ok (.iload_n 2, 1) := by decide +kernel
theorem dX1_nearestBody_29 : decode cX1_nearestBody 29 = .ok (.iaload, 1) := by decide +kernel
theorem dX1_nearestBody_30 : decode cX1_nearestBody 30 = .ok (.ireturn, 1) := by decide +kernel
theorem dX1_run_0 : decode cX1_run 0 = .ok (.iload_n 3, 1) := by decide +kernel
theorem dX1_run_1 : decode cX1_run 1 = .ok (.bipush 20, 2) := by decide +kernel
theorem dX1_run_3 : decode cX1_run 3 = .ok (.if_icmp .le 5, 3) := by decide +kernel
theorem dX1_run_6 : decode cX1_run 6 = .ok (.iconst 0, 1) := by decide +kernel
theorem dX1_run_7 : decode cX1_run 7 = .ok (.ireturn, 1) := by decide +kernel
theorem dX1_run_8 : decode cX1_run 8 = .ok (.aload_n 0, 1) := by decide +kernel
theorem dX1_run_9 : decode cX1_run 9 = .ok (.iload_n 1, 1) := by decide +kernel
theorem dX1_run_10 : decode cX1_run 10 = .ok (.invokevirtual 56, 3) := by decide +kernel
theorem dX1_run_13 : decode cX1_run 13 = .ok (.iload_n 3, 1) := by decide +kernel
theorem dX1_run_14 : decode cX1_run 14 = .ok (.iconst 1, 1) := by decide +kernel
theorem dX1_run_15 : decode cX1_run 15 = .ok (.iadd, 1) := by decide +kernel
theorem dX1_run_16 : decode cX1_run 16 = .ok (.istore 4, 2) := by decide +kernel
theorem dX1_run_18 : decode cX1_run 18 = .ok (.iload_n 1, 1) := by decide +kernel
theorem dX1_run_19 : decode cX1_run 19 = .ok (.tableswitch 209 10 24 #[73, 83, 101, 112, 125, 209, 209, 209, 209, 209, 137, 139, 165, 179, 197], 73) := by decide +kernel
theorem dX1_run_92 : decode cX1_run 92 = .ok (.aload_n 0, 1) := by decide +kernel
theorem dX1_run_93 : decode cX1_run 93 = .ok (.getfield 19, 3) := by decide +kernel
theorem dX1_run_96 : decode cX1_run 96 = .ok (.getfield 60, 3) := by decide +kernel
theorem dX1_run_99 : decode cX1_run 99 = .ok (.iload_n 2, 1) := by decide +kernel
theorem dX1_run_100 : decode cX1_run 100 = .ok (.iaload, 1) := by decide +kernel
theorem dX1_run_101 : decode cX1_run 101 = .ok (.ireturn, 1) := by decide +kernel
theorem dX1_run_102 : decode cX1_run 102 = .ok (.aload_n 0, 1) := by decide +kernel
theorem dX1_run_103 : decode cX1_run 103 = .ok (.bipush 10, 2) := by decide +kernel
theorem dX1_run_105 : decode cX1_run 105 = .ok (.iload_n 2, 1) := by decide +kernel
theorem dX1_run_106 : decode cX1_run 106 = .ok (.iload 4, 2) := by decide +kernel
theorem dX1_run_108 : decode cX1_run 108 = .ok (.invokevirtual 43, 3) := by decide +kernel
theorem dX1_run_111 : decode cX1_run 111 = .ok (.aload_n 0, 1) := by decide +kernel
theorem dX1_run_112 : decode cX1_run 112 = .ok (.iload_n 2, 1) := by decide +kernel
theorem dX1_run_113 : decode cX1_run 113 = .ok (.iload 4, 2) := by decide +kernel
theorem dX1_run_115 : decode cX1_run 115 = .ok (.invokevirtual 27, 3) := by decide +kernel
theorem dX1_run_118 : decode cX1_run 118 = .ok (.iadd, 1) := by decide +kernel
theorem dX1_run_119 : decode cX1_run 119 = .ok (.ireturn, 1) := by decide +kernel
theorem dX1_run_120 : decode cX1_run 120 = .ok (.aload_n 0, 1) := by decide +kernel
theorem dX1_run_121 : decode cX1_run 121 = .ok (.bipush 11, 2) := by decide +kernel
theorem dX1_run_123 : decode cX1_run 123 = .ok (.iload_n 2, 1) := by decide +kernel
theorem dX1_run_124 : decode cX1_run 124 = .ok (.iload 4, 2) := by decide +kernel
theorem dX1_run_126 : decode cX1_run 126 = .ok (.invokevirtual 43, 3) := by decide +kernel
theorem dX1_run_129 : decode cX1_run 129 = .ok (.ineg, 1) := by decide +kernel
theorem dX1_run_130 : decode cX1_run 130 = .ok (.ireturn, 1) := by decide +kernel
theorem dX1_run_131 : decode cX1_run 131 = .ok (.aload_n 0, 1) := by decide +kernel
theorem dX1_run_132 : decode cX1_run 132 = .ok (.bipush 10, 2) := by decide +kernel
theorem dX1_run_134 : decode cX1_run 134 = .ok (.iload_n 2, 1) := by decide +kernel
theorem dX1_run_135 : decode cX1_run 135 = .ok (.iload 4, 2) := by decide +kernel
theorem dX1_run_137 : decode cX1_run 137 = .ok (.invokevirtual 43, 3) := by decide +kernel
theorem dX1_run_140 : decode cX1_run 140 = .ok (.bipush 100, 2) := by decide +kernel
theorem dX1_run_142 : decode cX1_run 142 = .ok (.isub, 1) := by decide +kernel
theorem dX1_run_143 : decode cX1_run 143 = .ok (.ireturn, 1) := by decide +kernel
theorem dX1_run_144 : decode cX1_run 144 = .ok (.iconst 2, 1) := by decide +kernel
theorem dX1_run_145 : decode cX1_run 145 = .ok (.aload_n 0, 1) := by decide +kernel
theorem dX1_run_146 : decode cX1_run 146 = .ok (.bipush 13, 2) := by decide +kernel
theorem dX1_run_148 : decode cX1_run 148 = .ok (.iload_n 2, 1) := by decide +kernel
theorem dX1_run_149 : decode cX1_run 149 = .ok (.iload 4, 2) := by decide +kernel
theorem dX1_run_151 : decode cX1_run 151 = .ok (.invokevirtual 43, 3) := by decide +kernel
theorem dX1_run_154 : decode cX1_run 154 = .ok (.imul, 1) := by decide +kernel
theorem dX1_run_155 : decode cX1_run 155 = .ok (.ireturn, 1) := by decide +kernel
theorem dX1_run_156 : decode cX1_run 156 = .ok (.iload_n 2, 1) := by decide +kernel
theorem dX1_run_157 : decode cX1_run 157 = .ok (.ireturn, 1) := by decide +kernel
theorem dX1_run_158 : decode cX1_run 158 = .ok (.aload_n 0, 1) := by decide +kernel
theorem dX1_run_159 : decode cX1_run 159 = .ok (.bipush 20, 2) := by decide +kernel
theorem dX1_run_161 : decode cX1_run 161 = .ok (.iload_n 2, 1) := by decide +kernel
theorem dX1_run_162 : decode cX1_run 162 = .ok (.iload 4, 2) := by decide +kernel
theorem dX1_run_164 : decode cX1_run 164 = .ok (.invokevirtual 43, 3) := by decide +kernel
theorem dX1_run_167 : decode cX1_run 167 = .ok (.aload_n 0, 1) := by decide +kernel
theorem dX1_run_168 : decode cX1_run 168 = .ok (.getfield 19, 3) := by decide +kernel
theorem dX1_run_171 : decode cX1_run 171 = .ok (.aload_n 0, 1) := by decide +kernel
theorem dX1_run_172 : decode cX1_run 172 = .ok (.getfield 19, 3) := by decide +kernel
theorem dX1_run_175 : decode cX1_run 175 = .ok (.getfield 63, 3) := by decide +kernel
theorem dX1_run_178 : decode cX1_run 178 = .ok (.iload_n 2, 1) := by decide +kernel
theorem dX1_run_179 : decode cX1_run 179 = .ok (.invokevirtual 66, 3) := by decide +kernel
theorem dX1_run_182 : decode cX1_run 182 = .ok (.iadd, 1) := by decide +kernel
theorem dX1_run_183 : decode cX1_run 183 = .ok (.ireturn, 1) := by decide +kernel
theorem dX1_run_184 : decode cX1_run 184 = .ok (.aload_n 0, 1) := by decide +kernel
theorem dX1_run_185 : decode cX1_run 185 = .ok (.bipush 21, 2) := by decide +kernel
theorem dX1_run_187 : decode cX1_run 187 = .ok (.iload_n 2, 1) := by decide +kernel
theorem dX1_run_188 : decode cX1_run 188 = .ok (.iload 4, 2) := by decide +kernel
theorem dX1_run_190 : decode cX1_run 190 = .ok (.invokevirtual 43, 3) := by decide +kernel
theorem dX1_run_193 : decode cX1_run 193 = .ok (.sipush 1000, 3) := by decide +kernel
theorem dX1_run_196 : decode cX1_run 196 = .ok (.isub, 1) := by decide +kernel
theorem dX1_run_197 : decode cX1_run 197 = .ok (.ireturn, 1) := by decide +kernel
theorem dX1_run_198 : decode cX1_run 198 = .ok (.aload_n 0, 1) := by decide +kernel
theorem dX1_run_199 : decode cX1_run 199 = .ok (.bipush 20, 2) := by decide +kernel
theorem dX1_run_201 : decode cX1_run 201 = .ok (.iload_n 2, 1) := by decide +kernel
theorem dX1_run_202 : decode cX1_run 202 = .ok (.iload 4, 2) := by decide +kernel
theorem dX1_run_204 : decode cX1_run 204 = .ok (.invokevirtual 43, 3) := by decide +kernel
theorem dX1_run_207 : decode cX1_run 207 = .ok (.aload_n 0, 1) := by decide +kernel
theorem dX1_run_208 : decode cX1_run 208 = .ok (.iload_n 2, 1) := by decide +kernel
theorem dX1_run_209 : decode cX1_run 209 = .ok (.iload 4, 2) := by decide +kernel
theorem dX1_run_211 : decode cX1_run 211 = .ok (.invokevirtual 23, 3) := by decide +kernel
theorem dX1_run_214 : decode cX1_run 214 = .ok (.isub, 1) := by decide +kernel
theorem dX1_run_215 : decode cX1_run 215 = .ok (.ireturn, 1) := by decide +kernel
theorem dX1_run_216 : decode cX1_run 216 = .ok (.iconst 2, 1) := by decide +kernel
theorem dX1_run_217 : decode cX1_run 217 = .ok (.aload_n 0, 1) := by decide +kernel
theorem dX1_run_218 : decode cX1_run 218 = .ok (.bipush 21, 2) := by decide +kernel
theorem dX1_run_220 : decode cX1_run 220 = .ok (.iload_n 2, 1) := by decide +kernel
theorem dX1_run_221 : decode cX1_run 221 = .ok (.iload 4, 2) := by decide +kernel
theorem dX1_run_223 : decode cX1_run 223 = .ok (.invokevirtual 43, 3) := by decide +kernel
theorem dX1_run_226 : decode cX1_run 226 = .ok (.imul, 1) := by decide +kernel
theorem dX1_run_227 : decode cX1_run 227 = .ok (.ireturn, 1) := by decide +kernel
theorem dX1_run_228 : decode cX1_run 228 = .ok (.iconst 0, 1) := by decide +kernel
theorem dX1_run_229 : decode cX1_run 229 = .ok (.ireturn, 1) := by decide +kernel
theorem dX1_leaveTrace_0 : decode cX1_leaveTrace 0 = .ok (.aload_n 0, 1) := by decide +kernel
theorem dX1_leaveTrace_1 : decode cX1_leaveTrace 1 = .ok (.getfield 15, 3) := by decide +kernel
theorem dX1_leaveTrace_4 : decode cX1_leaveTrace 4 = .ok (.bipush 16, 2) := by decide +kernel
theorem dX1_leaveTrace_6 : decode cX1_leaveTrace 6 = .ok (.if_icmp .ge 23, 3) := by decide +kernel
theorem dX1_leaveTrace_9 : decode cX1_leaveTrace 9 = .ok (.aload_n 0, 1) := by decide +kernel
theorem dX1_leaveTrace_10 : decode cX1_leaveTrace 10 = .ok (.getfield 11, 3) := by decide +kernel
theorem dX1_leaveTrace_13 : decode cX1_leaveTrace 13 = .ok (.aload_n 0, 1) := by decide +kernel
theorem dX1_leaveTrace_14 : decode cX1_leaveTrace 14 = .ok (.getfield 15, 3) := by decide +kernel
theorem dX1_leaveTrace_17 : decode cX1_leaveTrace 17 = .ok (.iload_n 1, 1) := by decide +kernel
theorem dX1_leaveTrace_18 : decode cX1_leaveTrace 18 = .ok (.iastore, 1) := by decide +kernel
theorem dX1_leaveTrace_19 : decode cX1_leaveTrace 19 = .ok (.aload_n 0, 1) := by decide +kernel
theorem dX1_leaveTrace_20 : decode cX1_leaveTrace 20 = .ok (.dup, 1) := by decide +kernel
theorem dX1_leaveTrace_21 : decode cX1_leaveTrace 21 = .ok (.getfield 15, 3) := by decide +kernel
theorem dX1_leaveTrace_24 : decode cX1_leaveTrace 24 = .ok (.iconst 1, 1) := by decide +kernel
theorem dX1_leaveTrace_25 : decode cX1_leaveTrace 25 = .ok (.iadd, 1) := by decide +kernel
theorem dX1_leaveTrace_26 : decode cX1_leaveTrace 26 = .ok (.putfield 15, 3) := by decide +kernel
theorem dX1_leaveTrace_29 : decode cX1_leaveTrace 29 = .ok (.return_, 1) := by decide +kernel
end
section
/-- a body's number comes into the trace -/
def lt_ (h : SH_) (b : Int) : SH_ := if h 66 2 < 16 then hs_ (hs_ h 67 (h 66 2) b) 66 2 (h 66 2 + 1) else h
theorem lt_k {h : SH_} {b a : Int} (h1 : a ≠ 66) (h2 : a ≠ 67) : lt_ h b a = h a := by
  unfold lt_
  split
  · rw [hs_k h1, hs_k h2]
  · rfl
theorem lt_r {h : SH_} {b : Int} (ht : 0 ≤ h 66 2 ∧ h 66 2 ≤ 16) : 0 ≤ lt_ h b 66 2 ∧ lt_ h b 66 2 ≤ 16 := by
  unfold lt_
  split
  · rw [hs_e]; omega
  · exact ht
/-- a lie's SIZE and MARK: kind k, weight w, its number l, n strangers nodded at it -/
def mv_ (k w l n : Int) : Int := if k = 1 then l + n else if k = 2 then 2 * (l + n) else if k = 3 then l + n - 1000 else if k = 4 then l - (w - 100) else l - 2 * (w - 100)
def zv_ (k w l n : Int) : Int := if k = 2 then -(w + 2 * (l + n)) else if k = 4 then w - 100 else if k = 5 then 2 * (w - 100) else if k = 1 then w + (l + n) else w + (l + n - 1000)
section PA_
variable {g : SG_} {d : Nat} {h : SH_} {Post : Option SV_ → SH_ → Prop}
theorem c_leaveTrace {b : Int} (ht : 0 ≤ h 66 2 ∧ h 66 2 ≤ 16) (kk : Post none (lt_ h b)) : Ctr_ g d mX1_leaveTrace [sv_r 4 1 66, sv_i b] h Post := by
  unfold lt_ at kk
  refine V_mk (by decide +kernel) (Or.inl ⟨rfl, rfl⟩) (Nat.le_of_ble_eq_true rfl) (by simp [sv_c]) ?_
  show V_ _ _ _ 0 [_, _] [] _ _
  refine vr_aload_n (q := 1) dX1_leaveTrace_0 rfl rfl ?_
  refine vr_getI (ji := 2) (q := 4) dX1_leaveTrace_1 rfl fX1_15 rfl rfl ?_
  refine vr_bipush (q := 6) dX1_leaveTrace_4 rfl ⟨by decide, by decide⟩ (by decide) ?_
  refine vr_ic_ge (t := 29) (q := 9) dX1_leaveTrace_6 (by decide) rfl (fun c6 => ?_) (fun c6 => ?_)
  · refine vr_vret dX1_leaveTrace_29 rfl ?_
    first | exact kk | (exfalso; omega) | (repeat (first | exact kk | rw [if_pos (by omega)] at kk | rw [if_neg (by omega)] at kk))
  · refine vr_aload_n (q := 10) dX1_leaveTrace_9 rfl rfl ?_
    refine vr_getR (q := 13) dX1_leaveTrace_10 rfl fX1_11 rfl y_X1_1 (by first | (simp only [Int.reduceAdd]; rfl) | rfl) ?_
    refine vr_aload_n (q := 14) dX1_leaveTrace_13 rfl rfl ?_
    refine vr_getI (ji := 2) (q := 17) dX1_leaveTrace_14 rfl fX1_15 rfl rfl ?_
    refine vr_iload_n (q := 18) dX1_leaveTrace_17 rfl rfl ?_
    refine vr_iast (q := 19) dX1_leaveTrace_18 rfl ⟨by omega, by omega⟩ ?_
    refine vr_aload_n (q := 20) dX1_leaveTrace_19 rfl rfl ?_
    refine vr_dup (q := 21) dX1_leaveTrace_20 rfl rfl ?_
    refine vr_getV (ji := 2) (q := 24) dX1_leaveTrace_21 rfl fX1_15 rfl rfl (by rw [hs_k (by omega)]) ?_
    refine vr_iconst (q := 25) dX1_leaveTrace_24 rfl ⟨by decide, by decide⟩ ?_
    refine vr_iaddN (q := 26) dX1_leaveTrace_25 rfl ⟨by omega, by omega⟩ ?_
    refine vr_put (ji := 2) (q := 29) dX1_leaveTrace_26 rfl pX1_15 rfl rfl ?_
    refine vr_vret dX1_leaveTrace_29 rfl ?_
    first | exact kk | (exfalso; omega) | (repeat (first | exact kk | rw [if_pos (by omega)] at kk | rw [if_neg (by omega)] at kk))
theorem c_traceAt {i : Int} (ht : 0 ≤ h 66 2 ∧ h 66 2 ≤ 16) (kk : Post (some (sv_i (if 0 ≤ i ∧ i < h 66 2 then h 67 i else -1000000))) h) : Ctr_ g d mX1_traceAt [sv_r 4 1 66, sv_i i] h Post := by
  refine V_mk (by decide +kernel) (Or.inr (Or.inl ⟨rfl, rfl⟩)) (Nat.le_of_ble_eq_true rfl) (by simp [sv_c]) ?_
  show V_ _ _ _ 0 [_, _] [] _ _
  refine vr_iload_n (q := 1) dX1_traceAt_0 rfl rfl ?_
  refine vr_if_lt (t := 21) (q := 4) dX1_traceAt_1 (by decide) rfl (fun c1 => ?_) (fun c1 => ?_)
  · refine vr_ldc (x := -1000000) (q := 23) dX1_traceAt_21 rfl ⟨by decide, by decide⟩ qX1_30 ?_
    refine vr_iret dX1_traceAt_23 rfl ?_
    first | exact kk | (exfalso; omega) | (repeat (first | exact kk | rw [if_pos (by omega)] at kk | rw [if_neg (by omega)] at kk))
  · refine vr_iload_n (q := 5) dX1_traceAt_4 rfl rfl ?_
    refine vr_aload_n (q := 6) dX1_traceAt_5 rfl rfl ?_
    refine vr_getI (ji := 2) (q := 9) dX1_traceAt_6 rfl fX1_15 rfl rfl ?_
    refine vr_ic_ge (t := 21) (q := 12) dX1_traceAt_9 (by decide) rfl (fun c9 => ?_) (fun c9 => ?_)
    · refine vr_ldc (x := -1000000) (q := 23) dX1_traceAt_21 rfl ⟨by decide, by decide⟩ qX1_30 ?_
      refine vr_iret dX1_traceAt_23 rfl ?_
      first | exact kk | (exfalso; omega) | (repeat (first | exact kk | rw [if_pos (by omega)] at kk | rw [if_neg (by omega)] at kk))
    · refine vr_aload_n (q := 13) dX1_traceAt_12 rfl rfl ?_
      refine vr_getR (q := 16) dX1_traceAt_13 rfl fX1_11 rfl y_X1_1 (by first | (simp only [Int.reduceAdd]; rfl) | rfl) ?_
      refine vr_iload_n (q := 17) dX1_traceAt_16 rfl rfl ?_
      refine vr_iald (q := 18) dX1_traceAt_17 rfl ⟨by omega, by omega⟩ ?_
      refine vr_goto (q := 23) dX1_traceAt_18 (by decide) ?_
      refine vr_iret dX1_traceAt_23 rfl ?_
      first | exact kk | (exfalso; omega) | (repeat (first | exact kk | rw [if_pos (by omega)] at kk | rw [if_neg (by omega)] at kk))
theorem c_nearS {k : Int} (hX : sx_ g) (hk : 1 ≤ k ∧ k ≤ 5) (kk : Post (some (sv_i (if k = 2 then 12 else if k = 4 then 13 else if k = 5 then 14 else 11))) h) : Ctr_ g (d + 2) mX1_nearestBody [sv_r 5 1 0, sv_i k] h Post := by
  have e0 := hX 1 (by decide)
  have hb : ∀ i : Int, 0 ≤ i → i < 6 → 0 ≤ i ∧ i < ((sg_X g 1).1 : Int) := fun i h1 h2 => ⟨h1, by rw [e0]; exact h2⟩
  refine V_mk (by decide +kernel) (Or.inr (Or.inl ⟨rfl, rfl⟩)) (Nat.le_of_ble_eq_true rfl) (by simp [sv_c]) ?_
  show V_ _ _ _ 0 [_, _, _, _] [] _ _
  rcases (by omega : k = 1 ∨ k = 2 ∨ k = 3 ∨ k = 4 ∨ k = 5) with rfl | rfl | rfl | rfl | rfl
  · refine vr_iload_n (q := 1) dX1_nearestBody_0 rfl rfl ?_
    refine vr_istore_n (q := 2) dX1_nearestBody_1 rfl rfl (Nat.le_of_ble_eq_true rfl) rfl rfl ?_
    refine vr_iconst (q := 3) dX1_nearestBody_2 rfl ⟨by decide, by decide⟩ ?_
    refine vr_istore_n (q := 4) dX1_nearestBody_3 rfl rfl (Nat.le_of_ble_eq_true rfl) rfl rfl ?_
    refine vr_iload_n (q := 5) dX1_nearestBody_4 rfl rfl ?_
    refine vr_bipush (q := 7) dX1_nearestBody_5 rfl ⟨by decide, by decide⟩ (by decide) ?_
    refine vr_ic_ge (t := 27) (q := 10) dX1_nearestBody_7 (by decide) rfl (fun c9 => absurd c9 (by omega)) (fun _ => ?_)
    refine vr_aload_n (q := 11) dX1_nearestBody_10 rfl rfl ?_
    refine vr_iload_n (q := 12) dX1_nearestBody_11 rfl rfl ?_
    refine vr_xaldV (q := 13) dX1_nearestBody_12 rfl (hb _ (by decide) (by decide)) (show (sg_X g 1).2 _ = 11 by rw [e0]; rfl) ?_
    refine vr_if_ne (t := 27) (q := 16) dX1_nearestBody_13 (by decide) rfl (fun _ => ?_) (fun c9 => absurd c9 (by omega))
    refine vr_aload_n (q := 28) dX1_nearestBody_27 rfl rfl ?_
    refine vr_iload_n (q := 29) dX1_nearestBody_28 rfl rfl ?_
    refine vr_xaldV (q := 30) dX1_nearestBody_29 rfl (hb _ (by decide) (by decide)) (show (sg_X g 1).2 _ = 11 by rw [e0]; rfl) ?_
    refine vr_iret dX1_nearestBody_30 rfl ?_
    first | exact kk | (exfalso; omega) | (repeat (first | exact kk | rw [if_pos (by omega)] at kk | rw [if_neg (by omega)] at kk))
  · refine vr_iload_n (q := 1) dX1_nearestBody_0 rfl rfl ?_
    refine vr_istore_n (q := 2) dX1_nearestBody_1 rfl rfl (Nat.le_of_ble_eq_true rfl) rfl rfl ?_
    refine vr_iconst (q := 3) dX1_nearestBody_2 rfl ⟨by decide, by decide⟩ ?_
    refine vr_istore_n (q := 4) dX1_nearestBody_3 rfl rfl (Nat.le_of_ble_eq_true rfl) rfl rfl ?_
    refine vr_iload_n (q := 5) dX1_nearestBody_4 rfl rfl ?_
    refine vr_bipush (q := 7) dX1_nearestBody_5 rfl ⟨by decide, by decide⟩ (by decide) ?_
    refine vr_ic_ge (t := 27) (q := 10) dX1_nearestBody_7 (by decide) rfl (fun c9 => absurd c9 (by omega)) (fun _ => ?_)
    refine vr_aload_n (q := 11) dX1_nearestBody_10 rfl rfl ?_
    refine vr_iload_n (q := 12) dX1_nearestBody_11 rfl rfl ?_
    refine vr_xaldV (q := 13) dX1_nearestBody_12 rfl (hb _ (by decide) (by decide)) (show (sg_X g 1).2 _ = 12 by rw [e0]; rfl) ?_
    refine vr_if_ne (t := 27) (q := 16) dX1_nearestBody_13 (by decide) rfl (fun _ => ?_) (fun c9 => absurd c9 (by omega))
    refine vr_aload_n (q := 28) dX1_nearestBody_27 rfl rfl ?_
    refine vr_iload_n (q := 29) dX1_nearestBody_28 rfl rfl ?_
    refine vr_xaldV (q := 30) dX1_nearestBody_29 rfl (hb _ (by decide) (by decide)) (show (sg_X g 1).2 _ = 12 by rw [e0]; rfl) ?_
    refine vr_iret dX1_nearestBody_30 rfl ?_
    first | exact kk | (exfalso; omega) | (repeat (first | exact kk | rw [if_pos (by omega)] at kk | rw [if_neg (by omega)] at kk))
  · refine vr_iload_n (q := 1) dX1_nearestBody_0 rfl rfl ?_
    refine vr_istore_n (q := 2) dX1_nearestBody_1 rfl rfl (Nat.le_of_ble_eq_true rfl) rfl rfl ?_
    refine vr_iconst (q := 3) dX1_nearestBody_2 rfl ⟨by decide, by decide⟩ ?_
    refine vr_istore_n (q := 4) dX1_nearestBody_3 rfl rfl (Nat.le_of_ble_eq_true rfl) rfl rfl ?_
    refine vr_iload_n (q := 5) dX1_nearestBody_4 rfl rfl ?_
    refine vr_bipush (q := 7) dX1_nearestBody_5 rfl ⟨by decide, by decide⟩ (by decide) ?_
    refine vr_ic_ge (t := 27) (q := 10) dX1_nearestBody_7 (by decide) rfl (fun c9 => absurd c9 (by omega)) (fun _ => ?_)
    refine vr_aload_n (q := 11) dX1_nearestBody_10 rfl rfl ?_
    refine vr_iload_n (q := 12) dX1_nearestBody_11 rfl rfl ?_
    refine vr_xaldV (q := 13) dX1_nearestBody_12 rfl (hb _ (by decide) (by decide)) (show (sg_X g 1).2 _ = 0 by rw [e0]; rfl) ?_
    refine vr_if_ne (t := 27) (q := 16) dX1_nearestBody_13 (by decide) rfl (fun c9 => absurd c9 (by omega)) (fun _ => ?_)
    refine vr_iload_n (q := 17) dX1_nearestBody_16 rfl rfl ?_
    refine vr_is1 (q := 20) dX1_nearestBody_17 rfl vX1_52 (Nat.le_of_ble_eq_true rfl) ?_
    refine c_above hX (by decide) ?_
    skip
    refine vr_istore_n (q := 21) dX1_nearestBody_20 rfl rfl (Nat.le_of_ble_eq_true rfl) rfl rfl ?_
    refine vr_iinc (q := 24) dX1_nearestBody_21 rfl rfl ⟨by omega, by omega⟩ (Nat.le_of_ble_eq_true rfl) rfl rfl ?_
    refine vr_goto (q := 4) dX1_nearestBody_24 (by decide) ?_
    refine vr_iload_n (q := 5) dX1_nearestBody_4 rfl rfl ?_
    refine vr_bipush (q := 7) dX1_nearestBody_5 rfl ⟨by decide, by decide⟩ (by decide) ?_
    refine vr_ic_ge (t := 27) (q := 10) dX1_nearestBody_7 (by decide) rfl (fun c9 => absurd c9 (by omega)) (fun _ => ?_)
    refine vr_aload_n (q := 11) dX1_nearestBody_10 rfl rfl ?_
    refine vr_iload_n (q := 12) dX1_nearestBody_11 rfl rfl ?_
    refine vr_xaldV (q := 13) dX1_nearestBody_12 rfl (hb _ (by decide) (by decide)) (show (sg_X g 1).2 _ = 11 by rw [e0]; rfl) ?_
    refine vr_if_ne (t := 27) (q := 16) dX1_nearestBody_13 (by decide) rfl (fun _ => ?_) (fun c9 => absurd c9 (by omega))
    refine vr_aload_n (q := 28) dX1_nearestBody_27 rfl rfl ?_
    refine vr_iload_n (q := 29) dX1_nearestBody_28 rfl rfl ?_
    refine vr_xaldV (q := 30) dX1_nearestBody_29 rfl (hb _ (by decide) (by decide)) (show (sg_X g 1).2 _ = 11 by rw [e0]; rfl) ?_
    refine vr_iret dX1_nearestBody_30 rfl ?_
    first | exact kk | (exfalso; omega) | (repeat (first | exact kk | rw [if_pos (by omega)] at kk | rw [if_neg (by omega)] at kk))
  · refine vr_iload_n (q := 1) dX1_nearestBody_0 rfl rfl ?_
    refine vr_istore_n (q := 2) dX1_nearestBody_1 rfl rfl (Nat.le_of_ble_eq_true rfl) rfl rfl ?_
    refine vr_iconst (q := 3) dX1_nearestBody_2 rfl ⟨by decide, by decide⟩ ?_
    refine vr_istore_n (q := 4) dX1_nearestBody_3 rfl rfl (Nat.le_of_ble_eq_true rfl) rfl rfl ?_
    refine vr_iload_n (q := 5) dX1_nearestBody_4 rfl rfl ?_
    refine vr_bipush (q := 7) dX1_nearestBody_5 rfl ⟨by decide, by decide⟩ (by decide) ?_
    refine vr_ic_ge (t := 27) (q := 10) dX1_nearestBody_7 (by decide) rfl (fun c9 => absurd c9 (by omega)) (fun _ => ?_)
    refine vr_aload_n (q := 11) dX1_nearestBody_10 rfl rfl ?_
    refine vr_iload_n (q := 12) dX1_nearestBody_11 rfl rfl ?_
    refine vr_xaldV (q := 13) dX1_nearestBody_12 rfl (hb _ (by decide) (by decide)) (show (sg_X g 1).2 _ = 13 by rw [e0]; rfl) ?_
    refine vr_if_ne (t := 27) (q := 16) dX1_nearestBody_13 (by decide) rfl (fun _ => ?_) (fun c9 => absurd c9 (by omega))
    refine vr_aload_n (q := 28) dX1_nearestBody_27 rfl rfl ?_
    refine vr_iload_n (q := 29) dX1_nearestBody_28 rfl rfl ?_
    refine vr_xaldV (q := 30) dX1_nearestBody_29 rfl (hb _ (by decide) (by decide)) (show (sg_X g 1).2 _ = 13 by rw [e0]; rfl) ?_
    refine vr_iret dX1_nearestBody_30 rfl ?_
    first | exact kk | (exfalso; omega) | (repeat (first | exact kk | rw [if_pos (by omega)] at kk | rw [if_neg (by omega)] at kk))
  · refine vr_iload_n (q := 1) dX1_nearestBody_0 rfl rfl ?_
    refine vr_istore_n (q := 2) dX1_nearestBody_1 rfl rfl (Nat.le_of_ble_eq_true rfl) rfl rfl ?_
    refine vr_iconst (q := 3) dX1_nearestBody_2 rfl ⟨by decide, by decide⟩ ?_
    refine vr_istore_n (q := 4) dX1_nearestBody_3 rfl rfl (Nat.le_of_ble_eq_true rfl) rfl rfl ?_
    refine vr_iload_n (q := 5) dX1_nearestBody_4 rfl rfl ?_
    refine vr_bipush (q := 7) dX1_nearestBody_5 rfl ⟨by decide, by decide⟩ (by decide) ?_
    refine vr_ic_ge (t := 27) (q := 10) dX1_nearestBody_7 (by decide) rfl (fun c9 => absurd c9 (by omega)) (fun _ => ?_)
    refine vr_aload_n (q := 11) dX1_nearestBody_10 rfl rfl ?_
    refine vr_iload_n (q := 12) dX1_nearestBody_11 rfl rfl ?_
    refine vr_xaldV (q := 13) dX1_nearestBody_12 rfl (hb _ (by decide) (by decide)) (show (sg_X g 1).2 _ = 14 by rw [e0]; rfl) ?_
    refine vr_if_ne (t := 27) (q := 16) dX1_nearestBody_13 (by decide) rfl (fun _ => ?_) (fun c9 => absurd c9 (by omega))
    refine vr_aload_n (q := 28) dX1_nearestBody_27 rfl rfl ?_
    refine vr_iload_n (q := 29) dX1_nearestBody_28 rfl rfl ?_
    refine vr_xaldV (q := 30) dX1_nearestBody_29 rfl (hb _ (by decide) (by decide)) (show (sg_X g 1).2 _ = 14 by rw [e0]; rfl) ?_
    refine vr_iret dX1_nearestBody_30 rfl ?_
    first | exact kk | (exfalso; omega) | (repeat (first | exact kk | rw [if_pos (by omega)] at kk | rw [if_neg (by omega)] at kk))
theorem c_nearM {k : Int} (hX : sx_ g) (hk : 1 ≤ k ∧ k ≤ 5) (kk : Post (some (sv_i (if k = 1 then 21 else if k = 2 then 24 else if k = 3 then 22 else 23))) h) : Ctr_ g (d + 2) mX1_nearestBody [sv_r 5 2 0, sv_i k] h Post := by
  have e0 := hX 2 (by decide)
  have hb : ∀ i : Int, 0 ≤ i → i < 6 → 0 ≤ i ∧ i < ((sg_X g 2).1 : Int) := fun i h1 h2 => ⟨h1, by rw [e0]; exact h2⟩
  refine V_mk (by decide +kernel) (Or.inr (Or.inl ⟨rfl, rfl⟩)) (Nat.le_of_ble_eq_true rfl) (by simp [sv_c]) ?_
  show V_ _ _ _ 0 [_, _, _, _] [] _ _
  rcases (by omega : k = 1 ∨ k = 2 ∨ k = 3 ∨ k = 4 ∨ k = 5) with rfl | rfl | rfl | rfl | rfl
  · refine vr_iload_n (q := 1) dX1_nearestBody_0 rfl rfl ?_
    refine vr_istore_n (q := 2) dX1_nearestBody_1 rfl rfl (Nat.le_of_ble_eq_true rfl) rfl rfl ?_
    refine vr_iconst (q := 3) dX1_nearestBody_2 rfl ⟨by decide, by decide⟩ ?_
    refine vr_istore_n (q := 4) dX1_nearestBody_3 rfl rfl (Nat.le_of_ble_eq_true rfl) rfl rfl ?_
    refine vr_iload_n (q := 5) dX1_nearestBody_4 rfl rfl ?_
    refine vr_bipush (q := 7) dX1_nearestBody_5 rfl ⟨by decide, by decide⟩ (by decide) ?_
    refine vr_ic_ge (t := 27) (q := 10) dX1_nearestBody_7 (by decide) rfl (fun c9 => absurd c9 (by omega)) (fun _ => ?_)
    refine vr_aload_n (q := 11) dX1_nearestBody_10 rfl rfl ?_
    refine vr_iload_n (q := 12) dX1_nearestBody_11 rfl rfl ?_
    refine vr_xaldV (q := 13) dX1_nearestBody_12 rfl (hb _ (by decide) (by decide)) (show (sg_X g 2).2 _ = 21 by rw [e0]; rfl) ?_
    refine vr_if_ne (t := 27) (q := 16) dX1_nearestBody_13 (by decide) rfl (fun _ => ?_) (fun c9 => absurd c9 (by omega))
    refine vr_aload_n (q := 28) dX1_nearestBody_27 rfl rfl ?_
    refine vr_iload_n (q := 29) dX1_nearestBody_28 rfl rfl ?_
    refine vr_xaldV (q := 30) dX1_nearestBody_29 rfl (hb _ (by decide) (by decide)) (show (sg_X g 2).2 _ = 21 by rw [e0]; rfl) ?_
    refine vr_iret dX1_nearestBody_30 rfl ?_
    first | exact kk | (exfalso; omega) | (repeat (first | exact kk | rw [if_pos (by omega)] at kk | rw [if_neg (by omega)] at kk))
  · refine vr_iload_n (q := 1) dX1_nearestBody_0 rfl rfl ?_
    refine vr_istore_n (q := 2) dX1_nearestBody_1 rfl rfl (Nat.le_of_ble_eq_true rfl) rfl rfl ?_
    refine vr_iconst (q := 3) dX1_nearestBody_2 rfl ⟨by decide, by decide⟩ ?_
    refine vr_istore_n (q := 4) dX1_nearestBody_3 rfl rfl (Nat.le_of_ble_eq_true rfl) rfl rfl ?_
    refine vr_iload_n (q := 5) dX1_nearestBody_4 rfl rfl ?_
    refine vr_bipush (q := 7) dX1_nearestBody_5 rfl ⟨by decide, by decide⟩ (by decide) ?_
    refine vr_ic_ge (t := 27) (q := 10) dX1_nearestBody_7 (by decide) rfl (fun c9 => absurd c9 (by omega)) (fun _ => ?_)
    refine vr_aload_n (q := 11) dX1_nearestBody_10 rfl rfl ?_
    refine vr_iload_n (q := 12) dX1_nearestBody_11 rfl rfl ?_
    refine vr_xaldV (q := 13) dX1_nearestBody_12 rfl (hb _ (by decide) (by decide)) (show (sg_X g 2).2 _ = 24 by rw [e0]; rfl) ?_
    refine vr_if_ne (t := 27) (q := 16) dX1_nearestBody_13 (by decide) rfl (fun _ => ?_) (fun c9 => absurd c9 (by omega))
    refine vr_aload_n (q := 28) dX1_nearestBody_27 rfl rfl ?_
    refine vr_iload_n (q := 29) dX1_nearestBody_28 rfl rfl ?_
    refine vr_xaldV (q := 30) dX1_nearestBody_29 rfl (hb _ (by decide) (by decide)) (show (sg_X g 2).2 _ = 24 by rw [e0]; rfl) ?_
    refine vr_iret dX1_nearestBody_30 rfl ?_
    first | exact kk | (exfalso; omega) | (repeat (first | exact kk | rw [if_pos (by omega)] at kk | rw [if_neg (by omega)] at kk))
  · refine vr_iload_n (q := 1) dX1_nearestBody_0 rfl rfl ?_
    refine vr_istore_n (q := 2) dX1_nearestBody_1 rfl rfl (Nat.le_of_ble_eq_true rfl) rfl rfl ?_
    refine vr_iconst (q := 3) dX1_nearestBody_2 rfl ⟨by decide, by decide⟩ ?_
    refine vr_istore_n (q := 4) dX1_nearestBody_3 rfl rfl (Nat.le_of_ble_eq_true rfl) rfl rfl ?_
    refine vr_iload_n (q := 5) dX1_nearestBody_4 rfl rfl ?_
    refine vr_bipush (q := 7) dX1_nearestBody_5 rfl ⟨by decide, by decide⟩ (by decide) ?_
    refine vr_ic_ge (t := 27) (q := 10) dX1_nearestBody_7 (by decide) rfl (fun c9 => absurd c9 (by omega)) (fun _ => ?_)
    refine vr_aload_n (q := 11) dX1_nearestBody_10 rfl rfl ?_
    refine vr_iload_n (q := 12) dX1_nearestBody_11 rfl rfl ?_
    refine vr_xaldV (q := 13) dX1_nearestBody_12 rfl (hb _ (by decide) (by decide)) (show (sg_X g 2).2 _ = 22 by rw [e0]; rfl) ?_
    refine vr_if_ne (t := 27) (q := 16) dX1_nearestBody_13 (by decide) rfl (fun _ => ?_) (fun c9 => absurd c9 (by omega))
    refine vr_aload_n (q := 28) dX1_nearestBody_27 rfl rfl ?_
    refine vr_iload_n (q := 29) dX1_nearestBody_28 rfl rfl ?_
    refine vr_xaldV (q := 30) dX1_nearestBody_29 rfl (hb _ (by decide) (by decide)) (show (sg_X g 2).2 _ = 22 by rw [e0]; rfl) ?_
    refine vr_iret dX1_nearestBody_30 rfl ?_
    first | exact kk | (exfalso; omega) | (repeat (first | exact kk | rw [if_pos (by omega)] at kk | rw [if_neg (by omega)] at kk))
  · refine vr_iload_n (q := 1) dX1_nearestBody_0 rfl rfl ?_
    refine vr_istore_n (q := 2) dX1_nearestBody_1 rfl rfl (Nat.le_of_ble_eq_true rfl) rfl rfl ?_
    refine vr_iconst (q := 3) dX1_nearestBody_2 rfl ⟨by decide, by decide⟩ ?_
    refine vr_istore_n (q := 4) dX1_nearestBody_3 rfl rfl (Nat.le_of_ble_eq_true rfl) rfl rfl ?_
    refine vr_iload_n (q := 5) dX1_nearestBody_4 rfl rfl ?_
    refine vr_bipush (q := 7) dX1_nearestBody_5 rfl ⟨by decide, by decide⟩ (by decide) ?_
    refine vr_ic_ge (t := 27) (q := 10) dX1_nearestBody_7 (by decide) rfl (fun c9 => absurd c9 (by omega)) (fun _ => ?_)
    refine vr_aload_n (q := 11) dX1_nearestBody_10 rfl rfl ?_
    refine vr_iload_n (q := 12) dX1_nearestBody_11 rfl rfl ?_
    refine vr_xaldV (q := 13) dX1_nearestBody_12 rfl (hb _ (by decide) (by decide)) (show (sg_X g 2).2 _ = 23 by rw [e0]; rfl) ?_
    refine vr_if_ne (t := 27) (q := 16) dX1_nearestBody_13 (by decide) rfl (fun _ => ?_) (fun c9 => absurd c9 (by omega))
    refine vr_aload_n (q := 28) dX1_nearestBody_27 rfl rfl ?_
    refine vr_iload_n (q := 29) dX1_nearestBody_28 rfl rfl ?_
    refine vr_xaldV (q := 30) dX1_nearestBody_29 rfl (hb _ (by decide) (by decide)) (show (sg_X g 2).2 _ = 23 by rw [e0]; rfl) ?_
    refine vr_iret dX1_nearestBody_30 rfl ?_
    first | exact kk | (exfalso; omega) | (repeat (first | exact kk | rw [if_pos (by omega)] at kk | rw [if_neg (by omega)] at kk))
  · refine vr_iload_n (q := 1) dX1_nearestBody_0 rfl rfl ?_
    refine vr_istore_n (q := 2) dX1_nearestBody_1 rfl rfl (Nat.le_of_ble_eq_true rfl) rfl rfl ?_
    refine vr_iconst (q := 3) dX1_nearestBody_2 rfl ⟨by decide, by decide⟩ ?_
    refine vr_istore_n (q := 4) dX1_nearestBody_3 rfl rfl (Nat.le_of_ble_eq_true rfl) rfl rfl ?_
    refine vr_iload_n (q := 5) dX1_nearestBody_4 rfl rfl ?_
    refine vr_bipush (q := 7) dX1_nearestBody_5 rfl ⟨by decide, by decide⟩ (by decide) ?_
    refine vr_ic_ge (t := 27) (q := 10) dX1_nearestBody_7 (by decide) rfl (fun c9 => absurd c9 (by omega)) (fun _ => ?_)
    refine vr_aload_n (q := 11) dX1_nearestBody_10 rfl rfl ?_
    refine vr_iload_n (q := 12) dX1_nearestBody_11 rfl rfl ?_
    refine vr_xaldV (q := 13) dX1_nearestBody_12 rfl (hb _ (by decide) (by decide)) (show (sg_X g 2).2 _ = 0 by rw [e0]; rfl) ?_
    refine vr_if_ne (t := 27) (q := 16) dX1_nearestBody_13 (by decide) rfl (fun c9 => absurd c9 (by omega)) (fun _ => ?_)
    refine vr_iload_n (q := 17) dX1_nearestBody_16 rfl rfl ?_
    refine vr_is1 (q := 20) dX1_nearestBody_17 rfl vX1_52 (Nat.le_of_ble_eq_true rfl) ?_
    refine c_above hX (by decide) ?_
    skip
    refine vr_istore_n (q := 21) dX1_nearestBody_20 rfl rfl (Nat.le_of_ble_eq_true rfl) rfl rfl ?_
    refine vr_iinc (q := 24) dX1_nearestBody_21 rfl rfl ⟨by omega, by omega⟩ (Nat.le_of_ble_eq_true rfl) rfl rfl ?_
    refine vr_goto (q := 4) dX1_nearestBody_24 (by decide) ?_
    refine vr_iload_n (q := 5) dX1_nearestBody_4 rfl rfl ?_
    refine vr_bipush (q := 7) dX1_nearestBody_5 rfl ⟨by decide, by decide⟩ (by decide) ?_
    refine vr_ic_ge (t := 27) (q := 10) dX1_nearestBody_7 (by decide) rfl (fun c9 => absurd c9 (by omega)) (fun _ => ?_)
    refine vr_aload_n (q := 11) dX1_nearestBody_10 rfl rfl ?_
    refine vr_iload_n (q := 12) dX1_nearestBody_11 rfl rfl ?_
    refine vr_xaldV (q := 13) dX1_nearestBody_12 rfl (hb _ (by decide) (by decide)) (show (sg_X g 2).2 _ = 23 by rw [e0]; rfl) ?_
    refine vr_if_ne (t := 27) (q := 16) dX1_nearestBody_13 (by decide) rfl (fun _ => ?_) (fun c9 => absurd c9 (by omega))
    refine vr_aload_n (q := 28) dX1_nearestBody_27 rfl rfl ?_
    refine vr_iload_n (q := 29) dX1_nearestBody_28 rfl rfl ?_
    refine vr_xaldV (q := 30) dX1_nearestBody_29 rfl (hb _ (by decide) (by decide)) (show (sg_X g 2).2 _ = 23 by rw [e0]; rfl) ?_
    refine vr_iret dX1_nearestBody_30 rfl ?_
    first | exact kk | (exfalso; omega) | (repeat (first | exact kk | rw [if_pos (by omega)] at kk | rw [if_neg (by omega)] at kk))
end PA_
end
section
theorem lt_7 (h : SH_) (b : Int) : lt_ h b 7 = h 7 := lt_k (by decide) (by decide)
theorem lt_8 (h : SH_) (b : Int) : lt_ h b 8 = h 8 := lt_k (by decide) (by decide)
theorem lt_9 (h : SH_) (b : Int) : lt_ h b 9 = h 9 := lt_k (by decide) (by decide)
theorem lt_14 (h : SH_) (b : Int) : lt_ h b 14 = h 14 := lt_k (by decide) (by decide)
/-- what an ask of a lie may look at -/
def ao_ (h : SH_) (l : Int) : Prop := (0 ≤ l ∧ l < 6) ∧ (1 ≤ h 9 l ∧ h 9 l ≤ 20) ∧ (0 ≤ h 7 3 ∧ h 7 3 ≤ 4) ∧ (0 ≤ h 66 2 ∧ h 66 2 ≤ 16)
theorem ao_l {h : SH_} {l b : Int} (o : ao_ h l) : ao_ (lt_ h b) l := by
  obtain ⟨o1, o2, o3, o4⟩ := o
  refine ⟨o1, ?_, ?_, lt_r o4⟩
  · rw [lt_9]; exact o2
  · rw [lt_7]; exact o3
/-- at how many strangers' nods lie l was told -/
def nn_ (h : SH_) (l : Int) : Int := ws_ (h 14) l (h 7 3).toNat
theorem nn_l (h : SH_) (l b : Int) : nn_ (lt_ h b) l = nn_ h l := by
  unfold nn_
  rw [lt_14, lt_7]
theorem nn_r {h : SH_} {l : Int} (o : ao_ h l) : 0 ≤ nn_ h l ∧ nn_ h l ≤ 4 := by
  have h1 := ws_r (h 14) l (h 7 3).toNat
  have h2 := o.2.2.1
  unfold nn_
  omega
section PA2_
variable {g : SG_} {d : Nat} {h : SH_} {Post : Option SV_ → SH_ → Prop}
theorem c_run10 {l e : Int} (o : ao_ h l) (he : 0 ≤ e ∧ e ≤ 20) (kk : Post (some (sv_i (h 9 l))) (lt_ h 10)) : Ctr_ g (d + 1) mX1_run [sv_r 4 1 66, sv_i 10, sv_i l, sv_i e] h Post := by
  have o1 := o.1
  refine V_mk (by decide +kernel) (Or.inr (Or.inl ⟨rfl, rfl⟩)) (Nat.le_of_ble_eq_true rfl) (by simp [sv_c]) ?_
  show V_ _ _ _ 0 [_, _, _, _, _] [] _ _
  refine vr_iload_n (q := 1) dX1_run_0 rfl rfl ?_
  refine vr_bipush (q := 3) dX1_run_1 rfl ⟨by decide, by decide⟩ (by decide) ?_
  refine vr_ic_le (t := 8) (q := 6) dX1_run_3 (by decide) rfl (fun _ => ?_) (fun c9 => absurd c9 (by omega))
  refine vr_aload_n (q := 9) dX1_run_8 rfl rfl ?_
  refine vr_iload_n (q := 10) dX1_run_9 rfl rfl ?_
  refine vr_iv1 (q := 13) dX1_run_10 rfl vX1_56 (Nat.le_of_ble_eq_true rfl) ?_
  refine c_leaveTrace o.2.2.2 ?_
  refine vr_iload_n (q := 14) dX1_run_13 rfl rfl ?_
  refine vr_iconst (q := 15) dX1_run_14 rfl ⟨by decide, by decide⟩ ?_
  refine vr_iaddN (q := 16) dX1_run_15 rfl ⟨by omega, by omega⟩ ?_
  refine vr_istore (q := 18) dX1_run_16 rfl (Nat.le_of_ble_eq_true rfl) rfl rfl ?_
  refine vr_iload_n (q := 19) dX1_run_18 rfl rfl ?_
  skip
  refine vr_tsI (q := 92) dX1_run_19 (by decide) (by decide) rfl (by decide) ?_
  refine vr_aload_n (q := 93) dX1_run_92 rfl rfl ?_
  refine vr_getA (q := 96) dX1_run_93 rfl fX1_19 rfl ⟨by decide, by decide, rfl⟩ ?_
  refine vr_getR (q := 99) dX1_run_96 rfl fX1_60 rfl y_X7_5 (by first | (simp only [Int.reduceAdd]; rfl) | rfl) ?_
  refine vr_iload_n (q := 100) dX1_run_99 rfl rfl ?_
  refine vr_ialdV (q := 101) dX1_run_100 rfl ⟨by omega, by omega⟩ (by rw [lt_9]) ?_
  refine vr_iret dX1_run_101 rfl ?_
  first | exact kk | (exfalso; omega) | (repeat (first | exact kk | rw [if_pos (by omega)] at kk | rw [if_neg (by omega)] at kk))
theorem c_run20 {l e : Int} (o : ao_ h l) (he : 0 ≤ e ∧ e ≤ 20) (kk : Post (some (sv_i l)) (lt_ h 20)) : Ctr_ g (d + 1) mX1_run [sv_r 4 1 66, sv_i 20, sv_i l, sv_i e] h Post := by
  refine V_mk (by decide +kernel) (Or.inr (Or.inl ⟨rfl, rfl⟩)) (Nat.le_of_ble_eq_true rfl) (by simp [sv_c]) ?_
  show V_ _ _ _ 0 [_, _, _, _, _] [] _ _
  refine vr_iload_n (q := 1) dX1_run_0 rfl rfl ?_
  refine vr_bipush (q := 3) dX1_run_1 rfl ⟨by decide, by decide⟩ (by decide) ?_
  refine vr_ic_le (t := 8) (q := 6) dX1_run_3 (by decide) rfl (fun _ => ?_) (fun c9 => absurd c9 (by omega))
  refine vr_aload_n (q := 9) dX1_run_8 rfl rfl ?_
  refine vr_iload_n (q := 10) dX1_run_9 rfl rfl ?_
  refine vr_iv1 (q := 13) dX1_run_10 rfl vX1_56 (Nat.le_of_ble_eq_true rfl) ?_
  refine c_leaveTrace o.2.2.2 ?_
  refine vr_iload_n (q := 14) dX1_run_13 rfl rfl ?_
  refine vr_iconst (q := 15) dX1_run_14 rfl ⟨by decide, by decide⟩ ?_
  refine vr_iaddN (q := 16) dX1_run_15 rfl ⟨by omega, by omega⟩ ?_
  refine vr_istore (q := 18) dX1_run_16 rfl (Nat.le_of_ble_eq_true rfl) rfl rfl ?_
  refine vr_iload_n (q := 19) dX1_run_18 rfl rfl ?_
  skip
  refine vr_tsI (q := 156) dX1_run_19 (by decide) (by decide) rfl (by decide) ?_
  refine vr_iload_n (q := 157) dX1_run_156 rfl rfl ?_
  refine vr_iret dX1_run_157 rfl ?_
  first | exact kk | (exfalso; omega) | (repeat (first | exact kk | rw [if_pos (by omega)] at kk | rw [if_neg (by omega)] at kk))
theorem c_run21 {l e : Int} (o : ao_ h l) (he : 0 ≤ e ∧ e < 20) (kk : Post (some (sv_i (l + nn_ h l))) (lt_ (lt_ h 21) 20)) : Ctr_ g (d + 2) mX1_run [sv_r 4 1 66, sv_i 21, sv_i l, sv_i e] h Post := by
  have o1 := o.1
  have o2 := nn_r o
  refine V_mk (by decide +kernel) (Or.inr (Or.inl ⟨rfl, rfl⟩)) (Nat.le_of_ble_eq_true rfl) (by simp [sv_c]) ?_
  show V_ _ _ _ 0 [_, _, _, _, _] [] _ _
  refine vr_iload_n (q := 1) dX1_run_0 rfl rfl ?_
  refine vr_bipush (q := 3) dX1_run_1 rfl ⟨by decide, by decide⟩ (by decide) ?_
  refine vr_ic_le (t := 8) (q := 6) dX1_run_3 (by decide) rfl (fun _ => ?_) (fun c9 => absurd c9 (by omega))
  refine vr_aload_n (q := 9) dX1_run_8 rfl rfl ?_
  refine vr_iload_n (q := 10) dX1_run_9 rfl rfl ?_
  refine vr_iv1 (q := 13) dX1_run_10 rfl vX1_56 (Nat.le_of_ble_eq_true rfl) ?_
  refine c_leaveTrace o.2.2.2 ?_
  refine vr_iload_n (q := 14) dX1_run_13 rfl rfl ?_
  refine vr_iconst (q := 15) dX1_run_14 rfl ⟨by decide, by decide⟩ ?_
  refine vr_iaddN (q := 16) dX1_run_15 rfl ⟨by omega, by omega⟩ ?_
  refine vr_istore (q := 18) dX1_run_16 rfl (Nat.le_of_ble_eq_true rfl) rfl rfl ?_
  refine vr_iload_n (q := 19) dX1_run_18 rfl rfl ?_
  skip
  refine vr_tsI (q := 158) dX1_run_19 (by decide) (by decide) rfl (by decide) ?_
  refine vr_aload_n (q := 159) dX1_run_158 rfl rfl ?_
  refine vr_bipush (q := 161) dX1_run_159 rfl ⟨by decide, by decide⟩ (by decide) ?_
  refine vr_iload_n (q := 162) dX1_run_161 rfl rfl ?_
  refine vr_iload (q := 164) dX1_run_162 rfl rfl ?_
  refine vr_iv3 (q := 167) dX1_run_164 rfl vX1_43 (Nat.le_of_ble_eq_true rfl) ?_
  refine c_run20 (ao_l o) ⟨by omega, by omega⟩ ?_
  refine vr_aload_n (q := 168) dX1_run_167 rfl rfl ?_
  refine vr_getA (q := 171) dX1_run_168 rfl fX1_19 rfl ⟨by decide, by decide, rfl⟩ ?_
  refine vr_aload_n (q := 172) dX1_run_171 rfl rfl ?_
  refine vr_getA (q := 175) dX1_run_172 rfl fX1_19 rfl ⟨by decide, by decide, rfl⟩ ?_
  refine vr_getR (q := 178) dX1_run_175 rfl fX1_63 rfl y_X7_10 (by first | (simp only [Int.reduceAdd]; rfl) | rfl) ?_
  refine vr_iload_n (q := 179) dX1_run_178 rfl rfl ?_
  refine vr_iv2 (q := 182) dX1_run_179 rfl vX1_66 (Nat.le_of_ble_eq_true rfl) ?_
  refine c_strangersWith (ao_l (ao_l o)).2.2.1 ?_
  have e3 : ws_ (lt_ (lt_ h 21) 20 14) l (lt_ (lt_ h 21) 20 7 3).toNat = nn_ h l := by rw [lt_14, lt_14, lt_7, lt_7]; rfl
  rw [e3]
  refine vr_iaddN (q := 183) dX1_run_182 rfl ⟨by omega, by omega⟩ ?_
  refine vr_iret dX1_run_183 rfl ?_
  first | exact kk | (exfalso; omega) | (repeat (first | exact kk | rw [if_pos (by omega)] at kk | rw [if_neg (by omega)] at kk))
theorem c_run22 {l e : Int} (o : ao_ h l) (he : 0 ≤ e ∧ e < 19) (kk : Post (some (sv_i (l + nn_ h l - 1000))) (lt_ (lt_ (lt_ h 22) 21) 20)) : Ctr_ g (d + 3) mX1_run [sv_r 4 1 66, sv_i 22, sv_i l, sv_i e] h Post := by
  have o1 := o.1
  have o2 := nn_r o
  refine V_mk (by decide +kernel) (Or.inr (Or.inl ⟨rfl, rfl⟩)) (Nat.le_of_ble_eq_true rfl) (by simp [sv_c]) ?_
  show V_ _ _ _ 0 [_, _, _, _, _] [] _ _
  refine vr_iload_n (q := 1) dX1_run_0 rfl rfl ?_
  refine vr_bipush (q := 3) dX1_run_1 rfl ⟨by decide, by decide⟩ (by decide) ?_
  refine vr_ic_le (t := 8) (q := 6) dX1_run_3 (by decide) rfl (fun _ => ?_) (fun c9 => absurd c9 (by omega))
  refine vr_aload_n (q := 9) dX1_run_8 rfl rfl ?_
  refine vr_iload_n (q := 10) dX1_run_9 rfl rfl ?_
  refine vr_iv1 (q := 13) dX1_run_10 rfl vX1_56 (Nat.le_of_ble_eq_true rfl) ?_
  refine c_leaveTrace o.2.2.2 ?_
  refine vr_iload_n (q := 14) dX1_run_13 rfl rfl ?_
  refine vr_iconst (q := 15) dX1_run_14 rfl ⟨by decide, by decide⟩ ?_
  refine vr_iaddN (q := 16) dX1_run_15 rfl ⟨by omega, by omega⟩ ?_
  refine vr_istore (q := 18) dX1_run_16 rfl (Nat.le_of_ble_eq_true rfl) rfl rfl ?_
  refine vr_iload_n (q := 19) dX1_run_18 rfl rfl ?_
  skip
  refine vr_tsI (q := 184) dX1_run_19 (by decide) (by decide) rfl (by decide) ?_
  refine vr_aload_n (q := 185) dX1_run_184 rfl rfl ?_
  refine vr_bipush (q := 187) dX1_run_185 rfl ⟨by decide, by decide⟩ (by decide) ?_
  refine vr_iload_n (q := 188) dX1_run_187 rfl rfl ?_
  refine vr_iload (q := 190) dX1_run_188 rfl rfl ?_
  refine vr_iv3 (q := 193) dX1_run_190 rfl vX1_43 (Nat.le_of_ble_eq_true rfl) ?_
  refine c_run21 (ao_l o) ⟨by omega, by omega⟩ ?_
  rw [nn_l]
  refine vr_sipush (q := 196) dX1_run_193 rfl ⟨by decide, by decide⟩ (by decide) ?_
  refine vr_isubN (q := 197) dX1_run_196 rfl ⟨by omega, by omega⟩ ?_
  refine vr_iret dX1_run_197 rfl ?_
  first | exact kk | (exfalso; omega) | (repeat (first | exact kk | rw [if_pos (by omega)] at kk | rw [if_neg (by omega)] at kk))
theorem c_run24 {l e : Int} (o : ao_ h l) (he : 0 ≤ e ∧ e < 19) (kk : Post (some (sv_i (2 * (l + nn_ h l)))) (lt_ (lt_ (lt_ h 24) 21) 20)) : Ctr_ g (d + 3) mX1_run [sv_r 4 1 66, sv_i 24, sv_i l, sv_i e] h Post := by
  have o1 := o.1
  have o2 := nn_r o
  refine V_mk (by decide +kernel) (Or.inr (Or.inl ⟨rfl, rfl⟩)) (Nat.le_of_ble_eq_true rfl) (by simp [sv_c]) ?_
  show V_ _ _ _ 0 [_, _, _, _, _] [] _ _
  refine vr_iload_n (q := 1) dX1_run_0 rfl rfl ?_
  refine vr_bipush (q := 3) dX1_run_1 rfl ⟨by decide, by decide⟩ (by decide) ?_
  refine vr_ic_le (t := 8) (q := 6) dX1_run_3 (by decide) rfl (fun _ => ?_) (fun c9 => absurd c9 (by omega))
  refine vr_aload_n (q := 9) dX1_run_8 rfl rfl ?_
  refine vr_iload_n (q := 10) dX1_run_9 rfl rfl ?_
  refine vr_iv1 (q := 13) dX1_run_10 rfl vX1_56 (Nat.le_of_ble_eq_true rfl) ?_
  refine c_leaveTrace o.2.2.2 ?_
  refine vr_iload_n (q := 14) dX1_run_13 rfl rfl ?_
  refine vr_iconst (q := 15) dX1_run_14 rfl ⟨by decide, by decide⟩ ?_
  refine vr_iaddN (q := 16) dX1_run_15 rfl ⟨by omega, by omega⟩ ?_
  refine vr_istore (q := 18) dX1_run_16 rfl (Nat.le_of_ble_eq_true rfl) rfl rfl ?_
  refine vr_iload_n (q := 19) dX1_run_18 rfl rfl ?_
  skip
  refine vr_tsI (q := 216) dX1_run_19 (by decide) (by decide) rfl (by decide) ?_
  refine vr_iconst (q := 217) dX1_run_216 rfl ⟨by decide, by decide⟩ ?_
  refine vr_aload_n (q := 218) dX1_run_217 rfl rfl ?_
  refine vr_bipush (q := 220) dX1_run_218 rfl ⟨by decide, by decide⟩ (by decide) ?_
  refine vr_iload_n (q := 221) dX1_run_220 rfl rfl ?_
  refine vr_iload (q := 223) dX1_run_221 rfl rfl ?_
  refine vr_iv3 (q := 226) dX1_run_223 rfl vX1_43 (Nat.le_of_ble_eq_true rfl) ?_
  refine c_run21 (ao_l o) ⟨by omega, by omega⟩ ?_
  rw [nn_l]
  refine vr_imulN (q := 227) dX1_run_226 rfl ⟨by omega, by omega⟩ ?_
  refine vr_iret dX1_run_227 rfl ?_
  first | exact kk | (exfalso; omega) | (repeat (first | exact kk | rw [if_pos (by omega)] at kk | rw [if_neg (by omega)] at kk))
theorem c_run13 {l e : Int} (o : ao_ h l) (he : 0 ≤ e ∧ e < 20) (kk : Post (some (sv_i (h 9 l - 100))) (lt_ (lt_ h 13) 10)) : Ctr_ g (d + 2) mX1_run [sv_r 4 1 66, sv_i 13, sv_i l, sv_i e] h Post := by
  have o2 := o.2.1
  refine V_mk (by decide +kernel) (Or.inr (Or.inl ⟨rfl, rfl⟩)) (Nat.le_of_ble_eq_true rfl) (by simp [sv_c]) ?_
  show V_ _ _ _ 0 [_, _, _, _, _] [] _ _
  refine vr_iload_n (q := 1) dX1_run_0 rfl rfl ?_
  refine vr_bipush (q := 3) dX1_run_1 rfl ⟨by decide, by decide⟩ (by decide) ?_
  refine vr_ic_le (t := 8) (q := 6) dX1_run_3 (by decide) rfl (fun _ => ?_) (fun c9 => absurd c9 (by omega))
  refine vr_aload_n (q := 9) dX1_run_8 rfl rfl ?_
  refine vr_iload_n (q := 10) dX1_run_9 rfl rfl ?_
  refine vr_iv1 (q := 13) dX1_run_10 rfl vX1_56 (Nat.le_of_ble_eq_true rfl) ?_
  refine c_leaveTrace o.2.2.2 ?_
  refine vr_iload_n (q := 14) dX1_run_13 rfl rfl ?_
  refine vr_iconst (q := 15) dX1_run_14 rfl ⟨by decide, by decide⟩ ?_
  refine vr_iaddN (q := 16) dX1_run_15 rfl ⟨by omega, by omega⟩ ?_
  refine vr_istore (q := 18) dX1_run_16 rfl (Nat.le_of_ble_eq_true rfl) rfl rfl ?_
  refine vr_iload_n (q := 19) dX1_run_18 rfl rfl ?_
  skip
  refine vr_tsI (q := 131) dX1_run_19 (by decide) (by decide) rfl (by decide) ?_
  refine vr_aload_n (q := 132) dX1_run_131 rfl rfl ?_
  refine vr_bipush (q := 134) dX1_run_132 rfl ⟨by decide, by decide⟩ (by decide) ?_
  refine vr_iload_n (q := 135) dX1_run_134 rfl rfl ?_
  refine vr_iload (q := 137) dX1_run_135 rfl rfl ?_
  refine vr_iv3 (q := 140) dX1_run_137 rfl vX1_43 (Nat.le_of_ble_eq_true rfl) ?_
  refine c_run10 (ao_l o) ⟨by omega, by omega⟩ ?_
  rw [lt_9]
  refine vr_bipush (q := 142) dX1_run_140 rfl ⟨by decide, by decide⟩ (by decide) ?_
  refine vr_isubN (q := 143) dX1_run_142 rfl ⟨by omega, by omega⟩ ?_
  refine vr_iret dX1_run_143 rfl ?_
  first | exact kk | (exfalso; omega) | (repeat (first | exact kk | rw [if_pos (by omega)] at kk | rw [if_neg (by omega)] at kk))
theorem c_run14 {l e : Int} (o : ao_ h l) (he : 0 ≤ e ∧ e < 19) (kk : Post (some (sv_i (2 * (h 9 l - 100)))) (lt_ (lt_ (lt_ h 14) 13) 10)) : Ctr_ g (d + 3) mX1_run [sv_r 4 1 66, sv_i 14, sv_i l, sv_i e] h Post := by
  have o2 := o.2.1
  refine V_mk (by decide +kernel) (Or.inr (Or.inl ⟨rfl, rfl⟩)) (Nat.le_of_ble_eq_true rfl) (by simp [sv_c]) ?_
  show V_ _ _ _ 0 [_, _, _, _, _] [] _ _
  refine vr_iload_n (q := 1) dX1_run_0 rfl rfl ?_
  refine vr_bipush (q := 3) dX1_run_1 rfl ⟨by decide, by decide⟩ (by decide) ?_
  refine vr_ic_le (t := 8) (q := 6) dX1_run_3 (by decide) rfl (fun _ => ?_) (fun c9 => absurd c9 (by omega))
  refine vr_aload_n (q := 9) dX1_run_8 rfl rfl ?_
  refine vr_iload_n (q := 10) dX1_run_9 rfl rfl ?_
  refine vr_iv1 (q := 13) dX1_run_10 rfl vX1_56 (Nat.le_of_ble_eq_true rfl) ?_
  refine c_leaveTrace o.2.2.2 ?_
  refine vr_iload_n (q := 14) dX1_run_13 rfl rfl ?_
  refine vr_iconst (q := 15) dX1_run_14 rfl ⟨by decide, by decide⟩ ?_
  refine vr_iaddN (q := 16) dX1_run_15 rfl ⟨by omega, by omega⟩ ?_
  refine vr_istore (q := 18) dX1_run_16 rfl (Nat.le_of_ble_eq_true rfl) rfl rfl ?_
  refine vr_iload_n (q := 19) dX1_run_18 rfl rfl ?_
  skip
  refine vr_tsI (q := 144) dX1_run_19 (by decide) (by decide) rfl (by decide) ?_
  refine vr_iconst (q := 145) dX1_run_144 rfl ⟨by decide, by decide⟩ ?_
  refine vr_aload_n (q := 146) dX1_run_145 rfl rfl ?_
  refine vr_bipush (q := 148) dX1_run_146 rfl ⟨by decide, by decide⟩ (by decide) ?_
  refine vr_iload_n (q := 149) dX1_run_148 rfl rfl ?_
  refine vr_iload (q := 151) dX1_run_149 rfl rfl ?_
  refine vr_iv3 (q := 154) dX1_run_151 rfl vX1_43 (Nat.le_of_ble_eq_true rfl) ?_
  refine c_run13 (ao_l o) ⟨by omega, by omega⟩ ?_
  rw [lt_9]
  refine vr_imulN (q := 155) dX1_run_154 rfl ⟨by omega, by omega⟩ ?_
  refine vr_iret dX1_run_155 rfl ?_
  first | exact kk | (exfalso; omega) | (repeat (first | exact kk | rw [if_pos (by omega)] at kk | rw [if_neg (by omega)] at kk))
/-- MARK of an easy one: its trace, its value -/
def me_ (h : SH_) (l : Int) : SH_ := if h 8 l = 1 then lt_ (lt_ h 21) 20 else if h 8 l = 2 then lt_ (lt_ (lt_ h 24) 21) 20 else lt_ (lt_ (lt_ h 22) 21) 20
def ve_ (h : SH_) (l : Int) : Int := if h 8 l = 1 then l + nn_ h l else if h 8 l = 2 then 2 * (l + nn_ h l) else l + nn_ h l - 1000
theorem c_markE {l e : Int} (hX : sx_ g) (o : ao_ h l) (hk : 1 ≤ h 8 l ∧ h 8 l ≤ 3) (he : 0 ≤ e ∧ e < 19) (kk : Post (some (sv_i (ve_ h l))) (me_ h l)) : Ctr_ g (d + 4) mX1_markOf [sv_r 4 1 66, sv_i l, sv_i e] h Post := by
  have o1 := o.1
  unfold ve_ me_ at kk
  refine V_mk (by decide +kernel) (Or.inr (Or.inl ⟨rfl, rfl⟩)) (Nat.le_of_ble_eq_true rfl) (by simp [sv_c]) ?_
  show V_ _ _ _ 0 [_, _, _] [] _ _
  refine vr_aload_n (q := 1) dX1_markOf_0 rfl rfl ?_
  refine vr_gets (i := 2) (q := 4) dX1_markOf_1 rfl (by decide) gX1_47 ?_
  refine vr_aload_n (q := 5) dX1_markOf_4 rfl rfl ?_
  refine vr_getA (q := 8) dX1_markOf_5 rfl fX1_19 rfl ⟨by decide, by decide, rfl⟩ ?_
  refine vr_getR (q := 11) dX1_markOf_8 rfl fX1_34 rfl y_X7_4 (by first | (simp only [Int.reduceAdd]; rfl) | rfl) ?_
  refine vr_iload_n (q := 12) dX1_markOf_11 rfl rfl ?_
  refine vr_iald (q := 13) dX1_markOf_12 rfl ⟨by omega, by omega⟩ ?_
  refine vr_is2 (q := 16) dX1_markOf_13 rfl vX1_39 (Nat.le_of_ble_eq_true rfl) ?_
  refine c_nearM hX ⟨by omega, by omega⟩ ?_
  skip
  rcases (by omega : h 8 l = 1 ∨ h 8 l = 2 ∨ h 8 l = 3) with c1 | c1 | c1
  · rw [c1] at kk ⊢
    refine vr_iload_n (q := 17) dX1_markOf_16 rfl rfl ?_
    refine vr_iload_n (q := 18) dX1_markOf_17 rfl rfl ?_
    refine vr_iv3 (q := 21) dX1_markOf_18 rfl vX1_43 (Nat.le_of_ble_eq_true rfl) ?_
    refine c_run21 o ⟨by omega, by omega⟩ ?_
    refine vr_iret dX1_markOf_21 rfl ?_
    first | exact kk | (exfalso; omega) | (repeat (first | exact kk | rw [if_pos (by omega)] at kk | rw [if_neg (by omega)] at kk))
  · rw [c1] at kk ⊢
    refine vr_iload_n (q := 17) dX1_markOf_16 rfl rfl ?_
    refine vr_iload_n (q := 18) dX1_markOf_17 rfl rfl ?_
    refine vr_iv3 (q := 21) dX1_markOf_18 rfl vX1_43 (Nat.le_of_ble_eq_true rfl) ?_
    refine c_run24 o ⟨by omega, by omega⟩ ?_
    refine vr_iret dX1_markOf_21 rfl ?_
    first | exact kk | (exfalso; omega) | (repeat (first | exact kk | rw [if_pos (by omega)] at kk | rw [if_neg (by omega)] at kk))
  · rw [c1] at kk ⊢
    refine vr_iload_n (q := 17) dX1_markOf_16 rfl rfl ?_
    refine vr_iload_n (q := 18) dX1_markOf_17 rfl rfl ?_
    refine vr_iv3 (q := 21) dX1_markOf_18 rfl vX1_43 (Nat.le_of_ble_eq_true rfl) ?_
    refine c_run22 o ⟨by omega, by omega⟩ ?_
    refine vr_iret dX1_markOf_21 rfl ?_
    first | exact kk | (exfalso; omega) | (repeat (first | exact kk | rw [if_pos (by omega)] at kk | rw [if_neg (by omega)] at kk))
/-- SIZE of a proof -/
def mp_ (h : SH_) (l : Int) : SH_ := if h 8 l = 5 then lt_ (lt_ (lt_ h 14) 13) 10 else lt_ (lt_ h 13) 10
def vp_ (h : SH_) (l : Int) : Int := if h 8 l = 5 then 2 * (h 9 l - 100) else h 9 l - 100
theorem c_sizeP {l e : Int} (hX : sx_ g) (o : ao_ h l) (hk : 4 ≤ h 8 l ∧ h 8 l ≤ 5) (he : 0 ≤ e ∧ e < 19) (kk : Post (some (sv_i (vp_ h l))) (mp_ h l)) : Ctr_ g (d + 4) mX1_sizeOf [sv_r 4 1 66, sv_i l, sv_i e] h Post := by
  have o1 := o.1
  unfold vp_ mp_ at kk
  refine V_mk (by decide +kernel) (Or.inr (Or.inl ⟨rfl, rfl⟩)) (Nat.le_of_ble_eq_true rfl) (by simp [sv_c]) ?_
  show V_ _ _ _ 0 [_, _, _] [] _ _
  refine vr_aload_n (q := 1) dX1_sizeOf_0 rfl rfl ?_
  refine vr_gets (i := 1) (q := 4) dX1_sizeOf_1 rfl (by decide) gX1_31 ?_
  refine vr_aload_n (q := 5) dX1_sizeOf_4 rfl rfl ?_
  refine vr_getA (q := 8) dX1_sizeOf_5 rfl fX1_19 rfl ⟨by decide, by decide, rfl⟩ ?_
  refine vr_getR (q := 11) dX1_sizeOf_8 rfl fX1_34 rfl y_X7_4 (by first | (simp only [Int.reduceAdd]; rfl) | rfl) ?_
  refine vr_iload_n (q := 12) dX1_sizeOf_11 rfl rfl ?_
  refine vr_iald (q := 13) dX1_sizeOf_12 rfl ⟨by omega, by omega⟩ ?_
  refine vr_is2 (q := 16) dX1_sizeOf_13 rfl vX1_39 (Nat.le_of_ble_eq_true rfl) ?_
  refine c_nearS hX ⟨by omega, by omega⟩ ?_
  skip
  rcases (by omega : h 8 l = 4 ∨ h 8 l = 5) with c1 | c1
  · rw [c1] at kk ⊢
    refine vr_iload_n (q := 17) dX1_sizeOf_16 rfl rfl ?_
    refine vr_iload_n (q := 18) dX1_sizeOf_17 rfl rfl ?_
    refine vr_iv3 (q := 21) dX1_sizeOf_18 rfl vX1_43 (Nat.le_of_ble_eq_true rfl) ?_
    refine c_run13 o ⟨by omega, by omega⟩ ?_
    refine vr_iret dX1_sizeOf_21 rfl ?_
    first | exact kk | (exfalso; omega) | (repeat (first | exact kk | rw [if_pos (by omega)] at kk | rw [if_neg (by omega)] at kk))
  · rw [c1] at kk ⊢
    refine vr_iload_n (q := 17) dX1_sizeOf_16 rfl rfl ?_
    refine vr_iload_n (q := 18) dX1_sizeOf_17 rfl rfl ?_
    refine vr_iv3 (q := 21) dX1_sizeOf_18 rfl vX1_43 (Nat.le_of_ble_eq_true rfl) ?_
    refine c_run14 o ⟨by omega, by omega⟩ ?_
    refine vr_iret dX1_sizeOf_21 rfl ?_
    first | exact kk | (exfalso; omega) | (repeat (first | exact kk | rw [if_pos (by omega)] at kk | rw [if_neg (by omega)] at kk))
theorem vp_r {h : SH_} {l : Int} (o : ao_ h l) : -1000 ≤ vp_ h l ∧ vp_ h l ≤ 0 := by
  have o2 := o.2.1
  unfold vp_
  split <;> omega
theorem ve_r {h : SH_} {l : Int} (o : ao_ h l) : -1000 ≤ ve_ h l ∧ ve_ h l ≤ 18 := by
  have o2 := nn_r o
  have o1 := o.1
  unfold ve_
  repeat' split
  all_goals omega
theorem c_run23 {l e : Int} (hX : sx_ g) (o : ao_ h l) (hk : 4 ≤ h 8 l ∧ h 8 l ≤ 5) (he : 0 ≤ e ∧ e < 18) (kk : Post (some (sv_i (l - vp_ h l))) (mp_ (lt_ (lt_ h 23) 20) l)) : Ctr_ g (d + 5) mX1_run [sv_r 4 1 66, sv_i 23, sv_i l, sv_i e] h Post := by
  have o1 := o.1
  have o2 := vp_r o
  have e8 : lt_ (lt_ h 23) 20 8 l = h 8 l := by rw [lt_8, lt_8]
  have ev : vp_ (lt_ (lt_ h 23) 20) l = vp_ h l := by unfold vp_; rw [e8, lt_9, lt_9]
  refine V_mk (by decide +kernel) (Or.inr (Or.inl ⟨rfl, rfl⟩)) (Nat.le_of_ble_eq_true rfl) (by simp [sv_c]) ?_
  show V_ _ _ _ 0 [_, _, _, _, _] [] _ _
  refine vr_iload_n (q := 1) dX1_run_0 rfl rfl ?_
  refine vr_bipush (q := 3) dX1_run_1 rfl ⟨by decide, by decide⟩ (by decide) ?_
  refine vr_ic_le (t := 8) (q := 6) dX1_run_3 (by decide) rfl (fun _ => ?_) (fun c9 => absurd c9 (by omega))
  refine vr_aload_n (q := 9) dX1_run_8 rfl rfl ?_
  refine vr_iload_n (q := 10) dX1_run_9 rfl rfl ?_
  refine vr_iv1 (q := 13) dX1_run_10 rfl vX1_56 (Nat.le_of_ble_eq_true rfl) ?_
  refine c_leaveTrace o.2.2.2 ?_
  refine vr_iload_n (q := 14) dX1_run_13 rfl rfl ?_
  refine vr_iconst (q := 15) dX1_run_14 rfl ⟨by decide, by decide⟩ ?_
  refine vr_iaddN (q := 16) dX1_run_15 rfl ⟨by omega, by omega⟩ ?_
  refine vr_istore (q := 18) dX1_run_16 rfl (Nat.le_of_ble_eq_true rfl) rfl rfl ?_
  refine vr_iload_n (q := 19) dX1_run_18 rfl rfl ?_
  skip
  refine vr_tsI (q := 198) dX1_run_19 (by decide) (by decide) rfl (by decide) ?_
  refine vr_aload_n (q := 199) dX1_run_198 rfl rfl ?_
  refine vr_bipush (q := 201) dX1_run_199 rfl ⟨by decide, by decide⟩ (by decide) ?_
  refine vr_iload_n (q := 202) dX1_run_201 rfl rfl ?_
  refine vr_iload (q := 204) dX1_run_202 rfl rfl ?_
  refine vr_iv3 (q := 207) dX1_run_204 rfl vX1_43 (Nat.le_of_ble_eq_true rfl) ?_
  refine c_run20 (ao_l o) ⟨by omega, by omega⟩ ?_
  refine vr_aload_n (q := 208) dX1_run_207 rfl rfl ?_
  refine vr_iload_n (q := 209) dX1_run_208 rfl rfl ?_
  refine vr_iload (q := 211) dX1_run_209 rfl rfl ?_
  refine vr_iv2 (q := 214) dX1_run_211 rfl vX1_23 (Nat.le_of_ble_eq_true rfl) ?_
  refine c_sizeP hX (ao_l (ao_l o)) (by rw [e8]; exact hk) ⟨by omega, by omega⟩ ?_
  rw [ev]
  refine vr_isubN (q := 215) dX1_run_214 rfl ⟨by omega, by omega⟩ ?_
  refine vr_iret dX1_run_215 rfl ?_
  first | exact kk | (exfalso; omega) | (repeat (first | exact kk | rw [if_pos (by omega)] at kk | rw [if_neg (by omega)] at kk))
theorem c_run11 {l e : Int} (hX : sx_ g) (o : ao_ h l) (hk : 1 ≤ h 8 l ∧ h 8 l ≤ 3) (he : 0 ≤ e ∧ e < 18) (kk : Post (some (sv_i (h 9 l + ve_ h l))) (me_ (lt_ (lt_ h 11) 10) l)) : Ctr_ g (d + 5) mX1_run [sv_r 4 1 66, sv_i 11, sv_i l, sv_i e] h Post := by
  have o1 := o.1
  have o2 := ve_r o
  have o3 := o.2.1
  have e8 : lt_ (lt_ h 11) 10 8 l = h 8 l := by rw [lt_8, lt_8]
  have ev : ve_ (lt_ (lt_ h 11) 10) l = ve_ h l := by unfold ve_; rw [e8, nn_l, nn_l]
  refine V_mk (by decide +kernel) (Or.inr (Or.inl ⟨rfl, rfl⟩)) (Nat.le_of_ble_eq_true rfl) (by simp [sv_c]) ?_
  show V_ _ _ _ 0 [_, _, _, _, _] [] _ _
  refine vr_iload_n (q := 1) dX1_run_0 rfl rfl ?_
  refine vr_bipush (q := 3) dX1_run_1 rfl ⟨by decide, by decide⟩ (by decide) ?_
  refine vr_ic_le (t := 8) (q := 6) dX1_run_3 (by decide) rfl (fun _ => ?_) (fun c9 => absurd c9 (by omega))
  refine vr_aload_n (q := 9) dX1_run_8 rfl rfl ?_
  refine vr_iload_n (q := 10) dX1_run_9 rfl rfl ?_
  refine vr_iv1 (q := 13) dX1_run_10 rfl vX1_56 (Nat.le_of_ble_eq_true rfl) ?_
  refine c_leaveTrace o.2.2.2 ?_
  refine vr_iload_n (q := 14) dX1_run_13 rfl rfl ?_
  refine vr_iconst (q := 15) dX1_run_14 rfl ⟨by decide, by decide⟩ ?_
  refine vr_iaddN (q := 16) dX1_run_15 rfl ⟨by omega, by omega⟩ ?_
  refine vr_istore (q := 18) dX1_run_16 rfl (Nat.le_of_ble_eq_true rfl) rfl rfl ?_
  refine vr_iload_n (q := 19) dX1_run_18 rfl rfl ?_
  skip
  refine vr_tsI (q := 102) dX1_run_19 (by decide) (by decide) rfl (by decide) ?_
  refine vr_aload_n (q := 103) dX1_run_102 rfl rfl ?_
  refine vr_bipush (q := 105) dX1_run_103 rfl ⟨by decide, by decide⟩ (by decide) ?_
  refine vr_iload_n (q := 106) dX1_run_105 rfl rfl ?_
  refine vr_iload (q := 108) dX1_run_106 rfl rfl ?_
  refine vr_iv3 (q := 111) dX1_run_108 rfl vX1_43 (Nat.le_of_ble_eq_true rfl) ?_
  refine c_run10 (ao_l o) ⟨by omega, by omega⟩ ?_
  rw [lt_9]
  refine vr_aload_n (q := 112) dX1_run_111 rfl rfl ?_
  refine vr_iload_n (q := 113) dX1_run_112 rfl rfl ?_
  refine vr_iload (q := 115) dX1_run_113 rfl rfl ?_
  refine vr_iv2 (q := 118) dX1_run_115 rfl vX1_27 (Nat.le_of_ble_eq_true rfl) ?_
  refine c_markE hX (ao_l (ao_l o)) (by rw [e8]; exact hk) ⟨by omega, by omega⟩ ?_
  rw [ev]
  refine vr_iaddN (q := 119) dX1_run_118 rfl ⟨by omega, by omega⟩ ?_
  refine vr_iret dX1_run_119 rfl ?_
  first | exact kk | (exfalso; omega) | (repeat (first | exact kk | rw [if_pos (by omega)] at kk | rw [if_neg (by omega)] at kk))
theorem c_run12 {l e : Int} (hX : sx_ g) (o : ao_ h l) (hk : 1 ≤ h 8 l ∧ h 8 l ≤ 3) (he : 0 ≤ e ∧ e < 17) (kk : Post (some (sv_i (-(h 9 l + ve_ h l)))) (me_ (lt_ (lt_ (lt_ h 12) 11) 10) l)) : Ctr_ g (d + 6) mX1_run [sv_r 4 1 66, sv_i 12, sv_i l, sv_i e] h Post := by
  have o1 := o.1
  have o2 := ve_r o
  have o3 := o.2.1
  have ev : ve_ (lt_ h 12) l = ve_ h l := by unfold ve_; rw [lt_8, nn_l]
  refine V_mk (by decide +kernel) (Or.inr (Or.inl ⟨rfl, rfl⟩)) (Nat.le_of_ble_eq_true rfl) (by simp [sv_c]) ?_
  show V_ _ _ _ 0 [_, _, _, _, _] [] _ _
  refine vr_iload_n (q := 1) dX1_run_0 rfl rfl ?_
  refine vr_bipush (q := 3) dX1_run_1 rfl ⟨by decide, by decide⟩ (by decide) ?_
  refine vr_ic_le (t := 8) (q := 6) dX1_run_3 (by decide) rfl (fun _ => ?_) (fun c9 => absurd c9 (by omega))
  refine vr_aload_n (q := 9) dX1_run_8 rfl rfl ?_
  refine vr_iload_n (q := 10) dX1_run_9 rfl rfl ?_
  refine vr_iv1 (q := 13) dX1_run_10 rfl vX1_56 (Nat.le_of_ble_eq_true rfl) ?_
  refine c_leaveTrace o.2.2.2 ?_
  refine vr_iload_n (q := 14) dX1_run_13 rfl rfl ?_
  refine vr_iconst (q := 15) dX1_run_14 rfl ⟨by decide, by decide⟩ ?_
  refine vr_iaddN (q := 16) dX1_run_15 rfl ⟨by omega, by omega⟩ ?_
  refine vr_istore (q := 18) dX1_run_16 rfl (Nat.le_of_ble_eq_true rfl) rfl rfl ?_
  refine vr_iload_n (q := 19) dX1_run_18 rfl rfl ?_
  skip
  refine vr_tsI (q := 120) dX1_run_19 (by decide) (by decide) rfl (by decide) ?_
  refine vr_aload_n (q := 121) dX1_run_120 rfl rfl ?_
  refine vr_bipush (q := 123) dX1_run_121 rfl ⟨by decide, by decide⟩ (by decide) ?_
  refine vr_iload_n (q := 124) dX1_run_123 rfl rfl ?_
  refine vr_iload (q := 126) dX1_run_124 rfl rfl ?_
  refine vr_iv3 (q := 129) dX1_run_126 rfl vX1_43 (Nat.le_of_ble_eq_true rfl) ?_
  refine c_run11 hX (ao_l o) (by rw [lt_8]; exact hk) ⟨by omega, by omega⟩ ?_
  rw [ev, lt_9]
  refine vr_ineg (q := 130) dX1_run_129 rfl ⟨by omega, by omega⟩ ?_
  refine vr_iret dX1_run_130 rfl ?_
  first | exact kk | (exfalso; omega) | (repeat (first | exact kk | rw [if_pos (by omega)] at kk | rw [if_neg (by omega)] at kk))
/-- SIZE and MARK of a lie, the trace then -/
def zs_ (h : SH_) (l : Int) : SH_ := if 4 ≤ h 8 l then mp_ h l else if h 8 l = 2 then me_ (lt_ (lt_ (lt_ h 12) 11) 10) l else me_ (lt_ (lt_ h 11) 10) l
def vs_ (h : SH_) (l : Int) : Int := if 4 ≤ h 8 l then vp_ h l else if h 8 l = 2 then -(h 9 l + ve_ h l) else h 9 l + ve_ h l
def zm_ (h : SH_) (l : Int) : SH_ := if 4 ≤ h 8 l then mp_ (lt_ (lt_ h 23) 20) l else me_ h l
def vm_ (h : SH_) (l : Int) : Int := if 4 ≤ h 8 l then l - vp_ h l else ve_ h l
theorem c_sizeOf {l e : Int} (hX : sx_ g) (o : ao_ h l) (hk : 1 ≤ h 8 l ∧ h 8 l ≤ 5) (he : 0 ≤ e ∧ e < 17) (kk : Post (some (sv_i (vs_ h l))) (zs_ h l)) : Ctr_ g (d + 7) mX1_sizeOf [sv_r 4 1 66, sv_i l, sv_i e] h Post := by
  have o1 := o.1
  unfold vs_ zs_ at kk
  by_cases c4 : 4 ≤ h 8 l
  · rw [if_pos c4, if_pos c4] at kk
    exact c_sizeP hX o ⟨c4, hk.2⟩ ⟨by omega, by omega⟩ kk
  rw [if_neg c4, if_neg c4] at kk
  refine V_mk (by decide +kernel) (Or.inr (Or.inl ⟨rfl, rfl⟩)) (Nat.le_of_ble_eq_true rfl) (by simp [sv_c]) ?_
  show V_ _ _ _ 0 [_, _, _] [] _ _
  refine vr_aload_n (q := 1) dX1_sizeOf_0 rfl rfl ?_
  refine vr_gets (i := 1) (q := 4) dX1_sizeOf_1 rfl (by decide) gX1_31 ?_
  refine vr_aload_n (q := 5) dX1_sizeOf_4 rfl rfl ?_
  refine vr_getA (q := 8) dX1_sizeOf_5 rfl fX1_19 rfl ⟨by decide, by decide, rfl⟩ ?_
  refine vr_getR (q := 11) dX1_sizeOf_8 rfl fX1_34 rfl y_X7_4 (by first | (simp only [Int.reduceAdd]; rfl) | rfl) ?_
  refine vr_iload_n (q := 12) dX1_sizeOf_11 rfl rfl ?_
  refine vr_iald (q := 13) dX1_sizeOf_12 rfl ⟨by omega, by omega⟩ ?_
  refine vr_is2 (q := 16) dX1_sizeOf_13 rfl vX1_39 (Nat.le_of_ble_eq_true rfl) ?_
  refine c_nearS hX hk ?_
  skip
  by_cases c1 : h 8 l = 2
  · rw [if_pos c1, if_pos c1] at kk
    rw [if_pos c1]
    refine vr_iload_n (q := 17) dX1_sizeOf_16 rfl rfl ?_
    refine vr_iload_n (q := 18) dX1_sizeOf_17 rfl rfl ?_
    refine vr_iv3 (q := 21) dX1_sizeOf_18 rfl vX1_43 (Nat.le_of_ble_eq_true rfl) ?_
    refine c_run12 hX o ⟨by omega, by omega⟩ ⟨by omega, by omega⟩ ?_
    refine vr_iret dX1_sizeOf_21 rfl ?_
    first | exact kk | (exfalso; omega) | (repeat (first | exact kk | rw [if_pos (by omega)] at kk | rw [if_neg (by omega)] at kk))
  · rw [if_neg c1, if_neg c1] at kk
    rw [if_neg c1, if_neg (by omega), if_neg (by omega)]
    refine vr_iload_n (q := 17) dX1_sizeOf_16 rfl rfl ?_
    refine vr_iload_n (q := 18) dX1_sizeOf_17 rfl rfl ?_
    refine vr_iv3 (q := 21) dX1_sizeOf_18 rfl vX1_43 (Nat.le_of_ble_eq_true rfl) ?_
    refine c_run11 hX o ⟨by omega, by omega⟩ ⟨by omega, by omega⟩ ?_
    refine vr_iret dX1_sizeOf_21 rfl ?_
    first | exact kk | (exfalso; omega) | (repeat (first | exact kk | rw [if_pos (by omega)] at kk | rw [if_neg (by omega)] at kk))
theorem c_markOf {l e : Int} (hX : sx_ g) (o : ao_ h l) (hk : 1 ≤ h 8 l ∧ h 8 l ≤ 5) (he : 0 ≤ e ∧ e < 17) (kk : Post (some (sv_i (vm_ h l))) (zm_ h l)) : Ctr_ g (d + 6) mX1_markOf [sv_r 4 1 66, sv_i l, sv_i e] h Post := by
  have o1 := o.1
  unfold vm_ zm_ at kk
  by_cases c4 : 4 ≤ h 8 l
  · rw [if_pos c4, if_pos c4] at kk
    refine V_mk (by decide +kernel) (Or.inr (Or.inl ⟨rfl, rfl⟩)) (Nat.le_of_ble_eq_true rfl) (by simp [sv_c]) ?_
    show V_ _ _ _ 0 [_, _, _] [] _ _
    refine vr_aload_n (q := 1) dX1_markOf_0 rfl rfl ?_
    refine vr_gets (i := 2) (q := 4) dX1_markOf_1 rfl (by decide) gX1_47 ?_
    refine vr_aload_n (q := 5) dX1_markOf_4 rfl rfl ?_
    refine vr_getA (q := 8) dX1_markOf_5 rfl fX1_19 rfl ⟨by decide, by decide, rfl⟩ ?_
    refine vr_getR (q := 11) dX1_markOf_8 rfl fX1_34 rfl y_X7_4 (by first | (simp only [Int.reduceAdd]; rfl) | rfl) ?_
    refine vr_iload_n (q := 12) dX1_markOf_11 rfl rfl ?_
    refine vr_iald (q := 13) dX1_markOf_12 rfl ⟨by omega, by omega⟩ ?_
    refine vr_is2 (q := 16) dX1_markOf_13 rfl vX1_39 (Nat.le_of_ble_eq_true rfl) ?_
    refine c_nearM hX hk ?_
    skip
    rw [if_neg (by omega), if_neg (by omega), if_neg (by omega)]
    refine vr_iload_n (q := 17) dX1_markOf_16 rfl rfl ?_
    refine vr_iload_n (q := 18) dX1_markOf_17 rfl rfl ?_
    refine vr_iv3 (q := 21) dX1_markOf_18 rfl vX1_43 (Nat.le_of_ble_eq_true rfl) ?_
    refine c_run23 hX o ⟨by omega, by omega⟩ ⟨by omega, by omega⟩ ?_
    refine vr_iret dX1_markOf_21 rfl ?_
    first | exact kk | (exfalso; omega) | (repeat (first | exact kk | rw [if_pos (by omega)] at kk | rw [if_neg (by omega)] at kk))
  · rw [if_neg c4, if_neg c4] at kk
    exact c_markE hX o ⟨hk.1, by omega⟩ ⟨by omega, by omega⟩ kk
theorem c_answer {l w : Int} (hX : sx_ g) (o : ao_ h l) (hk : 1 ≤ h 8 l ∧ h 8 l ≤ 5) (kk : Post (some (sv_i (if w = 0 then vs_ (hs_ h 66 2 0) l else vm_ (hs_ h 66 2 0) l))) (if w = 0 then zs_ (hs_ h 66 2 0) l else zm_ (hs_ h 66 2 0) l)) : Ctr_ g (d + 8) mX1_answer [sv_r 4 1 66, sv_i l, sv_i w] h Post := by
  have e8 : hs_ h 66 2 0 8 l = h 8 l := by rw [hs_k (by decide)]
  have o2 : ao_ (hs_ h 66 2 0) l := by
    obtain ⟨o1, o2, o3, o4⟩ := o
    refine ⟨o1, ?_, ?_, ?_⟩
    · rw [hs_k (by decide)]; exact o2
    · rw [hs_k (by decide)]; exact o3
    · rw [hs_e]; exact ⟨by decide, by decide⟩
  refine V_mk (by decide +kernel) (Or.inr (Or.inl ⟨rfl, rfl⟩)) (Nat.le_of_ble_eq_true rfl) (by simp [sv_c]) ?_
  show V_ _ _ _ 0 [_, _, _] [] _ _
  refine vr_aload_n (q := 1) dX1_answer_0 rfl rfl ?_
  refine vr_iconst (q := 2) dX1_answer_1 rfl ⟨by decide, by decide⟩ ?_
  refine vr_put (ji := 2) (q := 5) dX1_answer_2 rfl pX1_15 rfl rfl ?_
  refine vr_iload_n (q := 6) dX1_answer_5 rfl rfl ?_
  refine vr_if_ne (t := 18) (q := 9) dX1_answer_6 (by decide) rfl (fun c6 => ?_) (fun c6 => ?_)
  · refine vr_aload_n (q := 19) dX1_answer_18 rfl rfl ?_
    refine vr_iload_n (q := 20) dX1_answer_19 rfl rfl ?_
    refine vr_iconst (q := 21) dX1_answer_20 rfl ⟨by decide, by decide⟩ ?_
    refine vr_iv2 (q := 24) dX1_answer_21 rfl vX1_27 (Nat.le_of_ble_eq_true rfl) ?_
    refine c_markOf hX o2 (by rw [e8]; exact hk) ⟨by decide, by decide⟩ ?_
    refine vr_iret dX1_answer_24 rfl ?_
    first | exact kk | (exfalso; omega) | (repeat (first | exact kk | rw [if_pos (by omega)] at kk | rw [if_neg (by omega)] at kk))
  · refine vr_aload_n (q := 10) dX1_answer_9 rfl rfl ?_
    refine vr_iload_n (q := 11) dX1_answer_10 rfl rfl ?_
    refine vr_iconst (q := 12) dX1_answer_11 rfl ⟨by decide, by decide⟩ ?_
    refine vr_iv2 (q := 15) dX1_answer_12 rfl vX1_23 (Nat.le_of_ble_eq_true rfl) ?_
    refine c_sizeOf hX o2 (by rw [e8]; exact hk) ⟨by decide, by decide⟩ ?_
    refine vr_goto (q := 24) dX1_answer_15 (by decide) ?_
    refine vr_iret dX1_answer_24 rfl ?_
    first | exact kk | (exfalso; omega) | (repeat (first | exact kk | rw [if_pos (by omega)] at kk | rw [if_neg (by omega)] at kk))
end PA2_
end
section
theorem dX0_init_0 : decode cX0_init 0 = .ok (.aload_n 0, 1) := by decide +kernel
theorem dX0_init_1 : decode cX0_init 1 = .ok (.invokespecial 1, 3) := by decide +kernel
theorem dX0_init_4 : decode cX0_init 4 = .ok (.aload_n 0, 1) := by decide +kernel
theorem dX0_init_5 : decode cX0_init 5 = .ok (.bipush 24, 2) := by decide +kernel
theorem dX0_init_7 : decode cX0_init 7 = .ok (.newarray .int, 2) := by decide +kernel
theorem dX0_init_9 : decode cX0_init 9 = .ok (.putfield 9, 3) := by decide +kernel
theorem dX0_init_12 : decode cX0_init 12 = .ok (.aload_n 0, 1) := by decide +kernel
theorem dX0_init_13 : decode cX0_init 13 = .ok (.bipush 24, 2) := by decide +kernel
theorem dX0_init_15 : decode cX0_init 15 = .ok (.newarray .int, 2) := by decide +kernel
theorem dX0_init_17 : decode cX0_init 17 = .ok (.putfield 13, 3) := by decide +kernel
theorem dX0_init_20 : decode cX0_init 20 = .ok (.aload_n 0, 1) := by decide +kernel
theorem dX0_init_21 : decode cX0_init 21 = .ok (.bipush 24, 2) := by decide +kernel
theorem dX0_init_23 : decode cX0_init 23 = .ok (.newarray .int, 2) := by decide +kernel
theorem dX0_init_25 : decode cX0_init 25 = .ok (.putfield 16, 3) := by decide +kernel
theorem dX0_init_28 : decode cX0_init 28 = .ok (.aload_n 0, 1) := by decide +kernel
theorem dX0_init_29 : decode cX0_init 29 = .ok (.bipush 24, 2) := by decide +kernel
theorem dX0_init_31 : decode cX0_init 31 = .ok (.newarray .int, 2) := by decide +kernel
theorem dX0_init_33 : decode cX0_init 33 = .ok (.putfield 19, 3) := by decide +kernel
theorem dX0_init_36 : decode cX0_init 36 = .ok (.aload_n 0, 1) := by decide +kernel
theorem dX0_init_37 : decode cX0_init 37 = .ok (.bipush 24, 2) := by decide +kernel
theorem dX0_init_39 : decode cX0_init 39 = .ok (.newarray .int, 2) := by decide +kernel
theorem dX0_init_41 : decode cX0_init 41 = .ok (.putfield 22, 3) := by decide +kernel
theorem dX0_init_44 : decode cX0_init 44 = .ok (.aload_n 0, 1) := by decide +kernel
theorem dX0_init_45 : decode cX0_init 45 = .ok (.iconst 0, 1) := by decide +kernel
theorem dX0_init_46 : decode cX0_init 46 = .ok (.putfield 25, 3) := by decide +kernel
theorem dX0_init_49 : decode cX0_init 49 = .ok (.aload_n 0, 1) := by decide +kernel
theorem dX0_init_50 : decode cX0_init 50 = .ok (.iconst 0, 1) := by decide +kernel
theorem dX0_init_51 : decode cX0_init 51 = .ok (.putfield 29, 3) := by decide +kernel
theorem dX0_init_54 : decode cX0_init 54 = .ok (.return_, 1) := by decide +kernel
theorem dX0_kept_0 : decode cX0_kept 0 = .ok (.aload_n 0, 1) := by decide +kernel
theorem dX0_kept_1 : decode cX0_kept 1 = .ok (.getfield 29, 3) := by decide +kernel
theorem dX0_kept_4 : decode cX0_kept 4 = .ok (.ireturn, 1) := by decide +kernel
theorem dX0_clear_0 : decode cX0_clear 0 = .ok (.aload_n 0, 1) := by decide +kernel
theorem dX0_clear_1 : decode cX0_clear 1 = .ok (.iconst 0, 1) := by decide +kernel
theorem dX0_clear_2 : decode cX0_clear 2 = .ok (.putfield 29, 3) := by decide +kernel
theorem dX0_clear_5 : decode cX0_clear 5 = .ok (.return_, 1) := by decide +kernel
theorem dX0_keepAhead_0 : decode cX0_keepAhead 0 = .ok (.aload_n 0, 1) := by decide +kernel
theorem dX0_keepAhead_1 : decode cX0_keepAhead 1 = .ok (.getfield 9, 3) := by decide +kernel
theorem dX0_keepAhead_4 : decode cX0_keepAhead 4 = .ok (.aload_n 0, 1) := by decide +kernel
theorem dX0_keepAhead_5 : decode cX0_keepAhead 5 = .ok (.getfield 25, 3) := by decide +kernel
theorem dX0_keepAhead_8 : decode cX0_keepAhead 8 = .ok (.iload_n 2, 1) := by decide +kernel
theorem dX0_keepAhead_9 : decode cX0_keepAhead 9 = .ok (.iastore, 1) := by decide +kernel
theorem dX0_keepAhead_10 : decode cX0_keepAhead 10 = .ok (.aload_n 0, 1) := by decide +kernel
theorem dX0_keepAhead_11 : decode cX0_keepAhead 11 = .ok (.getfield 13, 3) := by decide +kernel
theorem dX0_keepAhead_14 : decode cX0_keepAhead 14 = .ok (.aload_n 0, 1) := by decide +kernel
theorem dX0_keepAhead_15 : decode cX0_keepAhead 15 = .ok (.getfield 25, 3) := by decide +kernel
theorem dX0_keepAhead_18 : decode cX0_keepAhead 18 = .ok (.aload_n 1, 1) := by decide +kernel
theorem dX0_keepAhead_19 : decode cX0_keepAhead 19 = .ok (.getfield 32, 3) := by decide +kernel
theorem dX0_keepAhead_22 : decode cX0_keepAhead 22 = .ok (.iload_n 2, 1) := by decide +kernel
theorem dX0_keepAhead_23 : decode cX0_keepAhead 23 = .ok (.iaload, 1) := by decide +kernel
theorem dX0_keepAhead_24 : decode cX0_keepAhead 24 = .ok (.iastore, 1) := by decide +kernel
theorem dX0_keepAhead_25 : decode cX0_keepAhead 25 = .ok (.aload_n 0, 1) := by decide +kernel
theorem dX0_keepAhead_26 : decode cX0_keepAhead 26 = .ok (.getfield 16, 3) := by decide +kernel
theorem dX0_keepAhead_29 : decode cX0_keepAhead 29 = .ok (.aload_n 0, 1) := by decide +kernel
theorem dX0_keepAhead_30 : decode cX0_keepAhead 30 = .ok (.getfield 25, 3) := by decide +kernel
theorem dX0_keepAhead_33 : decode cX0_keepAhead 33 = .ok (.aload_n 1, 1) := by decide +kernel
theorem dX0_keepAhead_34 : decode cX0_keepAhead 34 = .ok (.getfield 35, 3) := by decide +kernel
theorem dX0_keepAhead_37 : decode cX0_keepAhead 37 = .ok (.iload_n 2, 1) := by decide +kernel
theorem dX0_keepAhead_38 : decode cX0_keepAhead 38 = .ok (.iaload, 1) := by decide +kernel
theorem dX0_keepAhead_39 : decode cX0_keepAhead 39 = .ok (.iastore, 1) := by decide +kernel
theorem dX0_keepAhead_40 : decode cX0_keepAhead 40 = .ok (.aload_n 0, 1) := by decide +kernel
theorem dX0_keepAhead_41 : decode cX0_keepAhead 41 = .ok (.getfield 19, 3) := by decide +kernel
theorem dX0_keepAhead_44 : decode cX0_keepAhead 44 = .ok (.aload_n 0, 1) := by decide +kernel
theorem dX0_keepAhead_45 : decode cX0_keepAhead 45 = .ok (.getfield 25, 3) := by decide +kernel
theorem dX0_keepAhead_48 : decode cX0_keepAhead 48 = .ok (.aload_n 1, 1) := by decide +kernel
theorem dX0_keepAhead_49 : decode cX0_keepAhead 49 = .ok (.getfield 36, 3) := by decide +kernel
theorem dX0_keepAhead_52 : decode cX0_keepAhead 52 = .ok (.iload_n 2, 1) := by decide +kernel
theorem dX0_keepAhead_53 : decode cX0_keepAhead 53 = .ok (.iaload, 1) := by decide +kernel
theorem dX0_keepAhead_54 : decode cX0_keepAhead 54 = .ok (.iastore, 1) := by decide +kernel
theorem dX0_keepAhead_55 : decode cX0_keepAhead 55 = .ok (.aload_n 0, 1) := by decide +kernel
theorem dX0_keepAhead_56 : decode cX0_keepAhead 56 = .ok (.getfield 22, 3) := by decide +kernel
theorem dX0_keepAhead_59 : decode cX0_keepAhead 59 = .ok (.aload_n 0, 1) := by decide +kernel
theorem dX0_keepAhead_60 : decode cX0_keepAhead 60 = .ok (.getfield 25, 3) := by decide +kernel
theorem dX0_keepAhead_63 : decode cX0_keepAhead 63 = .ok (.aload_n 1, 1) := by decide +kernel
theorem dX0_keepAhead_64 : decode cX0_keepAhead 64 = .ok (.getfield 37, 3) := by decide +kernel
theorem dX0_keepAhead_67 : decode cX0_keepAhead 67 = .ok (.iastore, 1) := by decide +kernel
theorem dX0_keepAhead_68 : decode cX0_keepAhead 68 = .ok (.aload_n 0, 1) := by decide +kernel
theorem dX0_keepAhead_69 : decode cX0_keepAhead 69 = .ok (.aload_n 0, 1) := by decide +kernel
theorem dX0_keepAhead_70 : decode cX0_keepAhead 70 = .ok (.getfield 25, 3) := by decide +kernel
theorem dX0_keepAhead_73 : decode cX0_keepAhead 73 = .ok (.iconst 1, 1) := by decide +kernel
theorem dX0_keepAhead_74 : decode cX0_keepAhead 74 = .ok (.iadd, 1) := by decide +kernel
theorem dX0_keepAhead_75 : decode cX0_keepAhead 75 = .ok (.bipush 24, 2) := by decide +kernel
theorem dX0_keepAhead_77 : decode cX0_keepAhead 77 = .ok (.if_icmp .ge 12, 3) := by decide +kernel
theorem dX0_keepAhead_80 : decode cX0_keepAhead 80 = .ok (.aload_n 0, 1) := by decide +kernel
theorem dX0_keepAhead_81 : decode cX0_keepAhead 81 = .ok (.getfield 25, 3) := by decide +kernel
theorem dX0_keepAhead_84 : decode cX0_keepAhead 84 = .ok (.iconst 1, 1) := by decide +kernel
theorem dX0_keepAhead_85 : decode cX0_keepAhead 85 = .ok (.iadd, 1) := by decide +kernel
theorem dX0_keepAhead_86 : decode cX0_keepAhead 86 = .ok (.goto 4, 3) := by decide +kernel
theorem dX0_keepAhead_89 : decode cX0_keepAhead 89 = .ok (.iconst 0, 1) := by decide +kernel
theorem dX0_keepAhead_90 : decode cX0_keepAhead 90 = .ok (.putfield 25, 3) := by decide +kernel
theorem dX0_keepAhead_93 : decode cX0_keepAhead 93 = .ok (.aload_n 0, 1) := by decide +kernel
theorem dX0_keepAhead_94 : decode cX0_keepAhead 94 = .ok (.aload_n 0, 1) := by decide +kernel
theorem dX0_keepAhead_95 : decode cX0_keepAhead 95 = .ok (.getfield 29, 3) := by decide +kernel
theorem dX0_keepAhead_98 : decode cX0_keepAhead 98 = .ok (.iconst 1, 1) := by decide +kernel
theorem dX0_keepAhead_99 : decode cX0_keepAhead 99 = .ok (.iadd, 1) := by decide +kernel
theorem dX0_keepAhead_100 : decode cX0_keepAhead 100 = .ok (.bipush 24, 2) := by decide +kernel
theorem dX0_keepAhead_102 : decode cX0_keepAhead 102 = .ok (.invokestatic 40, 3) := by decide +kernel
theorem dX0_keepAhead_105 : decode cX0_keepAhead 105 = .ok (.putfield 29, 3) := by decide +kernel
theorem dX0_keepAhead_108 : decode cX0_keepAhead 108 = .ok (.return_, 1) := by decide +kernel
theorem dX0_undoLatest_0 : decode cX0_undoLatest 0 = .ok (.aload_n 0, 1) := by decide +kernel
theorem dX0_undoLatest_1 : decode cX0_undoLatest 1 = .ok (.aload_n 0, 1) := by decide +kernel
theorem dX0_undoLatest_2 : decode cX0_undoLatest 2 = .ok (.getfield 25, 3) := by decide +kernel
theorem dX0_undoLatest_5 : decode cX0_undoLatest 5 = .ok (.ifCond .le 12, 3) := by decide +kernel
theorem dX0_undoLatest_8 : decode cX0_undoLatest 8 = .ok (.aload_n 0, 1) := by decide +kernel
theorem dX0_undoLatest_9 : decode cX0_undoLatest 9 = .ok (.getfield 25, 3) := by decide +kernel
theorem dX0_undoLatest_12 : decode cX0_undoLatest 12 = .ok (.iconst 1, 1) := by decide +kernel
theorem dX0_undoLatest_13 : decode cX0_undoLatest 13 = .ok (.isub, 1) := by decide +kernel
theorem dX0_undoLatest_14 : decode cX0_undoLatest 14 = .ok (.goto 5, 3) := by decide +kernel
theorem dX0_undoLatest_17 : decode cX0_undoLatest 17 = .ok (.bipush 23, 2) := by decide +kernel
theorem dX0_undoLatest_19 : decode cX0_undoLatest 19 = .ok (.putfield 25, 3) := by decide +kernel
theorem dX0_undoLatest_22 : decode cX0_undoLatest 22 = .ok (.aload_n 0, 1) := by decide +kernel
theorem dX0_undoLatest_23 : decode cX0_undoLatest 23 = .ok (.dup, 1) := by decide +kernel
theorem dX0_undoLatest_24 : decode cX0_undoLatest 24 = .ok (.getfield 29, 3) := by decide +kernel
theorem dX0_undoLatest_27 : decode cX0_undoLatest 27 = .ok (.iconst 1, 1) := by decide +kernel
theorem dX0_undoLatest_28 : decode cX0_undoLatest 28 = .ok (.isub, 1) := by decide +kernel
theorem dX0_undoLatest_29 : decode cX0_undoLatest 29 = .ok (.putfield 29, 3) := by decide +kernel
theorem dX0_undoLatest_32 : decode cX0_undoLatest 32 = .ok (.aload_n 0, 1) := by decide +kernel
theorem dX0_undoLatest_33 : decode cX0_undoLatest 33 = .ok (.getfield 9, 3) := by decide +kernel
theorem dX0_undoLatest_36 : decode cX0_undoLatest 36 = .ok (.aload_n 0, 1) := by decide +kernel
theorem dX0_undoLatest_37 : decode cX0_undoLatest 37 = .ok (.getfield 25, 3) := by decide +kernel
theorem dX0_undoLatest_40 : decode cX0_undoLatest 40 = .ok (.iaload, 1) := by decide +kernel
theorem dX0_undoLatest_41 : decode cX0_undoLatest 41 = .ok (.istore_n 2, 1) := by decide +kernel
theorem dX0_undoLatest_42 : decode cX0_undoLatest 42 = .ok (.aload_n 1, 1) := by decide +kernel
theorem dX0_undoLatest_43 : decode cX0_undoLatest 43 = .ok (.getfield 32, 3) := by decide +kernel
theorem dX0_undoLatest_46 : decode cX0_undoLatest 46 = .ok (.iload_n 2, 1) := by decide +kernel
theorem dX0_undoLatest_47 : decode cX0_undoLatest 47 = .ok (.aload_n 0, 1) := by decide +kernel
theorem dX0_undoLatest_48 : decode cX0_undoLatest 48 = .ok (.getfield 13, 3) := by decide +kernel
theorem dX0_undoLatest_51 : decode cX0_undoLatest 51 = .ok (.aload_n 0, 1) := by decide +kernel
theorem dX0_undoLatest_52 : decode cX0_undoLatest 52 = .ok (.getfield 25, 3) := by decide +kernel
theorem dX0_undoLatest_55 : decode cX0_undoLatest 55 = .ok (.iaload, 1) := by decide +kernel
theorem dX0_undoLatest_56 : decode cX0_undoLatest 56 = .ok (.iastore, 1) := by decide +kernel
theorem dX0_undoLatest_57 : decode cX0_undoLatest 57 = .ok (.aload_n 1, 1) := by decide +kernel
theorem dX0_undoLatest_58 : decode cX0_undoLatest 58 = .ok (.getfield 35, 3) := by decide +kernel
theorem dX0_undoLatest_61 : decode cX0_undoLatest 61 = .ok (.iload_n 2, 1) := by decide +kernel
theorem dX0_undoLatest_62 : decode cX0_undoLatest 62 = .ok (.aload_n 0, 1) := by decide +kernel
theorem dX0_undoLatest_63 : decode cX0_undoLatest 63 = .ok (.getfield 16, 3) := by decide +kernel
theorem dX0_undoLatest_66 : decode cX0_undoLatest 66 = .ok (.aload_n 0, 1) := by decide +kernel
theorem dX0_undoLatest_67 : decode cX0_undoLatest 67 = .ok (.getfield 25, 3) := by decide +kernel
theorem dX0_undoLatest_70 : decode cX0_undoLatest 70 = .ok (.iaload, 1) := by decide +kernel
theorem dX0_undoLatest_71 : decode cX0_undoLatest 71 = .ok (.iastore, 1) := by decide +kernel
theorem dX0_undoLatest_72 : decode cX0_undoLatest 72 = .ok (.aload_n 1, 1) := by decide +kernel
theorem dX0_undoLatest_73 : decode cX0_undoLatest 73 = .ok (.getfield 36, 3) := by decide +kernel
theorem dX0_undoLatest_76 : decode cX0_undoLatest 76 = .ok (.iload_n 2, 1) := by decide +kernel
theorem dX0_undoLatest_77 : decode cX0_undoLatest 77 = .ok (.aload_n 0, 1) := by decide +kernel
theorem dX0_undoLatest_78 : decode cX0_undoLatest 78 = .ok (.getfield 19, 3) := by decide +kernel
theorem dX0_undoLatest_81 : decode cX0_undoLatest 81 = .ok (.aload_n 0, 1) := by decide +kernel
theorem dX0_undoLatest_82 : decode cX0_undoLatest 82 = .ok (.getfield 25, 3) := by decide +kernel
theorem dX0_undoLatest_85 : decode cX0_undoLatest 85 = .ok (.iaload, 1) := by decide +kernel
theorem dX0_undoLatest_86 : decode cX0_undoLatest 86 = .ok (.iastore, 1) := by decide +kernel
theorem dX0_undoLatest_87 : decode cX0_undoLatest 87 = .ok (.aload_n 1, 1) := by decide +kernel
theorem dX0_undoLatest_88 : decode cX0_undoLatest 88 = .ok (.aload_n 0, 1) := by decide +kernel
theorem dX0_undoLatest_89 : decode cX0_undoLatest 89 = .ok (.getfield 22, 3) := by decide +kernel
theorem dX0_undoLatest_92 : decode cX0_undoLatest 92 = .ok (.aload_n 0, 1) := by decide +kernel
theorem dX0_undoLatest_93 : decode cX0_undoLatest 93 = .ok (.getfield 25, 3) := by decide +kernel
theorem dX0_undoLatest_96 : decode cX0_undoLatest 96 = .ok (.iaload, 1) := by decide +kernel
theorem dX0_undoLatest_97 : decode cX0_undoLatest 97 = .ok (.putfield 37, 3) := by decide +kernel
theorem dX0_undoLatest_100 : decode cX0_undoLatest 100 = .ok (.return_, 1) := by decide +kernel
end
section
/-- what is kept ahead of an act of stranger s -/
def ka_ (h : SH_) (s : Int) : SH_ := hs_ (hs_ (hs_ (hs_ (hs_ (hs_ (hs_ h 41 (h 40 5) s) 42 (h 40 5) (h 11 s)) 43 (h 40 5) (h 13 s)) 44 (h 40 5) (h 14 s)) 45 (h 40 5) (h 7 1)) 40 5 (if h 40 5 + 1 < 24 then h 40 5 + 1 else 0)) 40 6 (if 24 < h 40 6 + 1 then 24 else h 40 6 + 1)
def ul_n (h : SH_) : Int := if 0 < h 40 5 then h 40 5 - 1 else 23
def ul_ (h : SH_) : SH_ := hs_ (hs_ (hs_ (hs_ (hs_ (hs_ h 40 5 (ul_n h)) 40 6 (h 40 6 - 1)) 11 (h 41 (ul_n h)) (h 42 (ul_n h))) 13 (h 41 (ul_n h)) (h 43 (ul_n h))) 14 (h 41 (ul_n h)) (h 44 (ul_n h))) 7 1 (h 45 (ul_n h))
section PAC_
variable {g : SG_} {d : Nat} {h : SH_} {Post : Option SV_ → SH_ → Prop}
theorem c_kept (kk : Post (some (sv_i (h 40 6))) h) : Ctr_ g d mX0_kept [sv_r 4 0 40] h Post := by
  refine V_mk (by decide +kernel) (Or.inr (Or.inl ⟨rfl, rfl⟩)) (Nat.le_of_ble_eq_true rfl) (by simp [sv_c]) ?_
  show V_ _ _ _ 0 [_] [] _ _
  refine vr_aload_n (q := 1) dX0_kept_0 rfl rfl ?_
  refine vr_getI (ji := 6) (q := 4) dX0_kept_1 rfl fX0_29 rfl rfl ?_
  refine vr_iret dX0_kept_4 rfl ?_
  first | exact kk | (exfalso; omega) | (repeat (first | exact kk | rw [if_pos (by omega)] at kk | rw [if_neg (by omega)] at kk))
theorem c_clear (kk : Post none (hs_ h 40 6 0)) : Ctr_ g d mX0_clear [sv_r 4 0 40] h Post := by
  refine V_mk (by decide +kernel) (Or.inl ⟨rfl, rfl⟩) (Nat.le_of_ble_eq_true rfl) (by simp [sv_c]) ?_
  show V_ _ _ _ 0 [_] [] _ _
  refine vr_aload_n (q := 1) dX0_clear_0 rfl rfl ?_
  refine vr_iconst (q := 2) dX0_clear_1 rfl ⟨by decide, by decide⟩ ?_
  refine vr_put (ji := 6) (q := 5) dX0_clear_2 rfl pX0_29 rfl rfl ?_
  refine vr_vret dX0_clear_5 rfl ?_
  first | exact kk | (exfalso; omega) | (repeat (first | exact kk | rw [if_pos (by omega)] at kk | rw [if_neg (by omega)] at kk))
theorem c_keepAhead {s : Int} (hs : 0 ≤ s ∧ s < 4) (hn : 0 ≤ h 40 5 ∧ h 40 5 < 24) (hk : 0 ≤ h 40 6 ∧ h 40 6 ≤ 24) (kk : Post none (ka_ h s)) : Ctr_ g (d + 1) mX0_keepAhead [sv_r 4 0 40, sv_r 4 6 7, sv_i s] h Post := by
  unfold ka_ at kk
  refine V_mk (by decide +kernel) (Or.inl ⟨rfl, rfl⟩) (Nat.le_of_ble_eq_true rfl) (by simp [sv_c]) ?_
  show V_ _ _ _ 0 [_, _, _] [] _ _
  refine vr_aload_n (q := 1) dX0_keepAhead_0 rfl rfl ?_
  refine vr_getR (q := 4) dX0_keepAhead_1 rfl fX0_9 rfl y_X0_0 (by first | (simp only [Int.reduceAdd]; rfl) | rfl) ?_
  refine vr_aload_n (q := 5) dX0_keepAhead_4 rfl rfl ?_
  refine vr_getI (ji := 5) (q := 8) dX0_keepAhead_5 rfl fX0_25 rfl rfl ?_
  refine vr_iload_n (q := 9) dX0_keepAhead_8 rfl rfl ?_
  refine vr_iast (q := 10) dX0_keepAhead_9 rfl ⟨by omega, by omega⟩ ?_
  refine vr_aload_n (q := 11) dX0_keepAhead_10 rfl rfl ?_
  refine vr_getR (q := 14) dX0_keepAhead_11 rfl fX0_13 rfl y_X0_1 (by first | (simp only [Int.reduceAdd]; rfl) | rfl) ?_
  refine vr_aload_n (q := 15) dX0_keepAhead_14 rfl rfl ?_
  refine vr_getV (ji := 5) (q := 18) dX0_keepAhead_15 rfl fX0_25 rfl rfl (by rw [hs_k (by decide)]) ?_
  refine vr_aload_n (q := 19) dX0_keepAhead_18 rfl rfl ?_
  refine vr_getR (q := 22) dX0_keepAhead_19 rfl fX0_32 rfl y_X7_7 (by first | (simp only [Int.reduceAdd]; rfl) | rfl) ?_
  refine vr_iload_n (q := 23) dX0_keepAhead_22 rfl rfl ?_
  refine vr_ialdV (q := 24) dX0_keepAhead_23 rfl ⟨by omega, by omega⟩ (by rw [hs_k (by decide)]) ?_
  refine vr_iast (q := 25) dX0_keepAhead_24 rfl ⟨by omega, by omega⟩ ?_
  refine vr_aload_n (q := 26) dX0_keepAhead_25 rfl rfl ?_
  refine vr_getR (q := 29) dX0_keepAhead_26 rfl fX0_16 rfl y_X0_2 (by first | (simp only [Int.reduceAdd]; rfl) | rfl) ?_
  refine vr_aload_n (q := 30) dX0_keepAhead_29 rfl rfl ?_
  refine vr_getV (ji := 5) (q := 33) dX0_keepAhead_30 rfl fX0_25 rfl rfl (by rw [hs_k (by decide), hs_k (by decide)]) ?_
  refine vr_aload_n (q := 34) dX0_keepAhead_33 rfl rfl ?_
  refine vr_getR (q := 37) dX0_keepAhead_34 rfl fX0_35 rfl y_X7_9 (by first | (simp only [Int.reduceAdd]; rfl) | rfl) ?_
  refine vr_iload_n (q := 38) dX0_keepAhead_37 rfl rfl ?_
  refine vr_ialdV (q := 39) dX0_keepAhead_38 rfl ⟨by omega, by omega⟩ (by rw [hs_k (by decide), hs_k (by decide)]) ?_
  refine vr_iast (q := 40) dX0_keepAhead_39 rfl ⟨by omega, by omega⟩ ?_
  refine vr_aload_n (q := 41) dX0_keepAhead_40 rfl rfl ?_
  refine vr_getR (q := 44) dX0_keepAhead_41 rfl fX0_19 rfl y_X0_3 (by first | (simp only [Int.reduceAdd]; rfl) | rfl) ?_
  refine vr_aload_n (q := 45) dX0_keepAhead_44 rfl rfl ?_
  refine vr_getV (ji := 5) (q := 48) dX0_keepAhead_45 rfl fX0_25 rfl rfl (by rw [hs_k (by decide), hs_k (by decide), hs_k (by decide)]) ?_
  refine vr_aload_n (q := 49) dX0_keepAhead_48 rfl rfl ?_
  refine vr_getR (q := 52) dX0_keepAhead_49 rfl fX0_36 rfl y_X7_10 (by first | (simp only [Int.reduceAdd]; rfl) | rfl) ?_
  refine vr_iload_n (q := 53) dX0_keepAhead_52 rfl rfl ?_
  refine vr_ialdV (q := 54) dX0_keepAhead_53 rfl ⟨by omega, by omega⟩ (by rw [hs_k (by decide), hs_k (by decide), hs_k (by decide)]) ?_
  refine vr_iast (q := 55) dX0_keepAhead_54 rfl ⟨by omega, by omega⟩ ?_
  refine vr_aload_n (q := 56) dX0_keepAhead_55 rfl rfl ?_
  refine vr_getR (q := 59) dX0_keepAhead_56 rfl fX0_22 rfl y_X0_4 (by first | (simp only [Int.reduceAdd]; rfl) | rfl) ?_
  refine vr_aload_n (q := 60) dX0_keepAhead_59 rfl rfl ?_
  refine vr_getV (ji := 5) (q := 63) dX0_keepAhead_60 rfl fX0_25 rfl rfl (by rw [hs_k (by decide), hs_k (by decide), hs_k (by decide), hs_k (by decide)]) ?_
  refine vr_aload_n (q := 64) dX0_keepAhead_63 rfl rfl ?_
  refine vr_getV (ji := 1) (q := 67) dX0_keepAhead_64 rfl fX0_37 rfl rfl (by rw [hs_k (by decide), hs_k (by decide), hs_k (by decide), hs_k (by decide)]) ?_
  refine vr_iast (q := 68) dX0_keepAhead_67 rfl ⟨by omega, by omega⟩ ?_
  refine vr_aload_n (q := 69) dX0_keepAhead_68 rfl rfl ?_
  refine vr_aload_n (q := 70) dX0_keepAhead_69 rfl rfl ?_
  refine vr_getV (ji := 5) (q := 73) dX0_keepAhead_70 rfl fX0_25 rfl rfl (by rw [hs_k (by decide), hs_k (by decide), hs_k (by decide), hs_k (by decide), hs_k (by decide)]) ?_
  refine vr_iconst (q := 74) dX0_keepAhead_73 rfl ⟨by decide, by decide⟩ ?_
  refine vr_iaddN (q := 75) dX0_keepAhead_74 rfl ⟨by omega, by omega⟩ ?_
  refine vr_bipush (q := 77) dX0_keepAhead_75 rfl ⟨by decide, by decide⟩ (by decide) ?_
  -- at X0.keepAhead 77: .if_icmp .ge 12
  refine vr_ic_ge (t := 89) (q := 80) dX0_keepAhead_77 (by decide) rfl (fun c1 => ?_) (fun c1 => ?_)
  · rw [if_neg (by omega)] at kk
    refine vr_iconst (q := 90) dX0_keepAhead_89 rfl ⟨by decide, by decide⟩ ?_
    refine vr_put (ji := 5) (q := 93) dX0_keepAhead_90 rfl pX0_25 rfl rfl ?_
    refine vr_aload_n (q := 94) dX0_keepAhead_93 rfl rfl ?_
    refine vr_aload_n (q := 95) dX0_keepAhead_94 rfl rfl ?_
    refine vr_getV (ji := 6) (q := 98) dX0_keepAhead_95 rfl fX0_29 rfl rfl (by rw [hs_n (by omega), hs_k (by decide), hs_k (by decide), hs_k (by decide), hs_k (by decide), hs_k (by decide)]) ?_
    refine vr_iconst (q := 99) dX0_keepAhead_98 rfl ⟨by decide, by decide⟩ ?_
    refine vr_iaddN (q := 100) dX0_keepAhead_99 rfl ⟨by omega, by omega⟩ ?_
    refine vr_bipush (q := 102) dX0_keepAhead_100 rfl ⟨by decide, by decide⟩ (by decide) ?_
    refine vr_is2 (q := 105) dX0_keepAhead_102 rfl vX0_40 (Nat.le_of_ble_eq_true rfl) ?_
    refine c_min ?_
    refine vr_put (ji := 6) (q := 108) dX0_keepAhead_105 rfl pX0_29 rfl rfl ?_
    refine vr_vret dX0_keepAhead_108 rfl ?_
    first | exact kk | (exfalso; omega) | (repeat (first | exact kk | rw [if_pos (by omega)] at kk | rw [if_neg (by omega)] at kk))
  · rw [if_pos (by omega)] at kk
    refine vr_aload_n (q := 81) dX0_keepAhead_80 rfl rfl ?_
    refine vr_getV (ji := 5) (q := 84) dX0_keepAhead_81 rfl fX0_25 rfl rfl (by rw [hs_k (by decide), hs_k (by decide), hs_k (by decide), hs_k (by decide), hs_k (by decide)]) ?_
    refine vr_iconst (q := 85) dX0_keepAhead_84 rfl ⟨by decide, by decide⟩ ?_
    refine vr_iaddN (q := 86) dX0_keepAhead_85 rfl ⟨by omega, by omega⟩ ?_
    refine vr_goto (q := 90) dX0_keepAhead_86 (by decide) ?_
    refine vr_put (ji := 5) (q := 93) dX0_keepAhead_90 rfl pX0_25 rfl rfl ?_
    refine vr_aload_n (q := 94) dX0_keepAhead_93 rfl rfl ?_
    refine vr_aload_n (q := 95) dX0_keepAhead_94 rfl rfl ?_
    refine vr_getV (ji := 6) (q := 98) dX0_keepAhead_95 rfl fX0_29 rfl rfl (by rw [hs_n (by omega), hs_k (by decide), hs_k (by decide), hs_k (by decide), hs_k (by decide), hs_k (by decide)]) ?_
    refine vr_iconst (q := 99) dX0_keepAhead_98 rfl ⟨by decide, by decide⟩ ?_
    refine vr_iaddN (q := 100) dX0_keepAhead_99 rfl ⟨by omega, by omega⟩ ?_
    refine vr_bipush (q := 102) dX0_keepAhead_100 rfl ⟨by decide, by decide⟩ (by decide) ?_
    refine vr_is2 (q := 105) dX0_keepAhead_102 rfl vX0_40 (Nat.le_of_ble_eq_true rfl) ?_
    refine c_min ?_
    refine vr_put (ji := 6) (q := 108) dX0_keepAhead_105 rfl pX0_29 rfl rfl ?_
    refine vr_vret dX0_keepAhead_108 rfl ?_
    first | exact kk | (exfalso; omega) | (repeat (first | exact kk | rw [if_pos (by omega)] at kk | rw [if_neg (by omega)] at kk))
theorem c_undoLatest (hn : 0 ≤ h 40 5 ∧ h 40 5 < 24) (hk : 0 ≤ h 40 6 ∧ h 40 6 ≤ 24) (hs : 0 ≤ h 41 (ul_n h) ∧ h 41 (ul_n h) < 4) (kk : Post none (ul_ h)) : Ctr_ g d mX0_undoLatest [sv_r 4 0 40, sv_r 4 6 7] h Post := by
  have hr : 0 ≤ ul_n h ∧ ul_n h < 24 := by unfold ul_n; split <;> omega
  unfold ul_ at kk
  generalize hu : ul_n h = u at *
  unfold ul_n at hu
  refine V_mk (by decide +kernel) (Or.inl ⟨rfl, rfl⟩) (Nat.le_of_ble_eq_true rfl) (by simp [sv_c]) ?_
  show V_ _ _ _ 0 [_, _, _] [] _ _
  refine vr_aload_n (q := 1) dX0_undoLatest_0 rfl rfl ?_
  refine vr_aload_n (q := 2) dX0_undoLatest_1 rfl rfl ?_
  refine vr_getI (ji := 5) (q := 5) dX0_undoLatest_2 rfl fX0_25 rfl rfl ?_
  -- at X0.undoLatest 5: .ifCond .le 12
  refine vr_if_le (t := 17) (q := 8) dX0_undoLatest_5 (by decide) rfl (fun c1 => ?_) (fun c1 => ?_)
  · rw [if_neg (by omega)] at hu
    refine vr_bipush (q := 19) dX0_undoLatest_17 rfl ⟨by decide, by decide⟩ (by decide) ?_
    -- at X0.undoLatest 19: .putfield 25
    rw [hu]
    refine vr_put (ji := 5) (q := 22) dX0_undoLatest_19 rfl pX0_25 rfl rfl ?_
    refine vr_aload_n (q := 23) dX0_undoLatest_22 rfl rfl ?_
    refine vr_dup (q := 24) dX0_undoLatest_23 rfl rfl ?_
    refine vr_getV (ji := 6) (q := 27) dX0_undoLatest_24 rfl fX0_29 rfl rfl (hs_n (by omega)) ?_
    refine vr_iconst (q := 28) dX0_undoLatest_27 rfl ⟨by decide, by decide⟩ ?_
    refine vr_isubN (q := 29) dX0_undoLatest_28 rfl ⟨by omega, by omega⟩ ?_
    refine vr_put (ji := 6) (q := 32) dX0_undoLatest_29 rfl pX0_29 rfl rfl ?_
    refine vr_aload_n (q := 33) dX0_undoLatest_32 rfl rfl ?_
    refine vr_getR (q := 36) dX0_undoLatest_33 rfl fX0_9 rfl y_X0_0 (by first | (simp only [Int.reduceAdd]; rfl) | rfl) ?_
    refine vr_aload_n (q := 37) dX0_undoLatest_36 rfl rfl ?_
    refine vr_getV (ji := 5) (q := 40) dX0_undoLatest_37 rfl fX0_25 rfl rfl (by rw [hs_n (by omega), hs_e]) ?_
    refine vr_ialdV (q := 41) dX0_undoLatest_40 rfl ⟨by omega, by omega⟩ (by rw [hs_k (by decide), hs_k (by decide)]) ?_
    refine vr_istore_n (q := 42) dX0_undoLatest_41 rfl rfl (Nat.le_of_ble_eq_true rfl) rfl rfl ?_
    refine vr_aload_n (q := 43) dX0_undoLatest_42 rfl rfl ?_
    refine vr_getR (q := 46) dX0_undoLatest_43 rfl fX0_32 rfl y_X7_7 (by first | (simp only [Int.reduceAdd]; rfl) | rfl) ?_
    refine vr_iload_n (q := 47) dX0_undoLatest_46 rfl rfl ?_
    refine vr_aload_n (q := 48) dX0_undoLatest_47 rfl rfl ?_
    refine vr_getR (q := 51) dX0_undoLatest_48 rfl fX0_13 rfl y_X0_1 (by first | (simp only [Int.reduceAdd]; rfl) | rfl) ?_
    refine vr_aload_n (q := 52) dX0_undoLatest_51 rfl rfl ?_
    refine vr_getV (ji := 5) (q := 55) dX0_undoLatest_52 rfl fX0_25 rfl rfl (by rw [hs_n (by omega), hs_e]) ?_
    refine vr_ialdV (q := 56) dX0_undoLatest_55 rfl ⟨by omega, by omega⟩ (by rw [hs_k (by decide), hs_k (by decide)]) ?_
    refine vr_iast (q := 57) dX0_undoLatest_56 rfl ⟨by omega, by omega⟩ ?_
    refine vr_aload_n (q := 58) dX0_undoLatest_57 rfl rfl ?_
    refine vr_getR (q := 61) dX0_undoLatest_58 rfl fX0_35 rfl y_X7_9 (by first | (simp only [Int.reduceAdd]; rfl) | rfl) ?_
    refine vr_iload_n (q := 62) dX0_undoLatest_61 rfl rfl ?_
    refine vr_aload_n (q := 63) dX0_undoLatest_62 rfl rfl ?_
    refine vr_getR (q := 66) dX0_undoLatest_63 rfl fX0_16 rfl y_X0_2 (by first | (simp only [Int.reduceAdd]; rfl) | rfl) ?_
    refine vr_aload_n (q := 67) dX0_undoLatest_66 rfl rfl ?_
    refine vr_getV (ji := 5) (q := 70) dX0_undoLatest_67 rfl fX0_25 rfl rfl (by rw [hs_k (by decide), hs_n (by omega), hs_e]) ?_
    refine vr_ialdV (q := 71) dX0_undoLatest_70 rfl ⟨by omega, by omega⟩ (by rw [hs_k (by decide), hs_k (by decide), hs_k (by decide)]) ?_
    refine vr_iast (q := 72) dX0_undoLatest_71 rfl ⟨by omega, by omega⟩ ?_
    refine vr_aload_n (q := 73) dX0_undoLatest_72 rfl rfl ?_
    refine vr_getR (q := 76) dX0_undoLatest_73 rfl fX0_36 rfl y_X7_10 (by first | (simp only [Int.reduceAdd]; rfl) | rfl) ?_
    refine vr_iload_n (q := 77) dX0_undoLatest_76 rfl rfl ?_
    refine vr_aload_n (q := 78) dX0_undoLatest_77 rfl rfl ?_
    refine vr_getR (q := 81) dX0_undoLatest_78 rfl fX0_19 rfl y_X0_3 (by first | (simp only [Int.reduceAdd]; rfl) | rfl) ?_
    refine vr_aload_n (q := 82) dX0_undoLatest_81 rfl rfl ?_
    refine vr_getV (ji := 5) (q := 85) dX0_undoLatest_82 rfl fX0_25 rfl rfl (by rw [hs_k (by decide), hs_k (by decide), hs_n (by omega), hs_e]) ?_
    refine vr_ialdV (q := 86) dX0_undoLatest_85 rfl ⟨by omega, by omega⟩ (by rw [hs_k (by decide), hs_k (by decide), hs_k (by decide), hs_k (by decide)]) ?_
    refine vr_iast (q := 87) dX0_undoLatest_86 rfl ⟨by omega, by omega⟩ ?_
    refine vr_aload_n (q := 88) dX0_undoLatest_87 rfl rfl ?_
    refine vr_aload_n (q := 89) dX0_undoLatest_88 rfl rfl ?_
    refine vr_getR (q := 92) dX0_undoLatest_89 rfl fX0_22 rfl y_X0_4 (by first | (simp only [Int.reduceAdd]; rfl) | rfl) ?_
    refine vr_aload_n (q := 93) dX0_undoLatest_92 rfl rfl ?_
    refine vr_getV (ji := 5) (q := 96) dX0_undoLatest_93 rfl fX0_25 rfl rfl (by rw [hs_k (by decide), hs_k (by decide), hs_k (by decide), hs_n (by omega), hs_e]) ?_
    refine vr_ialdV (q := 97) dX0_undoLatest_96 rfl ⟨by omega, by omega⟩ (by rw [hs_k (by decide), hs_k (by decide), hs_k (by decide), hs_k (by decide), hs_k (by decide)]) ?_
    refine vr_put (ji := 1) (q := 100) dX0_undoLatest_97 rfl pX0_37 rfl rfl ?_
    refine vr_vret dX0_undoLatest_100 rfl ?_
    first | exact kk | (exfalso; omega) | (repeat (first | exact kk | rw [if_pos (by omega)] at kk | rw [if_neg (by omega)] at kk))
  · rw [if_pos (by omega)] at hu
    refine vr_aload_n (q := 9) dX0_undoLatest_8 rfl rfl ?_
    refine vr_getI (ji := 5) (q := 12) dX0_undoLatest_9 rfl fX0_25 rfl rfl ?_
    refine vr_iconst (q := 13) dX0_undoLatest_12 rfl ⟨by decide, by decide⟩ ?_
    refine vr_isubN (q := 14) dX0_undoLatest_13 rfl ⟨by omega, by omega⟩ ?_
    refine vr_goto (q := 19) dX0_undoLatest_14 (by decide) ?_
    -- at X0.undoLatest 19: .putfield 25
    rw [hu]
    refine vr_put (ji := 5) (q := 22) dX0_undoLatest_19 rfl pX0_25 rfl rfl ?_
    refine vr_aload_n (q := 23) dX0_undoLatest_22 rfl rfl ?_
    refine vr_dup (q := 24) dX0_undoLatest_23 rfl rfl ?_
    refine vr_getV (ji := 6) (q := 27) dX0_undoLatest_24 rfl fX0_29 rfl rfl (hs_n (by omega)) ?_
    refine vr_iconst (q := 28) dX0_undoLatest_27 rfl ⟨by decide, by decide⟩ ?_
    refine vr_isubN (q := 29) dX0_undoLatest_28 rfl ⟨by omega, by omega⟩ ?_
    refine vr_put (ji := 6) (q := 32) dX0_undoLatest_29 rfl pX0_29 rfl rfl ?_
    refine vr_aload_n (q := 33) dX0_undoLatest_32 rfl rfl ?_
    refine vr_getR (q := 36) dX0_undoLatest_33 rfl fX0_9 rfl y_X0_0 (by first | (simp only [Int.reduceAdd]; rfl) | rfl) ?_
    refine vr_aload_n (q := 37) dX0_undoLatest_36 rfl rfl ?_
    refine vr_getV (ji := 5) (q := 40) dX0_undoLatest_37 rfl fX0_25 rfl rfl (by rw [hs_n (by omega), hs_e]) ?_
    refine vr_ialdV (q := 41) dX0_undoLatest_40 rfl ⟨by omega, by omega⟩ (by rw [hs_k (by decide), hs_k (by decide)]) ?_
    refine vr_istore_n (q := 42) dX0_undoLatest_41 rfl rfl (Nat.le_of_ble_eq_true rfl) rfl rfl ?_
    refine vr_aload_n (q := 43) dX0_undoLatest_42 rfl rfl ?_
    refine vr_getR (q := 46) dX0_undoLatest_43 rfl fX0_32 rfl y_X7_7 (by first | (simp only [Int.reduceAdd]; rfl) | rfl) ?_
    refine vr_iload_n (q := 47) dX0_undoLatest_46 rfl rfl ?_
    refine vr_aload_n (q := 48) dX0_undoLatest_47 rfl rfl ?_
    refine vr_getR (q := 51) dX0_undoLatest_48 rfl fX0_13 rfl y_X0_1 (by first | (simp only [Int.reduceAdd]; rfl) | rfl) ?_
    refine vr_aload_n (q := 52) dX0_undoLatest_51 rfl rfl ?_
    refine vr_getV (ji := 5) (q := 55) dX0_undoLatest_52 rfl fX0_25 rfl rfl (by rw [hs_n (by omega), hs_e]) ?_
    refine vr_ialdV (q := 56) dX0_undoLatest_55 rfl ⟨by omega, by omega⟩ (by rw [hs_k (by decide), hs_k (by decide)]) ?_
    refine vr_iast (q := 57) dX0_undoLatest_56 rfl ⟨by omega, by omega⟩ ?_
    refine vr_aload_n (q := 58) dX0_undoLatest_57 rfl rfl ?_
    refine vr_getR (q := 61) dX0_undoLatest_58 rfl fX0_35 rfl y_X7_9 (by first | (simp only [Int.reduceAdd]; rfl) | rfl) ?_
    refine vr_iload_n (q := 62) dX0_undoLatest_61 rfl rfl ?_
    refine vr_aload_n (q := 63) dX0_undoLatest_62 rfl rfl ?_
    refine vr_getR (q := 66) dX0_undoLatest_63 rfl fX0_16 rfl y_X0_2 (by first | (simp only [Int.reduceAdd]; rfl) | rfl) ?_
    refine vr_aload_n (q := 67) dX0_undoLatest_66 rfl rfl ?_
    refine vr_getV (ji := 5) (q := 70) dX0_undoLatest_67 rfl fX0_25 rfl rfl (by rw [hs_k (by decide), hs_n (by omega), hs_e]) ?_
    refine vr_ialdV (q := 71) dX0_undoLatest_70 rfl ⟨by omega, by omega⟩ (by rw [hs_k (by decide), hs_k (by decide), hs_k (by decide)]) ?_
    refine vr_iast (q := 72) dX0_undoLatest_71 rfl ⟨by omega, by omega⟩ ?_
    refine vr_aload_n (q := 73) dX0_undoLatest_72 rfl rfl ?_
    refine vr_getR (q := 76) dX0_undoLatest_73 rfl fX0_36 rfl y_X7_10 (by first | (simp only [Int.reduceAdd]; rfl) | rfl) ?_
    refine vr_iload_n (q := 77) dX0_undoLatest_76 rfl rfl ?_
    refine vr_aload_n (q := 78) dX0_undoLatest_77 rfl rfl ?_
    refine vr_getR (q := 81) dX0_undoLatest_78 rfl fX0_19 rfl y_X0_3 (by first | (simp only [Int.reduceAdd]; rfl) | rfl) ?_
    refine vr_aload_n (q := 82) dX0_undoLatest_81 rfl rfl ?_
    refine vr_getV (ji := 5) (q := 85) dX0_undoLatest_82 rfl fX0_25 rfl rfl (by rw [hs_k (by decide), hs_k (by decide), hs_n (by omega), hs_e]) ?_
    refine vr_ialdV (q := 86) dX0_undoLatest_85 rfl ⟨by omega, by omega⟩ (by rw [hs_k (by decide), hs_k (by decide), hs_k (by decide), hs_k (by decide)]) ?_
    refine vr_iast (q := 87) dX0_undoLatest_86 rfl ⟨by omega, by omega⟩ ?_
    refine vr_aload_n (q := 88) dX0_undoLatest_87 rfl rfl ?_
    refine vr_aload_n (q := 89) dX0_undoLatest_88 rfl rfl ?_
    refine vr_getR (q := 92) dX0_undoLatest_89 rfl fX0_22 rfl y_X0_4 (by first | (simp only [Int.reduceAdd]; rfl) | rfl) ?_
    refine vr_aload_n (q := 93) dX0_undoLatest_92 rfl rfl ?_
    refine vr_getV (ji := 5) (q := 96) dX0_undoLatest_93 rfl fX0_25 rfl rfl (by rw [hs_k (by decide), hs_k (by decide), hs_k (by decide), hs_n (by omega), hs_e]) ?_
    refine vr_ialdV (q := 97) dX0_undoLatest_96 rfl ⟨by omega, by omega⟩ (by rw [hs_k (by decide), hs_k (by decide), hs_k (by decide), hs_k (by decide), hs_k (by decide)]) ?_
    refine vr_put (ji := 1) (q := 100) dX0_undoLatest_97 rfl pX0_37 rfl rfl ?_
    refine vr_vret dX0_undoLatest_100 rfl ?_
    first | exact kk | (exfalso; omega) | (repeat (first | exact kk | rw [if_pos (by omega)] at kk | rw [if_neg (by omega)] at kk))
end PAC_
end
section
theorem dX5_init_0 : decode cX5_init 0 = .ok (.aload_n 0, 1) := by decide +kernel
theorem dX5_init_1 : decode cX5_init 1 = .ok (.invokespecial 1, 3) := by decide +kernel
theorem dX5_init_4 : decode cX5_init 4 = .ok (.aload_n 0, 1) := by decide +kernel
theorem dX5_init_5 : decode cX5_init 5 = .ok (.bipush 120, 2) := by decide +kernel
theorem dX5_init_7 : decode cX5_init 7 = .ok (.newarray .int, 2) := by decide +kernel
theorem dX5_init_9 : decode cX5_init 9 = .ok (.putfield 9, 3) := by decide +kernel
theorem dX5_init_12 : decode cX5_init 12 = .ok (.aload_n 0, 1) := by decide +kernel
theorem dX5_init_13 : decode cX5_init 13 = .ok (.iconst 0, 1) := by decide +kernel
theorem dX5_init_14 : decode cX5_init 14 = .ok (.putfield 13, 3) := by decide +kernel
theorem dX5_init_17 : decode cX5_init 17 = .ok (.aload_n 0, 1) := by decide +kernel
theorem dX5_init_18 : decode cX5_init 18 = .ok (.iconst 0, 1) := by decide +kernel
theorem dX5_init_19 : decode cX5_init 19 = .ok (.putfield 17, 3) := by decide +kernel
theorem dX5_init_22 : decode cX5_init 22 = .ok (.aload_n 0, 1) := by decide +kernel
theorem dX5_init_23 : decode cX5_init 23 = .ok (.iconst 0, 1) := by decide +kernel
theorem dX5_init_24 : decode cX5_init 24 = .ok (.putfield 20, 3) := by decide +kernel
theorem dX5_init_27 : decode cX5_init 27 = .ok (.return_, 1) := by decide +kernel
theorem dX5_isFull_0 : decode cX5_isFull 0 = .ok (.aload_n 0, 1) := by decide +kernel
theorem dX5_isFull_1 : decode cX5_isFull 1 = .ok (.getfield 13, 3) := by decide +kernel
theorem dX5_isFull_4 : decode cX5_isFull 4 = .ok (.bipush 120, 2) := by decide +kernel
theorem dX5_isFull_6 : decode cX5_isFull 6 = .ok (.if_icmp .lt 7, 3) := by decide +kernel
theorem dX5_isFull_9 : decode cX5_isFull 9 = .ok (.iconst 1, 1) := by decide +kernel
theorem dX5_isFull_10 : decode cX5_isFull 10 = .ok (.goto 4, 3) := by decide +kernel
theorem dX5_isFull_13 : decode cX5_isFull 13 = .ok (.iconst 0, 1) := by decide +kernel
theorem dX5_isFull_14 : decode cX5_isFull 14 = .ok (.ireturn, 1) := by decide +kernel
theorem dX5_append_0 : decode cX5_append 0 = .ok (.aload_n 0, 1) := by decide +kernel
theorem dX5_append_1 : decode cX5_append 1 = .ok (.getfield 13, 3) := by decide +kernel
theorem dX5_append_4 : decode cX5_append 4 = .ok (.bipush 120, 2) := by decide +kernel
theorem dX5_append_6 : decode cX5_append 6 = .ok (.if_icmp .ge 23, 3) := by decide +kernel
theorem dX5_append_9 : decode cX5_append 9 = .ok (.aload_n 0, 1) := by decide +kernel
theorem dX5_append_10 : decode cX5_append 10 = .ok (.getfield 9, 3) := by decide +kernel
theorem dX5_append_13 : decode cX5_append 13 = .ok (.aload_n 0, 1) := by decide +kernel
theorem dX5_append_14 : decode cX5_append 14 = .ok (.getfield 13, 3) := by decide +kernel
theorem dX5_append_17 : decode cX5_append 17 = .ok (.iload_n 1, 1) := by decide +kernel
theorem dX5_append_18 : decode cX5_append 18 = .ok (.iastore, 1) := by decide +kernel
theorem dX5_append_19 : decode cX5_append 19 = .ok (.aload_n 0, 1) := by decide +kernel
theorem dX5_append_20 : decode cX5_append 20 = .ok (.dup, 1) := by decide +kernel
theorem dX5_append_21 : decode cX5_append 21 = .ok (.getfield 13, 3) := by decide +kernel
theorem dX5_append_24 : decode cX5_append 24 = .ok (.iconst 1, 1) := by decide +kernel
theorem dX5_append_25 : decode cX5_append 25 = .ok (.iadd, 1) := by decide +kernel
theorem dX5_append_26 : decode cX5_append 26 = .ok (.putfield 13, 3) := by decide +kernel
theorem dX5_append_29 : decode cX5_append 29 = .ok (.aload_n 0, 1) := by decide +kernel
theorem dX5_append_30 : decode cX5_append 30 = .ok (.getfield 13, 3) := by decide +kernel
theorem dX5_append_33 : decode cX5_append 33 = .ok (.ireturn, 1) := by decide +kernel
theorem dX5_length_0 : decode cX5_length 0 = .ok (.aload_n 0, 1) := by decide +kernel
theorem dX5_length_1 : decode cX5_length 1 = .ok (.getfield 13, 3) := by decide +kernel
theorem dX5_length_4 : decode cX5_length 4 = .ok (.ireturn, 1) := by decide +kernel
theorem dX5_faultPlace_0 : decode cX5_faultPlace 0 = .ok (.aload_n 0, 1) := by decide +kernel
theorem dX5_faultPlace_1 : decode cX5_faultPlace 1 = .ok (.getfield 17, 3) := by decide +kernel
theorem dX5_faultPlace_4 : decode cX5_faultPlace 4 = .ok (.ireturn, 1) := by decide +kernel
theorem dX5_latestFault_0 : decode cX5_latestFault 0 = .ok (.aload_n 0, 1) := by decide +kernel
theorem dX5_latestFault_1 : decode cX5_latestFault 1 = .ok (.getfield 20, 3) := by decide +kernel
theorem dX5_latestFault_4 : decode cX5_latestFault 4 = .ok (.ireturn, 1) := by decide +kernel
theorem dX5_readInto_0 : decode cX5_readInto 0 = .ok (.aload_n 0, 1) := by decide +kernel
theorem dX5_readInto_1 : decode cX5_readInto 1 = .ok (.iconst 0, 1) := by decide +kernel
theorem dX5_readInto_2 : decode cX5_readInto 2 = .ok (.putfield 17, 3) := by decide +kernel
theorem dX5_readInto_5 : decode cX5_readInto 5 = .ok (.aload_n 0, 1) := by decide +kernel
theorem dX5_readInto_6 : decode cX5_readInto 6 = .ok (.aload_n 1, 1) := by decide +kernel
theorem dX5_readInto_7 : decode cX5_readInto 7 = .ok (.invokevirtual 23, 3) := by decide +kernel
theorem dX5_readInto_10 : decode cX5_readInto 10 = .ok (.ifCond .eq 23, 3) := by decide +kernel
theorem dX5_readInto_13 : decode cX5_readInto 13 = .ok (.aload_n 0, 1) := by decide +kernel
theorem dX5_readInto_14 : decode cX5_readInto 14 = .ok (.aload_n 1, 1) := by decide +kernel
theorem dX5_readInto_15 : decode cX5_readInto 15 = .ok (.invokevirtual 27, 3) := by decide +kernel
theorem dX5_readInto_18 : decode cX5_readInto 18 = .ok (.ifCond .eq 15, 3) := by decide +kernel
theorem dX5_readInto_21 : decode cX5_readInto 21 = .ok (.aload_n 0, 1) := by decide +kernel
theorem dX5_readInto_22 : decode cX5_readInto 22 = .ok (.aload_n 1, 1) := by decide +kernel
theorem dX5_readInto_23 : decode cX5_readInto 23 = .ok (.invokevirtual 30, 3) := by decide +kernel
theorem dX5_readInto_26 : decode cX5_readInto 26 = .ok (.ifCond .eq 7, 3) := by decide +kernel
theorem dX5_readInto_29 : decode cX5_readInto 29 = .ok (.iconst 1, 1) := by decide +kernel
theorem dX5_readInto_30 : decode cX5_readInto 30 = .ok (.goto 4, 3) := by decide +kernel
theorem dX5_readInto_33 : decode cX5_readInto 33 = .ok (.iconst 0, 1) := by decide +kernel
theorem dX5_readInto_34 : decode cX5_readInto 34 = .ok (.istore_n 2, 1) := by decide +kernel
theorem dX5_readInto_35 : decode cX5_readInto 35 = .ok (.iload_n 2, 1) := by decide +kernel
theorem dX5_readInto_36 : decode cX5_readInto 36 = .ok (.ifCond .eq 20, 3) := by decide +kernel
theorem dX5_readInto_39 : decode cX5_readInto 39 = .ok (.aload_n 0, 1) := by decide +kernel
theorem dX5_readInto_40 : decode cX5_readInto 40 = .ok (.getfield 17, 3) := by decide +kernel
theorem dX5_readInto_43 : decode cX5_readInto 43 = .ok (.aload_n 0, 1) := by decide +kernel
theorem dX5_readInto_44 : decode cX5_readInto 44 = .ok (.getfield 13, 3) := by decide +kernel
theorem dX5_readInto_47 : decode cX5_readInto 47 = .ok (.if_icmp .ge 9, 3) := by decide +kernel
theorem dX5_readInto_50 : decode cX5_readInto 50 = .ok (.aload_n 0, 1) := by decide +kernel
theorem dX5_readInto_51 : decode cX5_readInto 51 = .ok (.iconst 1, 1) := by decide +kernel
theorem dX5_readInto_52 : decode cX5_readInto 52 = .ok (.invokevirtual 33, 3) := by decide +kernel
theorem dX5_readInto_55 : decode cX5_readInto 55 = .ok (.istore_n 2, 1) := by decide +kernel
theorem dX5_readInto_56 : decode cX5_readInto 56 = .ok (.aload_n 0, 1) := by decide +kernel
theorem dX5_readInto_57 : decode cX5_readInto 57 = .ok (.iconst 0, 1) := by decide +kernel
theorem dX5_readInto_58 : decode cX5_readInto 58 = .ok (.putfield 13, 3) := by decide +kernel
theorem dX5_readInto_61 : decode cX5_readInto 61 = .ok (.iload_n 2, 1) := by decide +kernel
theorem dX5_readInto_62 : decode cX5_readInto 62 = .ok (.ireturn, 1) := by decide +kernel
theorem dX5_readLaw_0 : decode cX5_readLaw 0 = .ok (.aload_n 0, 1) := by decide +kernel
theorem dX5_readLaw_1 : decode cX5_readLaw 1 = .ok (.bipush 116, 2) := by decide +kernel
theorem dX5_readLaw_3 : decode cX5_readLaw 3 = .ok (.invokevirtual 37, 3) := by decide +kernel
theorem dX5_readLaw_6 : decode cX5_readLaw 6 = .ok (.ifCond .ne 5, 3) := by decide +kernel
theorem dX5_readLaw_9 : decode cX5_readLaw 9 = .ok (.iconst 0, 1) := by decide +kernel
theorem dX5_readLaw_10 : decode cX5_readLaw 10 = .ok (.ireturn, 1) := by decide +kernel
theorem dX5_readLaw_11 : decode cX5_readLaw 11 = .ok (.aload_n 0, 1) := by decide +kernel
theorem dX5_readLaw_12 : decode cX5_readLaw 12 = .ok (.iconst 1, 1) := by decide +kernel
theorem dX5_readLaw_13 : decode cX5_readLaw 13 = .ok (.bipush 9, 2) := by decide +kernel
theorem dX5_readLaw_15 : decode cX5_readLaw 15 = .ok (.invokevirtual 40, 3) := by decide +kernel
theorem dX5_readLaw_18 : decode cX5_readLaw 18 = .ok (.istore_n 2, 1) := by decide +kernel
theorem dX5_readLaw_19 : decode cX5_readLaw 19 = .ok (.iload_n 2, 1) := by decide +kernel
theorem dX5_readLaw_20 : decode cX5_readLaw 20 = .ok (.iconst (-1), 1) := by decide +kernel
theorem dX5_readLaw_21 : decode cX5_readLaw 21 = .ok (.if_icmp .eq 12, 3) := by decide +kernel
theorem dX5_readLaw_24 : decode cX5_readLaw 24 = .ok (.aload_n 0, 1) := by decide +kernel
theorem dX5_readLaw_25 : decode cX5_readLaw 25 = .ok (.bipush 59, 2) := by decide +kernel
theorem dX5_readLaw_27 : decode cX5_readLaw 27 = .ok (.invokevirtual 37, 3) := by decide +kernel
theorem dX5_readLaw_30 : decode cX5_readLaw 30 = .ok (.ifCond .ne 5, 3) := by decide +kernel
theorem dX5_readLaw_33 : decode cX5_readLaw 33 = .ok (.iconst 0, 1) := by decide +kernel
theorem dX5_readLaw_34 : decode cX5_readLaw 34 = .ok (.ireturn, 1) := by decide +kernel
theorem dX5_readLaw_35 : decode cX5_readLaw 35 = .ok (.aload_n 1, 1) := by decide +kernel
theorem dX5_readLaw_36 : decode cX5_readLaw 36 = .ok (.iload_n 2, 1) := by decide +kernel
theorem dX5_readLaw_37 : decode cX5_readLaw 37 = .ok (.invokevirtual 44, 3) := by decide +kernel
theorem dX5_readLaw_40 : decode cX5_readLaw 40 = .ok (.iconst 1, 1) := by decide +kernel
theorem dX5_readLaw_41 : decode cX5_readLaw 41 = .ok (.ireturn, 1) := by decide +kernel
theorem dX5_readLies_0 : decode cX5_readLies 0 = .ok (.iconst 0, 1) := by decide +kernel
theorem dX5_readLies_1 : decode cX5_readLies 1 = .ok (.istore_n 2, 1) := by decide +kernel
theorem dX5_readLies_2 : decode cX5_readLies 2 = .ok (.iload_n 2, 1) := by decide +kernel
theorem dX5_readLies_3 : decode cX5_readLies 3 = .ok (.bipush 6, 2) := by decide +kernel
theorem dX5_readLies_5 : decode cX5_readLies 5 = .ok (.if_icmp .gt 105, 3) := by decide +kernel
theorem dX5_readLies_8 : decode cX5_readLies 8 = .ok (.aload_n 0, 1) := by decide +kernel
theorem dX5_readLies_9 : decode cX5_readLies 9 = .ok (.invokevirtual 50, 3) := by decide +kernel
theorem dX5_readLies_12 : decode cX5_readLies 12 = .ok (.invokestatic 54, 3) := by decide +kernel
theorem dX5_readLies_15 : decode cX5_readLies 15 = .ok (.istore_n 3, 1) := by decide +kernel
theorem dX5_readLies_16 : decode cX5_readLies 16 = .ok (.iload_n 3, 1) := by decide +kernel
theorem dX5_readLies_17 : decode cX5_readLies 17 = .ok (.ifCond .ne 5, 3) := by decide +kernel
theorem dX5_readLies_20 : decode cX5_readLies 20 = .ok (.iconst 1, 1) := by decide +kernel
theorem dX5_readLies_21 : decode cX5_readLies 21 = .ok (.ireturn, 1) := by decide +kernel
theorem dX5_readLies_22 : decode cX5_readLies 22 = .ok (.iload_n 2, 1) := by decide +kernel
theorem dX5_readLies_23 : decode cX5_readLies 23 = .ok (.bipush 6, 2) := by decide +kernel
theorem dX5_readLies_25 : decode cX5_readLies 25 = .ok (.if_icmp .ne 9, 3) := by decide +kernel
theorem dX5_readLies_28 : decode cX5_readLies 28 = .ok (.aload_n 0, 1) := by decide +kernel
theorem dX5_readLies_29 : decode cX5_readLies 29 = .ok (.iconst 3, 1) := by decide +kernel
theorem dX5_readLies_30 : decode cX5_readLies 30 = .ok (.invokevirtual 33, 3) := by decide +kernel
theorem dX5_readLies_33 : decode cX5_readLies 33 = .ok (.ireturn, 1) := by decide +kernel
theorem dX5_readLies_34 : decode cX5_readLies 34 = .ok (.aload_n 0, 1) := by decide +kernel
theorem dX5_readLies_35 : decode cX5_readLies 35 = .ok (.dup, 1) := by decide +kernel
theorem dX5_readLies_36 : decode cX5_readLies 36 = .ok (.getfield 17, 3) := by decide +kernel
theorem dX5_readLies_39 : decode cX5_readLies 39 = .ok (.iconst 1, 1) := by decide +kernel
theorem dX5_readLies_40 : decode cX5_readLies 40 = .ok (.iadd, 1) := by decide +kernel
theorem dX5_readLies_41 : decode cX5_readLies 41 = .ok (.putfield 17, 3) := by decide +kernel
theorem dX5_readLies_44 : decode cX5_readLies 44 = .ok (.aload_n 0, 1) := by decide +kernel
theorem dX5_readLies_45 : decode cX5_readLies 45 = .ok (.iconst 1, 1) := by decide +kernel
theorem dX5_readLies_46 : decode cX5_readLies 46 = .ok (.bipush 20, 2) := by decide +kernel
theorem dX5_readLies_48 : decode cX5_readLies 48 = .ok (.invokevirtual 40, 3) := by decide +kernel
theorem dX5_readLies_51 : decode cX5_readLies 51 = .ok (.istore 4, 2) := by decide +kernel
theorem dX5_readLies_53 : decode cX5_readLies 53 = .ok (.iload 4, 2) := by decide +kernel
theorem dX5_readLies_55 : decode cX5_readLies 55 = .ok (.iconst (-1), 1) := by decide +kernel
theorem dX5_readLies_56 : decode cX5_readLies 56 = .ok (.if_icmp .eq 12, 3) := by decide +kernel
theorem dX5_readLies_59 : decode cX5_readLies 59 = .ok (.aload_n 0, 1) := by decide +kernel
theorem dX5_readLies_60 : decode cX5_readLies 60 = .ok (.bipush 44, 2) := by decide +kernel
theorem dX5_readLies_62 : decode cX5_readLies 62 = .ok (.invokevirtual 37, 3) := by decide +kernel
theorem dX5_readLies_65 : decode cX5_readLies 65 = .ok (.ifCond .ne 5, 3) := by decide +kernel
theorem dX5_readLies_68 : decode cX5_readLies 68 = .ok (.iconst 0, 1) := by decide +kernel
theorem dX5_readLies_69 : decode cX5_readLies 69 = .ok (.ireturn, 1) := by decide +kernel
theorem dX5_readLies_70 : decode cX5_readLies 70 = .ok (.aload_n 0, 1) := by decide +kernel
theorem dX5_readLies_71 : decode cX5_readLies 71 = .ok (.iconst 0, 1) := by decide +kernel
theorem dX5_readLies_72 : decode cX5_readLies 72 = .ok (.iconst 3, 1) := by decide +kernel
theorem dX5_readLies_73 : decode cX5_readLies 73 = .ok (.invokevirtual 40, 3) := by decide +kernel
theorem dX5_readLies_76 : decode cX5_readLies 76 = .ok (.istore 5, 2) := by decide +kernel
theorem dX5_readLies_78 : decode cX5_readLies 78 = .ok (.iload 5, 2) := by decide +kernel
theorem dX5_readLies_80 : decode cX5_readLies 80 = .ok (.iconst (-1), 1) := by decide +kernel
theorem dX5_readLies_81 : decode cX5_readLies 81 = .ok (.if_icmp .eq 12, 3) := by decide +kernel
theorem dX5_readLies_84 : decode cX5_readLies 84 = .ok (.aload_n 0, 1) := by decide +kernel
theorem dX5_readLies_85 : decode cX5_readLies 85 = .ok (.bipush 59, 2) := by decide +kernel
theorem dX5_readLies_87 : decode cX5_readLies 87 = .ok (.invokevirtual 37, 3) := by decide +kernel
theorem dX5_readLies_90 : decode cX5_readLies 90 = .ok (.ifCond .ne 5, 3) := by decide +kernel
theorem dX5_readLies_93 : decode cX5_readLies 93 = .ok (.iconst 0, 1) := by decide +kernel
theorem dX5_readLies_94 : decode cX5_readLies 94 = .ok (.ireturn, 1) := by decide +kernel
theorem dX5_readLies_95 : decode cX5_readLies 95 = .ok (.aload_n 1, 1) := by decide +kernel
theorem dX5_readLies_96 : decode cX5_readLies 96 = .ok (.iload_n 3, 1) := by decide +kernel
theorem dX5_readLies_97 : decode cX5_readLies 97 = .ok (.iload 4, 2) := by decide +kernel
theorem dX5_readLies_99 : decode cX5_readLies 99 = .ok (.iload 5, 2) := by decide +kernel
theorem dX5_readLies_101 : decode cX5_readLies 101 = .ok (.invokevirtual 60, 3) := by decide +kernel
theorem dX5_readLies_104 : decode cX5_readLies 104 = .ok (.iinc 2 1, 3) := by decide +kernel
theorem dX5_readLies_107 : decode cX5_readLies 107 = .ok (.goto (-105), 3) := by decide +kernel
theorem dX5_readLies_110 : decode cX5_readLies 110 = .ok (.iconst 1, 1) := by decide +kernel
theorem dX5_readLies_111 : decode cX5_readLies 111 = .ok (.ireturn, 1) := by decide +kernel
theorem dX5_readStrangers_0 : decode cX5_readStrangers 0 = .ok (.iconst 0, 1) := by decide +kernel
theorem dX5_readStrangers_1 : decode cX5_readStrangers 1 = .ok (.istore_n 2, 1) := by decide +kernel
theorem dX5_readStrangers_2 : decode cX5_readStrangers 2 = .ok (.iload_n 2, 1) := by decide +kernel
theorem dX5_readStrangers_3 : decode cX5_readStrangers 3 = .ok (.iconst 4, 1) := by decide +kernel
theorem dX5_readStrangers_4 : decode cX5_readStrangers 4 = .ok (.if_icmp .gt 98, 3) := by decide +kernel
theorem dX5_readStrangers_7 : decode cX5_readStrangers 7 = .ok (.aload_n 0, 1) := by decide +kernel
theorem dX5_readStrangers_8 : decode cX5_readStrangers 8 = .ok (.invokevirtual 50, 3) := by decide +kernel
theorem dX5_readStrangers_11 : decode cX5_readStrangers 11 = .ok (.bipush 115, 2) := by decide +kernel
theorem dX5_readStrangers_13 : decode cX5_readStrangers 13 = .ok (.if_icmp .eq 5, 3) := by decide +kernel
theorem dX5_readStrangers_16 : decode cX5_readStrangers 16 = .ok (.iconst 1, 1) := by decide +kernel
theorem dX5_readStrangers_17 : decode cX5_readStrangers 17 = .ok (.ireturn, 1) := by decide +kernel
theorem dX5_readStrangers_18 : decode cX5_readStrangers 18 = .ok (.iload_n 2, 1) := by decide +kernel
theorem dX5_readStrangers_19 : decode cX5_readStrangers 19 = .ok (.iconst 4, 1) := by decide +kernel
theorem dX5_readStrangers_20 : decode cX5_readStrangers 20 = .ok (.if_icmp .ne 9, 3) := by decide +kernel
theorem dX5_readStrangers_23 : decode cX5_readStrangers 23 = .ok (.aload_n 0, 1) := by decide +kernel
theorem dX5_readStrangers_24 : decode cX5_readStrangers 24 = .ok (.iconst 3, 1) := by decide +kernel
theorem dX5_readStrangers_25 : decode cX5_readStrangers 25 = .ok (.invokevirtual 33, 3) := by decide +kernel
theorem dX5_readStrangers_28 : decode cX5_readStrangers 28 = .ok (.ireturn, 1) := by decide +kernel
theorem dX5_readStrangers_29 : decode cX5_readStrangers 29 = .ok (.aload_n 0, 1) := by decide +kernel
theorem dX5_readStrangers_30 : decode cX5_readStrangers 30 = .ok (.dup, 1) := by decide +kernel
theorem dX5_readStrangers_31 : decode cX5_readStrangers 31 = .ok (.getfield 17, 3) := by decide +kernel
theorem dX5_readStrangers_34 : decode cX5_readStrangers 34 = .ok (.iconst 1, 1) := by decide +kernel
theorem dX5_readStrangers_35 : decode cX5_readStrangers 35 = .ok (.iadd, 1) := by decide +kernel
theorem dX5_readStrangers_36 : decode cX5_readStrangers 36 = .ok (.putfield 17, 3) := by decide +kernel
theorem dX5_readStrangers_39 : decode cX5_readStrangers 39 = .ok (.aload_n 0, 1) := by decide +kernel
theorem dX5_readStrangers_40 : decode cX5_readStrangers 40 = .ok (.iconst 0, 1) := by decide +kernel
theorem dX5_readStrangers_41 : decode cX5_readStrangers 41 = .ok (.bipush 20, 2) := by decide +kernel
theorem dX5_readStrangers_43 : decode cX5_readStrangers 43 = .ok (.invokevirtual 40, 3) := by decide +kernel
theorem dX5_readStrangers_46 : decode cX5_readStrangers 46 = .ok (.istore_n 3, 1) := by decide +kernel
theorem dX5_readStrangers_47 : decode cX5_readStrangers 47 = .ok (.iload_n 3, 1) := by decide +kernel
theorem dX5_readStrangers_48 : decode cX5_readStrangers 48 = .ok (.iconst (-1), 1) := by decide +kernel
theorem dX5_readStrangers_49 : decode cX5_readStrangers 49 = .ok (.if_icmp .eq 12, 3) := by decide +kernel
theorem dX5_readStrangers_52 : decode cX5_readStrangers 52 = .ok (.aload_n 0, 1) := by decide +kernel
theorem dX5_readStrangers_53 : decode cX5_readStrangers 53 = .ok (.bipush 44, 2) := by decide +kernel
theorem dX5_readStrangers_55 : decode cX5_readStrangers 55 = .ok (.invokevirtual 37, 3) := by decide +kernel
theorem dX5_readStrangers_58 : decode cX5_readStrangers 58 = .ok (.ifCond .ne 5, 3) := by decide +kernel
theorem dX5_readStrangers_61 : decode cX5_readStrangers 61 = .ok (.iconst 0, 1) := by decide +kernel
theorem dX5_readStrangers_62 : decode cX5_readStrangers 62 = .ok (.ireturn, 1) := by decide +kernel
theorem dX5_readStrangers_63 : decode cX5_readStrangers 63 = .ok (.aload_n 0, 1) := by decide +kernel
theorem dX5_readStrangers_64 : decode cX5_readStrangers 64 = .ok (.iconst 0, 1) := by decide +kernel
theorem dX5_readStrangers_65 : decode cX5_readStrangers 65 = .ok (.bipush 15, 2) := by decide +kernel
theorem dX5_readStrangers_67 : decode cX5_readStrangers 67 = .ok (.invokevirtual 40, 3) := by decide +kernel
theorem dX5_readStrangers_70 : decode cX5_readStrangers 70 = .ok (.istore 4, 2) := by decide +kernel
theorem dX5_readStrangers_72 : decode cX5_readStrangers 72 = .ok (.iload 4, 2) := by decide +kernel
theorem dX5_readStrangers_74 : decode cX5_readStrangers 74 = .ok (.iconst (-1), 1) := by decide +kernel
theorem dX5_readStrangers_75 : decode cX5_readStrangers 75 = .ok (.if_icmp .eq 12, 3) := by decide +kernel
theorem dX5_readStrangers_78 : decode cX5_readStrangers 78 = .ok (.aload_n 0, 1) := by decide +kernel
theorem dX5_readStrangers_79 : decode cX5_readStrangers 79 = .ok (.bipush 59, 2) := by decide +kernel
theorem dX5_readStrangers_81 : decode cX5_readStrangers 81 = .ok (.invokevirtual 37, 3) := by decide +kernel
theorem dX5_readStrangers_84 : decode cX5_readStrangers 84 = .ok (.ifCond .ne 5, 3) := by decide +kernel
theorem dX5_readStrangers_87 : decode cX5_readStrangers 87 = .ok (.iconst 0, 1) := by decide +kernel
theorem dX5_readStrangers_88 : decode cX5_readStrangers 88 = .ok (.ireturn, 1) := by decide +kernel
theorem dX5_readStrangers_89 : decode cX5_readStrangers 89 = .ok (.aload_n 1, 1) := by decide +kernel
theorem dX5_readStrangers_90 : decode cX5_readStrangers 90 = .ok (.iload_n 3, 1) := by decide +kernel
theorem dX5_readStrangers_91 : decode cX5_readStrangers 91 = .ok (.iload 4, 2) := by decide +kernel
theorem dX5_readStrangers_93 : decode cX5_readStrangers 93 = .ok (.invokevirtual 64, 3) := by decide +kernel
theorem dX5_readStrangers_96 : decode cX5_readStrangers 96 = .ok (.iinc 2 1, 3) := by decide +kernel
theorem dX5_readStrangers_99 : decode cX5_readStrangers 99 = .ok (.goto (-97), 3) := by decide +kernel
theorem dX5_readStrangers_102 : decode cX5_readStrangers 102 = .ok (.iconst 1, 1) := by decide +kernel
theorem dX5_readStrangers_103 : decode cX5_readStrangers 103 = .ok (.ireturn, 1) := by decide +kernel
theorem dX5_readNumber_0 : decode cX5_readNumber 0 = .ok (.iconst 0, 1) := by decide +kernel
theorem dX5_readNumber_1 : decode cX5_readNumber 1 = .ok (.istore_n 3, 1) := by decide +kernel
theorem dX5_readNumber_2 : decode cX5_readNumber 2 = .ok (.iconst 0, 1) := by decide +kernel
theorem dX5_readNumber_3 : decode cX5_readNumber 3 = .ok (.istore 4, 2) := by decide +kernel
theorem dX5_readNumber_5 : decode cX5_readNumber 5 = .ok (.iload_n 3, 1) := by decide +kernel
theorem dX5_readNumber_6 : decode cX5_readNumber 6 = .ok (.iconst 3, 1) := by decide +kernel
theorem dX5_readNumber_7 : decode cX5_readNumber 7 = .ok (.if_icmp .ge 46, 3) := by decide +kernel
theorem dX5_readNumber_10 : decode cX5_readNumber 10 = .ok (.aload_n 0, 1) := by decide +kernel
theorem dX5_readNumber_11 : decode cX5_readNumber 11 = .ok (.aload_n 0, 1) := by decide +kernel
theorem dX5_readNumber_12 : decode cX5_readNumber 12 = .ok (.getfield 17, 3) := by decide +kernel
theorem dX5_readNumber_15 : decode cX5_readNumber 15 = .ok (.iload_n 3, 1) := by decide +kernel
theorem dX5_readNumber_16 : decode cX5_readNumber 16 = .ok (.iadd, 1) := by decide +kernel
theorem dX5_readNumber_17 : decode cX5_readNumber 17 = .ok (.invokevirtual 68, 3) := by decide +kernel
theorem dX5_readNumber_20 : decode cX5_readNumber 20 = .ok (.invokestatic 71, 3) := by decide +kernel
theorem dX5_readNumber_23 : decode cX5_readNumber 23 = .ok (.ifCond .eq 30, 3) := by decide +kernel
theorem dX5_readNumber_26 : decode cX5_readNumber 26 = .ok (.bipush 10, 2) := by decide +kernel
theorem dX5_readNumber_28 : decode cX5_readNumber 28 = .ok (.iload 4, 2) := by decide +kernel
theorem dX5_readNumber_30 : decode cX5_readNumber 30 = .ok (.imul, 1) := by decide +kernel
theorem dX5_readNumber_31 : decode cX5_readNumber 31 = .ok (.aload_n 0, 1) := by decide +kernel
theorem dX5_readNumber_32 : decode cX5_readNumber 32 = .ok (.aload_n 0, 1) := by decide +kernel
theorem dX5_readNumber_33 : decode cX5_readNumber 33 = .ok (.getfield 17, 3) := by decide +kernel
theorem dX5_readNumber_36 : decode cX5_readNumber 36 = .ok (.iload_n 3, 1) := by decide +kernel
theorem dX5_readNumber_37 : decode cX5_readNumber 37 = .ok (.iadd, 1) := by decide +kernel
theorem dX5_readNumber_38 : decode cX5_readNumber 38 = .ok (.invokevirtual 68, 3) := by decide +kernel
theorem dX5_readNumber_41 : decode cX5_readNumber 41 = .ok (.iadd, 1) := by decide +kernel
theorem dX5_readNumber_42 : decode cX5_readNumber 42 = .ok (.bipush 48, 2) := by decide +kernel
theorem dX5_readNumber_44 : decode cX5_readNumber 44 = .ok (.isub, 1) := by decide +kernel
theorem dX5_readNumber_45 : decode cX5_readNumber 45 = .ok (.istore 4, 2) := by decide +kernel
theorem dX5_readNumber_47 : decode cX5_readNumber 47 = .ok (.iinc 3 1, 3) := by decide +kernel
theorem dX5_readNumber_50 : decode cX5_readNumber 50 = .ok (.goto (-45), 3) := by decide +kernel
theorem dX5_readNumber_53 : decode cX5_readNumber 53 = .ok (.iload_n 3, 1) := by decide +kernel
theorem dX5_readNumber_54 : decode cX5_readNumber 54 = .ok (.iconst 1, 1) := by decide +kernel
theorem dX5_readNumber_55 : decode cX5_readNumber 55 = .ok (.if_icmp .lt 8, 3) := by decide +kernel
theorem dX5_readNumber_58 : decode cX5_readNumber 58 = .ok (.iload_n 3, 1) := by decide +kernel
theorem dX5_readNumber_59 : decode cX5_readNumber 59 = .ok (.iconst 2, 1) := by decide +kernel
theorem dX5_readNumber_60 : decode cX5_readNumber 60 = .ok (.if_icmp .le 11, 3) := by decide +kernel
theorem dX5_readNumber_63 : decode cX5_readNumber 63 = .ok (.aload_n 0, 1) := by decide +kernel
theorem dX5_readNumber_64 : decode cX5_readNumber 64 = .ok (.iconst 1, 1) := by decide +kernel
theorem dX5_readNumber_65 : decode cX5_readNumber 65 = .ok (.invokevirtual 33, 3) := by decide +kernel
theorem dX5_readNumber_68 : decode cX5_readNumber 68 = .ok (.pop, 1) := by decide +kernel
theorem dX5_readNumber_69 : decode cX5_readNumber 69 = .ok (.iconst (-1), 1) := by decide +kernel
theorem dX5_readNumber_70 : decode cX5_readNumber 70 = .ok (.ireturn, 1) := by decide +kernel
theorem dX5_readNumber_71 : decode cX5_readNumber 71 = .ok (.iload 4, 2) := by decide +kernel
theorem dX5_readNumber_73 : decode cX5_readNumber 73 = .ok (.iload_n 1, 1) := by decide +kernel
theorem dX5_readNumber_74 : decode cX5_readNumber 74 = .ok (.if_icmp .lt 9, 3) := by decide +kernel
theorem dX5_readNumber_77 : decode cX5_readNumber 77 = .ok (.iload 4, 2) := by decide +kernel
theorem dX5_readNumber_79 : decode cX5_readNumber 79 = .ok (.iload_n 2, 1) := by decide +kernel
theorem dX5_readNumber_80 : decode cX5_readNumber 80 = .ok (.if_icmp .le 11, 3) := by decide +kernel
theorem dX5_readNumber_83 : decode cX5_readNumber 83 = .ok (.aload_n 0, 1) := by decide +kernel
theorem dX5_readNumber_84 : decode cX5_readNumber 84 = .ok (.iconst 2, 1) := by decide +kernel
theorem dX5_readNumber_85 : decode cX5_readNumber 85 = .ok (.invokevirtual 33, 3) := by decide +kernel
theorem dX5_readNumber_88 : decode cX5_readNumber 88 = .ok (.pop, 1) := by decide +kernel
theorem dX5_readNumber_89 : decode cX5_readNumber 89 = .ok (.iconst (-1), 1) := by decide +kernel
theorem dX5_readNumber_90 : decode cX5_readNumber 90 = .ok (.ireturn, 1) := by decide +kernel
theorem dX5_readNumber_91 : decode cX5_readNumber 91 = .ok (.aload_n 0, 1) := by decide +kernel
theorem dX5_readNumber_92 : decode cX5_readNumber 92 = .ok (.dup, 1) := by decide +kernel
theorem dX5_readNumber_93 : decode cX5_readNumber 93 = .ok (.getfield 17, 3) := by decide +kernel
theorem dX5_readNumber_96 : decode cX5_readNumber 96 = .ok (.iload_n 3, 1) := by decide +kernel
theorem dX5_readNumber_97 : decode cX5_readNumber 97 = .ok (.iadd, 1) := by decide +kernel
theorem dX5_readNumber_98 : decode cX5_readNumber 98 = .ok (.putfield 17, 3) := by decide +kernel
theorem dX5_readNumber_101 : decode cX5_readNumber 101 = .ok (.iload 4, 2) := by decide +kernel
theorem dX5_readNumber_103 : decode cX5_readNumber 103 = .ok (.ireturn, 1) := by decide +kernel
theorem dX5_passed_0 : decode cX5_passed 0 = .ok (.aload_n 0, 1) := by decide +kernel
theorem dX5_passed_1 : decode cX5_passed 1 = .ok (.invokevirtual 50, 3) := by decide +kernel
theorem dX5_passed_4 : decode cX5_passed 4 = .ok (.iload_n 1, 1) := by decide +kernel
theorem dX5_passed_5 : decode cX5_passed 5 = .ok (.if_icmp .eq 9, 3) := by decide +kernel
theorem dX5_passed_8 : decode cX5_passed 8 = .ok (.aload_n 0, 1) := by decide +kernel
theorem dX5_passed_9 : decode cX5_passed 9 = .ok (.iconst 1, 1) := by decide +kernel
theorem dX5_passed_10 : decode cX5_passed 10 = .ok (.invokevirtual 33, 3) := by decide +kernel
theorem dX5_passed_13 : decode cX5_passed 13 = .ok (.ireturn, 1) := by decide +kernel
theorem dX5_passed_14 : decode cX5_passed 14 = .ok (.aload_n 0, 1) := by decide +kernel
theorem dX5_passed_15 : decode cX5_passed 15 = .ok (.dup, 1) := by decide +kernel
theorem dX5_passed_16 : decode cX5_passed 16 = .ok (.getfield 17, 3) := by decide +kernel
theorem dX5_passed_19 : decode cX5_passed 19 = .ok (.iconst 1, 1) := by decide +kernel
theorem dX5_passed_20 : decode cX5_passed 20 = .ok (.iadd, 1) := by decide +kernel
theorem dX5_passed_21 : decode cX5_passed 21 = .ok (.putfield 17, 3) := by decide +kernel
theorem dX5_passed_24 : decode cX5_passed 24 = .ok (.iconst 1, 1) := by decide +kernel
theorem dX5_passed_25 : decode cX5_passed 25 = .ok (.ireturn, 1) := by decide +kernel
theorem dX5_refuse_0 : decode cX5_refuse 0 = .ok (.aload_n 0, 1) := by decide +kernel
theorem dX5_refuse_1 : decode cX5_refuse 1 = .ok (.iload_n 1, 1) := by decide +kernel
theorem dX5_refuse_2 : decode cX5_refuse 2 = .ok (.putfield 20, 3) := by decide +kernel
theorem dX5_refuse_5 : decode cX5_refuse 5 = .ok (.iconst 0, 1) := by decide +kernel
theorem dX5_refuse_6 : decode cX5_refuse 6 = .ok (.ireturn, 1) := by decide +kernel
theorem dX5_here_0 : decode cX5_here 0 = .ok (.aload_n 0, 1) := by decide +kernel
theorem dX5_here_1 : decode cX5_here 1 = .ok (.aload_n 0, 1) := by decide +kernel
theorem dX5_here_2 : decode cX5_here 2 = .ok (.getfield 17, 3) := by decide +kernel
theorem dX5_here_5 : decode cX5_here 5 = .ok (.invokevirtual 68, 3) := by decide +kernel
theorem dX5_here_8 : decode cX5_here 8 = .ok (.ireturn, 1) := by decide +kernel
theorem dX5_byteAt_0 : decode cX5_byteAt 0 = .ok (.iload_n 1, 1) := by decide +kernel
theorem dX5_byteAt_1 : decode cX5_byteAt 1 = .ok (.ifCond .lt 20, 3) := by decide +kernel
theorem dX5_byteAt_4 : decode cX5_byteAt 4 = .ok (.iload_n 1, 1) := by decide +kernel
theorem dX5_byteAt_5 : decode cX5_byteAt 5 = .ok (.aload_n 0, 1) := by decide +kernel
theorem dX5_byteAt_6 : decode cX5_byteAt 6 = .ok (.getfield 13, 3) := by decide +kernel
theorem dX5_byteAt_9 : decode cX5_byteAt 9 = .ok (.if_icmp .ge 12, 3) := by decide +kernel
theorem dX5_byteAt_12 : decode cX5_byteAt 12 = .ok (.aload_n 0, 1) := by decide +kernel
theorem dX5_byteAt_13 : decode cX5_byteAt 13 = .ok (.getfield 9, 3) := by decide +kernel
theorem dX5_byteAt_16 : decode cX5_byteAt 16 = .ok (.iload_n 1, 1) := by decide +kernel
theorem dX5_byteAt_17 : decode cX5_byteAt 17 = .ok (.iaload, 1) := by decide +kernel
theorem dX5_byteAt_18 : decode cX5_byteAt 18 = .ok (.goto 4, 3) := by decide +kernel
theorem dX5_byteAt_21 : decode cX5_byteAt 21 = .ok (.iconst (-1), 1) := by decide +kernel
theorem dX5_byteAt_22 : decode cX5_byteAt 22 = .ok (.ireturn, 1) := by decide +kernel
theorem dX5_isFigure_0 : decode cX5_isFigure 0 = .ok (.iload_n 0, 1) := by decide +kernel
theorem dX5_isFigure_1 : decode cX5_isFigure 1 = .ok (.bipush 48, 2) := by decide +kernel
theorem dX5_isFigure_3 : decode cX5_isFigure 3 = .ok (.if_icmp .lt 13, 3) := by decide +kernel
theorem dX5_isFigure_6 : decode cX5_isFigure 6 = .ok (.iload_n 0, 1) := by decide +kernel
theorem dX5_isFigure_7 : decode cX5_isFigure 7 = .ok (.bipush 57, 2) := by decide +kernel
theorem dX5_isFigure_9 : decode cX5_isFigure 9 = .ok (.if_icmp .gt 7, 3) := by decide +kernel
theorem dX5_isFigure_12 : decode cX5_isFigure 12 = .ok (.iconst 1, 1) := by decide +kernel
theorem dX5_isFigure_13 : decode cX5_isFigure 13 = .ok (.goto 4, 3) := by decide +kernel
theorem dX5_isFigure_16 : decode cX5_isFigure 16 = .ok (.iconst 0, 1) := by decide +kernel
theorem dX5_isFigure_17 : decode cX5_isFigure 17 = .ok (.ireturn, 1) := by decide +kernel
end
section
/-! the text of a town: what it is read as -/
def bz_ (f : Int → Int) (n p : Int) : Int := if 0 ≤ p ∧ p < n then f p else -1
def fg_ (b : Int) : Prop := 48 ≤ b ∧ b ≤ 57
/-- a number at p: its value and the place behind it; or the place and the kind of a fault -/
noncomputable def rn_ (B : Int → Int) (p lo hi : Int) : Except (Int × Int) (Int × Int) := if ¬ (48 ≤ B p ∧ B p ≤ 57) then .error (p, 1) else
  if ¬ (48 ≤ B (p + 1) ∧ B (p + 1) ≤ 57) then (if B p - 48 < lo ∨ hi < B p - 48 then .error (p, 2) else .ok (B p - 48, p + 1)) else
  if ¬ (48 ≤ B (p + 2) ∧ B (p + 2) ≤ 57) then (if 10 * (B p - 48) + B (p + 1) - 48 < lo ∨ hi < 10 * (B p - 48) + B (p + 1) - 48 then .error (p, 2) else .ok (10 * (B p - 48) + B (p + 1) - 48, p + 2)) else .error (p, 1)
noncomputable def pl_ (B : Int → Int) : Nat → Int → List (Int × Int × Int) → Except (Int × Int) (Int × List (Int × Int × Int))
  | 0, p, ls => if kl_ (B p) = 0 then .ok (p, ls) else .error (p, 3)
  | n + 1, p, ls => if kl_ (B p) = 0 then .ok (p, ls) else match rn_ B (p + 1) 1 20 with
    | .error e => .error e
    | .ok (w, p1) => if B p1 = 44 then (match rn_ B (p1 + 1) 0 3 with
      | .error e => .error e
      | .ok (t, p3) => if B p3 = 59 then pl_ B n (p3 + 1) (ls ++ [(kl_ (B p), w, t)]) else .error (p3, 1)) else .error (p1, 1)
noncomputable def ps_ (B : Int → Int) : Nat → Int → List (Int × Int) → Except (Int × Int) (Int × List (Int × Int))
  | 0, p, ss => if B p = 115 then .error (p, 3) else .ok (p, ss)
  | n + 1, p, ss => if B p = 115 then (match rn_ B (p + 1) 0 20 with
    | .error e => .error e
    | .ok (t, p1) => if B p1 = 44 then (match rn_ B (p1 + 1) 0 15 with
      | .error e => .error e
      | .ok (b, p3) => if B p3 = 59 then ps_ B n (p3 + 1) (ss ++ [(t, b)]) else .error (p3, 1)) else .error (p1, 1)) else .ok (p, ss)
/-- a town's text whole: stake, lies, strangers -/
noncomputable def pt_ (B : Int → Int) (n : Int) : Except (Int × Int) (Int × List (Int × Int × Int) × List (Int × Int)) :=
  if B 0 = 116 then (match rn_ B 1 1 9 with
    | .error e => .error e
    | .ok (st, p1) => if B p1 = 59 then (match pl_ B 6 (p1 + 1) [] with
      | .error e => .error e
      | .ok (p2, ls) => match ps_ B 4 p2 [] with
        | .error e => .error e
        | .ok (p3, ss) => if p3 < n then .error (p3, 1) else .ok (st, ls, ss)) else .error (p1, 1)) else .error (0, 1)
theorem bz_i {f : Int → Int} {n p : Int} (h : bz_ f n p ≠ -1) : 0 ≤ p ∧ p < n := by
  unfold bz_ at h
  by_cases c : 0 ≤ p ∧ p < n
  · exact c
  · rw [if_neg c] at h; exact absurd rfl h
theorem rn_ok {f : Int → Int} {n p lo hi v q : Int} (h : rn_ (bz_ f n) p lo hi = .ok (v, q)) : lo ≤ v ∧ v ≤ hi ∧ p < q ∧ q ≤ n ∧ 0 ≤ p := by
  unfold rn_ at h
  split at h
  · cases h
  · next c0 =>
    have i0 := bz_i (f := f) (n := n) (p := p) (by omega)
    split at h
    · split at h
      · cases h
      · cases h
        omega
    · next c1 =>
      have i1 := bz_i (f := f) (n := n) (p := p + 1) (by omega)
      split at h
      · split at h
        · cases h
        · cases h
          omega
      · cases h
theorem rn_er {B : Int → Int} {p lo hi : Int} {e : Int × Int} (h : rn_ B p lo hi = .error e) : e.1 = p ∧ (e.2 = 1 ∨ e.2 = 2) := by
  unfold rn_ at h
  repeat' split at h
  all_goals first | (cases h; exact ⟨rfl, Or.inl rfl⟩) | (cases h; exact ⟨rfl, Or.inr rfl⟩) | (cases h; done)
theorem hs_hs (h : SH_) (a b u v : Int) : hs_ (hs_ h a b u) a b v = hs_ h a b v := by
  funext x y
  unfold hs_
  by_cases c : x = a ∧ y = b
  · rw [if_pos c, if_pos c]
  · rw [if_neg c, if_neg c, if_neg c]
/-- a draft town -/
def td_ (h : SH_) (k st : Int) (ls : List (Int × Int × Int)) (ss : List (Int × Int)) : Prop := h k 0 = st ∧ h k 1 = 0 ∧ h k 2 = ls.length ∧ h k 3 = ss.length ∧
  (∀ (i : Nat) (x : Int × Int × Int), ls[i]? = some x → h (k + 1) i = x.1 ∧ h (k + 2) i = x.2.1 ∧ h (k + 3) i = x.2.2) ∧
  (∀ (i : Nat) (x : Int × Int), ss[i]? = some x → h (k + 4) i = x.1 ∧ h (k + 5) i = x.2 ∧ h (k + 6) i = 0 ∧ h (k + 7) i = 0)
/-- while reading: all but the reader and the draft is as it was -/
def rs_ (h hc : SH_) (p k : Int) : Prop := (∀ a, a ≠ 5 → (a < 15 ∨ 22 < a) → hc a = h a) ∧ hc 5 1 = h 5 1 ∧ hc 5 2 = p ∧ hc 5 3 = k
section PF_
variable {g : SG_} {d : Nat} {M : MD_} {pc q : Nat} {ls : List (Option SV_)} {st : List SV_} {h : SH_} {Post : Option SV_ → SH_ → Prop}
theorem vr_iincV {i : Nat} {n x y : Int} {ls2 : List (Option SV_)} (hd : decode M.2.1 pc = .ok (.iinc i n, 3)) (hq : pc + 3 = q) (hv : ls[i]? = some (some (sv_i x))) (hy : x + n = y) (hr : sr_32 y) (hn : i < M.2.2.1) (hc : sl_nl ls i = true) (h2 : ls.set i (some (sv_i y)) = ls2) (k : V_ g d M q ls2 st h Post) : V_ g d M pc ls st h Post := by
  subst hy
  exact vr_iinc hd hq hv hr hn hc h2 k
theorem vr_iaddV {x y z : Int} (hd : decode M.2.1 pc = .ok (.iadd, 1)) (hq : pc + 1 = q) (hz : x + y = z) (hr : sr_32 z) (k : V_ g d M q ls (sv_i z :: st) h Post) : V_ g d M pc ls (sv_i y :: sv_i x :: st) h Post := by
  subst hz
  exact vr_iaddN hd hq hr k
theorem vr_isubV {x y z : Int} (hd : decode M.2.1 pc = .ok (.isub, 1)) (hq : pc + 1 = q) (hz : x - y = z) (hr : sr_32 z) (k : V_ g d M q ls (sv_i z :: st) h Post) : V_ g d M pc ls (sv_i y :: sv_i x :: st) h Post := by
  subst hz
  exact vr_isubN hd hq hr k
theorem vr_imulV {x y z : Int} (hd : decode M.2.1 pc = .ok (.imul, 1)) (hq : pc + 1 = q) (hz : x * y = z) (hr : sr_32 z) (k : V_ g d M q ls (sv_i z :: st) h Post) : V_ g d M pc ls (sv_i y :: sv_i x :: st) h Post := by
  subst hz
  exact vr_imulN hd hq hr k
end PF_
section PRD_
variable {g : SG_} {d : Nat} {h : SH_} {Post : Option SV_ → SH_ → Prop}
theorem c_isFull (kt : 120 ≤ h 5 1 → Post (some (sv_i 1)) h) (kf : ¬ 120 ≤ h 5 1 → Post (some (sv_i 0)) h) : Ctr_ g d mX5_isFull [sv_r 4 4 5] h Post := by
  refine V_mk (by decide +kernel) (Or.inr (Or.inr (Or.inl ⟨rfl, rfl⟩))) (Nat.le_of_ble_eq_true rfl) (by simp [sv_c]) ?_
  show V_ _ _ _ 0 [_] [] _ _
  refine vr_aload_n (q := 1) dX5_isFull_0 rfl rfl ?_
  refine vr_getI (ji := 1) (q := 4) dX5_isFull_1 rfl fX5_13 rfl rfl ?_
  refine vr_bipush (q := 6) dX5_isFull_4 rfl ⟨by decide, by decide⟩ (by decide) ?_
  refine vr_ic_lt (t := 13) (q := 9) dX5_isFull_6 (by decide) rfl (fun c6 => ?_) (fun c6 => ?_)
  · refine vr_iconst (q := 14) dX5_isFull_13 rfl ⟨by decide, by decide⟩ ?_
    refine vr_zret dX5_isFull_14 rfl ?_ ?_
    · first | exact Or.inl rfl | exact Or.inr rfl | assumption
    · first | exact kt (by omega) | exact kf (by omega)
  · refine vr_iconst (q := 10) dX5_isFull_9 rfl ⟨by decide, by decide⟩ ?_
    refine vr_goto (q := 14) dX5_isFull_10 (by decide) ?_
    refine vr_zret dX5_isFull_14 rfl ?_ ?_
    · first | exact Or.inl rfl | exact Or.inr rfl | assumption
    · first | exact kt (by omega) | exact kf (by omega)
theorem c_append {x : Int} (hn : 0 ≤ h 5 1 ∧ h 5 1 < 120) (kk : Post (some (sv_i (h 5 1 + 1))) (hs_ (hs_ h 6 (h 5 1) x) 5 1 (h 5 1 + 1))) : Ctr_ g d mX5_append [sv_r 4 4 5, sv_i x] h Post := by
  refine V_mk (by decide +kernel) (Or.inr (Or.inl ⟨rfl, rfl⟩)) (Nat.le_of_ble_eq_true rfl) (by simp [sv_c]) ?_
  show V_ _ _ _ 0 [_, _] [] _ _
  refine vr_aload_n (q := 1) dX5_append_0 rfl rfl ?_
  refine vr_getI (ji := 1) (q := 4) dX5_append_1 rfl fX5_13 rfl rfl ?_
  refine vr_bipush (q := 6) dX5_append_4 rfl ⟨by decide, by decide⟩ (by decide) ?_
  refine vr_ic_ge (t := 29) (q := 9) dX5_append_6 (by decide) rfl (fun c9 => absurd c9 (by omega)) (fun _ => ?_)
  refine vr_aload_n (q := 10) dX5_append_9 rfl rfl ?_
  refine vr_getR (q := 13) dX5_append_10 rfl fX5_9 rfl y_X5_0 (by first | (simp only [Int.reduceAdd]; rfl) | rfl) ?_
  refine vr_aload_n (q := 14) dX5_append_13 rfl rfl ?_
  refine vr_getI (ji := 1) (q := 17) dX5_append_14 rfl fX5_13 rfl rfl ?_
  refine vr_iload_n (q := 18) dX5_append_17 rfl rfl ?_
  refine vr_iast (q := 19) dX5_append_18 rfl ⟨by omega, by omega⟩ ?_
  refine vr_aload_n (q := 20) dX5_append_19 rfl rfl ?_
  refine vr_dup (q := 21) dX5_append_20 rfl rfl ?_
  refine vr_getV (ji := 1) (q := 24) dX5_append_21 rfl fX5_13 rfl rfl (by rw [hs_k (by decide)]) ?_
  refine vr_iconst (q := 25) dX5_append_24 rfl ⟨by decide, by decide⟩ ?_
  refine vr_iaddN (q := 26) dX5_append_25 rfl ⟨by omega, by omega⟩ ?_
  refine vr_put (ji := 1) (q := 29) dX5_append_26 rfl pX5_13 rfl rfl ?_
  refine vr_aload_n (q := 30) dX5_append_29 rfl rfl ?_
  refine vr_getV (ji := 1) (q := 33) dX5_append_30 rfl fX5_13 rfl rfl (hs_e _ _ _ _) ?_
  refine vr_iret dX5_append_33 rfl ?_
  first | exact kk | (exfalso; omega) | (repeat (first | exact kk | rw [if_pos (by omega)] at kk | rw [if_neg (by omega)] at kk))
theorem c_length (kk : Post (some (sv_i (h 5 1))) h) : Ctr_ g d mX5_length [sv_r 4 4 5] h Post := by
  refine V_mk (by decide +kernel) (Or.inr (Or.inl ⟨rfl, rfl⟩)) (Nat.le_of_ble_eq_true rfl) (by simp [sv_c]) ?_
  show V_ _ _ _ 0 [_] [] _ _
  refine vr_aload_n (q := 1) dX5_length_0 rfl rfl ?_
  refine vr_getI (ji := 1) (q := 4) dX5_length_1 rfl fX5_13 rfl rfl ?_
  refine vr_iret dX5_length_4 rfl ?_
  first | exact kk | (exfalso; omega) | (repeat (first | exact kk | rw [if_pos (by omega)] at kk | rw [if_neg (by omega)] at kk))
theorem c_faultPlace (kk : Post (some (sv_i (h 5 2))) h) : Ctr_ g d mX5_faultPlace [sv_r 4 4 5] h Post := by
  refine V_mk (by decide +kernel) (Or.inr (Or.inl ⟨rfl, rfl⟩)) (Nat.le_of_ble_eq_true rfl) (by simp [sv_c]) ?_
  show V_ _ _ _ 0 [_] [] _ _
  refine vr_aload_n (q := 1) dX5_faultPlace_0 rfl rfl ?_
  refine vr_getI (ji := 2) (q := 4) dX5_faultPlace_1 rfl fX5_17 rfl rfl ?_
  refine vr_iret dX5_faultPlace_4 rfl ?_
  first | exact kk | (exfalso; omega) | (repeat (first | exact kk | rw [if_pos (by omega)] at kk | rw [if_neg (by omega)] at kk))
theorem c_latestFault (kk : Post (some (sv_i (h 5 3))) h) : Ctr_ g d mX5_latestFault [sv_r 4 4 5] h Post := by
  refine V_mk (by decide +kernel) (Or.inr (Or.inl ⟨rfl, rfl⟩)) (Nat.le_of_ble_eq_true rfl) (by simp [sv_c]) ?_
  show V_ _ _ _ 0 [_] [] _ _
  refine vr_aload_n (q := 1) dX5_latestFault_0 rfl rfl ?_
  refine vr_getI (ji := 3) (q := 4) dX5_latestFault_1 rfl fX5_20 rfl rfl ?_
  refine vr_iret dX5_latestFault_4 rfl ?_
  first | exact kk | (exfalso; omega) | (repeat (first | exact kk | rw [if_pos (by omega)] at kk | rw [if_neg (by omega)] at kk))
theorem c_byteAt {p : Int} (hn : 0 ≤ h 5 1 ∧ h 5 1 ≤ 120) (kk : Post (some (sv_i (bz_ (h 6) (h 5 1) p))) h) : Ctr_ g d mX5_byteAt [sv_r 4 4 5, sv_i p] h Post := by
  unfold bz_ at kk
  refine V_mk (by decide +kernel) (Or.inr (Or.inl ⟨rfl, rfl⟩)) (Nat.le_of_ble_eq_true rfl) (by simp [sv_c]) ?_
  show V_ _ _ _ 0 [_, _] [] _ _
  refine vr_iload_n (q := 1) dX5_byteAt_0 rfl rfl ?_
  refine vr_if_lt (t := 21) (q := 4) dX5_byteAt_1 (by decide) rfl (fun c1 => ?_) (fun c1 => ?_)
  · refine vr_iconst (q := 22) dX5_byteAt_21 rfl ⟨by decide, by decide⟩ ?_
    refine vr_iret dX5_byteAt_22 rfl ?_
    first | exact kk | (exfalso; omega) | (repeat (first | exact kk | rw [if_pos (by omega)] at kk | rw [if_neg (by omega)] at kk))
  · refine vr_iload_n (q := 5) dX5_byteAt_4 rfl rfl ?_
    refine vr_aload_n (q := 6) dX5_byteAt_5 rfl rfl ?_
    refine vr_getI (ji := 1) (q := 9) dX5_byteAt_6 rfl fX5_13 rfl rfl ?_
    refine vr_ic_ge (t := 21) (q := 12) dX5_byteAt_9 (by decide) rfl (fun c9 => ?_) (fun c9 => ?_)
    · refine vr_iconst (q := 22) dX5_byteAt_21 rfl ⟨by decide, by decide⟩ ?_
      refine vr_iret dX5_byteAt_22 rfl ?_
      first | exact kk | (exfalso; omega) | (repeat (first | exact kk | rw [if_pos (by omega)] at kk | rw [if_neg (by omega)] at kk))
    · refine vr_aload_n (q := 13) dX5_byteAt_12 rfl rfl ?_
      refine vr_getR (q := 16) dX5_byteAt_13 rfl fX5_9 rfl y_X5_0 (by first | (simp only [Int.reduceAdd]; rfl) | rfl) ?_
      refine vr_iload_n (q := 17) dX5_byteAt_16 rfl rfl ?_
      refine vr_iald (q := 18) dX5_byteAt_17 rfl ⟨by omega, by omega⟩ ?_
      refine vr_goto (q := 22) dX5_byteAt_18 (by decide) ?_
      refine vr_iret dX5_byteAt_22 rfl ?_
      first | exact kk | (exfalso; omega) | (repeat (first | exact kk | rw [if_pos (by omega)] at kk | rw [if_neg (by omega)] at kk))
theorem c_here (hn : 0 ≤ h 5 1 ∧ h 5 1 ≤ 120) (kk : Post (some (sv_i (bz_ (h 6) (h 5 1) (h 5 2)))) h) : Ctr_ g (d + 1) mX5_here [sv_r 4 4 5] h Post := by
  refine V_mk (by decide +kernel) (Or.inr (Or.inl ⟨rfl, rfl⟩)) (Nat.le_of_ble_eq_true rfl) (by simp [sv_c]) ?_
  show V_ _ _ _ 0 [_] [] _ _
  refine vr_aload_n (q := 1) dX5_here_0 rfl rfl ?_
  refine vr_aload_n (q := 2) dX5_here_1 rfl rfl ?_
  refine vr_getI (ji := 2) (q := 5) dX5_here_2 rfl fX5_17 rfl rfl ?_
  refine vr_iv1 (q := 8) dX5_here_5 rfl vX5_68 (Nat.le_of_ble_eq_true rfl) ?_
  refine c_byteAt hn ?_
  refine vr_iret dX5_here_8 rfl ?_
  first | exact kk | (exfalso; omega) | (repeat (first | exact kk | rw [if_pos (by omega)] at kk | rw [if_neg (by omega)] at kk))
theorem c_isFigure {b : Int} (kt : (48 ≤ b ∧ b ≤ 57) → Post (some (sv_i 1)) h) (kf : ¬ (48 ≤ b ∧ b ≤ 57) → Post (some (sv_i 0)) h) : Ctr_ g d mX5_isFigure [sv_i b] h Post := by
  refine V_mk (by decide +kernel) (Or.inr (Or.inr (Or.inl ⟨rfl, rfl⟩))) (Nat.le_of_ble_eq_true rfl) (by simp [sv_c]) ?_
  show V_ _ _ _ 0 [_] [] _ _
  refine vr_iload_n (q := 1) dX5_isFigure_0 rfl rfl ?_
  refine vr_bipush (q := 3) dX5_isFigure_1 rfl ⟨by decide, by decide⟩ (by decide) ?_
  refine vr_ic_lt (t := 16) (q := 6) dX5_isFigure_3 (by decide) rfl (fun c3 => ?_) (fun c3 => ?_)
  · refine vr_iconst (q := 17) dX5_isFigure_16 rfl ⟨by decide, by decide⟩ ?_
    refine vr_zret dX5_isFigure_17 rfl ?_ ?_
    · first | exact Or.inl rfl | exact Or.inr rfl | assumption
    · first | exact kt (by omega) | exact kf (by omega)
  · refine vr_iload_n (q := 7) dX5_isFigure_6 rfl rfl ?_
    refine vr_bipush (q := 9) dX5_isFigure_7 rfl ⟨by decide, by decide⟩ (by decide) ?_
    refine vr_ic_gt (t := 16) (q := 12) dX5_isFigure_9 (by decide) rfl (fun c9 => ?_) (fun c9 => ?_)
    · refine vr_iconst (q := 17) dX5_isFigure_16 rfl ⟨by decide, by decide⟩ ?_
      refine vr_zret dX5_isFigure_17 rfl ?_ ?_
      · first | exact Or.inl rfl | exact Or.inr rfl | assumption
      · first | exact kt (by omega) | exact kf (by omega)
    · refine vr_iconst (q := 13) dX5_isFigure_12 rfl ⟨by decide, by decide⟩ ?_
      refine vr_goto (q := 17) dX5_isFigure_13 (by decide) ?_
      refine vr_zret dX5_isFigure_17 rfl ?_ ?_
      · first | exact Or.inl rfl | exact Or.inr rfl | assumption
      · first | exact kt (by omega) | exact kf (by omega)
theorem c_refuse {k : Int} (kk : Post (some (sv_i 0)) (hs_ h 5 3 k)) : Ctr_ g d mX5_refuse [sv_r 4 4 5, sv_i k] h Post := by
  refine V_mk (by decide +kernel) (Or.inr (Or.inr (Or.inl ⟨rfl, rfl⟩))) (Nat.le_of_ble_eq_true rfl) (by simp [sv_c]) ?_
  show V_ _ _ _ 0 [_, _] [] _ _
  refine vr_aload_n (q := 1) dX5_refuse_0 rfl rfl ?_
  refine vr_iload_n (q := 2) dX5_refuse_1 rfl rfl ?_
  refine vr_put (ji := 3) (q := 5) dX5_refuse_2 rfl pX5_20 rfl rfl ?_
  refine vr_iconst (q := 6) dX5_refuse_5 rfl ⟨by decide, by decide⟩ ?_
  refine vr_zret dX5_refuse_6 rfl ?_ ?_
  · first | exact Or.inl rfl | exact Or.inr rfl | assumption
  · first | exact kk | (exfalso; omega) | (repeat (first | exact kk | rw [if_pos (by omega)] at kk | rw [if_neg (by omega)] at kk))
theorem c_passed {c : Int} (hn : 0 ≤ h 5 1 ∧ h 5 1 ≤ 120) (hc : c ≠ -1) (kt : bz_ (h 6) (h 5 1) (h 5 2) = c → (0 ≤ h 5 2 ∧ h 5 2 < h 5 1) → Post (some (sv_i 1)) (hs_ h 5 2 (h 5 2 + 1))) (kf : ¬ bz_ (h 6) (h 5 1) (h 5 2) = c → Post (some (sv_i 0)) (hs_ h 5 3 1)) : Ctr_ g (d + 2) mX5_passed [sv_r 4 4 5, sv_i c] h Post := by
  refine V_mk (by decide +kernel) (Or.inr (Or.inr (Or.inl ⟨rfl, rfl⟩))) (Nat.le_of_ble_eq_true rfl) (by simp [sv_c]) ?_
  show V_ _ _ _ 0 [_, _] [] _ _
  refine vr_aload_n (q := 1) dX5_passed_0 rfl rfl ?_
  -- at X5.passed 1: .invokevirtual 50
  refine vr_iv0 (q := 4) dX5_passed_1 rfl vX5_50 (Nat.le_of_ble_eq_true rfl) ?_
  refine c_here hn ?_
  refine vr_iload_n (q := 5) dX5_passed_4 rfl rfl ?_
  -- at X5.passed 5: .if_icmp .eq 9
  refine vr_ic_eq (t := 14) (q := 8) dX5_passed_5 (by decide) rfl (fun c1 => ?_) (fun c1 => ?_)
  · have i0 := bz_i (f := h 6) (n := h 5 1) (p := h 5 2) (by omega)
    refine vr_aload_n (q := 15) dX5_passed_14 rfl rfl ?_
    refine vr_dup (q := 16) dX5_passed_15 rfl rfl ?_
    refine vr_getI (ji := 2) (q := 19) dX5_passed_16 rfl fX5_17 rfl rfl ?_
    refine vr_iconst (q := 20) dX5_passed_19 rfl ⟨by decide, by decide⟩ ?_
    refine vr_iaddN (q := 21) dX5_passed_20 rfl ⟨by omega, by omega⟩ ?_
    refine vr_put (ji := 2) (q := 24) dX5_passed_21 rfl pX5_17 rfl rfl ?_
    refine vr_iconst (q := 25) dX5_passed_24 rfl ⟨by decide, by decide⟩ ?_
    refine vr_zret dX5_passed_25 rfl ?_ ?_
    · first | exact Or.inl rfl | exact Or.inr rfl | assumption
    · exact kt c1 i0
  · refine vr_aload_n (q := 9) dX5_passed_8 rfl rfl ?_
    refine vr_iconst (q := 10) dX5_passed_9 rfl ⟨by decide, by decide⟩ ?_
    refine vr_iv1 (q := 13) dX5_passed_10 rfl vX5_33 (Nat.le_of_ble_eq_true rfl) ?_
    refine c_refuse ?_
    refine vr_zret dX5_passed_13 rfl ?_ ?_
    · first | exact Or.inl rfl | exact Or.inr rfl | assumption
    · exact kf c1
theorem l_rn3 {lo hi v : Int} (kk : Post (some (sv_i (-1))) (hs_ h 5 3 1)) : V_ g (d + 1) mX5_readNumber 5 [some (sv_r 4 4 5), some (sv_i lo), some (sv_i hi), some (sv_i 3), some (sv_i v)] [] h Post := by
  refine vr_iload_n (q := 6) dX5_readNumber_5 rfl rfl ?_
  refine vr_iconst (q := 7) dX5_readNumber_6 rfl ⟨by decide, by decide⟩ ?_
  refine vr_ic_ge (t := 53) (q := 10) dX5_readNumber_7 (by decide) rfl (fun _ => ?_) (fun c9 => absurd c9 (by omega))
  refine vr_iload_n (q := 54) dX5_readNumber_53 rfl rfl ?_
  refine vr_iconst (q := 55) dX5_readNumber_54 rfl ⟨by decide, by decide⟩ ?_
  refine vr_ic_lt (t := 63) (q := 58) dX5_readNumber_55 (by decide) rfl (fun c9 => absurd c9 (by omega)) (fun _ => ?_)
  refine vr_iload_n (q := 59) dX5_readNumber_58 rfl rfl ?_
  refine vr_iconst (q := 60) dX5_readNumber_59 rfl ⟨by decide, by decide⟩ ?_
  refine vr_ic_le (t := 71) (q := 63) dX5_readNumber_60 (by decide) rfl (fun c9 => absurd c9 (by omega)) (fun _ => ?_)
  refine vr_aload_n (q := 64) dX5_readNumber_63 rfl rfl ?_
  refine vr_iconst (q := 65) dX5_readNumber_64 rfl ⟨by decide, by decide⟩ ?_
  refine vr_iv1 (q := 68) dX5_readNumber_65 rfl vX5_33 (Nat.le_of_ble_eq_true rfl) ?_
  refine c_refuse ?_
  refine vr_pop (q := 69) dX5_readNumber_68 rfl rfl ?_
  refine vr_iconst (q := 70) dX5_readNumber_69 rfl ⟨by decide, by decide⟩ ?_
  refine vr_iret dX5_readNumber_70 rfl ?_
  first | exact kk | (exfalso; omega) | (repeat (first | exact kk | rw [if_pos (by omega)] at kk | rw [if_neg (by omega)] at kk))
theorem l_rn2 {lo hi v : Int} (hn : 0 ≤ h 5 1 ∧ h 5 1 ≤ 120) (hp : 0 ≤ h 5 2 ∧ h 5 2 ≤ 121) (hv : 0 ≤ v ∧ v ≤ 1000) (k3 : (48 ≤ bz_ (h 6) (h 5 1) (h 5 2 + 2) ∧ bz_ (h 6) (h 5 1) (h 5 2 + 2) ≤ 57) → Post (some (sv_i (-1))) (hs_ h 5 3 1)) (k2 : ¬ (48 ≤ bz_ (h 6) (h 5 1) (h 5 2 + 2) ∧ bz_ (h 6) (h 5 1) (h 5 2 + 2) ≤ 57) → (v < lo ∨ hi < v) → Post (some (sv_i (-1))) (hs_ h 5 3 2)) (ko : ¬ (48 ≤ bz_ (h 6) (h 5 1) (h 5 2 + 2) ∧ bz_ (h 6) (h 5 1) (h 5 2 + 2) ≤ 57) → ¬ (v < lo ∨ hi < v) → Post (some (sv_i v)) (hs_ h 5 2 (h 5 2 + 2))) : V_ g (d + 1) mX5_readNumber 5 [some (sv_r 4 4 5), some (sv_i lo), some (sv_i hi), some (sv_i 2), some (sv_i v)] [] h Post := by
  refine vr_iload_n (q := 6) dX5_readNumber_5 rfl rfl ?_
  refine vr_iconst (q := 7) dX5_readNumber_6 rfl ⟨by decide, by decide⟩ ?_
  refine vr_ic_ge (t := 53) (q := 10) dX5_readNumber_7 (by decide) rfl (fun c9 => absurd c9 (by omega)) (fun _ => ?_)
  refine vr_aload_n (q := 11) dX5_readNumber_10 rfl rfl ?_
  refine vr_aload_n (q := 12) dX5_readNumber_11 rfl rfl ?_
  refine vr_getI (ji := 2) (q := 15) dX5_readNumber_12 rfl fX5_17 rfl rfl ?_
  refine vr_iload_n (q := 16) dX5_readNumber_15 rfl rfl ?_
  refine vr_iaddN (q := 17) dX5_readNumber_16 rfl ⟨by omega, by omega⟩ ?_
  refine vr_iv1 (q := 20) dX5_readNumber_17 rfl vX5_68 (Nat.le_of_ble_eq_true rfl) ?_
  refine c_byteAt hn ?_
  refine vr_is1 (q := 23) dX5_readNumber_20 rfl vX5_71 (Nat.le_of_ble_eq_true rfl) ?_
  refine c_isFigure (fun c20 => ?_) (fun c20 => ?_)
  · refine vr_if_eq (t := 53) (q := 26) dX5_readNumber_23 (by decide) rfl (fun c9 => absurd c9 (by omega)) (fun _ => ?_)
    refine vr_bipush (q := 28) dX5_readNumber_26 rfl ⟨by decide, by decide⟩ (by decide) ?_
    refine vr_iload (q := 30) dX5_readNumber_28 rfl rfl ?_
    refine vr_imulN (q := 31) dX5_readNumber_30 rfl ⟨by omega, by omega⟩ ?_
    refine vr_aload_n (q := 32) dX5_readNumber_31 rfl rfl ?_
    refine vr_aload_n (q := 33) dX5_readNumber_32 rfl rfl ?_
    refine vr_getI (ji := 2) (q := 36) dX5_readNumber_33 rfl fX5_17 rfl rfl ?_
    refine vr_iload_n (q := 37) dX5_readNumber_36 rfl rfl ?_
    refine vr_iaddN (q := 38) dX5_readNumber_37 rfl ⟨by omega, by omega⟩ ?_
    refine vr_iv1 (q := 41) dX5_readNumber_38 rfl vX5_68 (Nat.le_of_ble_eq_true rfl) ?_
    refine c_byteAt hn ?_
    refine vr_iaddN (q := 42) dX5_readNumber_41 rfl ⟨by omega, by omega⟩ ?_
    refine vr_bipush (q := 44) dX5_readNumber_42 rfl ⟨by decide, by decide⟩ (by decide) ?_
    refine vr_isubN (q := 45) dX5_readNumber_44 rfl ⟨by omega, by omega⟩ ?_
    refine vr_istore (q := 47) dX5_readNumber_45 rfl (Nat.le_of_ble_eq_true rfl) rfl rfl ?_
    refine vr_iincV (y := 3) (q := 50) dX5_readNumber_47 rfl rfl rfl ⟨by decide, by decide⟩ (Nat.le_of_ble_eq_true rfl) rfl rfl ?_
    refine vr_goto (q := 5) dX5_readNumber_50 (by decide) ?_
    exact l_rn3 (k3 c20)
  · refine vr_if_eq (t := 53) (q := 26) dX5_readNumber_23 (by decide) rfl (fun _ => ?_) (fun c9 => absurd c9 (by omega))
    refine vr_iload_n (q := 54) dX5_readNumber_53 rfl rfl ?_
    refine vr_iconst (q := 55) dX5_readNumber_54 rfl ⟨by decide, by decide⟩ ?_
    refine vr_ic_lt (t := 63) (q := 58) dX5_readNumber_55 (by decide) rfl (fun c9 => absurd c9 (by omega)) (fun _ => ?_)
    refine vr_iload_n (q := 59) dX5_readNumber_58 rfl rfl ?_
    refine vr_iconst (q := 60) dX5_readNumber_59 rfl ⟨by decide, by decide⟩ ?_
    refine vr_ic_le (t := 71) (q := 63) dX5_readNumber_60 (by decide) rfl (fun _ => ?_) (fun c9 => absurd c9 (by omega))
    refine vr_iload (q := 73) dX5_readNumber_71 rfl rfl ?_
    refine vr_iload_n (q := 74) dX5_readNumber_73 rfl rfl ?_
    refine vr_ic_lt (t := 83) (q := 77) dX5_readNumber_74 (by decide) rfl (fun c74 => ?_) (fun c74 => ?_)
    · refine vr_aload_n (q := 84) dX5_readNumber_83 rfl rfl ?_
      refine vr_iconst (q := 85) dX5_readNumber_84 rfl ⟨by decide, by decide⟩ ?_
      refine vr_iv1 (q := 88) dX5_readNumber_85 rfl vX5_33 (Nat.le_of_ble_eq_true rfl) ?_
      refine c_refuse ?_
      refine vr_pop (q := 89) dX5_readNumber_88 rfl rfl ?_
      refine vr_iconst (q := 90) dX5_readNumber_89 rfl ⟨by decide, by decide⟩ ?_
      refine vr_iret dX5_readNumber_90 rfl ?_
      exact k2 c20 (by omega)
    · refine vr_iload (q := 79) dX5_readNumber_77 rfl rfl ?_
      refine vr_iload_n (q := 80) dX5_readNumber_79 rfl rfl ?_
      refine vr_ic_le (t := 91) (q := 83) dX5_readNumber_80 (by decide) rfl (fun c80 => ?_) (fun c80 => ?_)
      · refine vr_aload_n (q := 92) dX5_readNumber_91 rfl rfl ?_
        refine vr_dup (q := 93) dX5_readNumber_92 rfl rfl ?_
        refine vr_getI (ji := 2) (q := 96) dX5_readNumber_93 rfl fX5_17 rfl rfl ?_
        refine vr_iload_n (q := 97) dX5_readNumber_96 rfl rfl ?_
        refine vr_iaddN (q := 98) dX5_readNumber_97 rfl ⟨by omega, by omega⟩ ?_
        refine vr_put (ji := 2) (q := 101) dX5_readNumber_98 rfl pX5_17 rfl rfl ?_
        refine vr_iload (q := 103) dX5_readNumber_101 rfl rfl ?_
        refine vr_iret dX5_readNumber_103 rfl ?_
        exact ko c20 (by omega)
      · refine vr_aload_n (q := 84) dX5_readNumber_83 rfl rfl ?_
        refine vr_iconst (q := 85) dX5_readNumber_84 rfl ⟨by decide, by decide⟩ ?_
        refine vr_iv1 (q := 88) dX5_readNumber_85 rfl vX5_33 (Nat.le_of_ble_eq_true rfl) ?_
        refine c_refuse ?_
        refine vr_pop (q := 89) dX5_readNumber_88 rfl rfl ?_
        refine vr_iconst (q := 90) dX5_readNumber_89 rfl ⟨by decide, by decide⟩ ?_
        refine vr_iret dX5_readNumber_90 rfl ?_
        exact k2 c20 (by omega)
theorem l_rn1 {lo hi v : Int} (hn : 0 ≤ h 5 1 ∧ h 5 1 ≤ 120) (hp : 0 ≤ h 5 2 ∧ h 5 2 ≤ 121) (hv : 0 ≤ v ∧ v ≤ 9)
    (k3 : (48 ≤ bz_ (h 6) (h 5 1) (h 5 2 + 1) ∧ bz_ (h 6) (h 5 1) (h 5 2 + 1) ≤ 57) → (48 ≤ bz_ (h 6) (h 5 1) (h 5 2 + 2) ∧ bz_ (h 6) (h 5 1) (h 5 2 + 2) ≤ 57) → Post (some (sv_i (-1))) (hs_ h 5 3 1))
    (k2 : (48 ≤ bz_ (h 6) (h 5 1) (h 5 2 + 1) ∧ bz_ (h 6) (h 5 1) (h 5 2 + 1) ≤ 57) → ¬ (48 ≤ bz_ (h 6) (h 5 1) (h 5 2 + 2) ∧ bz_ (h 6) (h 5 1) (h 5 2 + 2) ≤ 57) → (10 * v + bz_ (h 6) (h 5 1) (h 5 2 + 1) - 48 < lo ∨ hi < 10 * v + bz_ (h 6) (h 5 1) (h 5 2 + 1) - 48) → Post (some (sv_i (-1))) (hs_ h 5 3 2))
    (ko2 : (48 ≤ bz_ (h 6) (h 5 1) (h 5 2 + 1) ∧ bz_ (h 6) (h 5 1) (h 5 2 + 1) ≤ 57) → ¬ (48 ≤ bz_ (h 6) (h 5 1) (h 5 2 + 2) ∧ bz_ (h 6) (h 5 1) (h 5 2 + 2) ≤ 57) → ¬ (10 * v + bz_ (h 6) (h 5 1) (h 5 2 + 1) - 48 < lo ∨ hi < 10 * v + bz_ (h 6) (h 5 1) (h 5 2 + 1) - 48) → Post (some (sv_i (10 * v + bz_ (h 6) (h 5 1) (h 5 2 + 1) - 48))) (hs_ h 5 2 (h 5 2 + 2)))
    (k1 : ¬ (48 ≤ bz_ (h 6) (h 5 1) (h 5 2 + 1) ∧ bz_ (h 6) (h 5 1) (h 5 2 + 1) ≤ 57) → (v < lo ∨ hi < v) → Post (some (sv_i (-1))) (hs_ h 5 3 2))
    (ko1 : ¬ (48 ≤ bz_ (h 6) (h 5 1) (h 5 2 + 1) ∧ bz_ (h 6) (h 5 1) (h 5 2 + 1) ≤ 57) → ¬ (v < lo ∨ hi < v) → Post (some (sv_i v)) (hs_ h 5 2 (h 5 2 + 1))) : V_ g (d + 1) mX5_readNumber 5 [some (sv_r 4 4 5), some (sv_i lo), some (sv_i hi), some (sv_i 1), some (sv_i v)] [] h Post := by
  refine vr_iload_n (q := 6) dX5_readNumber_5 rfl rfl ?_
  refine vr_iconst (q := 7) dX5_readNumber_6 rfl ⟨by decide, by decide⟩ ?_
  refine vr_ic_ge (t := 53) (q := 10) dX5_readNumber_7 (by decide) rfl (fun c9 => absurd c9 (by omega)) (fun _ => ?_)
  refine vr_aload_n (q := 11) dX5_readNumber_10 rfl rfl ?_
  refine vr_aload_n (q := 12) dX5_readNumber_11 rfl rfl ?_
  refine vr_getI (ji := 2) (q := 15) dX5_readNumber_12 rfl fX5_17 rfl rfl ?_
  refine vr_iload_n (q := 16) dX5_readNumber_15 rfl rfl ?_
  refine vr_iaddN (q := 17) dX5_readNumber_16 rfl ⟨by omega, by omega⟩ ?_
  refine vr_iv1 (q := 20) dX5_readNumber_17 rfl vX5_68 (Nat.le_of_ble_eq_true rfl) ?_
  refine c_byteAt hn ?_
  refine vr_is1 (q := 23) dX5_readNumber_20 rfl vX5_71 (Nat.le_of_ble_eq_true rfl) ?_
  refine c_isFigure (fun c20 => ?_) (fun c20 => ?_)
  · refine vr_if_eq (t := 53) (q := 26) dX5_readNumber_23 (by decide) rfl (fun c9 => absurd c9 (by omega)) (fun _ => ?_)
    refine vr_bipush (q := 28) dX5_readNumber_26 rfl ⟨by decide, by decide⟩ (by decide) ?_
    refine vr_iload (q := 30) dX5_readNumber_28 rfl rfl ?_
    refine vr_imulN (q := 31) dX5_readNumber_30 rfl ⟨by omega, by omega⟩ ?_
    refine vr_aload_n (q := 32) dX5_readNumber_31 rfl rfl ?_
    refine vr_aload_n (q := 33) dX5_readNumber_32 rfl rfl ?_
    refine vr_getI (ji := 2) (q := 36) dX5_readNumber_33 rfl fX5_17 rfl rfl ?_
    refine vr_iload_n (q := 37) dX5_readNumber_36 rfl rfl ?_
    refine vr_iaddN (q := 38) dX5_readNumber_37 rfl ⟨by omega, by omega⟩ ?_
    refine vr_iv1 (q := 41) dX5_readNumber_38 rfl vX5_68 (Nat.le_of_ble_eq_true rfl) ?_
    refine c_byteAt hn ?_
    refine vr_iaddN (q := 42) dX5_readNumber_41 rfl ⟨by omega, by omega⟩ ?_
    refine vr_bipush (q := 44) dX5_readNumber_42 rfl ⟨by decide, by decide⟩ (by decide) ?_
    refine vr_isubN (q := 45) dX5_readNumber_44 rfl ⟨by omega, by omega⟩ ?_
    refine vr_istore (q := 47) dX5_readNumber_45 rfl (Nat.le_of_ble_eq_true rfl) rfl rfl ?_
    refine vr_iincV (y := 2) (q := 50) dX5_readNumber_47 rfl rfl rfl ⟨by decide, by decide⟩ (Nat.le_of_ble_eq_true rfl) rfl rfl ?_
    refine vr_goto (q := 5) dX5_readNumber_50 (by decide) ?_
    exact l_rn2 hn hp ⟨by omega, by omega⟩ (k3 c20) (k2 c20) (ko2 c20)
  · refine vr_if_eq (t := 53) (q := 26) dX5_readNumber_23 (by decide) rfl (fun _ => ?_) (fun c9 => absurd c9 (by omega))
    refine vr_iload_n (q := 54) dX5_readNumber_53 rfl rfl ?_
    refine vr_iconst (q := 55) dX5_readNumber_54 rfl ⟨by decide, by decide⟩ ?_
    refine vr_ic_lt (t := 63) (q := 58) dX5_readNumber_55 (by decide) rfl (fun c9 => absurd c9 (by omega)) (fun _ => ?_)
    refine vr_iload_n (q := 59) dX5_readNumber_58 rfl rfl ?_
    refine vr_iconst (q := 60) dX5_readNumber_59 rfl ⟨by decide, by decide⟩ ?_
    refine vr_ic_le (t := 71) (q := 63) dX5_readNumber_60 (by decide) rfl (fun _ => ?_) (fun c9 => absurd c9 (by omega))
    refine vr_iload (q := 73) dX5_readNumber_71 rfl rfl ?_
    refine vr_iload_n (q := 74) dX5_readNumber_73 rfl rfl ?_
    refine vr_ic_lt (t := 83) (q := 77) dX5_readNumber_74 (by decide) rfl (fun c74 => ?_) (fun c74 => ?_)
    · refine vr_aload_n (q := 84) dX5_readNumber_83 rfl rfl ?_
      refine vr_iconst (q := 85) dX5_readNumber_84 rfl ⟨by decide, by decide⟩ ?_
      refine vr_iv1 (q := 88) dX5_readNumber_85 rfl vX5_33 (Nat.le_of_ble_eq_true rfl) ?_
      refine c_refuse ?_
      refine vr_pop (q := 89) dX5_readNumber_88 rfl rfl ?_
      refine vr_iconst (q := 90) dX5_readNumber_89 rfl ⟨by decide, by decide⟩ ?_
      refine vr_iret dX5_readNumber_90 rfl ?_
      exact k1 c20 (by omega)
    · refine vr_iload (q := 79) dX5_readNumber_77 rfl rfl ?_
      refine vr_iload_n (q := 80) dX5_readNumber_79 rfl rfl ?_
      refine vr_ic_le (t := 91) (q := 83) dX5_readNumber_80 (by decide) rfl (fun c80 => ?_) (fun c80 => ?_)
      · refine vr_aload_n (q := 92) dX5_readNumber_91 rfl rfl ?_
        refine vr_dup (q := 93) dX5_readNumber_92 rfl rfl ?_
        refine vr_getI (ji := 2) (q := 96) dX5_readNumber_93 rfl fX5_17 rfl rfl ?_
        refine vr_iload_n (q := 97) dX5_readNumber_96 rfl rfl ?_
        refine vr_iaddN (q := 98) dX5_readNumber_97 rfl ⟨by omega, by omega⟩ ?_
        refine vr_put (ji := 2) (q := 101) dX5_readNumber_98 rfl pX5_17 rfl rfl ?_
        refine vr_iload (q := 103) dX5_readNumber_101 rfl rfl ?_
        refine vr_iret dX5_readNumber_103 rfl ?_
        exact ko1 c20 (by omega)
      · refine vr_aload_n (q := 84) dX5_readNumber_83 rfl rfl ?_
        refine vr_iconst (q := 85) dX5_readNumber_84 rfl ⟨by decide, by decide⟩ ?_
        refine vr_iv1 (q := 88) dX5_readNumber_85 rfl vX5_33 (Nat.le_of_ble_eq_true rfl) ?_
        refine c_refuse ?_
        refine vr_pop (q := 89) dX5_readNumber_88 rfl rfl ?_
        refine vr_iconst (q := 90) dX5_readNumber_89 rfl ⟨by decide, by decide⟩ ?_
        refine vr_iret dX5_readNumber_90 rfl ?_
        exact k1 c20 (by omega)
theorem c_readNumber {lo hi : Int} (hn : 0 ≤ h 5 1 ∧ h 5 1 ≤ 120) (hp : 0 ≤ h 5 2 ∧ h 5 2 ≤ 121) (ko : ∀ v p, rn_ (bz_ (h 6) (h 5 1)) (h 5 2) lo hi = .ok (v, p) → Post (some (sv_i v)) (hs_ h 5 2 p)) (kf : ∀ k, rn_ (bz_ (h 6) (h 5 1)) (h 5 2) lo hi = .error (h 5 2, k) → Post (some (sv_i (-1))) (hs_ h 5 3 k)) : Ctr_ g (d + 1) mX5_readNumber [sv_r 4 4 5, sv_i lo, sv_i hi] h Post := by
  unfold rn_ at ko kf
  have e0 : h 5 2 + 0 = h 5 2 := by omega
  refine V_mk (by decide +kernel) (Or.inr (Or.inl ⟨rfl, rfl⟩)) (Nat.le_of_ble_eq_true rfl) (by simp [sv_c]) ?_
  show V_ _ _ _ 0 [_, _, _, _, _] [] _ _
  refine vr_iconst (q := 1) dX5_readNumber_0 rfl ⟨by decide, by decide⟩ ?_
  refine vr_istore_n (q := 2) dX5_readNumber_1 rfl rfl (Nat.le_of_ble_eq_true rfl) rfl rfl ?_
  refine vr_iconst (q := 3) dX5_readNumber_2 rfl ⟨by decide, by decide⟩ ?_
  refine vr_istore (q := 5) dX5_readNumber_3 rfl (Nat.le_of_ble_eq_true rfl) rfl rfl ?_
  refine vr_iload_n (q := 6) dX5_readNumber_5 rfl rfl ?_
  refine vr_iconst (q := 7) dX5_readNumber_6 rfl ⟨by decide, by decide⟩ ?_
  refine vr_ic_ge (t := 53) (q := 10) dX5_readNumber_7 (by decide) rfl (fun c9 => absurd c9 (by omega)) (fun _ => ?_)
  refine vr_aload_n (q := 11) dX5_readNumber_10 rfl rfl ?_
  refine vr_aload_n (q := 12) dX5_readNumber_11 rfl rfl ?_
  refine vr_getI (ji := 2) (q := 15) dX5_readNumber_12 rfl fX5_17 rfl rfl ?_
  refine vr_iload_n (q := 16) dX5_readNumber_15 rfl rfl ?_
  refine vr_iaddN (q := 17) dX5_readNumber_16 rfl ⟨by omega, by omega⟩ ?_
  refine vr_iv1 (q := 20) dX5_readNumber_17 rfl vX5_68 (Nat.le_of_ble_eq_true rfl) ?_
  refine c_byteAt hn ?_
  rw [e0]
  refine vr_is1 (q := 23) dX5_readNumber_20 rfl vX5_71 (Nat.le_of_ble_eq_true rfl) ?_
  refine c_isFigure (fun c20 => ?_) (fun c20 => ?_)
  · refine vr_if_eq (t := 53) (q := 26) dX5_readNumber_23 (by decide) rfl (fun c9 => absurd c9 (by omega)) (fun _ => ?_)
    refine vr_bipush (q := 28) dX5_readNumber_26 rfl ⟨by decide, by decide⟩ (by decide) ?_
    refine vr_iload (q := 30) dX5_readNumber_28 rfl rfl ?_
    refine vr_imulV (z := 0) (q := 31) dX5_readNumber_30 rfl (by decide) ⟨by decide, by decide⟩ ?_
    refine vr_aload_n (q := 32) dX5_readNumber_31 rfl rfl ?_
    refine vr_aload_n (q := 33) dX5_readNumber_32 rfl rfl ?_
    refine vr_getI (ji := 2) (q := 36) dX5_readNumber_33 rfl fX5_17 rfl rfl ?_
    refine vr_iload_n (q := 37) dX5_readNumber_36 rfl rfl ?_
    refine vr_iaddN (q := 38) dX5_readNumber_37 rfl ⟨by omega, by omega⟩ ?_
    refine vr_iv1 (q := 41) dX5_readNumber_38 rfl vX5_68 (Nat.le_of_ble_eq_true rfl) ?_
    refine c_byteAt hn ?_
    rw [e0]
    refine vr_iaddN (q := 42) dX5_readNumber_41 rfl ⟨by omega, by omega⟩ ?_
    refine vr_bipush (q := 44) dX5_readNumber_42 rfl ⟨by decide, by decide⟩ (by decide) ?_
    refine vr_isubN (q := 45) dX5_readNumber_44 rfl ⟨by omega, by omega⟩ ?_
    refine vr_istore (q := 47) dX5_readNumber_45 rfl (Nat.le_of_ble_eq_true rfl) rfl rfl ?_
    rw [show 0 + bz_ (h 6) (h 5 1) (h 5 2) - 48 = bz_ (h 6) (h 5 1) (h 5 2) - 48 by omega]
    refine vr_iincV (y := 1) (q := 50) dX5_readNumber_47 rfl rfl rfl ⟨by decide, by decide⟩ (Nat.le_of_ble_eq_true rfl) rfl rfl ?_
    refine vr_goto (q := 5) dX5_readNumber_50 (by decide) ?_
    refine l_rn1 hn hp ⟨by omega, by omega⟩ (fun a1 a2 => kf 1 ?_) (fun a1 a2 a3 => kf 2 ?_) (fun a1 a2 a3 => ko _ _ ?_) (fun a1 a2 => kf 2 ?_) (fun a1 a2 => ko _ _ ?_)
    · rw [if_neg (fun z => z c20), if_neg (fun z => z a1), if_neg (fun z => z a2)]
    · rw [if_neg (fun z => z c20), if_neg (fun z => z a1), if_pos a2, if_pos a3]
    · rw [if_neg (fun z => z c20), if_neg (fun z => z a1), if_pos a2, if_neg a3]
    · rw [if_neg (fun z => z c20), if_pos a1, if_pos a2]
    · rw [if_neg (fun z => z c20), if_pos a1, if_neg a2]
  · refine vr_if_eq (t := 53) (q := 26) dX5_readNumber_23 (by decide) rfl (fun _ => ?_) (fun c9 => absurd c9 (by omega))
    refine vr_iload_n (q := 54) dX5_readNumber_53 rfl rfl ?_
    refine vr_iconst (q := 55) dX5_readNumber_54 rfl ⟨by decide, by decide⟩ ?_
    refine vr_ic_lt (t := 63) (q := 58) dX5_readNumber_55 (by decide) rfl (fun _ => ?_) (fun c9 => absurd c9 (by omega))
    refine vr_aload_n (q := 64) dX5_readNumber_63 rfl rfl ?_
    refine vr_iconst (q := 65) dX5_readNumber_64 rfl ⟨by decide, by decide⟩ ?_
    refine vr_iv1 (q := 68) dX5_readNumber_65 rfl vX5_33 (Nat.le_of_ble_eq_true rfl) ?_
    refine c_refuse ?_
    refine vr_pop (q := 69) dX5_readNumber_68 rfl rfl ?_
    refine vr_iconst (q := 70) dX5_readNumber_69 rfl ⟨by decide, by decide⟩ ?_
    refine vr_iret dX5_readNumber_70 rfl ?_
    exact kf 1 (if_pos c20)
end PRD_
end
section
/-- both ends of a reading -/
def pk_ {α : Type} (r : Except (Int × Int) α) (kf : Int → Int → Prop) (ko : α → Prop) : Prop := match r with
  | .error e => kf e.1 e.2
  | .ok a => ko a
theorem rs_at {h hc : SH_} {p k : Int} (q : Int) (hR : rs_ h hc p k) : rs_ h (hs_ hc 5 2 q) q k := by
  obtain ⟨h1, h2, h3, h4⟩ := hR
  exact ⟨fun a a5 ha => by rw [hs_k a5]; exact h1 a a5 ha, by rw [hs_n (by omega)]; exact h2, hs_e _ _ _ _, by rw [hs_n (by omega)]; exact h4⟩
theorem rs_ft {h hc : SH_} {p k : Int} (q : Int) (hR : rs_ h hc p k) : rs_ h (hs_ hc 5 3 q) p q := by
  obtain ⟨h1, h2, h3, h4⟩ := hR
  exact ⟨fun a a5 ha => by rw [hs_k a5]; exact h1 a a5 ha, by rw [hs_n (by omega)]; exact h2, by rw [hs_n (by omega)]; exact h3, hs_e _ _ _ _⟩
theorem td_k {h hc : SH_} {st : Int} {ls : List (Int × Int × Int)} {ss : List (Int × Int)} (hk : ∀ a, 15 ≤ a → h a = hc a) (hT : td_ hc 15 st ls ss) : td_ h 15 st ls ss := by
  obtain ⟨h1, h2, h3, h4, h5, h6⟩ := hT
  refine ⟨?_, ?_, ?_, ?_, fun i x hx => ?_, fun i x hx => ?_⟩
  · rw [hk 15 (by omega)]; exact h1
  · rw [hk 15 (by omega)]; exact h2
  · rw [hk 15 (by omega)]; exact h3
  · rw [hk 15 (by omega)]; exact h4
  · rw [hk (15 + 1) (by omega), hk (15 + 2) (by omega), hk (15 + 3) (by omega)]; exact h5 i x hx
  · rw [hk (15 + 4) (by omega), hk (15 + 5) (by omega), hk (15 + 6) (by omega), hk (15 + 7) (by omega)]; exact h6 i x hx
theorem td_l {hc : SH_} {st a b c : Int} {ls : List (Int × Int × Int)} (hT : td_ hc 15 st ls []) : td_ (hs_ (hs_ (hs_ (hs_ hc 16 (hc 15 2) a) 17 (hc 15 2) b) 18 (hc 15 2) c) 15 2 (hc 15 2 + 1)) 15 st (ls ++ [(a, b, c)]) [] := by
  obtain ⟨h1, h2, h3, h4, h5, h6⟩ := hT
  rw [h3]
  refine ⟨?_, ?_, ?_, ?_, fun i x hx => ?_, fun i x hx => by simp at hx⟩
  · rw [hs_n (by omega), hs_k (by omega), hs_k (by omega), hs_k (by omega)]; exact h1
  · rw [hs_n (by omega), hs_k (by omega), hs_k (by omega), hs_k (by omega)]; exact h2
  · rw [hs_e]; simp
  · rw [hs_n (by omega), hs_k (by omega), hs_k (by omega), hs_k (by omega)]; exact h4
  · show hs_ (hs_ (hs_ (hs_ hc 16 ls.length a) 17 ls.length b) 18 ls.length c) 15 2 (ls.length + 1) 16 i = x.1 ∧ hs_ (hs_ (hs_ (hs_ hc 16 ls.length a) 17 ls.length b) 18 ls.length c) 15 2 (ls.length + 1) 17 i = x.2.1 ∧ hs_ (hs_ (hs_ (hs_ hc 16 ls.length a) 17 ls.length b) 18 ls.length c) 15 2 (ls.length + 1) 18 i = x.2.2
    have e16 : hs_ (hs_ (hs_ (hs_ hc 16 ls.length a) 17 ls.length b) 18 ls.length c) 15 2 (ls.length + 1) 16 = hs_ hc 16 ls.length a 16 := by rw [hs_k (by omega), hs_k (by omega), hs_k (by omega)]
    have e17 : hs_ (hs_ (hs_ (hs_ hc 16 ls.length a) 17 ls.length b) 18 ls.length c) 15 2 (ls.length + 1) 17 = hs_ (hs_ hc 16 ls.length a) 17 ls.length b 17 := by rw [hs_k (by omega), hs_k (by omega)]
    have e18 : hs_ (hs_ (hs_ (hs_ hc 16 ls.length a) 17 ls.length b) 18 ls.length c) 15 2 (ls.length + 1) 18 = hs_ (hs_ (hs_ hc 16 ls.length a) 17 ls.length b) 18 ls.length c 18 := by rw [hs_k (by omega)]
    rw [e16, e17, e18]
    by_cases hi : i < ls.length
    · rw [List.getElem?_append_left hi] at hx
      have h7 := h5 i x hx
      rw [hs_n (by omega), hs_n (by omega), hs_k (by omega), hs_n (by omega), hs_k (by omega), hs_k (by omega)]
      exact h7
    · rw [List.getElem?_append_right (by omega)] at hx
      have hz : i - ls.length < 1 := (List.getElem?_eq_some_iff.mp hx).1
      have e : i = ls.length := by omega
      subst e
      rw [Nat.sub_self] at hx
      cases hx
      rw [hs_e, hs_e, hs_e]
      exact ⟨rfl, rfl, rfl⟩
theorem td_s {hc : SH_} {st a b : Int} {ls : List (Int × Int × Int)} {ss : List (Int × Int)} (hT : td_ hc 15 st ls ss) : td_ (hs_ (hs_ (hs_ (hs_ (hs_ hc 19 (hc 15 3) a) 20 (hc 15 3) b) 21 (hc 15 3) 0) 22 (hc 15 3) 0) 15 3 (hc 15 3 + 1)) 15 st ls (ss ++ [(a, b)]) := by
  obtain ⟨h1, h2, h3, h4, h5, h6⟩ := hT
  rw [h4]
  refine ⟨?_, ?_, ?_, ?_, fun i x hx => ?_, fun i x hx => ?_⟩
  · rw [hs_n (by omega), hs_k (by omega), hs_k (by omega), hs_k (by omega), hs_k (by omega)]; exact h1
  · rw [hs_n (by omega), hs_k (by omega), hs_k (by omega), hs_k (by omega), hs_k (by omega)]; exact h2
  · rw [hs_n (by omega), hs_k (by omega), hs_k (by omega), hs_k (by omega), hs_k (by omega)]; exact h3
  · rw [hs_e]; simp
  · have h7 := h5 i x hx
    have e : ∀ r : Int, 16 ≤ r → r ≤ 18 → hs_ (hs_ (hs_ (hs_ (hs_ hc 19 ss.length a) 20 ss.length b) 21 ss.length 0) 22 ss.length 0) 15 3 (ss.length + 1) r = hc r := fun r r0 r1 => by
      rw [hs_k (by omega), hs_k (by omega), hs_k (by omega), hs_k (by omega), hs_k (by omega)]
    rw [e _ (by omega) (by omega), e _ (by omega) (by omega), e _ (by omega) (by omega)]
    exact h7
  · show hs_ (hs_ (hs_ (hs_ (hs_ hc 19 ss.length a) 20 ss.length b) 21 ss.length 0) 22 ss.length 0) 15 3 (ss.length + 1) 19 i = x.1 ∧ hs_ (hs_ (hs_ (hs_ (hs_ hc 19 ss.length a) 20 ss.length b) 21 ss.length 0) 22 ss.length 0) 15 3 (ss.length + 1) 20 i = x.2 ∧ hs_ (hs_ (hs_ (hs_ (hs_ hc 19 ss.length a) 20 ss.length b) 21 ss.length 0) 22 ss.length 0) 15 3 (ss.length + 1) 21 i = 0 ∧ hs_ (hs_ (hs_ (hs_ (hs_ hc 19 ss.length a) 20 ss.length b) 21 ss.length 0) 22 ss.length 0) 15 3 (ss.length + 1) 22 i = 0
    have e19 : hs_ (hs_ (hs_ (hs_ (hs_ hc 19 ss.length a) 20 ss.length b) 21 ss.length 0) 22 ss.length 0) 15 3 (ss.length + 1) 19 = hs_ hc 19 ss.length a 19 := by rw [hs_k (by omega), hs_k (by omega), hs_k (by omega), hs_k (by omega)]
    have e20 : hs_ (hs_ (hs_ (hs_ (hs_ hc 19 ss.length a) 20 ss.length b) 21 ss.length 0) 22 ss.length 0) 15 3 (ss.length + 1) 20 = hs_ (hs_ hc 19 ss.length a) 20 ss.length b 20 := by rw [hs_k (by omega), hs_k (by omega), hs_k (by omega)]
    have e21 : hs_ (hs_ (hs_ (hs_ (hs_ hc 19 ss.length a) 20 ss.length b) 21 ss.length 0) 22 ss.length 0) 15 3 (ss.length + 1) 21 = hs_ (hs_ (hs_ hc 19 ss.length a) 20 ss.length b) 21 ss.length 0 21 := by rw [hs_k (by omega), hs_k (by omega)]
    have e22 : hs_ (hs_ (hs_ (hs_ (hs_ hc 19 ss.length a) 20 ss.length b) 21 ss.length 0) 22 ss.length 0) 15 3 (ss.length + 1) 22 = hs_ (hs_ (hs_ (hs_ hc 19 ss.length a) 20 ss.length b) 21 ss.length 0) 22 ss.length 0 22 := by rw [hs_k (by omega)]
    rw [e19, e20, e21, e22]
    by_cases hi : i < ss.length
    · rw [List.getElem?_append_left hi] at hx
      have h7 := h6 i x hx
      rw [hs_n (by omega), hs_n (by omega), hs_k (by omega), hs_n (by omega), hs_k (by omega), hs_k (by omega), hs_n (by omega), hs_k (by omega), hs_k (by omega), hs_k (by omega)]
      exact h7
    · rw [List.getElem?_append_right (by omega)] at hx
      have hz : i - ss.length < 1 := (List.getElem?_eq_some_iff.mp hx).1
      have e : i = ss.length := by omega
      subst e
      rw [Nat.sub_self] at hx
      cases hx
      rw [hs_e, hs_e, hs_e, hs_e]
      exact ⟨rfl, rfl, rfl, rfl⟩
theorem rs_d {h hc : SH_} {p k a b v : Int} (ha : 15 ≤ a ∧ a ≤ 22) (hR : rs_ h hc p k) : rs_ h (hs_ hc a b v) p k := by
  obtain ⟨h1, h2, h3, h4⟩ := hR
  exact ⟨fun x x5 hx => by rw [hs_k (by omega)]; exact h1 x x5 hx, by rw [hs_k (by omega)]; exact h2, by rw [hs_k (by omega)]; exact h3, by rw [hs_k (by omega)]; exact h4⟩
section PRE_
variable {g : SG_} {d : Nat} {h hc : SH_} {Post : Option SV_ → SH_ → Prop} {p k0 : Int}
theorem rs_B (hR : rs_ h hc p k0) : bz_ (hc 6) (hc 5 1) = bz_ (h 6) (h 5 1) := by rw [hR.1 6 (by decide) (Or.inl (by decide)), hR.2.1]
theorem cr_here (hn : 0 ≤ h 5 1 ∧ h 5 1 ≤ 120) (hR : rs_ h hc p k0) (kk : Post (some (sv_i (bz_ (h 6) (h 5 1) p))) hc) : Ctr_ g (d + 1) mX5_here [sv_r 4 4 5] hc Post := by
  refine c_here (by rw [hR.2.1]; exact hn) ?_
  rw [rs_B hR, hR.2.2.1]
  exact kk
theorem cr_passed {c : Int} (hn : 0 ≤ h 5 1 ∧ h 5 1 ≤ 120) (hc0 : c ≠ -1) (hR : rs_ h hc p k0) (kt : ∀ h2, bz_ (h 6) (h 5 1) p = c → (0 ≤ p ∧ p < h 5 1) → rs_ h h2 (p + 1) k0 → (∀ a, 15 ≤ a → h2 a = hc a) → Post (some (sv_i 1)) h2) (kf : ∀ h2, ¬ bz_ (h 6) (h 5 1) p = c → rs_ h h2 p 1 → Post (some (sv_i 0)) h2) : Ctr_ g (d + 2) mX5_passed [sv_r 4 4 5, sv_i c] hc Post := by
  refine c_passed (by rw [hR.2.1]; exact hn) hc0 (fun e i => ?_) (fun e => ?_)
  · rw [rs_B hR, hR.2.2.1] at e
    rw [hR.2.2.1, hR.2.1] at i
    rw [hR.2.2.1]
    exact kt _ e i (rs_at _ hR) (fun a ha => hs_k (by omega))
  · rw [rs_B hR, hR.2.2.1] at e
    exact kf _ e (rs_ft _ hR)
theorem cr_number {lo hi : Int} (hn : 0 ≤ h 5 1 ∧ h 5 1 ≤ 120) (hp : 0 ≤ p ∧ p ≤ 121) (hR : rs_ h hc p k0) (ko : ∀ v q h2, rn_ (bz_ (h 6) (h 5 1)) p lo hi = .ok (v, q) → rs_ h h2 q k0 → (∀ a, 15 ≤ a → h2 a = hc a) → Post (some (sv_i v)) h2) (kf : ∀ k h2, rn_ (bz_ (h 6) (h 5 1)) p lo hi = .error (p, k) → rs_ h h2 p k → Post (some (sv_i (-1))) h2) : Ctr_ g (d + 1) mX5_readNumber [sv_r 4 4 5, sv_i lo, sv_i hi] hc Post := by
  refine c_readNumber (by rw [hR.2.1]; exact hn) (by rw [hR.2.2.1]; exact hp) (fun v q e => ?_) (fun k e => ?_)
  · rw [rs_B hR, hR.2.2.1] at e
    exact ko v q _ e (rs_at _ hR) (fun a ha => hs_k (by omega))
  · rw [rs_B hR, hR.2.2.1] at e
    exact kf k _ e (rs_ft _ hR)
end PRE_
end
section
section PRF_
variable {g : SG_} {d : Nat} {h : SH_} {Post : Option SV_ → SH_ → Prop}
theorem l_readLies {st : Int} (hn : 0 ≤ h 5 1 ∧ h 5 1 ≤ 120) : ∀ (n : Nat) (ls : List (Int × Int × Int)) (p : Int) (hc : SH_) (o3 o4 o5 : Option SV_), ls.length + n = 6 → (0 ≤ p ∧ p ≤ 120) → rs_ h hc p (h 5 3) → td_ hc 15 st ls [] →
    pk_ (pl_ (bz_ (h 6) (h 5 1)) n p ls) (fun q k => ∀ h2, rs_ h h2 q k → Post (some (sv_i 0)) h2) (fun r => ∀ h2, (0 ≤ r.1 ∧ r.1 ≤ 120) → rs_ h h2 r.1 (h 5 3) → td_ h2 15 st r.2 [] → Post (some (sv_i 1)) h2) →
    V_ g (d + 3) mX5_readLies 2 [some (sv_r 4 4 5), some (sv_r 4 6 15), some (sv_i ls.length), o3, o4, o5] [] hc Post := by
  intro n
  induction n with
  | zero =>
    intro ls p hc o3 o4 o5 hl hp hR hT hK
    unfold pl_ at hK
    refine vr_iload_n (q := 3) dX5_readLies_2 rfl rfl ?_
    refine vr_bipush (q := 5) dX5_readLies_3 rfl ⟨by decide, by decide⟩ (by decide) ?_
    -- at X5.readLies 5: .if_icmp .gt 105
    refine vr_ic_gt (t := 110) (q := 8) dX5_readLies_5 (by decide) rfl (fun c9 => absurd c9 (by omega)) (fun _ => ?_)
    refine vr_aload_n (q := 9) dX5_readLies_8 rfl rfl ?_
    -- at X5.readLies 9: .invokevirtual 50
    refine vr_iv0 (q := 12) dX5_readLies_9 rfl vX5_50 (Nat.le_of_ble_eq_true rfl) ?_
    refine cr_here hn hR ?_
    refine vr_is1 (q := 15) dX5_readLies_12 rfl vX5_54 (Nat.le_of_ble_eq_true rfl) ?_
    refine c_ofLetter ?_
    refine vr_istore_n (q := 16) dX5_readLies_15 rfl rfl (Nat.le_of_ble_eq_true rfl) rfl rfl ?_
    refine vr_iload_n (q := 17) dX5_readLies_16 rfl rfl ?_
    -- at X5.readLies 17: .ifCond .ne 5
    refine vr_if_ne (t := 22) (q := 20) dX5_readLies_17 (by decide) rfl (fun c1 => ?_) (fun c1 => ?_)
    · rw [if_neg c1] at hK
      refine vr_iload_n (q := 23) dX5_readLies_22 rfl rfl ?_
      refine vr_bipush (q := 25) dX5_readLies_23 rfl ⟨by decide, by decide⟩ (by decide) ?_
      -- at X5.readLies 25: .if_icmp .ne 9
      refine vr_ic_ne (t := 34) (q := 28) dX5_readLies_25 (by decide) rfl (fun c9 => absurd c9 (by omega)) (fun _ => ?_)
      refine vr_aload_n (q := 29) dX5_readLies_28 rfl rfl ?_
      refine vr_iconst (q := 30) dX5_readLies_29 rfl ⟨by decide, by decide⟩ ?_
      -- at X5.readLies 30: .invokevirtual 33
      refine vr_iv1 (q := 33) dX5_readLies_30 rfl vX5_33 (Nat.le_of_ble_eq_true rfl) ?_
      refine c_refuse ?_
      refine vr_zret dX5_readLies_33 rfl ?_ ?_
      · exact Or.inl rfl
      · exact hK _ (rs_ft _ hR)
    · rw [if_pos c1] at hK
      refine vr_iconst (q := 21) dX5_readLies_20 rfl ⟨by decide, by decide⟩ ?_
      -- at X5.readLies 21: .ireturn
      refine vr_zret dX5_readLies_21 rfl ?_ ?_
      · exact Or.inr rfl
      · exact hK _ hp hR hT
  | succ n ih =>
    intro ls p hc o3 o4 o5 hl hp hR hT hK
    unfold pl_ at hK
    refine vr_iload_n (q := 3) dX5_readLies_2 rfl rfl ?_
    refine vr_bipush (q := 5) dX5_readLies_3 rfl ⟨by decide, by decide⟩ (by decide) ?_
    -- at X5.readLies 5: .if_icmp .gt 105
    refine vr_ic_gt (t := 110) (q := 8) dX5_readLies_5 (by decide) rfl (fun c9 => absurd c9 (by omega)) (fun _ => ?_)
    refine vr_aload_n (q := 9) dX5_readLies_8 rfl rfl ?_
    -- at X5.readLies 9: .invokevirtual 50
    refine vr_iv0 (q := 12) dX5_readLies_9 rfl vX5_50 (Nat.le_of_ble_eq_true rfl) ?_
    refine cr_here hn hR ?_
    refine vr_is1 (q := 15) dX5_readLies_12 rfl vX5_54 (Nat.le_of_ble_eq_true rfl) ?_
    refine c_ofLetter ?_
    refine vr_istore_n (q := 16) dX5_readLies_15 rfl rfl (Nat.le_of_ble_eq_true rfl) rfl rfl ?_
    refine vr_iload_n (q := 17) dX5_readLies_16 rfl rfl ?_
    -- at X5.readLies 17: .ifCond .ne 5
    refine vr_if_ne (t := 22) (q := 20) dX5_readLies_17 (by decide) rfl (fun c1 => ?_) (fun c1 => ?_)
    · rw [if_neg c1] at hK
      refine vr_iload_n (q := 23) dX5_readLies_22 rfl rfl ?_
      refine vr_bipush (q := 25) dX5_readLies_23 rfl ⟨by decide, by decide⟩ (by decide) ?_
      -- at X5.readLies 25: .if_icmp .ne 9
      refine vr_ic_ne (t := 34) (q := 28) dX5_readLies_25 (by decide) rfl (fun _ => ?_) (fun c9 => absurd c9 (by omega))
      refine vr_aload_n (q := 35) dX5_readLies_34 rfl rfl ?_
      refine vr_dup (q := 36) dX5_readLies_35 rfl rfl ?_
      refine vr_getV (ji := 2) (q := 39) dX5_readLies_36 rfl fX5_17 rfl rfl (hR.2.2.1) ?_
      refine vr_iconst (q := 40) dX5_readLies_39 rfl ⟨by decide, by decide⟩ ?_
      refine vr_iaddN (q := 41) dX5_readLies_40 rfl ⟨by omega, by omega⟩ ?_
      refine vr_put (ji := 2) (q := 44) dX5_readLies_41 rfl pX5_17 rfl rfl ?_
      -- at X5.readLies 44: .aload_n 0
      have hR1 := rs_at (p + 1) hR
      have hT1 := td_k (h := hs_ hc 5 2 (p + 1)) (fun a ha => hs_k (by omega)) hT
      generalize hs_ hc 5 2 (p + 1) = h1 at hR1 hT1 ⊢
      refine vr_aload_n (q := 45) dX5_readLies_44 rfl rfl ?_
      refine vr_iconst (q := 46) dX5_readLies_45 rfl ⟨by decide, by decide⟩ ?_
      refine vr_bipush (q := 48) dX5_readLies_46 rfl ⟨by decide, by decide⟩ (by decide) ?_
      -- at X5.readLies 48: .invokevirtual 40
      refine vr_iv2 (q := 51) dX5_readLies_48 rfl vX5_40 (Nat.le_of_ble_eq_true rfl) ?_
      refine cr_number hn ⟨by omega, by omega⟩ hR1 (fun w p1 h2 e2 hR2 k2 => ?_) (fun k h2 e2 hR2 => ?_)
      · have hT2 := td_k k2 hT1
        have b2 := rn_ok e2
        rw [e2] at hK
        dsimp only at hK
        refine vr_istore (q := 53) dX5_readLies_51 rfl (Nat.le_of_ble_eq_true rfl) rfl rfl ?_
        refine vr_iload (q := 55) dX5_readLies_53 rfl rfl ?_
        refine vr_iconst (q := 56) dX5_readLies_55 rfl ⟨by decide, by decide⟩ ?_
        -- at X5.readLies 56: .if_icmp .eq 12
        refine vr_ic_eq (t := 68) (q := 59) dX5_readLies_56 (by decide) rfl (fun c9 => absurd c9 (by omega)) (fun _ => ?_)
        refine vr_aload_n (q := 60) dX5_readLies_59 rfl rfl ?_
        refine vr_bipush (q := 62) dX5_readLies_60 rfl ⟨by decide, by decide⟩ (by decide) ?_
        -- at X5.readLies 62: .invokevirtual 37
        refine vr_iv1 (q := 65) dX5_readLies_62 rfl vX5_37 (Nat.le_of_ble_eq_true rfl) ?_
        refine cr_passed hn (by decide) hR2 (fun h3 e3 i3 hR3 k3 => ?_) (fun h3 e3 hR3 => ?_)
        · have hT3 := td_k k3 hT2
          rw [if_pos e3] at hK
          refine vr_if_ne (t := 70) (q := 68) dX5_readLies_65 (by decide) rfl (fun _ => ?_) (fun c9 => absurd c9 (by omega))
          refine vr_aload_n (q := 71) dX5_readLies_70 rfl rfl ?_
          refine vr_iconst (q := 72) dX5_readLies_71 rfl ⟨by decide, by decide⟩ ?_
          refine vr_iconst (q := 73) dX5_readLies_72 rfl ⟨by decide, by decide⟩ ?_
          -- at X5.readLies 73: .invokevirtual 40
          refine vr_iv2 (q := 76) dX5_readLies_73 rfl vX5_40 (Nat.le_of_ble_eq_true rfl) ?_
          refine cr_number hn ⟨by omega, by omega⟩ hR3 (fun t p4 h4 e4 hR4 k4 => ?_) (fun k h4 e4 hR4 => ?_)
          · have hT4 := td_k k4 hT3
            have b4 := rn_ok e4
            rw [e4] at hK
            dsimp only at hK
            refine vr_istore (q := 78) dX5_readLies_76 rfl (Nat.le_of_ble_eq_true rfl) rfl rfl ?_
            refine vr_iload (q := 80) dX5_readLies_78 rfl rfl ?_
            refine vr_iconst (q := 81) dX5_readLies_80 rfl ⟨by decide, by decide⟩ ?_
            -- at X5.readLies 81: .if_icmp .eq 12
            refine vr_ic_eq (t := 93) (q := 84) dX5_readLies_81 (by decide) rfl (fun c9 => absurd c9 (by omega)) (fun _ => ?_)
            refine vr_aload_n (q := 85) dX5_readLies_84 rfl rfl ?_
            refine vr_bipush (q := 87) dX5_readLies_85 rfl ⟨by decide, by decide⟩ (by decide) ?_
            -- at X5.readLies 87: .invokevirtual 37
            refine vr_iv1 (q := 90) dX5_readLies_87 rfl vX5_37 (Nat.le_of_ble_eq_true rfl) ?_
            refine cr_passed hn (by decide) hR4 (fun h5 e5 i5 hR5 k5 => ?_) (fun h5 e5 hR5 => ?_)
            · have hT5 := td_k k5 hT4
              rw [if_pos e5] at hK
              refine vr_if_ne (t := 95) (q := 93) dX5_readLies_90 (by decide) rfl (fun _ => ?_) (fun c9 => absurd c9 (by omega))
              refine vr_aload_n (q := 96) dX5_readLies_95 rfl rfl ?_
              refine vr_iload_n (q := 97) dX5_readLies_96 rfl rfl ?_
              refine vr_iload (q := 99) dX5_readLies_97 rfl rfl ?_
              refine vr_iload (q := 101) dX5_readLies_99 rfl rfl ?_
              -- at X5.readLies 101: .invokevirtual 60
              refine vr_iv3 (q := 104) dX5_readLies_101 rfl vX5_60 (Nat.le_of_ble_eq_true rfl) ?_
              refine c_addLie (by rw [hT5.2.2.1]; omega) ?_
              refine vr_iinc (q := 107) dX5_readLies_104 rfl rfl ⟨by omega, by omega⟩ (Nat.le_of_ble_eq_true rfl) rfl rfl ?_
              refine vr_goto (q := 2) dX5_readLies_107 (by decide) ?_
              -- at X5.readLies 2: .iload_n 2
              have e6 : ((ls.length : Nat) : Int) + 1 = (((ls ++ [(kl_ (bz_ (h 6) (h 5 1) p), w, t)]).length : Nat) : Int) := by simp
              rw [e6]
              exact ih _ _ _ _ _ _ (by simp; omega) ⟨by omega, by omega⟩ (rs_d ⟨by decide, by decide⟩ (rs_d ⟨by decide, by decide⟩ (rs_d ⟨by decide, by decide⟩ (rs_d ⟨by decide, by decide⟩ hR5)))) (td_l hT5) hK
            · rw [if_neg e5] at hK
              refine vr_if_ne (t := 95) (q := 93) dX5_readLies_90 (by decide) rfl (fun c9 => absurd c9 (by omega)) (fun _ => ?_)
              refine vr_iconst (q := 94) dX5_readLies_93 rfl ⟨by decide, by decide⟩ ?_
              -- at X5.readLies 94: .ireturn
              refine vr_zret dX5_readLies_94 rfl ?_ ?_
              · exact Or.inl rfl
              · exact hK _ hR5
          · rw [e4] at hK
            refine vr_istore (q := 78) dX5_readLies_76 rfl (Nat.le_of_ble_eq_true rfl) rfl rfl ?_
            refine vr_iload (q := 80) dX5_readLies_78 rfl rfl ?_
            refine vr_iconst (q := 81) dX5_readLies_80 rfl ⟨by decide, by decide⟩ ?_
            -- at X5.readLies 81: .if_icmp .eq 12
            refine vr_ic_eq (t := 93) (q := 84) dX5_readLies_81 (by decide) rfl (fun _ => ?_) (fun c9 => absurd c9 (by omega))
            refine vr_iconst (q := 94) dX5_readLies_93 rfl ⟨by decide, by decide⟩ ?_
            -- at X5.readLies 94: .ireturn
            refine vr_zret dX5_readLies_94 rfl ?_ ?_
            · exact Or.inl rfl
            · exact hK _ hR4
        · rw [if_neg e3] at hK
          refine vr_if_ne (t := 70) (q := 68) dX5_readLies_65 (by decide) rfl (fun c9 => absurd c9 (by omega)) (fun _ => ?_)
          refine vr_iconst (q := 69) dX5_readLies_68 rfl ⟨by decide, by decide⟩ ?_
          -- at X5.readLies 69: .ireturn
          refine vr_zret dX5_readLies_69 rfl ?_ ?_
          · exact Or.inl rfl
          · exact hK _ hR3
      · rw [e2] at hK
        refine vr_istore (q := 53) dX5_readLies_51 rfl (Nat.le_of_ble_eq_true rfl) rfl rfl ?_
        refine vr_iload (q := 55) dX5_readLies_53 rfl rfl ?_
        refine vr_iconst (q := 56) dX5_readLies_55 rfl ⟨by decide, by decide⟩ ?_
        -- at X5.readLies 56: .if_icmp .eq 12
        refine vr_ic_eq (t := 68) (q := 59) dX5_readLies_56 (by decide) rfl (fun _ => ?_) (fun c9 => absurd c9 (by omega))
        refine vr_iconst (q := 69) dX5_readLies_68 rfl ⟨by decide, by decide⟩ ?_
        -- at X5.readLies 69: .ireturn
        refine vr_zret dX5_readLies_69 rfl ?_ ?_
        · exact Or.inl rfl
        · exact hK _ hR2
    · rw [if_pos c1] at hK
      refine vr_iconst (q := 21) dX5_readLies_20 rfl ⟨by decide, by decide⟩ ?_
      -- at X5.readLies 21: .ireturn
      refine vr_zret dX5_readLies_21 rfl ?_ ?_
      · exact Or.inr rfl
      · exact hK _ hp hR hT
theorem l_readStrangers {st : Int} {ls : List (Int × Int × Int)} (hn : 0 ≤ h 5 1 ∧ h 5 1 ≤ 120) : ∀ (n : Nat) (ss : List (Int × Int)) (p : Int) (hc : SH_) (o3 o4 : Option SV_), ss.length + n = 4 → (0 ≤ p ∧ p ≤ 120) → rs_ h hc p (h 5 3) → td_ hc 15 st ls ss →
    pk_ (ps_ (bz_ (h 6) (h 5 1)) n p ss) (fun q k => ∀ h2, rs_ h h2 q k → Post (some (sv_i 0)) h2) (fun r => ∀ h2, (0 ≤ r.1 ∧ r.1 ≤ 120) → rs_ h h2 r.1 (h 5 3) → td_ h2 15 st ls r.2 → Post (some (sv_i 1)) h2) →
    V_ g (d + 3) mX5_readStrangers 2 [some (sv_r 4 4 5), some (sv_r 4 6 15), some (sv_i ss.length), o3, o4] [] hc Post := by
  intro n
  induction n with
  | zero =>
    intro ss p hc o3 o4 hl hp hR hT hK
    unfold ps_ at hK
    refine vr_iload_n (q := 3) dX5_readStrangers_2 rfl rfl ?_
    refine vr_iconst (q := 4) dX5_readStrangers_3 rfl ⟨by decide, by decide⟩ ?_
    -- at X5.readStrangers 4: .if_icmp .gt 98
    refine vr_ic_gt (t := 102) (q := 7) dX5_readStrangers_4 (by decide) rfl (fun c9 => absurd c9 (by omega)) (fun _ => ?_)
    refine vr_aload_n (q := 8) dX5_readStrangers_7 rfl rfl ?_
    -- at X5.readStrangers 8: .invokevirtual 50
    refine vr_iv0 (q := 11) dX5_readStrangers_8 rfl vX5_50 (Nat.le_of_ble_eq_true rfl) ?_
    refine cr_here hn hR ?_
    refine vr_bipush (q := 13) dX5_readStrangers_11 rfl ⟨by decide, by decide⟩ (by decide) ?_
    -- at X5.readStrangers 13: .if_icmp .eq 5
    refine vr_ic_eq (t := 18) (q := 16) dX5_readStrangers_13 (by decide) rfl (fun c1 => ?_) (fun c1 => ?_)
    · rw [if_pos c1] at hK
      refine vr_iload_n (q := 19) dX5_readStrangers_18 rfl rfl ?_
      refine vr_iconst (q := 20) dX5_readStrangers_19 rfl ⟨by decide, by decide⟩ ?_
      -- at X5.readStrangers 20: .if_icmp .ne 9
      refine vr_ic_ne (t := 29) (q := 23) dX5_readStrangers_20 (by decide) rfl (fun c9 => absurd c9 (by omega)) (fun _ => ?_)
      refine vr_aload_n (q := 24) dX5_readStrangers_23 rfl rfl ?_
      refine vr_iconst (q := 25) dX5_readStrangers_24 rfl ⟨by decide, by decide⟩ ?_
      -- at X5.readStrangers 25: .invokevirtual 33
      refine vr_iv1 (q := 28) dX5_readStrangers_25 rfl vX5_33 (Nat.le_of_ble_eq_true rfl) ?_
      refine c_refuse ?_
      refine vr_zret dX5_readStrangers_28 rfl ?_ ?_
      · exact Or.inl rfl
      · exact hK _ (rs_ft _ hR)
    · rw [if_neg c1] at hK
      refine vr_iconst (q := 17) dX5_readStrangers_16 rfl ⟨by decide, by decide⟩ ?_
      -- at X5.readStrangers 17: .ireturn
      refine vr_zret dX5_readStrangers_17 rfl ?_ ?_
      · exact Or.inr rfl
      · exact hK _ hp hR hT
  | succ n ih =>
    intro ss p hc o3 o4 hl hp hR hT hK
    unfold ps_ at hK
    refine vr_iload_n (q := 3) dX5_readStrangers_2 rfl rfl ?_
    refine vr_iconst (q := 4) dX5_readStrangers_3 rfl ⟨by decide, by decide⟩ ?_
    -- at X5.readStrangers 4: .if_icmp .gt 98
    refine vr_ic_gt (t := 102) (q := 7) dX5_readStrangers_4 (by decide) rfl (fun c9 => absurd c9 (by omega)) (fun _ => ?_)
    refine vr_aload_n (q := 8) dX5_readStrangers_7 rfl rfl ?_
    -- at X5.readStrangers 8: .invokevirtual 50
    refine vr_iv0 (q := 11) dX5_readStrangers_8 rfl vX5_50 (Nat.le_of_ble_eq_true rfl) ?_
    refine cr_here hn hR ?_
    refine vr_bipush (q := 13) dX5_readStrangers_11 rfl ⟨by decide, by decide⟩ (by decide) ?_
    -- at X5.readStrangers 13: .if_icmp .eq 5
    refine vr_ic_eq (t := 18) (q := 16) dX5_readStrangers_13 (by decide) rfl (fun c1 => ?_) (fun c1 => ?_)
    · rw [if_pos c1] at hK
      refine vr_iload_n (q := 19) dX5_readStrangers_18 rfl rfl ?_
      refine vr_iconst (q := 20) dX5_readStrangers_19 rfl ⟨by decide, by decide⟩ ?_
      -- at X5.readStrangers 20: .if_icmp .ne 9
      refine vr_ic_ne (t := 29) (q := 23) dX5_readStrangers_20 (by decide) rfl (fun _ => ?_) (fun c9 => absurd c9 (by omega))
      refine vr_aload_n (q := 30) dX5_readStrangers_29 rfl rfl ?_
      refine vr_dup (q := 31) dX5_readStrangers_30 rfl rfl ?_
      refine vr_getV (ji := 2) (q := 34) dX5_readStrangers_31 rfl fX5_17 rfl rfl (hR.2.2.1) ?_
      refine vr_iconst (q := 35) dX5_readStrangers_34 rfl ⟨by decide, by decide⟩ ?_
      refine vr_iaddN (q := 36) dX5_readStrangers_35 rfl ⟨by omega, by omega⟩ ?_
      refine vr_put (ji := 2) (q := 39) dX5_readStrangers_36 rfl pX5_17 rfl rfl ?_
      -- at X5.readStrangers 39: .aload_n 0
      have hR1 := rs_at (p + 1) hR
      have hT1 := td_k (h := hs_ hc 5 2 (p + 1)) (fun a ha => hs_k (by omega)) hT
      generalize hs_ hc 5 2 (p + 1) = h1 at hR1 hT1 ⊢
      refine vr_aload_n (q := 40) dX5_readStrangers_39 rfl rfl ?_
      refine vr_iconst (q := 41) dX5_readStrangers_40 rfl ⟨by decide, by decide⟩ ?_
      refine vr_bipush (q := 43) dX5_readStrangers_41 rfl ⟨by decide, by decide⟩ (by decide) ?_
      -- at X5.readStrangers 43: .invokevirtual 40
      refine vr_iv2 (q := 46) dX5_readStrangers_43 rfl vX5_40 (Nat.le_of_ble_eq_true rfl) ?_
      refine cr_number hn ⟨by omega, by omega⟩ hR1 (fun w p1 h2 e2 hR2 k2 => ?_) (fun k h2 e2 hR2 => ?_)
      · have hT2 := td_k k2 hT1
        have b2 := rn_ok e2
        rw [e2] at hK
        dsimp only at hK
        refine vr_istore_n (q := 47) dX5_readStrangers_46 rfl rfl (Nat.le_of_ble_eq_true rfl) rfl rfl ?_
        refine vr_iload_n (q := 48) dX5_readStrangers_47 rfl rfl ?_
        refine vr_iconst (q := 49) dX5_readStrangers_48 rfl ⟨by decide, by decide⟩ ?_
        -- at X5.readStrangers 49: .if_icmp .eq 12
        refine vr_ic_eq (t := 61) (q := 52) dX5_readStrangers_49 (by decide) rfl (fun c9 => absurd c9 (by omega)) (fun _ => ?_)
        refine vr_aload_n (q := 53) dX5_readStrangers_52 rfl rfl ?_
        refine vr_bipush (q := 55) dX5_readStrangers_53 rfl ⟨by decide, by decide⟩ (by decide) ?_
        -- at X5.readStrangers 55: .invokevirtual 37
        refine vr_iv1 (q := 58) dX5_readStrangers_55 rfl vX5_37 (Nat.le_of_ble_eq_true rfl) ?_
        refine cr_passed hn (by decide) hR2 (fun h3 e3 i3 hR3 k3 => ?_) (fun h3 e3 hR3 => ?_)
        · have hT3 := td_k k3 hT2
          rw [if_pos e3] at hK
          refine vr_if_ne (t := 63) (q := 61) dX5_readStrangers_58 (by decide) rfl (fun _ => ?_) (fun c9 => absurd c9 (by omega))
          refine vr_aload_n (q := 64) dX5_readStrangers_63 rfl rfl ?_
          refine vr_iconst (q := 65) dX5_readStrangers_64 rfl ⟨by decide, by decide⟩ ?_
          refine vr_bipush (q := 67) dX5_readStrangers_65 rfl ⟨by decide, by decide⟩ (by decide) ?_
          -- at X5.readStrangers 67: .invokevirtual 40
          refine vr_iv2 (q := 70) dX5_readStrangers_67 rfl vX5_40 (Nat.le_of_ble_eq_true rfl) ?_
          refine cr_number hn ⟨by omega, by omega⟩ hR3 (fun t p4 h4 e4 hR4 k4 => ?_) (fun k h4 e4 hR4 => ?_)
          · have hT4 := td_k k4 hT3
            have b4 := rn_ok e4
            rw [e4] at hK
            dsimp only at hK
            refine vr_istore (q := 72) dX5_readStrangers_70 rfl (Nat.le_of_ble_eq_true rfl) rfl rfl ?_
            refine vr_iload (q := 74) dX5_readStrangers_72 rfl rfl ?_
            refine vr_iconst (q := 75) dX5_readStrangers_74 rfl ⟨by decide, by decide⟩ ?_
            -- at X5.readStrangers 75: .if_icmp .eq 12
            refine vr_ic_eq (t := 87) (q := 78) dX5_readStrangers_75 (by decide) rfl (fun c9 => absurd c9 (by omega)) (fun _ => ?_)
            refine vr_aload_n (q := 79) dX5_readStrangers_78 rfl rfl ?_
            refine vr_bipush (q := 81) dX5_readStrangers_79 rfl ⟨by decide, by decide⟩ (by decide) ?_
            -- at X5.readStrangers 81: .invokevirtual 37
            refine vr_iv1 (q := 84) dX5_readStrangers_81 rfl vX5_37 (Nat.le_of_ble_eq_true rfl) ?_
            refine cr_passed hn (by decide) hR4 (fun h5 e5 i5 hR5 k5 => ?_) (fun h5 e5 hR5 => ?_)
            · have hT5 := td_k k5 hT4
              rw [if_pos e5] at hK
              refine vr_if_ne (t := 89) (q := 87) dX5_readStrangers_84 (by decide) rfl (fun _ => ?_) (fun c9 => absurd c9 (by omega))
              refine vr_aload_n (q := 90) dX5_readStrangers_89 rfl rfl ?_
              refine vr_iload_n (q := 91) dX5_readStrangers_90 rfl rfl ?_
              refine vr_iload (q := 93) dX5_readStrangers_91 rfl rfl ?_
              -- at X5.readStrangers 93: .invokevirtual 64
              refine vr_iv2 (q := 96) dX5_readStrangers_93 rfl vX5_64 (Nat.le_of_ble_eq_true rfl) ?_
              refine c_addStranger (by rw [hT5.2.2.2.1]; omega) ?_
              refine vr_iinc (q := 99) dX5_readStrangers_96 rfl rfl ⟨by omega, by omega⟩ (Nat.le_of_ble_eq_true rfl) rfl rfl ?_
              refine vr_goto (q := 2) dX5_readStrangers_99 (by decide) ?_
              -- at X5.readStrangers 2: .iload_n 2
              have e6 : ((ss.length : Nat) : Int) + 1 = (((ss ++ [(w, t)]).length : Nat) : Int) := by simp
              rw [e6]
              exact ih _ _ _ _ _ (by simp; omega) ⟨by omega, by omega⟩ (rs_d ⟨by decide, by decide⟩ (rs_d ⟨by decide, by decide⟩ (rs_d ⟨by decide, by decide⟩ (rs_d ⟨by decide, by decide⟩ (rs_d ⟨by decide, by decide⟩ hR5))))) (td_s hT5) hK
            · rw [if_neg e5] at hK
              refine vr_if_ne (t := 89) (q := 87) dX5_readStrangers_84 (by decide) rfl (fun c9 => absurd c9 (by omega)) (fun _ => ?_)
              refine vr_iconst (q := 88) dX5_readStrangers_87 rfl ⟨by decide, by decide⟩ ?_
              -- at X5.readStrangers 88: .ireturn
              refine vr_zret dX5_readStrangers_88 rfl ?_ ?_
              · exact Or.inl rfl
              · exact hK _ hR5
          · rw [e4] at hK
            refine vr_istore (q := 72) dX5_readStrangers_70 rfl (Nat.le_of_ble_eq_true rfl) rfl rfl ?_
            refine vr_iload (q := 74) dX5_readStrangers_72 rfl rfl ?_
            refine vr_iconst (q := 75) dX5_readStrangers_74 rfl ⟨by decide, by decide⟩ ?_
            -- at X5.readStrangers 75: .if_icmp .eq 12
            refine vr_ic_eq (t := 87) (q := 78) dX5_readStrangers_75 (by decide) rfl (fun _ => ?_) (fun c9 => absurd c9 (by omega))
            refine vr_iconst (q := 88) dX5_readStrangers_87 rfl ⟨by decide, by decide⟩ ?_
            -- at X5.readStrangers 88: .ireturn
            refine vr_zret dX5_readStrangers_88 rfl ?_ ?_
            · exact Or.inl rfl
            · exact hK _ hR4
        · rw [if_neg e3] at hK
          refine vr_if_ne (t := 63) (q := 61) dX5_readStrangers_58 (by decide) rfl (fun c9 => absurd c9 (by omega)) (fun _ => ?_)
          refine vr_iconst (q := 62) dX5_readStrangers_61 rfl ⟨by decide, by decide⟩ ?_
          -- at X5.readStrangers 62: .ireturn
          refine vr_zret dX5_readStrangers_62 rfl ?_ ?_
          · exact Or.inl rfl
          · exact hK _ hR3
      · rw [e2] at hK
        refine vr_istore_n (q := 47) dX5_readStrangers_46 rfl rfl (Nat.le_of_ble_eq_true rfl) rfl rfl ?_
        refine vr_iload_n (q := 48) dX5_readStrangers_47 rfl rfl ?_
        refine vr_iconst (q := 49) dX5_readStrangers_48 rfl ⟨by decide, by decide⟩ ?_
        -- at X5.readStrangers 49: .if_icmp .eq 12
        refine vr_ic_eq (t := 61) (q := 52) dX5_readStrangers_49 (by decide) rfl (fun _ => ?_) (fun c9 => absurd c9 (by omega))
        refine vr_iconst (q := 62) dX5_readStrangers_61 rfl ⟨by decide, by decide⟩ ?_
        -- at X5.readStrangers 62: .ireturn
        refine vr_zret dX5_readStrangers_62 rfl ?_ ?_
        · exact Or.inl rfl
        · exact hK _ hR2
    · rw [if_neg c1] at hK
      refine vr_iconst (q := 17) dX5_readStrangers_16 rfl ⟨by decide, by decide⟩ ?_
      -- at X5.readStrangers 17: .ireturn
      refine vr_zret dX5_readStrangers_17 rfl ?_ ?_
      · exact Or.inr rfl
      · exact hK _ hp hR hT
end PRF_
end
section
/-- behind a reading: the tape is empty -/
def ro_ (h hc : SH_) (p k : Int) : Prop := (∀ a, a ≠ 5 → (a < 15 ∨ 22 < a) → hc a = h a) ∧ hc 5 1 = 0 ∧ hc 5 2 = p ∧ hc 5 3 = k
theorem rs_o {h hc : SH_} {p k : Int} (hR : rs_ h hc p k) : ro_ h (hs_ hc 5 1 0) p k := by
  obtain ⟨h1, h2, h3, h4⟩ := hR
  exact ⟨fun a a5 ha => by rw [hs_k a5]; exact h1 a a5 ha, hs_e _ _ _ _, by rw [hs_n (by omega)]; exact h3, by rw [hs_n (by omega)]; exact h4⟩
section PRG_
variable {g : SG_} {d : Nat} {h : SH_} {Post : Option SV_ → SH_ → Prop}
theorem c_readLaw {hc : SH_} (hn : 0 ≤ h 5 1 ∧ h 5 1 ≤ 120) (hR : rs_ h hc 0 (h 5 3)) (k0 : ∀ h2, ¬ bz_ (h 6) (h 5 1) 0 = 116 → rs_ h h2 0 1 → Post (some (sv_i 0)) h2) (k1 : ∀ h2 k, bz_ (h 6) (h 5 1) 0 = 116 → rn_ (bz_ (h 6) (h 5 1)) 1 1 9 = .error (1, k) → rs_ h h2 1 k → Post (some (sv_i 0)) h2) (k2 : ∀ h2 st p, bz_ (h 6) (h 5 1) 0 = 116 → rn_ (bz_ (h 6) (h 5 1)) 1 1 9 = .ok (st, p) → ¬ bz_ (h 6) (h 5 1) p = 59 → rs_ h h2 p 1 → Post (some (sv_i 0)) h2) (k3 : ∀ h2 st p, bz_ (h 6) (h 5 1) 0 = 116 → rn_ (bz_ (h 6) (h 5 1)) 1 1 9 = .ok (st, p) → bz_ (h 6) (h 5 1) p = 59 → (0 ≤ p ∧ p < h 5 1) → rs_ h h2 (p + 1) (h 5 3) → td_ h2 15 st [] [] → Post (some (sv_i 1)) h2) : Ctr_ g (d + 3) mX5_readLaw [sv_r 4 4 5, sv_r 4 6 15] hc Post := by
  refine V_mk (by decide +kernel) (Or.inr (Or.inr (Or.inl ⟨rfl, rfl⟩))) (Nat.le_of_ble_eq_true rfl) (by simp [sv_c]) ?_
  show V_ _ _ _ 0 [_, _, _] [] _ _
  refine vr_aload_n (q := 1) dX5_readLaw_0 rfl rfl ?_
  refine vr_bipush (q := 3) dX5_readLaw_1 rfl ⟨by decide, by decide⟩ (by decide) ?_
  -- at X5.readLaw 3: .invokevirtual 37
  refine vr_iv1 (q := 6) dX5_readLaw_3 rfl vX5_37 (Nat.le_of_ble_eq_true rfl) ?_
  refine cr_passed hn (by decide) hR (fun h1 e1 i1 hR1 _ => ?_) (fun h1 e1 hR1 => ?_)
  · refine vr_if_ne (t := 11) (q := 9) dX5_readLaw_6 (by decide) rfl (fun _ => ?_) (fun c9 => absurd c9 (by omega))
    refine vr_aload_n (q := 12) dX5_readLaw_11 rfl rfl ?_
    refine vr_iconst (q := 13) dX5_readLaw_12 rfl ⟨by decide, by decide⟩ ?_
    refine vr_bipush (q := 15) dX5_readLaw_13 rfl ⟨by decide, by decide⟩ (by decide) ?_
    -- at X5.readLaw 15: .invokevirtual 40
    refine vr_iv2 (q := 18) dX5_readLaw_15 rfl vX5_40 (Nat.le_of_ble_eq_true rfl) ?_
    refine cr_number hn ⟨by omega, by omega⟩ hR1 (fun w p1 h2 e2 hR2 _ => ?_) (fun k h2 e2 hR2 => ?_)
    · have b2 := rn_ok e2
      refine vr_istore_n (q := 19) dX5_readLaw_18 rfl rfl (Nat.le_of_ble_eq_true rfl) rfl rfl ?_
      refine vr_iload_n (q := 20) dX5_readLaw_19 rfl rfl ?_
      refine vr_iconst (q := 21) dX5_readLaw_20 rfl ⟨by decide, by decide⟩ ?_
      -- at X5.readLaw 21: .if_icmp .eq 12
      refine vr_ic_eq (t := 33) (q := 24) dX5_readLaw_21 (by decide) rfl (fun c9 => absurd c9 (by omega)) (fun _ => ?_)
      refine vr_aload_n (q := 25) dX5_readLaw_24 rfl rfl ?_
      refine vr_bipush (q := 27) dX5_readLaw_25 rfl ⟨by decide, by decide⟩ (by decide) ?_
      -- at X5.readLaw 27: .invokevirtual 37
      refine vr_iv1 (q := 30) dX5_readLaw_27 rfl vX5_37 (Nat.le_of_ble_eq_true rfl) ?_
      refine cr_passed hn (by decide) hR2 (fun h3 e3 i3 hR3 _ => ?_) (fun h3 e3 hR3 => ?_)
      · refine vr_if_ne (t := 35) (q := 33) dX5_readLaw_30 (by decide) rfl (fun _ => ?_) (fun c9 => absurd c9 (by omega))
        refine vr_aload_n (q := 36) dX5_readLaw_35 rfl rfl ?_
        refine vr_iload_n (q := 37) dX5_readLaw_36 rfl rfl ?_
        -- at X5.readLaw 37: .invokevirtual 44
        refine vr_iv1 (q := 40) dX5_readLaw_37 rfl vX5_44 (Nat.le_of_ble_eq_true rfl) ?_
        refine c_begin ?_
        refine vr_iconst (q := 41) dX5_readLaw_40 rfl ⟨by decide, by decide⟩ ?_
        -- at X5.readLaw 41: .ireturn
        refine vr_zret dX5_readLaw_41 rfl ?_ ?_
        · exact Or.inr rfl
        · refine k3 _ w p1 e1 e2 e3 i3 (rs_d ⟨by decide, by decide⟩ (rs_d ⟨by decide, by decide⟩ (rs_d ⟨by decide, by decide⟩ (rs_d ⟨by decide, by decide⟩ hR3)))) ⟨?_, ?_, ?_, ?_, fun i x hx => by simp at hx, fun i x hx => by simp at hx⟩
          · rw [hs_n (by omega), hs_n (by omega), hs_n (by omega), hs_e]
          · rw [hs_n (by omega), hs_n (by omega), hs_e]
          · rw [hs_n (by omega), hs_e]; rfl
          · rw [hs_e]; rfl
      · refine vr_if_ne (t := 35) (q := 33) dX5_readLaw_30 (by decide) rfl (fun c9 => absurd c9 (by omega)) (fun _ => ?_)
        refine vr_iconst (q := 34) dX5_readLaw_33 rfl ⟨by decide, by decide⟩ ?_
        -- at X5.readLaw 34: .ireturn
        refine vr_zret dX5_readLaw_34 rfl ?_ ?_
        · exact Or.inl rfl
        · exact k2 _ w p1 e1 e2 e3 hR3
    · refine vr_istore_n (q := 19) dX5_readLaw_18 rfl rfl (Nat.le_of_ble_eq_true rfl) rfl rfl ?_
      refine vr_iload_n (q := 20) dX5_readLaw_19 rfl rfl ?_
      refine vr_iconst (q := 21) dX5_readLaw_20 rfl ⟨by decide, by decide⟩ ?_
      -- at X5.readLaw 21: .if_icmp .eq 12
      refine vr_ic_eq (t := 33) (q := 24) dX5_readLaw_21 (by decide) rfl (fun _ => ?_) (fun c9 => absurd c9 (by omega))
      refine vr_iconst (q := 34) dX5_readLaw_33 rfl ⟨by decide, by decide⟩ ?_
      -- at X5.readLaw 34: .ireturn
      refine vr_zret dX5_readLaw_34 rfl ?_ ?_
      · exact Or.inl rfl
      · exact k1 _ k e1 e2 hR2
  · refine vr_if_ne (t := 11) (q := 9) dX5_readLaw_6 (by decide) rfl (fun c9 => absurd c9 (by omega)) (fun _ => ?_)
    refine vr_iconst (q := 10) dX5_readLaw_9 rfl ⟨by decide, by decide⟩ ?_
    -- at X5.readLaw 10: .ireturn
    refine vr_zret dX5_readLaw_10 rfl ?_ ?_
    · exact Or.inl rfl
    · exact k0 _ e1 hR1
theorem c_readLies {hc : SH_} {st p : Int} (hn : 0 ≤ h 5 1 ∧ h 5 1 ≤ 120) (hp : 0 ≤ p ∧ p ≤ 120) (hR : rs_ h hc p (h 5 3)) (hT : td_ hc 15 st [] []) (hK : pk_ (pl_ (bz_ (h 6) (h 5 1)) 6 p []) (fun q k => ∀ h2, rs_ h h2 q k → Post (some (sv_i 0)) h2) (fun r => ∀ h2, (0 ≤ r.1 ∧ r.1 ≤ 120) → rs_ h h2 r.1 (h 5 3) → td_ h2 15 st r.2 [] → Post (some (sv_i 1)) h2)) : Ctr_ g (d + 3) mX5_readLies [sv_r 4 4 5, sv_r 4 6 15] hc Post := by
  refine V_mk (by decide +kernel) (Or.inr (Or.inr (Or.inl ⟨rfl, rfl⟩))) (Nat.le_of_ble_eq_true rfl) (by simp [sv_c]) ?_
  show V_ _ _ _ 0 [_, _, _, _, _, _] [] _ _
  refine vr_iconst (q := 1) dX5_readLies_0 rfl ⟨by decide, by decide⟩ ?_
  refine vr_istore_n (q := 2) dX5_readLies_1 rfl rfl (Nat.le_of_ble_eq_true rfl) rfl rfl ?_
  -- at X5.readLies 2: .iload_n 2
  exact l_readLies hn 6 [] p hc _ _ _ rfl hp hR hT hK
theorem c_readStrangers {hc : SH_} {st p : Int} {ls : List (Int × Int × Int)} (hn : 0 ≤ h 5 1 ∧ h 5 1 ≤ 120) (hp : 0 ≤ p ∧ p ≤ 120) (hR : rs_ h hc p (h 5 3)) (hT : td_ hc 15 st ls []) (hK : pk_ (ps_ (bz_ (h 6) (h 5 1)) 4 p []) (fun q k => ∀ h2, rs_ h h2 q k → Post (some (sv_i 0)) h2) (fun r => ∀ h2, (0 ≤ r.1 ∧ r.1 ≤ 120) → rs_ h h2 r.1 (h 5 3) → td_ h2 15 st ls r.2 → Post (some (sv_i 1)) h2)) : Ctr_ g (d + 3) mX5_readStrangers [sv_r 4 4 5, sv_r 4 6 15] hc Post := by
  refine V_mk (by decide +kernel) (Or.inr (Or.inr (Or.inl ⟨rfl, rfl⟩))) (Nat.le_of_ble_eq_true rfl) (by simp [sv_c]) ?_
  show V_ _ _ _ 0 [_, _, _, _, _] [] _ _
  refine vr_iconst (q := 1) dX5_readStrangers_0 rfl ⟨by decide, by decide⟩ ?_
  refine vr_istore_n (q := 2) dX5_readStrangers_1 rfl rfl (Nat.le_of_ble_eq_true rfl) rfl rfl ?_
  -- at X5.readStrangers 2: .iload_n 2
  exact l_readStrangers hn 4 [] p hc _ _ rfl hp hR hT hK
theorem l_ri0 {hc : SH_} {q k : Int} {o : Option SV_} (hR : rs_ h hc q k) (kk : ∀ h2, ro_ h h2 q k → Post (some (sv_i 0)) h2) : V_ g (d + 4) mX5_readInto 33 [some (sv_r 4 4 5), some (sv_r 4 6 15), o] [] hc Post := by
  refine vr_iconst (q := 34) dX5_readInto_33 rfl ⟨by decide, by decide⟩ ?_
  refine vr_istore_n (q := 35) dX5_readInto_34 rfl rfl (Nat.le_of_ble_eq_true rfl) rfl rfl ?_
  refine vr_iload_n (q := 36) dX5_readInto_35 rfl rfl ?_
  -- at X5.readInto 36: .ifCond .eq 20
  refine vr_if_eq (t := 56) (q := 39) dX5_readInto_36 (by decide) rfl (fun _ => ?_) (fun c9 => absurd c9 (by omega))
  refine vr_aload_n (q := 57) dX5_readInto_56 rfl rfl ?_
  refine vr_iconst (q := 58) dX5_readInto_57 rfl ⟨by decide, by decide⟩ ?_
  refine vr_put (ji := 1) (q := 61) dX5_readInto_58 rfl pX5_13 rfl rfl ?_
  refine vr_iload_n (q := 62) dX5_readInto_61 rfl rfl ?_
  -- at X5.readInto 62: .ireturn
  refine vr_zret dX5_readInto_62 rfl ?_ ?_
  · exact Or.inl rfl
  · exact kk _ (rs_o hR)
theorem c_readInto (hn : 0 ≤ h 5 1 ∧ h 5 1 ≤ 120) (hK : pk_ (pt_ (bz_ (h 6) (h 5 1)) (h 5 1)) (fun q k => ∀ h2, ro_ h h2 q k → Post (some (sv_i 0)) h2) (fun r => ∀ h2 q, ro_ h h2 q (h 5 3) → td_ h2 15 r.1 r.2.1 r.2.2 → Post (some (sv_i 1)) h2)) : Ctr_ g (d + 4) mX5_readInto [sv_r 4 4 5, sv_r 4 6 15] h Post := by
  unfold pt_ at hK
  have hR0 : rs_ h (hs_ h 5 2 0) 0 (h 5 3) := rs_at 0 (p := h 5 2) ⟨fun _ _ _ => rfl, rfl, rfl, rfl⟩
  refine V_mk (by decide +kernel) (Or.inr (Or.inr (Or.inl ⟨rfl, rfl⟩))) (Nat.le_of_ble_eq_true rfl) (by simp [sv_c]) ?_
  show V_ _ _ _ 0 [_, _, _] [] _ _
  refine vr_aload_n (q := 1) dX5_readInto_0 rfl rfl ?_
  refine vr_iconst (q := 2) dX5_readInto_1 rfl ⟨by decide, by decide⟩ ?_
  refine vr_put (ji := 2) (q := 5) dX5_readInto_2 rfl pX5_17 rfl rfl ?_
  refine vr_aload_n (q := 6) dX5_readInto_5 rfl rfl ?_
  refine vr_aload_n (q := 7) dX5_readInto_6 rfl rfl ?_
  -- at X5.readInto 7: .invokevirtual 23
  refine vr_iv1 (q := 10) dX5_readInto_7 rfl vX5_23 (Nat.le_of_ble_eq_true rfl) ?_
  refine c_readLaw hn hR0 (fun h2 e1 hR => ?_) (fun h2 k e1 e2 hR => ?_) (fun h2 s1 p1 e1 e2 e3 hR => ?_) (fun h2 s1 p1 e1 e2 e3 i3 hR hT => ?_)
  · rw [if_neg e1] at hK
    refine vr_if_eq (t := 33) (q := 13) dX5_readInto_10 (by decide) rfl (fun _ => ?_) (fun c9 => absurd c9 (by omega))
    exact l_ri0 hR hK
  · rw [if_pos e1, e2] at hK
    refine vr_if_eq (t := 33) (q := 13) dX5_readInto_10 (by decide) rfl (fun _ => ?_) (fun c9 => absurd c9 (by omega))
    exact l_ri0 hR hK
  · rw [if_pos e1, e2] at hK
    dsimp only at hK
    rw [if_neg e3] at hK
    refine vr_if_eq (t := 33) (q := 13) dX5_readInto_10 (by decide) rfl (fun _ => ?_) (fun c9 => absurd c9 (by omega))
    exact l_ri0 hR hK
  · rw [if_pos e1, e2] at hK
    dsimp only at hK
    rw [if_pos e3] at hK
    refine vr_if_eq (t := 33) (q := 13) dX5_readInto_10 (by decide) rfl (fun c9 => absurd c9 (by omega)) (fun _ => ?_)
    refine vr_aload_n (q := 14) dX5_readInto_13 rfl rfl ?_
    refine vr_aload_n (q := 15) dX5_readInto_14 rfl rfl ?_
    -- at X5.readInto 15: .invokevirtual 27
    refine vr_iv1 (q := 18) dX5_readInto_15 rfl vX5_27 (Nat.le_of_ble_eq_true rfl) ?_
    refine c_readLies hn ⟨by omega, by omega⟩ hR hT ?_
    cases e4 : pl_ (bz_ (h 6) (h 5 1)) 6 (p1 + 1) [] with
    | error e =>
      rw [e4] at hK
      intro h3 hR3
      refine vr_if_eq (t := 33) (q := 21) dX5_readInto_18 (by decide) rfl (fun _ => ?_) (fun c9 => absurd c9 (by omega))
      exact l_ri0 hR3 hK
    | ok r =>
      obtain ⟨p2, ls⟩ := r
      rw [e4] at hK
      dsimp only at hK
      intro h3 hp3 hR3 hT3
      refine vr_if_eq (t := 33) (q := 21) dX5_readInto_18 (by decide) rfl (fun c9 => absurd c9 (by omega)) (fun _ => ?_)
      refine vr_aload_n (q := 22) dX5_readInto_21 rfl rfl ?_
      refine vr_aload_n (q := 23) dX5_readInto_22 rfl rfl ?_
      -- at X5.readInto 23: .invokevirtual 30
      refine vr_iv1 (q := 26) dX5_readInto_23 rfl vX5_30 (Nat.le_of_ble_eq_true rfl) ?_
      refine c_readStrangers hn hp3 hR3 hT3 ?_
      cases e5 : ps_ (bz_ (h 6) (h 5 1)) 4 p2 [] with
      | error e =>
        rw [e5] at hK
        intro h4 hR4
        refine vr_if_eq (t := 33) (q := 29) dX5_readInto_26 (by decide) rfl (fun _ => ?_) (fun c9 => absurd c9 (by omega))
        exact l_ri0 hR4 hK
      | ok r =>
        obtain ⟨p3, ss⟩ := r
        rw [e5] at hK
        dsimp only at hK
        intro h4 hp4 hR4 hT4
        refine vr_if_eq (t := 33) (q := 29) dX5_readInto_26 (by decide) rfl (fun c9 => absurd c9 (by omega)) (fun _ => ?_)
        refine vr_iconst (q := 30) dX5_readInto_29 rfl ⟨by decide, by decide⟩ ?_
        refine vr_goto (q := 34) dX5_readInto_30 (by decide) ?_
        refine vr_istore_n (q := 35) dX5_readInto_34 rfl rfl (Nat.le_of_ble_eq_true rfl) rfl rfl ?_
        refine vr_iload_n (q := 36) dX5_readInto_35 rfl rfl ?_
        -- at X5.readInto 36: .ifCond .eq 20
        refine vr_if_eq (t := 56) (q := 39) dX5_readInto_36 (by decide) rfl (fun c9 => absurd c9 (by omega)) (fun _ => ?_)
        refine vr_aload_n (q := 40) dX5_readInto_39 rfl rfl ?_
        refine vr_getV (ji := 2) (q := 43) dX5_readInto_40 rfl fX5_17 rfl rfl (hR4.2.2.1) ?_
        refine vr_aload_n (q := 44) dX5_readInto_43 rfl rfl ?_
        refine vr_getV (ji := 1) (q := 47) dX5_readInto_44 rfl fX5_13 rfl rfl (hR4.2.1) ?_
        -- at X5.readInto 47: .if_icmp .ge 9
        refine vr_ic_ge (t := 56) (q := 50) dX5_readInto_47 (by decide) rfl (fun c1 => ?_) (fun c1 => ?_)
        · rw [if_neg (by omega)] at hK
          refine vr_aload_n (q := 57) dX5_readInto_56 rfl rfl ?_
          refine vr_iconst (q := 58) dX5_readInto_57 rfl ⟨by decide, by decide⟩ ?_
          refine vr_put (ji := 1) (q := 61) dX5_readInto_58 rfl pX5_13 rfl rfl ?_
          refine vr_iload_n (q := 62) dX5_readInto_61 rfl rfl ?_
          -- at X5.readInto 62: .ireturn
          refine vr_zret dX5_readInto_62 rfl ?_ ?_
          · exact Or.inr rfl
          · exact hK _ p3 (rs_o hR4) (td_k (fun a ha => hs_k (by omega)) hT4)
        · rw [if_pos (by omega)] at hK
          refine vr_aload_n (q := 51) dX5_readInto_50 rfl rfl ?_
          refine vr_iconst (q := 52) dX5_readInto_51 rfl ⟨by decide, by decide⟩ ?_
          -- at X5.readInto 52: .invokevirtual 33
          refine vr_iv1 (q := 55) dX5_readInto_52 rfl vX5_33 (Nat.le_of_ble_eq_true rfl) ?_
          refine c_refuse ?_
          refine vr_istore_n (q := 56) dX5_readInto_55 rfl rfl (Nat.le_of_ble_eq_true rfl) rfl rfl ?_
          refine vr_aload_n (q := 57) dX5_readInto_56 rfl rfl ?_
          refine vr_iconst (q := 58) dX5_readInto_57 rfl ⟨by decide, by decide⟩ ?_
          refine vr_put (ji := 1) (q := 61) dX5_readInto_58 rfl pX5_13 rfl rfl ?_
          refine vr_iload_n (q := 62) dX5_readInto_61 rfl rfl ?_
          -- at X5.readInto 62: .ireturn
          refine vr_zret dX5_readInto_62 rfl ?_ ?_
          · exact Or.inl rfl
          · exact hK _ (rs_o (rs_ft _ hR4))
end PRG_
end
section
theorem dX2_init_0 : decode cX2_init 0 = .ok (.aload_n 0, 1) := by decide +kernel
theorem dX2_init_1 : decode cX2_init 1 = .ok (.invokespecial 3, 3) := by decide +kernel
theorem dX2_init_4 : decode cX2_init 4 = .ok (.aload_n 0, 1) := by decide +kernel
theorem dX2_init_5 : decode cX2_init 5 = .ok (.bipush 7, 2) := by decide +kernel
theorem dX2_init_7 : decode cX2_init 7 = .ok (.anewarray 11, 3) := by decide +kernel
theorem dX2_init_10 : decode cX2_init 10 = .ok (.putfield 13, 3) := by decide +kernel
theorem dX2_init_13 : decode cX2_init 13 = .ok (.aload_n 0, 1) := by decide +kernel
theorem dX2_init_14 : decode cX2_init 14 = .ok (.bipush 6, 2) := by decide +kernel
theorem dX2_init_16 : decode cX2_init 16 = .ok (.newarray .int, 2) := by decide +kernel
theorem dX2_init_18 : decode cX2_init 18 = .ok (.putfield 17, 3) := by decide +kernel
theorem dX2_init_21 : decode cX2_init 21 = .ok (.aload_n 0, 1) := by decide +kernel
theorem dX2_init_22 : decode cX2_init 22 = .ok (.bipush 6, 2) := by decide +kernel
theorem dX2_init_24 : decode cX2_init 24 = .ok (.newarray .int, 2) := by decide +kernel
theorem dX2_init_26 : decode cX2_init 26 = .ok (.putfield 21, 3) := by decide +kernel
theorem dX2_init_29 : decode cX2_init 29 = .ok (.aload_n 0, 1) := by decide +kernel
theorem dX2_init_30 : decode cX2_init 30 = .ok (.iconst 0, 1) := by decide +kernel
theorem dX2_init_31 : decode cX2_init 31 = .ok (.putfield 24, 3) := by decide +kernel
theorem dX2_init_34 : decode cX2_init 34 = .ok (.aload_n 0, 1) := by decide +kernel
theorem dX2_init_35 : decode cX2_init 35 = .ok (.iconst 0, 1) := by decide +kernel
theorem dX2_init_36 : decode cX2_init 36 = .ok (.putfield 28, 3) := by decide +kernel
theorem dX2_init_39 : decode cX2_init 39 = .ok (.aload_n 0, 1) := by decide +kernel
theorem dX2_init_40 : decode cX2_init 40 = .ok (.bipush 6, 2) := by decide +kernel
theorem dX2_init_42 : decode cX2_init 42 = .ok (.newarray .int, 2) := by decide +kernel
theorem dX2_init_44 : decode cX2_init 44 = .ok (.putfield 31, 3) := by decide +kernel
theorem dX2_init_47 : decode cX2_init 47 = .ok (.aload_n 0, 1) := by decide +kernel
theorem dX2_init_48 : decode cX2_init 48 = .ok (.bipush 6, 2) := by decide +kernel
theorem dX2_init_50 : decode cX2_init 50 = .ok (.newarray .int, 2) := by decide +kernel
theorem dX2_init_52 : decode cX2_init 52 = .ok (.putfield 34, 3) := by decide +kernel
theorem dX2_init_55 : decode cX2_init 55 = .ok (.aload_n 0, 1) := by decide +kernel
theorem dX2_init_56 : decode cX2_init 56 = .ok (.iconst 0, 1) := by decide +kernel
theorem dX2_init_57 : decode cX2_init 57 = .ok (.putfield 37, 3) := by decide +kernel
theorem dX2_init_60 : decode cX2_init 60 = .ok (.aload_n 0, 1) := by decide +kernel
theorem dX2_init_61 : decode cX2_init 61 = .ok (.aload_n 1, 1) := by decide +kernel
theorem dX2_init_62 : decode cX2_init 62 = .ok (.putfield 40, 3) := by decide +kernel
theorem dX2_init_65 : decode cX2_init 65 = .ok (.iconst 0, 1) := by decide +kernel
theorem dX2_init_66 : decode cX2_init 66 = .ok (.istore_n 2, 1) := by decide +kernel
theorem dX2_init_67 : decode cX2_init 67 = .ok (.iload_n 2, 1) := by decide +kernel
theorem dX2_init_68 : decode cX2_init 68 = .ok (.bipush 6, 2) := by decide +kernel
theorem dX2_init_70 : decode cX2_init 70 = .ok (.if_icmp .gt 22, 3) := by decide +kernel
theorem dX2_init_73 : decode cX2_init 73 = .ok (.aload_n 0, 1) := by decide +kernel
theorem dX2_init_74 : decode cX2_init 74 = .ok (.getfield 13, 3) := by decide +kernel
theorem dX2_init_77 : decode cX2_init 77 = .ok (.iload_n 2, 1) := by decide +kernel
theorem dX2_init_78 : decode cX2_init 78 = .ok (.new 11, 3) := by decide +kernel
theorem dX2_init_81 : decode cX2_init 81 = .ok (.dup, 1) := by decide +kernel
theorem dX2_init_82 : decode cX2_init 82 = .ok (.invokespecial 44, 3) := by decide +kernel
theorem dX2_init_85 : decode cX2_init 85 = .ok (.aastore, 1) := by decide +kernel
theorem dX2_init_86 : decode cX2_init 86 = .ok (.iinc 2 1, 3) := by decide +kernel
theorem dX2_init_89 : decode cX2_init 89 = .ok (.goto (-22), 3) := by decide +kernel
theorem dX2_init_92 : decode cX2_init 92 = .ok (.return_, 1) := by decide +kernel
theorem dX2_mindOf_0 : decode cX2_mindOf 0 = .ok (.aload_n 0, 1) := by decide +kernel
theorem dX2_mindOf_1 : decode cX2_mindOf 1 = .ok (.getfield 13, 3) := by decide +kernel
theorem dX2_mindOf_4 : decode cX2_mindOf 4 = .ok (.iconst 0, 1) := by decide +kernel
theorem dX2_mindOf_5 : decode cX2_mindOf 5 = .ok (.aaload, 1) := by decide +kernel
theorem dX2_mindOf_6 : decode cX2_mindOf 6 = .ok (.aload_n 0, 1) := by decide +kernel
theorem dX2_mindOf_7 : decode cX2_mindOf 7 = .ok (.getfield 40, 3) := by decide +kernel
theorem dX2_mindOf_10 : decode cX2_mindOf 10 = .ok (.iload_n 1, 1) := by decide +kernel
theorem dX2_mindOf_11 : decode cX2_mindOf 11 = .ok (.invokevirtual 45, 3) := by decide +kernel
theorem dX2_mindOf_14 : decode cX2_mindOf 14 = .ok (.aload_n 0, 1) := by decide +kernel
theorem dX2_mindOf_15 : decode cX2_mindOf 15 = .ok (.getfield 13, 3) := by decide +kernel
theorem dX2_mindOf_18 : decode cX2_mindOf 18 = .ok (.iconst 0, 1) := by decide +kernel
theorem dX2_mindOf_19 : decode cX2_mindOf 19 = .ok (.aaload, 1) := by decide +kernel
theorem dX2_mindOf_20 : decode cX2_mindOf 20 = .ok (.areturn, 1) := by decide +kernel
theorem dX2_nodsNow_0 : decode cX2_nodsNow 0 = .ok (.aload_n 0, 1) := by decide +kernel
theorem dX2_nodsNow_1 : decode cX2_nodsNow 1 = .ok (.iload_n 1, 1) := by decide +kernel
theorem dX2_nodsNow_2 : decode cX2_nodsNow 2 = .ok (.invokevirtual 49, 3) := by decide +kernel
theorem dX2_nodsNow_5 : decode cX2_nodsNow 5 = .ok (.astore_n 2, 1) := by decide +kernel
theorem dX2_nodsNow_6 : decode cX2_nodsNow 6 = .ok (.aload_n 0, 1) := by decide +kernel
theorem dX2_nodsNow_7 : decode cX2_nodsNow 7 = .ok (.getfield 40, 3) := by decide +kernel
theorem dX2_nodsNow_10 : decode cX2_nodsNow 10 = .ok (.iload_n 1, 1) := by decide +kernel
theorem dX2_nodsNow_11 : decode cX2_nodsNow 11 = .ok (.invokevirtual 53, 3) := by decide +kernel
theorem dX2_nodsNow_14 : decode cX2_nodsNow 14 = .ok (.istore_n 3, 1) := by decide +kernel
theorem dX2_nodsNow_15 : decode cX2_nodsNow 15 = .ok (.iconst 0, 1) := by decide +kernel
theorem dX2_nodsNow_16 : decode cX2_nodsNow 16 = .ok (.istore 4, 2) := by decide +kernel
theorem dX2_nodsNow_18 : decode cX2_nodsNow 18 = .ok (.iconst 0, 1) := by decide +kernel
theorem dX2_nodsNow_19 : decode cX2_nodsNow 19 = .ok (.istore 5, 2) := by decide +kernel
theorem dX2_nodsNow_21 : decode cX2_nodsNow 21 = .ok (.iload 5, 2) := by decide +kernel
theorem dX2_nodsNow_23 : decode cX2_nodsNow 23 = .ok (.aload_n 0, 1) := by decide +kernel
theorem dX2_nodsNow_24 : decode cX2_nodsNow 24 = .ok (.getfield 40, 3) := by decide +kernel
theorem dX2_nodsNow_27 : decode cX2_nodsNow 27 = .ok (.getfield 59, 3) := by decide +kernel
theorem dX2_nodsNow_30 : decode cX2_nodsNow 30 = .ok (.if_icmp .ge 40, 3) := by decide +kernel
theorem dX2_nodsNow_33 : decode cX2_nodsNow 33 = .ok (.iload_n 3, 1) := by decide +kernel
theorem dX2_nodsNow_34 : decode cX2_nodsNow 34 = .ok (.iload 5, 2) := by decide +kernel
theorem dX2_nodsNow_36 : decode cX2_nodsNow 36 = .ok (.ishr, 1) := by decide +kernel
theorem dX2_nodsNow_37 : decode cX2_nodsNow 37 = .ok (.iconst 1, 1) := by decide +kernel
theorem dX2_nodsNow_38 : decode cX2_nodsNow 38 = .ok (.iand, 1) := by decide +kernel
theorem dX2_nodsNow_39 : decode cX2_nodsNow 39 = .ok (.ifCond .eq 25, 3) := by decide +kernel
theorem dX2_nodsNow_42 : decode cX2_nodsNow 42 = .ok (.aload_n 2, 1) := by decide +kernel
theorem dX2_nodsNow_43 : decode cX2_nodsNow 43 = .ok (.aload_n 0, 1) := by decide +kernel
theorem dX2_nodsNow_44 : decode cX2_nodsNow 44 = .ok (.getfield 40, 3) := by decide +kernel
theorem dX2_nodsNow_47 : decode cX2_nodsNow 47 = .ok (.iload 5, 2) := by decide +kernel
theorem dX2_nodsNow_49 : decode cX2_nodsNow 49 = .ok (.invokevirtual 62, 3) := by decide +kernel
theorem dX2_nodsNow_52 : decode cX2_nodsNow 52 = .ok (.ifCond .eq 12, 3) := by decide +kernel
theorem dX2_nodsNow_55 : decode cX2_nodsNow 55 = .ok (.iload 4, 2) := by decide +kernel
theorem dX2_nodsNow_57 : decode cX2_nodsNow 57 = .ok (.iconst 1, 1) := by decide +kernel
theorem dX2_nodsNow_58 : decode cX2_nodsNow 58 = .ok (.iload 5, 2) := by decide +kernel
theorem dX2_nodsNow_60 : decode cX2_nodsNow 60 = .ok (.ishl, 1) := by decide +kernel
theorem dX2_nodsNow_61 : decode cX2_nodsNow 61 = .ok (.ior, 1) := by decide +kernel
theorem dX2_nodsNow_62 : decode cX2_nodsNow 62 = .ok (.istore 4, 2) := by decide +kernel
theorem dX2_nodsNow_64 : decode cX2_nodsNow 64 = .ok (.iinc 5 1, 3) := by decide +kernel
theorem dX2_nodsNow_67 : decode cX2_nodsNow 67 = .ok (.goto (-46), 3) := by decide +kernel
theorem dX2_nodsNow_70 : decode cX2_nodsNow 70 = .ok (.iload 4, 2) := by decide +kernel
theorem dX2_nodsNow_72 : decode cX2_nodsNow 72 = .ok (.ireturn, 1) := by decide +kernel
theorem dX2_seekOrder_0 : decode cX2_seekOrder 0 = .ok (.aload_n 0, 1) := by decide +kernel
theorem dX2_seekOrder_1 : decode cX2_seekOrder 1 = .ok (.iload_n 1, 1) := by decide +kernel
theorem dX2_seekOrder_2 : decode cX2_seekOrder 2 = .ok (.invokevirtual 49, 3) := by decide +kernel
theorem dX2_seekOrder_5 : decode cX2_seekOrder 5 = .ok (.pop, 1) := by decide +kernel
theorem dX2_seekOrder_6 : decode cX2_seekOrder 6 = .ok (.aload_n 0, 1) := by decide +kernel
theorem dX2_seekOrder_7 : decode cX2_seekOrder 7 = .ok (.iconst 0, 1) := by decide +kernel
theorem dX2_seekOrder_8 : decode cX2_seekOrder 8 = .ok (.putfield 24, 3) := by decide +kernel
theorem dX2_seekOrder_11 : decode cX2_seekOrder 11 = .ok (.aload_n 0, 1) := by decide +kernel
theorem dX2_seekOrder_12 : decode cX2_seekOrder 12 = .ok (.iconst (-1), 1) := by decide +kernel
theorem dX2_seekOrder_13 : decode cX2_seekOrder 13 = .ok (.putfield 28, 3) := by decide +kernel
theorem dX2_seekOrder_16 : decode cX2_seekOrder 16 = .ok (.aload_n 0, 1) := by decide +kernel
theorem dX2_seekOrder_17 : decode cX2_seekOrder 17 = .ok (.iconst 0, 1) := by decide +kernel
theorem dX2_seekOrder_18 : decode cX2_seekOrder 18 = .ok (.iload_n 2, 1) := by decide +kernel
theorem dX2_seekOrder_19 : decode cX2_seekOrder 19 = .ok (.iconst 0, 1) := by decide +kernel
theorem dX2_seekOrder_20 : decode cX2_seekOrder 20 = .ok (.invokevirtual 66, 3) := by decide +kernel
theorem dX2_seekOrder_23 : decode cX2_seekOrder 23 = .ok (.return_, 1) := by decide +kernel
theorem dX2_bestNods_0 : decode cX2_bestNods 0 = .ok (.aload_n 0, 1) := by decide +kernel
theorem dX2_bestNods_1 : decode cX2_bestNods 1 = .ok (.getfield 28, 3) := by decide +kernel
theorem dX2_bestNods_4 : decode cX2_bestNods 4 = .ok (.ireturn, 1) := by decide +kernel
theorem dX2_bestAt_0 : decode cX2_bestAt 0 = .ok (.iload_n 1, 1) := by decide +kernel
theorem dX2_bestAt_1 : decode cX2_bestAt 1 = .ok (.ifCond .lt 20, 3) := by decide +kernel
theorem dX2_bestAt_4 : decode cX2_bestAt 4 = .ok (.iload_n 1, 1) := by decide +kernel
theorem dX2_bestAt_5 : decode cX2_bestAt 5 = .ok (.aload_n 0, 1) := by decide +kernel
theorem dX2_bestAt_6 : decode cX2_bestAt 6 = .ok (.getfield 24, 3) := by decide +kernel
theorem dX2_bestAt_9 : decode cX2_bestAt 9 = .ok (.if_icmp .ge 12, 3) := by decide +kernel
theorem dX2_bestAt_12 : decode cX2_bestAt 12 = .ok (.aload_n 0, 1) := by decide +kernel
theorem dX2_bestAt_13 : decode cX2_bestAt 13 = .ok (.getfield 21, 3) := by decide +kernel
theorem dX2_bestAt_16 : decode cX2_bestAt 16 = .ok (.iload_n 1, 1) := by decide +kernel
theorem dX2_bestAt_17 : decode cX2_bestAt 17 = .ok (.iaload, 1) := by decide +kernel
theorem dX2_bestAt_18 : decode cX2_bestAt 18 = .ok (.goto 5, 3) := by decide +kernel
theorem dX2_bestAt_21 : decode cX2_bestAt 21 = .ok (.ldc 70, 2) := by decide +kernel
theorem dX2_bestAt_23 : decode cX2_bestAt 23 = .ok (.ireturn, 1) := by decide +kernel
theorem dX2_seekOrderFrom_0 : decode cX2_seekOrderFrom 0 = .ok (.iload_n 3, 1) := by decide +kernel
theorem dX2_seekOrderFrom_1 : decode cX2_seekOrderFrom 1 = .ok (.iload_n 2, 1) := by decide +kernel
theorem dX2_seekOrderFrom_2 : decode cX2_seekOrderFrom 2 = .ok (.invokestatic 71, 3) := by decide +kernel
theorem dX2_seekOrderFrom_5 : decode cX2_seekOrderFrom 5 = .ok (.iadd, 1) := by decide +kernel
theorem dX2_seekOrderFrom_6 : decode cX2_seekOrderFrom 6 = .ok (.aload_n 0, 1) := by decide +kernel
theorem dX2_seekOrderFrom_7 : decode cX2_seekOrderFrom 7 = .ok (.getfield 28, 3) := by decide +kernel
theorem dX2_seekOrderFrom_10 : decode cX2_seekOrderFrom 10 = .ok (.if_icmp .gt 4, 3) := by decide +kernel
theorem dX2_seekOrderFrom_13 : decode cX2_seekOrderFrom 13 = .ok (.return_, 1) := by decide +kernel
theorem dX2_seekOrderFrom_14 : decode cX2_seekOrderFrom 14 = .ok (.iload_n 2, 1) := by decide +kernel
theorem dX2_seekOrderFrom_15 : decode cX2_seekOrderFrom 15 = .ok (.ifCond .eq 9, 3) := by decide +kernel
theorem dX2_seekOrderFrom_18 : decode cX2_seekOrderFrom 18 = .ok (.iload_n 1, 1) := by decide +kernel
theorem dX2_seekOrderFrom_19 : decode cX2_seekOrderFrom 19 = .ok (.bipush 6, 2) := by decide +kernel
theorem dX2_seekOrderFrom_21 : decode cX2_seekOrderFrom 21 = .ok (.if_icmp .lt 10, 3) := by decide +kernel
theorem dX2_seekOrderFrom_24 : decode cX2_seekOrderFrom 24 = .ok (.aload_n 0, 1) := by decide +kernel
theorem dX2_seekOrderFrom_25 : decode cX2_seekOrderFrom 25 = .ok (.iload_n 1, 1) := by decide +kernel
theorem dX2_seekOrderFrom_26 : decode cX2_seekOrderFrom 26 = .ok (.iload_n 3, 1) := by decide +kernel
theorem dX2_seekOrderFrom_27 : decode cX2_seekOrderFrom 27 = .ok (.invokevirtual 76, 3) := by decide +kernel
theorem dX2_seekOrderFrom_30 : decode cX2_seekOrderFrom 30 = .ok (.return_, 1) := by decide +kernel
theorem dX2_seekOrderFrom_31 : decode cX2_seekOrderFrom 31 = .ok (.iconst 0, 1) := by decide +kernel
theorem dX2_seekOrderFrom_32 : decode cX2_seekOrderFrom 32 = .ok (.istore 4, 2) := by decide +kernel
theorem dX2_seekOrderFrom_34 : decode cX2_seekOrderFrom 34 = .ok (.iload 4, 2) := by decide +kernel
theorem dX2_seekOrderFrom_36 : decode cX2_seekOrderFrom 36 = .ok (.aload_n 0, 1) := by decide +kernel
theorem dX2_seekOrderFrom_37 : decode cX2_seekOrderFrom 37 = .ok (.getfield 40, 3) := by decide +kernel
theorem dX2_seekOrderFrom_40 : decode cX2_seekOrderFrom 40 = .ok (.getfield 59, 3) := by decide +kernel
theorem dX2_seekOrderFrom_43 : decode cX2_seekOrderFrom 43 = .ok (.if_icmp .ge 54, 3) := by decide +kernel
theorem dX2_seekOrderFrom_46 : decode cX2_seekOrderFrom 46 = .ok (.iload_n 2, 1) := by decide +kernel
theorem dX2_seekOrderFrom_47 : decode cX2_seekOrderFrom 47 = .ok (.iload 4, 2) := by decide +kernel
theorem dX2_seekOrderFrom_49 : decode cX2_seekOrderFrom 49 = .ok (.ishr, 1) := by decide +kernel
theorem dX2_seekOrderFrom_50 : decode cX2_seekOrderFrom 50 = .ok (.iconst 1, 1) := by decide +kernel
theorem dX2_seekOrderFrom_51 : decode cX2_seekOrderFrom 51 = .ok (.iand, 1) := by decide +kernel
theorem dX2_seekOrderFrom_52 : decode cX2_seekOrderFrom 52 = .ok (.ifCond .eq 39, 3) := by decide +kernel
theorem dX2_seekOrderFrom_55 : decode cX2_seekOrderFrom 55 = .ok (.aload_n 0, 1) := by decide +kernel
theorem dX2_seekOrderFrom_56 : decode cX2_seekOrderFrom 56 = .ok (.iload_n 1, 1) := by decide +kernel
theorem dX2_seekOrderFrom_57 : decode cX2_seekOrderFrom 57 = .ok (.iload 4, 2) := by decide +kernel
theorem dX2_seekOrderFrom_59 : decode cX2_seekOrderFrom 59 = .ok (.invokevirtual 80, 3) := by decide +kernel
theorem dX2_seekOrderFrom_62 : decode cX2_seekOrderFrom 62 = .ok (.istore 5, 2) := by decide +kernel
theorem dX2_seekOrderFrom_64 : decode cX2_seekOrderFrom 64 = .ok (.aload_n 0, 1) := by decide +kernel
theorem dX2_seekOrderFrom_65 : decode cX2_seekOrderFrom 65 = .ok (.iload_n 1, 1) := by decide +kernel
theorem dX2_seekOrderFrom_66 : decode cX2_seekOrderFrom 66 = .ok (.iconst 1, 1) := by decide +kernel
theorem dX2_seekOrderFrom_67 : decode cX2_seekOrderFrom 67 = .ok (.iadd, 1) := by decide +kernel
theorem dX2_seekOrderFrom_68 : decode cX2_seekOrderFrom 68 = .ok (.iload_n 2, 1) := by decide +kernel
theorem dX2_seekOrderFrom_69 : decode cX2_seekOrderFrom 69 = .ok (.iconst 1, 1) := by decide +kernel
theorem dX2_seekOrderFrom_70 : decode cX2_seekOrderFrom 70 = .ok (.iload 4, 2) := by decide +kernel
theorem dX2_seekOrderFrom_72 : decode cX2_seekOrderFrom 72 = .ok (.ishl, 1) := by decide +kernel
theorem dX2_seekOrderFrom_73 : decode cX2_seekOrderFrom 73 = .ok (.iconst (-1), 1) := by decide +kernel
theorem dX2_seekOrderFrom_74 : decode cX2_seekOrderFrom 74 = .ok (.ixor, 1) := by decide +kernel
theorem dX2_seekOrderFrom_75 : decode cX2_seekOrderFrom 75 = .ok (.iand, 1) := by decide +kernel
theorem dX2_seekOrderFrom_76 : decode cX2_seekOrderFrom 76 = .ok (.iload 5, 2) := by decide +kernel
theorem dX2_seekOrderFrom_78 : decode cX2_seekOrderFrom 78 = .ok (.ifCond .eq 9, 3) := by decide +kernel
theorem dX2_seekOrderFrom_81 : decode cX2_seekOrderFrom 81 = .ok (.iload_n 3, 1) := by decide +kernel
theorem dX2_seekOrderFrom_82 : decode cX2_seekOrderFrom 82 = .ok (.iconst 1, 1) := by decide +kernel
theorem dX2_seekOrderFrom_83 : decode cX2_seekOrderFrom 83 = .ok (.iadd, 1) := by decide +kernel
theorem dX2_seekOrderFrom_84 : decode cX2_seekOrderFrom 84 = .ok (.goto 4, 3) := by decide +kernel
theorem dX2_seekOrderFrom_87 : decode cX2_seekOrderFrom 87 = .ok (.iload_n 3, 1) := by decide +kernel
theorem dX2_seekOrderFrom_88 : decode cX2_seekOrderFrom 88 = .ok (.invokevirtual 66, 3) := by decide +kernel
theorem dX2_seekOrderFrom_91 : decode cX2_seekOrderFrom 91 = .ok (.iinc 4 1, 3) := by decide +kernel
theorem dX2_seekOrderFrom_94 : decode cX2_seekOrderFrom 94 = .ok (.goto (-60), 3) := by decide +kernel
theorem dX2_seekOrderFrom_97 : decode cX2_seekOrderFrom 97 = .ok (.return_, 1) := by decide +kernel
theorem dX2_keepBest_0 : decode cX2_keepBest 0 = .ok (.aload_n 0, 1) := by decide +kernel
theorem dX2_keepBest_1 : decode cX2_keepBest 1 = .ok (.iload_n 1, 1) := by decide +kernel
theorem dX2_keepBest_2 : decode cX2_keepBest 2 = .ok (.putfield 24, 3) := by decide +kernel
theorem dX2_keepBest_5 : decode cX2_keepBest 5 = .ok (.aload_n 0, 1) := by decide +kernel
theorem dX2_keepBest_6 : decode cX2_keepBest 6 = .ok (.iload_n 2, 1) := by decide +kernel
theorem dX2_keepBest_7 : decode cX2_keepBest 7 = .ok (.putfield 28, 3) := by decide +kernel
theorem dX2_keepBest_10 : decode cX2_keepBest 10 = .ok (.iconst 0, 1) := by decide +kernel
theorem dX2_keepBest_11 : decode cX2_keepBest 11 = .ok (.istore_n 3, 1) := by decide +kernel
theorem dX2_keepBest_12 : decode cX2_keepBest 12 = .ok (.iload_n 3, 1) := by decide +kernel
theorem dX2_keepBest_13 : decode cX2_keepBest 13 = .ok (.iload_n 1, 1) := by decide +kernel
theorem dX2_keepBest_14 : decode cX2_keepBest 14 = .ok (.if_icmp .ge 21, 3) := by decide +kernel
theorem dX2_keepBest_17 : decode cX2_keepBest 17 = .ok (.aload_n 0, 1) := by decide +kernel
theorem dX2_keepBest_18 : decode cX2_keepBest 18 = .ok (.getfield 21, 3) := by decide +kernel
theorem dX2_keepBest_21 : decode cX2_keepBest 21 = .ok (.iload_n 3, 1) := by decide +kernel
theorem dX2_keepBest_22 : decode cX2_keepBest 22 = .ok (.aload_n 0, 1) := by decide +kernel
theorem dX2_keepBest_23 : decode cX2_keepBest 23 = .ok (.getfield 17, 3) := by decide +kernel
theorem dX2_keepBest_26 : decode cX2_keepBest 26 = .ok (.iload_n 3, 1) := by decide +kernel
theorem dX2_keepBest_27 : decode cX2_keepBest 27 = .ok (.iaload, 1) := by decide +kernel
theorem dX2_keepBest_28 : decode cX2_keepBest 28 = .ok (.iastore, 1) := by decide +kernel
theorem dX2_keepBest_29 : decode cX2_keepBest 29 = .ok (.iinc 3 1, 3) := by decide +kernel
theorem dX2_keepBest_32 : decode cX2_keepBest 32 = .ok (.goto (-20), 3) := by decide +kernel
theorem dX2_keepBest_35 : decode cX2_keepBest 35 = .ok (.return_, 1) := by decide +kernel
theorem dX2_tryNext_0 : decode cX2_tryNext 0 = .ok (.aload_n 0, 1) := by decide +kernel
theorem dX2_tryNext_1 : decode cX2_tryNext 1 = .ok (.getfield 17, 3) := by decide +kernel
theorem dX2_tryNext_4 : decode cX2_tryNext 4 = .ok (.iload_n 1, 1) := by decide +kernel
theorem dX2_tryNext_5 : decode cX2_tryNext 5 = .ok (.iload_n 2, 1) := by decide +kernel
theorem dX2_tryNext_6 : decode cX2_tryNext 6 = .ok (.iastore, 1) := by decide +kernel
theorem dX2_tryNext_7 : decode cX2_tryNext 7 = .ok (.aload_n 0, 1) := by decide +kernel
theorem dX2_tryNext_8 : decode cX2_tryNext 8 = .ok (.getfield 13, 3) := by decide +kernel
theorem dX2_tryNext_11 : decode cX2_tryNext 11 = .ok (.iload_n 1, 1) := by decide +kernel
theorem dX2_tryNext_12 : decode cX2_tryNext 12 = .ok (.iconst 1, 1) := by decide +kernel
theorem dX2_tryNext_13 : decode cX2_tryNext 13 = .ok (.iadd, 1) := by decide +kernel
theorem dX2_tryNext_14 : decode cX2_tryNext 14 = .ok (.aaload, 1) := by decide +kernel
theorem dX2_tryNext_15 : decode cX2_tryNext 15 = .ok (.aload_n 0, 1) := by decide +kernel
theorem dX2_tryNext_16 : decode cX2_tryNext 16 = .ok (.getfield 13, 3) := by decide +kernel
theorem dX2_tryNext_19 : decode cX2_tryNext 19 = .ok (.iload_n 1, 1) := by decide +kernel
theorem dX2_tryNext_20 : decode cX2_tryNext 20 = .ok (.aaload, 1) := by decide +kernel
theorem dX2_tryNext_21 : decode cX2_tryNext 21 = .ok (.invokevirtual 84, 3) := by decide +kernel
theorem dX2_tryNext_24 : decode cX2_tryNext 24 = .ok (.aload_n 0, 1) := by decide +kernel
theorem dX2_tryNext_25 : decode cX2_tryNext 25 = .ok (.getfield 13, 3) := by decide +kernel
theorem dX2_tryNext_28 : decode cX2_tryNext 28 = .ok (.iload_n 1, 1) := by decide +kernel
theorem dX2_tryNext_29 : decode cX2_tryNext 29 = .ok (.iconst 1, 1) := by decide +kernel
theorem dX2_tryNext_30 : decode cX2_tryNext 30 = .ok (.iadd, 1) := by decide +kernel
theorem dX2_tryNext_31 : decode cX2_tryNext 31 = .ok (.aaload, 1) := by decide +kernel
theorem dX2_tryNext_32 : decode cX2_tryNext 32 = .ok (.aload_n 0, 1) := by decide +kernel
theorem dX2_tryNext_33 : decode cX2_tryNext 33 = .ok (.getfield 40, 3) := by decide +kernel
theorem dX2_tryNext_36 : decode cX2_tryNext 36 = .ok (.iload_n 2, 1) := by decide +kernel
theorem dX2_tryNext_37 : decode cX2_tryNext 37 = .ok (.invokevirtual 88, 3) := by decide +kernel
theorem dX2_tryNext_40 : decode cX2_tryNext 40 = .ok (.ireturn, 1) := by decide +kernel
theorem dX2_fewestAhead_0 : decode cX2_fewestAhead 0 = .ok (.aload_n 0, 1) := by decide +kernel
theorem dX2_fewestAhead_1 : decode cX2_fewestAhead 1 = .ok (.iload_n 1, 1) := by decide +kernel
theorem dX2_fewestAhead_2 : decode cX2_fewestAhead 2 = .ok (.invokevirtual 49, 3) := by decide +kernel
theorem dX2_fewestAhead_5 : decode cX2_fewestAhead 5 = .ok (.pop, 1) := by decide +kernel
theorem dX2_fewestAhead_6 : decode cX2_fewestAhead 6 = .ok (.aload_n 0, 1) := by decide +kernel
theorem dX2_fewestAhead_7 : decode cX2_fewestAhead 7 = .ok (.getfield 40, 3) := by decide +kernel
theorem dX2_fewestAhead_10 : decode cX2_fewestAhead 10 = .ok (.iload_n 1, 1) := by decide +kernel
theorem dX2_fewestAhead_11 : decode cX2_fewestAhead 11 = .ok (.invokevirtual 53, 3) := by decide +kernel
theorem dX2_fewestAhead_14 : decode cX2_fewestAhead 14 = .ok (.iconst 1, 1) := by decide +kernel
theorem dX2_fewestAhead_15 : decode cX2_fewestAhead 15 = .ok (.iload_n 2, 1) := by decide +kernel
theorem dX2_fewestAhead_16 : decode cX2_fewestAhead 16 = .ok (.ishl, 1) := by decide +kernel
theorem dX2_fewestAhead_17 : decode cX2_fewestAhead 17 = .ok (.iconst (-1), 1) := by decide +kernel
theorem dX2_fewestAhead_18 : decode cX2_fewestAhead 18 = .ok (.ixor, 1) := by decide +kernel
theorem dX2_fewestAhead_19 : decode cX2_fewestAhead 19 = .ok (.iand, 1) := by decide +kernel
theorem dX2_fewestAhead_20 : decode cX2_fewestAhead 20 = .ok (.istore_n 3, 1) := by decide +kernel
theorem dX2_fewestAhead_21 : decode cX2_fewestAhead 21 = .ok (.iload_n 3, 1) := by decide +kernel
theorem dX2_fewestAhead_22 : decode cX2_fewestAhead 22 = .ok (.invokestatic 71, 3) := by decide +kernel
theorem dX2_fewestAhead_25 : decode cX2_fewestAhead 25 = .ok (.istore 4, 2) := by decide +kernel
theorem dX2_fewestAhead_27 : decode cX2_fewestAhead 27 = .ok (.iconst 0, 1) := by decide +kernel
theorem dX2_fewestAhead_28 : decode cX2_fewestAhead 28 = .ok (.istore 5, 2) := by decide +kernel
theorem dX2_fewestAhead_30 : decode cX2_fewestAhead 30 = .ok (.iload 5, 2) := by decide +kernel
theorem dX2_fewestAhead_32 : decode cX2_fewestAhead 32 = .ok (.iload 4, 2) := by decide +kernel
theorem dX2_fewestAhead_34 : decode cX2_fewestAhead 34 = .ok (.if_icmp .gt 24, 3) := by decide +kernel
theorem dX2_fewestAhead_37 : decode cX2_fewestAhead 37 = .ok (.aload_n 0, 1) := by decide +kernel
theorem dX2_fewestAhead_38 : decode cX2_fewestAhead 38 = .ok (.iconst 0, 1) := by decide +kernel
theorem dX2_fewestAhead_39 : decode cX2_fewestAhead 39 = .ok (.iload_n 3, 1) := by decide +kernel
theorem dX2_fewestAhead_40 : decode cX2_fewestAhead 40 = .ok (.iload_n 2, 1) := by decide +kernel
theorem dX2_fewestAhead_41 : decode cX2_fewestAhead 41 = .ok (.iload 5, 2) := by decide +kernel
theorem dX2_fewestAhead_43 : decode cX2_fewestAhead 43 = .ok (.invokevirtual 91, 3) := by decide +kernel
theorem dX2_fewestAhead_46 : decode cX2_fewestAhead 46 = .ok (.ifCond .eq 6, 3) := by decide +kernel
theorem dX2_fewestAhead_49 : decode cX2_fewestAhead 49 = .ok (.iload 5, 2) := by decide +kernel
theorem dX2_fewestAhead_51 : decode cX2_fewestAhead 51 = .ok (.ireturn, 1) := by decide +kernel
theorem dX2_fewestAhead_52 : decode cX2_fewestAhead 52 = .ok (.iinc 5 1, 3) := by decide +kernel
theorem dX2_fewestAhead_55 : decode cX2_fewestAhead 55 = .ok (.goto (-25), 3) := by decide +kernel
theorem dX2_fewestAhead_58 : decode cX2_fewestAhead 58 = .ok (.ldc 70, 2) := by decide +kernel
theorem dX2_fewestAhead_60 : decode cX2_fewestAhead 60 = .ok (.ireturn, 1) := by decide +kernel
theorem dX2_firstAhead_0 : decode cX2_firstAhead 0 = .ok (.aload_n 0, 1) := by decide +kernel
theorem dX2_firstAhead_1 : decode cX2_firstAhead 1 = .ok (.getfield 17, 3) := by decide +kernel
theorem dX2_firstAhead_4 : decode cX2_firstAhead 4 = .ok (.iconst 0, 1) := by decide +kernel
theorem dX2_firstAhead_5 : decode cX2_firstAhead 5 = .ok (.iaload, 1) := by decide +kernel
theorem dX2_firstAhead_6 : decode cX2_firstAhead 6 = .ok (.ireturn, 1) := by decide +kernel
theorem dX2_comesInFrom_0 : decode cX2_comesInFrom 0 = .ok (.iload_n 1, 1) := by decide +kernel
theorem dX2_comesInFrom_1 : decode cX2_comesInFrom 1 = .ok (.iload 4, 2) := by decide +kernel
theorem dX2_comesInFrom_3 : decode cX2_comesInFrom 3 = .ok (.if_icmp .ge 9, 3) := by decide +kernel
theorem dX2_comesInFrom_6 : decode cX2_comesInFrom 6 = .ok (.iload_n 1, 1) := by decide +kernel
theorem dX2_comesInFrom_7 : decode cX2_comesInFrom 7 = .ok (.bipush 6, 2) := by decide +kernel
theorem dX2_comesInFrom_9 : decode cX2_comesInFrom 9 = .ok (.if_icmp .lt 18, 3) := by decide +kernel
theorem dX2_comesInFrom_12 : decode cX2_comesInFrom 12 = .ok (.aload_n 0, 1) := by decide +kernel
theorem dX2_comesInFrom_13 : decode cX2_comesInFrom 13 = .ok (.getfield 13, 3) := by decide +kernel
theorem dX2_comesInFrom_16 : decode cX2_comesInFrom 16 = .ok (.iload_n 1, 1) := by decide +kernel
theorem dX2_comesInFrom_17 : decode cX2_comesInFrom 17 = .ok (.aaload, 1) := by decide +kernel
theorem dX2_comesInFrom_18 : decode cX2_comesInFrom 18 = .ok (.aload_n 0, 1) := by decide +kernel
theorem dX2_comesInFrom_19 : decode cX2_comesInFrom 19 = .ok (.getfield 40, 3) := by decide +kernel
theorem dX2_comesInFrom_22 : decode cX2_comesInFrom 22 = .ok (.iload_n 3, 1) := by decide +kernel
theorem dX2_comesInFrom_23 : decode cX2_comesInFrom 23 = .ok (.invokevirtual 62, 3) := by decide +kernel
theorem dX2_comesInFrom_26 : decode cX2_comesInFrom 26 = .ok (.ireturn, 1) := by decide +kernel
theorem dX2_comesInFrom_27 : decode cX2_comesInFrom 27 = .ok (.iconst 0, 1) := by decide +kernel
theorem dX2_comesInFrom_28 : decode cX2_comesInFrom 28 = .ok (.istore 5, 2) := by decide +kernel
theorem dX2_comesInFrom_30 : decode cX2_comesInFrom 30 = .ok (.iload 5, 2) := by decide +kernel
theorem dX2_comesInFrom_32 : decode cX2_comesInFrom 32 = .ok (.aload_n 0, 1) := by decide +kernel
theorem dX2_comesInFrom_33 : decode cX2_comesInFrom 33 = .ok (.getfield 40, 3) := by decide +kernel
theorem dX2_comesInFrom_36 : decode cX2_comesInFrom 36 = .ok (.getfield 59, 3) := by decide +kernel
theorem dX2_comesInFrom_39 : decode cX2_comesInFrom 39 = .ok (.if_icmp .ge 49, 3) := by decide +kernel
theorem dX2_comesInFrom_42 : decode cX2_comesInFrom 42 = .ok (.iload_n 2, 1) := by decide +kernel
theorem dX2_comesInFrom_43 : decode cX2_comesInFrom 43 = .ok (.iload 5, 2) := by decide +kernel
theorem dX2_comesInFrom_45 : decode cX2_comesInFrom 45 = .ok (.ishr, 1) := by decide +kernel
theorem dX2_comesInFrom_46 : decode cX2_comesInFrom 46 = .ok (.iconst 1, 1) := by decide +kernel
theorem dX2_comesInFrom_47 : decode cX2_comesInFrom 47 = .ok (.iand, 1) := by decide +kernel
theorem dX2_comesInFrom_48 : decode cX2_comesInFrom 48 = .ok (.ifCond .eq 34, 3) := by decide +kernel
theorem dX2_comesInFrom_51 : decode cX2_comesInFrom 51 = .ok (.aload_n 0, 1) := by decide +kernel
theorem dX2_comesInFrom_52 : decode cX2_comesInFrom 52 = .ok (.iload_n 1, 1) := by decide +kernel
theorem dX2_comesInFrom_53 : decode cX2_comesInFrom 53 = .ok (.iload 5, 2) := by decide +kernel
theorem dX2_comesInFrom_55 : decode cX2_comesInFrom 55 = .ok (.invokevirtual 80, 3) := by decide +kernel
theorem dX2_comesInFrom_58 : decode cX2_comesInFrom 58 = .ok (.pop, 1) := by decide +kernel
theorem dX2_comesInFrom_59 : decode cX2_comesInFrom 59 = .ok (.aload_n 0, 1) := by decide +kernel
theorem dX2_comesInFrom_60 : decode cX2_comesInFrom 60 = .ok (.iload_n 1, 1) := by decide +kernel
theorem dX2_comesInFrom_61 : decode cX2_comesInFrom 61 = .ok (.iconst 1, 1) := by decide +kernel
theorem dX2_comesInFrom_62 : decode cX2_comesInFrom 62 = .ok (.iadd, 1) := by decide +kernel
theorem dX2_comesInFrom_63 : decode cX2_comesInFrom 63 = .ok (.iload_n 2, 1) := by decide +kernel
theorem dX2_comesInFrom_64 : decode cX2_comesInFrom 64 = .ok (.iconst 1, 1) := by decide +kernel
theorem dX2_comesInFrom_65 : decode cX2_comesInFrom 65 = .ok (.iload 5, 2) := by decide +kernel
theorem dX2_comesInFrom_67 : decode cX2_comesInFrom 67 = .ok (.ishl, 1) := by decide +kernel
theorem dX2_comesInFrom_68 : decode cX2_comesInFrom 68 = .ok (.iconst (-1), 1) := by decide +kernel
theorem dX2_comesInFrom_69 : decode cX2_comesInFrom 69 = .ok (.ixor, 1) := by decide +kernel
theorem dX2_comesInFrom_70 : decode cX2_comesInFrom 70 = .ok (.iand, 1) := by decide +kernel
theorem dX2_comesInFrom_71 : decode cX2_comesInFrom 71 = .ok (.iload_n 3, 1) := by decide +kernel
theorem dX2_comesInFrom_72 : decode cX2_comesInFrom 72 = .ok (.iload 4, 2) := by decide +kernel
theorem dX2_comesInFrom_74 : decode cX2_comesInFrom 74 = .ok (.invokevirtual 91, 3) := by decide +kernel
theorem dX2_comesInFrom_77 : decode cX2_comesInFrom 77 = .ok (.ifCond .eq 5, 3) := by decide +kernel
theorem dX2_comesInFrom_80 : decode cX2_comesInFrom 80 = .ok (.iconst 1, 1) := by decide +kernel
theorem dX2_comesInFrom_81 : decode cX2_comesInFrom 81 = .ok (.ireturn, 1) := by decide +kernel
theorem dX2_comesInFrom_82 : decode cX2_comesInFrom 82 = .ok (.iinc 5 1, 3) := by decide +kernel
theorem dX2_comesInFrom_85 : decode cX2_comesInFrom 85 = .ok (.goto (-55), 3) := by decide +kernel
theorem dX2_comesInFrom_88 : decode cX2_comesInFrom 88 = .ok (.iconst 0, 1) := by decide +kernel
theorem dX2_comesInFrom_89 : decode cX2_comesInFrom 89 = .ok (.ireturn, 1) := by decide +kernel
theorem dX2_deadLies_0 : decode cX2_deadLies 0 = .ok (.aload_n 0, 1) := by decide +kernel
theorem dX2_deadLies_1 : decode cX2_deadLies 1 = .ok (.iload_n 1, 1) := by decide +kernel
theorem dX2_deadLies_2 : decode cX2_deadLies 2 = .ok (.invokevirtual 49, 3) := by decide +kernel
theorem dX2_deadLies_5 : decode cX2_deadLies 5 = .ok (.pop, 1) := by decide +kernel
theorem dX2_deadLies_6 : decode cX2_deadLies 6 = .ok (.aload_n 0, 1) := by decide +kernel
theorem dX2_deadLies_7 : decode cX2_deadLies 7 = .ok (.getfield 40, 3) := by decide +kernel
theorem dX2_deadLies_10 : decode cX2_deadLies 10 = .ok (.iload_n 1, 1) := by decide +kernel
theorem dX2_deadLies_11 : decode cX2_deadLies 11 = .ok (.invokevirtual 53, 3) := by decide +kernel
theorem dX2_deadLies_14 : decode cX2_deadLies 14 = .ok (.istore_n 2, 1) := by decide +kernel
theorem dX2_deadLies_15 : decode cX2_deadLies 15 = .ok (.aload_n 0, 1) := by decide +kernel
theorem dX2_deadLies_16 : decode cX2_deadLies 16 = .ok (.iconst 0, 1) := by decide +kernel
theorem dX2_deadLies_17 : decode cX2_deadLies 17 = .ok (.iload_n 2, 1) := by decide +kernel
theorem dX2_deadLies_18 : decode cX2_deadLies 18 = .ok (.iload_n 2, 1) := by decide +kernel
theorem dX2_deadLies_19 : decode cX2_deadLies 19 = .ok (.invokevirtual 95, 3) := by decide +kernel
theorem dX2_deadLies_22 : decode cX2_deadLies 22 = .ok (.ireturn, 1) := by decide +kernel
theorem dX2_deadFrom_0 : decode cX2_deadFrom 0 = .ok (.iload_n 3, 1) := by decide +kernel
theorem dX2_deadFrom_1 : decode cX2_deadFrom 1 = .ok (.istore 4, 2) := by decide +kernel
theorem dX2_deadFrom_3 : decode cX2_deadFrom 3 = .ok (.iload_n 1, 1) := by decide +kernel
theorem dX2_deadFrom_4 : decode cX2_deadFrom 4 = .ok (.bipush 6, 2) := by decide +kernel
theorem dX2_deadFrom_6 : decode cX2_deadFrom 6 = .ok (.if_icmp .lt 6, 3) := by decide +kernel
theorem dX2_deadFrom_9 : decode cX2_deadFrom 9 = .ok (.iload 4, 2) := by decide +kernel
theorem dX2_deadFrom_11 : decode cX2_deadFrom 11 = .ok (.ireturn, 1) := by decide +kernel
theorem dX2_deadFrom_12 : decode cX2_deadFrom 12 = .ok (.iconst 0, 1) := by decide +kernel
theorem dX2_deadFrom_13 : decode cX2_deadFrom 13 = .ok (.istore 5, 2) := by decide +kernel
theorem dX2_deadFrom_15 : decode cX2_deadFrom 15 = .ok (.iload 5, 2) := by decide +kernel
theorem dX2_deadFrom_17 : decode cX2_deadFrom 17 = .ok (.aload_n 0, 1) := by decide +kernel
theorem dX2_deadFrom_18 : decode cX2_deadFrom 18 = .ok (.getfield 40, 3) := by decide +kernel
theorem dX2_deadFrom_21 : decode cX2_deadFrom 21 = .ok (.getfield 59, 3) := by decide +kernel
theorem dX2_deadFrom_24 : decode cX2_deadFrom 24 = .ok (.if_icmp .ge 63, 3) := by decide +kernel
theorem dX2_deadFrom_27 : decode cX2_deadFrom 27 = .ok (.iload 4, 2) := by decide +kernel
theorem dX2_deadFrom_29 : decode cX2_deadFrom 29 = .ok (.ifCond .eq 58, 3) := by decide +kernel
theorem dX2_deadFrom_32 : decode cX2_deadFrom 32 = .ok (.iload_n 2, 1) := by decide +kernel
theorem dX2_deadFrom_33 : decode cX2_deadFrom 33 = .ok (.iload 5, 2) := by decide +kernel
theorem dX2_deadFrom_35 : decode cX2_deadFrom 35 = .ok (.ishr, 1) := by decide +kernel
theorem dX2_deadFrom_36 : decode cX2_deadFrom 36 = .ok (.iconst 1, 1) := by decide +kernel
theorem dX2_deadFrom_37 : decode cX2_deadFrom 37 = .ok (.iand, 1) := by decide +kernel
theorem dX2_deadFrom_38 : decode cX2_deadFrom 38 = .ok (.ifCond .eq 43, 3) := by decide +kernel
theorem dX2_deadFrom_41 : decode cX2_deadFrom 41 = .ok (.aload_n 0, 1) := by decide +kernel
theorem dX2_deadFrom_42 : decode cX2_deadFrom 42 = .ok (.iload_n 1, 1) := by decide +kernel
theorem dX2_deadFrom_43 : decode cX2_deadFrom 43 = .ok (.iload 5, 2) := by decide +kernel
theorem dX2_deadFrom_45 : decode cX2_deadFrom 45 = .ok (.invokevirtual 80, 3) := by decide +kernel
theorem dX2_deadFrom_48 : decode cX2_deadFrom 48 = .ok (.ifCond .eq 14, 3) := by decide +kernel
theorem dX2_deadFrom_51 : decode cX2_deadFrom 51 = .ok (.iload 4, 2) := by decide +kernel
theorem dX2_deadFrom_53 : decode cX2_deadFrom 53 = .ok (.iconst 1, 1) := by decide +kernel
theorem dX2_deadFrom_54 : decode cX2_deadFrom 54 = .ok (.iload 5, 2) := by decide +kernel
theorem dX2_deadFrom_56 : decode cX2_deadFrom 56 = .ok (.ishl, 1) := by decide +kernel
theorem dX2_deadFrom_57 : decode cX2_deadFrom 57 = .ok (.iconst (-1), 1) := by decide +kernel
theorem dX2_deadFrom_58 : decode cX2_deadFrom 58 = .ok (.ixor, 1) := by decide +kernel
theorem dX2_deadFrom_59 : decode cX2_deadFrom 59 = .ok (.iand, 1) := by decide +kernel
theorem dX2_deadFrom_60 : decode cX2_deadFrom 60 = .ok (.istore 4, 2) := by decide +kernel
theorem dX2_deadFrom_62 : decode cX2_deadFrom 62 = .ok (.aload_n 0, 1) := by decide +kernel
theorem dX2_deadFrom_63 : decode cX2_deadFrom 63 = .ok (.iload_n 1, 1) := by decide +kernel
theorem dX2_deadFrom_64 : decode cX2_deadFrom 64 = .ok (.iconst 1, 1) := by decide +kernel
theorem dX2_deadFrom_65 : decode cX2_deadFrom 65 = .ok (.iadd, 1) := by decide +kernel
theorem dX2_deadFrom_66 : decode cX2_deadFrom 66 = .ok (.iload_n 2, 1) := by decide +kernel
theorem dX2_deadFrom_67 : decode cX2_deadFrom 67 = .ok (.iconst 1, 1) := by decide +kernel
theorem dX2_deadFrom_68 : decode cX2_deadFrom 68 = .ok (.iload 5, 2) := by decide +kernel
theorem dX2_deadFrom_70 : decode cX2_deadFrom 70 = .ok (.ishl, 1) := by decide +kernel
theorem dX2_deadFrom_71 : decode cX2_deadFrom 71 = .ok (.iconst (-1), 1) := by decide +kernel
theorem dX2_deadFrom_72 : decode cX2_deadFrom 72 = .ok (.ixor, 1) := by decide +kernel
theorem dX2_deadFrom_73 : decode cX2_deadFrom 73 = .ok (.iand, 1) := by decide +kernel
theorem dX2_deadFrom_74 : decode cX2_deadFrom 74 = .ok (.iload 4, 2) := by decide +kernel
theorem dX2_deadFrom_76 : decode cX2_deadFrom 76 = .ok (.invokevirtual 95, 3) := by decide +kernel
theorem dX2_deadFrom_79 : decode cX2_deadFrom 79 = .ok (.istore 4, 2) := by decide +kernel
theorem dX2_deadFrom_81 : decode cX2_deadFrom 81 = .ok (.iinc 5 1, 3) := by decide +kernel
theorem dX2_deadFrom_84 : decode cX2_deadFrom 84 = .ok (.goto (-69), 3) := by decide +kernel
theorem dX2_deadFrom_87 : decode cX2_deadFrom 87 = .ok (.iload 4, 2) := by decide +kernel
theorem dX2_deadFrom_89 : decode cX2_deadFrom 89 = .ok (.ireturn, 1) := by decide +kernel
theorem dX2_helpEachOther_0 : decode cX2_helpEachOther 0 = .ok (.aload_n 0, 1) := by decide +kernel
theorem dX2_helpEachOther_1 : decode cX2_helpEachOther 1 = .ok (.getfield 40, 3) := by decide +kernel
theorem dX2_helpEachOther_4 : decode cX2_helpEachOther 4 = .ok (.iload_n 1, 1) := by decide +kernel
theorem dX2_helpEachOther_5 : decode cX2_helpEachOther 5 = .ok (.iload_n 2, 1) := by decide +kernel
theorem dX2_helpEachOther_6 : decode cX2_helpEachOther 6 = .ok (.invokevirtual 99, 3) := by decide +kernel
theorem dX2_helpEachOther_9 : decode cX2_helpEachOther 9 = .ok (.ifCond .ne 15, 3) := by decide +kernel
theorem dX2_helpEachOther_12 : decode cX2_helpEachOther 12 = .ok (.aload_n 0, 1) := by decide +kernel
theorem dX2_helpEachOther_13 : decode cX2_helpEachOther 13 = .ok (.getfield 40, 3) := by decide +kernel
theorem dX2_helpEachOther_16 : decode cX2_helpEachOther 16 = .ok (.iload_n 1, 1) := by decide +kernel
theorem dX2_helpEachOther_17 : decode cX2_helpEachOther 17 = .ok (.iload_n 3, 1) := by decide +kernel
theorem dX2_helpEachOther_18 : decode cX2_helpEachOther 18 = .ok (.invokevirtual 99, 3) := by decide +kernel
theorem dX2_helpEachOther_21 : decode cX2_helpEachOther 21 = .ok (.ifCond .eq 5, 3) := by decide +kernel
theorem dX2_helpEachOther_24 : decode cX2_helpEachOther 24 = .ok (.iconst 0, 1) := by decide +kernel
theorem dX2_helpEachOther_25 : decode cX2_helpEachOther 25 = .ok (.ireturn, 1) := by decide +kernel
theorem dX2_helpEachOther_26 : decode cX2_helpEachOther 26 = .ok (.aload_n 0, 1) := by decide +kernel
theorem dX2_helpEachOther_27 : decode cX2_helpEachOther 27 = .ok (.iload_n 1, 1) := by decide +kernel
theorem dX2_helpEachOther_28 : decode cX2_helpEachOther 28 = .ok (.invokevirtual 49, 3) := by decide +kernel
theorem dX2_helpEachOther_31 : decode cX2_helpEachOther 31 = .ok (.pop, 1) := by decide +kernel
theorem dX2_helpEachOther_32 : decode cX2_helpEachOther 32 = .ok (.aload_n 0, 1) := by decide +kernel
theorem dX2_helpEachOther_33 : decode cX2_helpEachOther 33 = .ok (.iload_n 2, 1) := by decide +kernel
theorem dX2_helpEachOther_34 : decode cX2_helpEachOther 34 = .ok (.iload_n 3, 1) := by decide +kernel
theorem dX2_helpEachOther_35 : decode cX2_helpEachOther 35 = .ok (.invokevirtual 102, 3) := by decide +kernel
theorem dX2_helpEachOther_38 : decode cX2_helpEachOther 38 = .ok (.ifCond .ne 12, 3) := by decide +kernel
theorem dX2_helpEachOther_41 : decode cX2_helpEachOther 41 = .ok (.aload_n 0, 1) := by decide +kernel
theorem dX2_helpEachOther_42 : decode cX2_helpEachOther 42 = .ok (.iload_n 3, 1) := by decide +kernel
theorem dX2_helpEachOther_43 : decode cX2_helpEachOther 43 = .ok (.iload_n 2, 1) := by decide +kernel
theorem dX2_helpEachOther_44 : decode cX2_helpEachOther 44 = .ok (.invokevirtual 102, 3) := by decide +kernel
theorem dX2_helpEachOther_47 : decode cX2_helpEachOther 47 = .ok (.ifCond .eq 7, 3) := by decide +kernel
theorem dX2_helpEachOther_50 : decode cX2_helpEachOther 50 = .ok (.iconst 1, 1) := by decide +kernel
theorem dX2_helpEachOther_51 : decode cX2_helpEachOther 51 = .ok (.goto 4, 3) := by decide +kernel
theorem dX2_helpEachOther_54 : decode cX2_helpEachOther 54 = .ok (.iconst 0, 1) := by decide +kernel
theorem dX2_helpEachOther_55 : decode cX2_helpEachOther 55 = .ok (.ireturn, 1) := by decide +kernel
theorem dX2_bringsIn_0 : decode cX2_bringsIn 0 = .ok (.aload_n 0, 1) := by decide +kernel
theorem dX2_bringsIn_1 : decode cX2_bringsIn 1 = .ok (.getfield 13, 3) := by decide +kernel
theorem dX2_bringsIn_4 : decode cX2_bringsIn 4 = .ok (.iconst 0, 1) := by decide +kernel
theorem dX2_bringsIn_5 : decode cX2_bringsIn 5 = .ok (.aaload, 1) := by decide +kernel
theorem dX2_bringsIn_6 : decode cX2_bringsIn 6 = .ok (.aload_n 0, 1) := by decide +kernel
theorem dX2_bringsIn_7 : decode cX2_bringsIn 7 = .ok (.getfield 40, 3) := by decide +kernel
theorem dX2_bringsIn_10 : decode cX2_bringsIn 10 = .ok (.iload_n 2, 1) := by decide +kernel
theorem dX2_bringsIn_11 : decode cX2_bringsIn 11 = .ok (.invokevirtual 62, 3) := by decide +kernel
theorem dX2_bringsIn_14 : decode cX2_bringsIn 14 = .ok (.ifCond .eq 5, 3) := by decide +kernel
theorem dX2_bringsIn_17 : decode cX2_bringsIn 17 = .ok (.iconst 0, 1) := by decide +kernel
theorem dX2_bringsIn_18 : decode cX2_bringsIn 18 = .ok (.ireturn, 1) := by decide +kernel
theorem dX2_bringsIn_19 : decode cX2_bringsIn 19 = .ok (.aload_n 0, 1) := by decide +kernel
theorem dX2_bringsIn_20 : decode cX2_bringsIn 20 = .ok (.iconst 0, 1) := by decide +kernel
theorem dX2_bringsIn_21 : decode cX2_bringsIn 21 = .ok (.iload_n 1, 1) := by decide +kernel
theorem dX2_bringsIn_22 : decode cX2_bringsIn 22 = .ok (.invokevirtual 80, 3) := by decide +kernel
theorem dX2_bringsIn_25 : decode cX2_bringsIn 25 = .ok (.pop, 1) := by decide +kernel
theorem dX2_bringsIn_26 : decode cX2_bringsIn 26 = .ok (.aload_n 0, 1) := by decide +kernel
theorem dX2_bringsIn_27 : decode cX2_bringsIn 27 = .ok (.getfield 13, 3) := by decide +kernel
theorem dX2_bringsIn_30 : decode cX2_bringsIn 30 = .ok (.iconst 1, 1) := by decide +kernel
theorem dX2_bringsIn_31 : decode cX2_bringsIn 31 = .ok (.aaload, 1) := by decide +kernel
theorem dX2_bringsIn_32 : decode cX2_bringsIn 32 = .ok (.aload_n 0, 1) := by decide +kernel
theorem dX2_bringsIn_33 : decode cX2_bringsIn 33 = .ok (.getfield 40, 3) := by decide +kernel
theorem dX2_bringsIn_36 : decode cX2_bringsIn 36 = .ok (.iload_n 2, 1) := by decide +kernel
theorem dX2_bringsIn_37 : decode cX2_bringsIn 37 = .ok (.invokevirtual 62, 3) := by decide +kernel
theorem dX2_bringsIn_40 : decode cX2_bringsIn 40 = .ok (.ireturn, 1) := by decide +kernel
theorem dX2_takeTelling_0 : decode cX2_takeTelling 0 = .ok (.iconst 0, 1) := by decide +kernel
theorem dX2_takeTelling_1 : decode cX2_takeTelling 1 = .ok (.istore 5, 2) := by decide +kernel
theorem dX2_takeTelling_3 : decode cX2_takeTelling 3 = .ok (.iload 5, 2) := by decide +kernel
theorem dX2_takeTelling_5 : decode cX2_takeTelling 5 = .ok (.iload 4, 2) := by decide +kernel
theorem dX2_takeTelling_7 : decode cX2_takeTelling 7 = .ok (.if_icmp .ge 65, 3) := by decide +kernel
theorem dX2_takeTelling_10 : decode cX2_takeTelling 10 = .ok (.aload_n 1, 1) := by decide +kernel
theorem dX2_takeTelling_11 : decode cX2_takeTelling 11 = .ok (.iload_n 2, 1) := by decide +kernel
theorem dX2_takeTelling_12 : decode cX2_takeTelling 12 = .ok (.iload_n 3, 1) := by decide +kernel
theorem dX2_takeTelling_13 : decode cX2_takeTelling 13 = .ok (.iconst 2, 1) := by decide +kernel
theorem dX2_takeTelling_14 : decode cX2_takeTelling 14 = .ok (.iload 5, 2) := by decide +kernel
theorem dX2_takeTelling_16 : decode cX2_takeTelling 16 = .ok (.imul, 1) := by decide +kernel
theorem dX2_takeTelling_17 : decode cX2_takeTelling 17 = .ok (.iadd, 1) := by decide +kernel
theorem dX2_takeTelling_18 : decode cX2_takeTelling 18 = .ok (.invokevirtual 105, 3) := by decide +kernel
theorem dX2_takeTelling_21 : decode cX2_takeTelling 21 = .ok (.istore 6, 2) := by decide +kernel
theorem dX2_takeTelling_23 : decode cX2_takeTelling 23 = .ok (.aload_n 0, 1) := by decide +kernel
theorem dX2_takeTelling_24 : decode cX2_takeTelling 24 = .ok (.getfield 40, 3) := by decide +kernel
theorem dX2_takeTelling_27 : decode cX2_takeTelling 27 = .ok (.iload 6, 2) := by decide +kernel
theorem dX2_takeTelling_29 : decode cX2_takeTelling 29 = .ok (.invokevirtual 111, 3) := by decide +kernel
theorem dX2_takeTelling_32 : decode cX2_takeTelling 32 = .ok (.ifCond .ne 5, 3) := by decide +kernel
theorem dX2_takeTelling_35 : decode cX2_takeTelling 35 = .ok (.iconst 0, 1) := by decide +kernel
theorem dX2_takeTelling_36 : decode cX2_takeTelling 36 = .ok (.ireturn, 1) := by decide +kernel
theorem dX2_takeTelling_37 : decode cX2_takeTelling 37 = .ok (.aload_n 0, 1) := by decide +kernel
theorem dX2_takeTelling_38 : decode cX2_takeTelling 38 = .ok (.getfield 31, 3) := by decide +kernel
theorem dX2_takeTelling_41 : decode cX2_takeTelling 41 = .ok (.iload 5, 2) := by decide +kernel
theorem dX2_takeTelling_43 : decode cX2_takeTelling 43 = .ok (.iload 6, 2) := by decide +kernel
theorem dX2_takeTelling_45 : decode cX2_takeTelling 45 = .ok (.iastore, 1) := by decide +kernel
theorem dX2_takeTelling_46 : decode cX2_takeTelling 46 = .ok (.aload_n 0, 1) := by decide +kernel
theorem dX2_takeTelling_47 : decode cX2_takeTelling 47 = .ok (.getfield 34, 3) := by decide +kernel
theorem dX2_takeTelling_50 : decode cX2_takeTelling 50 = .ok (.iload 5, 2) := by decide +kernel
theorem dX2_takeTelling_52 : decode cX2_takeTelling 52 = .ok (.aload_n 1, 1) := by decide +kernel
theorem dX2_takeTelling_53 : decode cX2_takeTelling 53 = .ok (.iload_n 2, 1) := by decide +kernel
theorem dX2_takeTelling_54 : decode cX2_takeTelling 54 = .ok (.iload_n 3, 1) := by decide +kernel
theorem dX2_takeTelling_55 : decode cX2_takeTelling 55 = .ok (.iconst 2, 1) := by decide +kernel
theorem dX2_takeTelling_56 : decode cX2_takeTelling 56 = .ok (.iload 5, 2) := by decide +kernel
theorem dX2_takeTelling_58 : decode cX2_takeTelling 58 = .ok (.imul, 1) := by decide +kernel
theorem dX2_takeTelling_59 : decode cX2_takeTelling 59 = .ok (.iadd, 1) := by decide +kernel
theorem dX2_takeTelling_60 : decode cX2_takeTelling 60 = .ok (.iconst 1, 1) := by decide +kernel
theorem dX2_takeTelling_61 : decode cX2_takeTelling 61 = .ok (.iadd, 1) := by decide +kernel
theorem dX2_takeTelling_62 : decode cX2_takeTelling 62 = .ok (.invokevirtual 105, 3) := by decide +kernel
theorem dX2_takeTelling_65 : decode cX2_takeTelling 65 = .ok (.iastore, 1) := by decide +kernel
theorem dX2_takeTelling_66 : decode cX2_takeTelling 66 = .ok (.iinc 5 1, 3) := by decide +kernel
theorem dX2_takeTelling_69 : decode cX2_takeTelling 69 = .ok (.goto (-66), 3) := by decide +kernel
theorem dX2_takeTelling_72 : decode cX2_takeTelling 72 = .ok (.aload_n 0, 1) := by decide +kernel
theorem dX2_takeTelling_73 : decode cX2_takeTelling 73 = .ok (.iload 4, 2) := by decide +kernel
theorem dX2_takeTelling_75 : decode cX2_takeTelling 75 = .ok (.putfield 37, 3) := by decide +kernel
theorem dX2_takeTelling_78 : decode cX2_takeTelling 78 = .ok (.iconst 1, 1) := by decide +kernel
theorem dX2_takeTelling_79 : decode cX2_takeTelling 79 = .ok (.ireturn, 1) := by decide +kernel
theorem dX2_goesSo_0 : decode cX2_goesSo 0 = .ok (.aload_n 0, 1) := by decide +kernel
theorem dX2_goesSo_1 : decode cX2_goesSo 1 = .ok (.iload_n 1, 1) := by decide +kernel
theorem dX2_goesSo_2 : decode cX2_goesSo 2 = .ok (.invokevirtual 49, 3) := by decide +kernel
theorem dX2_goesSo_5 : decode cX2_goesSo 5 = .ok (.astore 4, 2) := by decide +kernel
theorem dX2_goesSo_7 : decode cX2_goesSo 7 = .ok (.aload 4, 2) := by decide +kernel
theorem dX2_goesSo_9 : decode cX2_goesSo 9 = .ok (.iload_n 2, 1) := by decide +kernel
theorem dX2_goesSo_10 : decode cX2_goesSo 10 = .ok (.putfield 115, 3) := by decide +kernel
theorem dX2_goesSo_13 : decode cX2_goesSo 13 = .ok (.aload 4, 2) := by decide +kernel
theorem dX2_goesSo_15 : decode cX2_goesSo 15 = .ok (.iload_n 3, 1) := by decide +kernel
theorem dX2_goesSo_16 : decode cX2_goesSo 16 = .ok (.putfield 118, 3) := by decide +kernel
theorem dX2_goesSo_19 : decode cX2_goesSo 19 = .ok (.iconst 0, 1) := by decide +kernel
theorem dX2_goesSo_20 : decode cX2_goesSo 20 = .ok (.istore 5, 2) := by decide +kernel
theorem dX2_goesSo_22 : decode cX2_goesSo 22 = .ok (.iload 5, 2) := by decide +kernel
theorem dX2_goesSo_24 : decode cX2_goesSo 24 = .ok (.aload_n 0, 1) := by decide +kernel
theorem dX2_goesSo_25 : decode cX2_goesSo 25 = .ok (.getfield 37, 3) := by decide +kernel
theorem dX2_goesSo_28 : decode cX2_goesSo 28 = .ok (.if_icmp .ge 49, 3) := by decide +kernel
theorem dX2_goesSo_31 : decode cX2_goesSo 31 = .ok (.aload 4, 2) := by decide +kernel
theorem dX2_goesSo_33 : decode cX2_goesSo 33 = .ok (.aload_n 0, 1) := by decide +kernel
theorem dX2_goesSo_34 : decode cX2_goesSo 34 = .ok (.getfield 40, 3) := by decide +kernel
theorem dX2_goesSo_37 : decode cX2_goesSo 37 = .ok (.aload_n 0, 1) := by decide +kernel
theorem dX2_goesSo_38 : decode cX2_goesSo 38 = .ok (.getfield 31, 3) := by decide +kernel
theorem dX2_goesSo_41 : decode cX2_goesSo 41 = .ok (.iload 5, 2) := by decide +kernel
theorem dX2_goesSo_43 : decode cX2_goesSo 43 = .ok (.iaload, 1) := by decide +kernel
theorem dX2_goesSo_44 : decode cX2_goesSo 44 = .ok (.invokevirtual 88, 3) := by decide +kernel
theorem dX2_goesSo_47 : decode cX2_goesSo 47 = .ok (.ifCond .eq 7, 3) := by decide +kernel
theorem dX2_goesSo_50 : decode cX2_goesSo 50 = .ok (.iconst 1, 1) := by decide +kernel
theorem dX2_goesSo_51 : decode cX2_goesSo 51 = .ok (.goto 4, 3) := by decide +kernel
theorem dX2_goesSo_54 : decode cX2_goesSo 54 = .ok (.iconst 0, 1) := by decide +kernel
theorem dX2_goesSo_55 : decode cX2_goesSo 55 = .ok (.istore 6, 2) := by decide +kernel
theorem dX2_goesSo_57 : decode cX2_goesSo 57 = .ok (.iload 6, 2) := by decide +kernel
theorem dX2_goesSo_59 : decode cX2_goesSo 59 = .ok (.aload_n 0, 1) := by decide +kernel
theorem dX2_goesSo_60 : decode cX2_goesSo 60 = .ok (.getfield 34, 3) := by decide +kernel
theorem dX2_goesSo_63 : decode cX2_goesSo 63 = .ok (.iload 5, 2) := by decide +kernel
theorem dX2_goesSo_65 : decode cX2_goesSo 65 = .ok (.iaload, 1) := by decide +kernel
theorem dX2_goesSo_66 : decode cX2_goesSo 66 = .ok (.if_icmp .eq 5, 3) := by decide +kernel
theorem dX2_goesSo_69 : decode cX2_goesSo 69 = .ok (.iconst 0, 1) := by decide +kernel
theorem dX2_goesSo_70 : decode cX2_goesSo 70 = .ok (.ireturn, 1) := by decide +kernel
theorem dX2_goesSo_71 : decode cX2_goesSo 71 = .ok (.iinc 5 1, 3) := by decide +kernel
theorem dX2_goesSo_74 : decode cX2_goesSo 74 = .ok (.goto (-52), 3) := by decide +kernel
theorem dX2_goesSo_77 : decode cX2_goesSo 77 = .ok (.iconst 1, 1) := by decide +kernel
theorem dX2_goesSo_78 : decode cX2_goesSo 78 = .ok (.ireturn, 1) := by decide +kernel
theorem dX2_waysToNod_0 : decode cX2_waysToNod 0 = .ok (.aload_n 0, 1) := by decide +kernel
theorem dX2_waysToNod_1 : decode cX2_waysToNod 1 = .ok (.iload_n 1, 1) := by decide +kernel
theorem dX2_waysToNod_2 : decode cX2_waysToNod 2 = .ok (.invokevirtual 49, 3) := by decide +kernel
theorem dX2_waysToNod_5 : decode cX2_waysToNod 5 = .ok (.pop, 1) := by decide +kernel
theorem dX2_waysToNod_6 : decode cX2_waysToNod 6 = .ok (.aload_n 0, 1) := by decide +kernel
theorem dX2_waysToNod_7 : decode cX2_waysToNod 7 = .ok (.iconst 0, 1) := by decide +kernel
theorem dX2_waysToNod_8 : decode cX2_waysToNod 8 = .ok (.iload_n 2, 1) := by decide +kernel
theorem dX2_waysToNod_9 : decode cX2_waysToNod 9 = .ok (.iload_n 3, 1) := by decide +kernel
theorem dX2_waysToNod_10 : decode cX2_waysToNod 10 = .ok (.invokevirtual 121, 3) := by decide +kernel
theorem dX2_waysToNod_13 : decode cX2_waysToNod 13 = .ok (.ireturn, 1) := by decide +kernel
theorem dX2_waysInAll_0 : decode cX2_waysInAll 0 = .ok (.iconst 1, 1) := by decide +kernel
theorem dX2_waysInAll_1 : decode cX2_waysInAll 1 = .ok (.istore_n 1, 1) := by decide +kernel
theorem dX2_waysInAll_2 : decode cX2_waysInAll 2 = .ok (.iconst 0, 1) := by decide +kernel
theorem dX2_waysInAll_3 : decode cX2_waysInAll 3 = .ok (.istore_n 2, 1) := by decide +kernel
theorem dX2_waysInAll_4 : decode cX2_waysInAll 4 = .ok (.iload_n 2, 1) := by decide +kernel
theorem dX2_waysInAll_5 : decode cX2_waysInAll 5 = .ok (.aload_n 0, 1) := by decide +kernel
theorem dX2_waysInAll_6 : decode cX2_waysInAll 6 = .ok (.getfield 37, 3) := by decide +kernel
theorem dX2_waysInAll_9 : decode cX2_waysInAll 9 = .ok (.if_icmp .ge 14, 3) := by decide +kernel
theorem dX2_waysInAll_12 : decode cX2_waysInAll 12 = .ok (.iload_n 1, 1) := by decide +kernel
theorem dX2_waysInAll_13 : decode cX2_waysInAll 13 = .ok (.bipush 10, 2) := by decide +kernel
theorem dX2_waysInAll_15 : decode cX2_waysInAll 15 = .ok (.imul, 1) := by decide +kernel
theorem dX2_waysInAll_16 : decode cX2_waysInAll 16 = .ok (.istore_n 1, 1) := by decide +kernel
theorem dX2_waysInAll_17 : decode cX2_waysInAll 17 = .ok (.iinc 2 1, 3) := by decide +kernel
theorem dX2_waysInAll_20 : decode cX2_waysInAll 20 = .ok (.goto (-16), 3) := by decide +kernel
theorem dX2_waysInAll_23 : decode cX2_waysInAll 23 = .ok (.iload_n 1, 1) := by decide +kernel
theorem dX2_waysInAll_24 : decode cX2_waysInAll 24 = .ok (.ireturn, 1) := by decide +kernel
theorem dX2_waysFrom_0 : decode cX2_waysFrom 0 = .ok (.iload_n 1, 1) := by decide +kernel
theorem dX2_waysFrom_1 : decode cX2_waysFrom 1 = .ok (.aload_n 0, 1) := by decide +kernel
theorem dX2_waysFrom_2 : decode cX2_waysFrom 2 = .ok (.getfield 37, 3) := by decide +kernel
theorem dX2_waysFrom_5 : decode cX2_waysFrom 5 = .ok (.if_icmp .ge 9, 3) := by decide +kernel
theorem dX2_waysFrom_8 : decode cX2_waysFrom 8 = .ok (.iload_n 1, 1) := by decide +kernel
theorem dX2_waysFrom_9 : decode cX2_waysFrom 9 = .ok (.bipush 6, 2) := by decide +kernel
theorem dX2_waysFrom_11 : decode cX2_waysFrom 11 = .ok (.if_icmp .lt 13, 3) := by decide +kernel
theorem dX2_waysFrom_14 : decode cX2_waysFrom 14 = .ok (.iload_n 2, 1) := by decide +kernel
theorem dX2_waysFrom_15 : decode cX2_waysFrom 15 = .ok (.ifCond .gt 7, 3) := by decide +kernel
theorem dX2_waysFrom_18 : decode cX2_waysFrom 18 = .ok (.iconst 1, 1) := by decide +kernel
theorem dX2_waysFrom_19 : decode cX2_waysFrom 19 = .ok (.goto 4, 3) := by decide +kernel
theorem dX2_waysFrom_22 : decode cX2_waysFrom 22 = .ok (.iconst 0, 1) := by decide +kernel
theorem dX2_waysFrom_23 : decode cX2_waysFrom 23 = .ok (.ireturn, 1) := by decide +kernel
theorem dX2_waysFrom_24 : decode cX2_waysFrom 24 = .ok (.aload_n 0, 1) := by decide +kernel
theorem dX2_waysFrom_25 : decode cX2_waysFrom 25 = .ok (.getfield 31, 3) := by decide +kernel
theorem dX2_waysFrom_28 : decode cX2_waysFrom 28 = .ok (.iload_n 1, 1) := by decide +kernel
theorem dX2_waysFrom_29 : decode cX2_waysFrom 29 = .ok (.iaload, 1) := by decide +kernel
theorem dX2_waysFrom_30 : decode cX2_waysFrom 30 = .ok (.istore 4, 2) := by decide +kernel
theorem dX2_waysFrom_32 : decode cX2_waysFrom 32 = .ok (.aload_n 0, 1) := by decide +kernel
theorem dX2_waysFrom_33 : decode cX2_waysFrom 33 = .ok (.getfield 13, 3) := by decide +kernel
theorem dX2_waysFrom_36 : decode cX2_waysFrom 36 = .ok (.iload_n 1, 1) := by decide +kernel
theorem dX2_waysFrom_37 : decode cX2_waysFrom 37 = .ok (.aaload, 1) := by decide +kernel
theorem dX2_waysFrom_38 : decode cX2_waysFrom 38 = .ok (.aload_n 0, 1) := by decide +kernel
theorem dX2_waysFrom_39 : decode cX2_waysFrom 39 = .ok (.getfield 40, 3) := by decide +kernel
theorem dX2_waysFrom_42 : decode cX2_waysFrom 42 = .ok (.iload 4, 2) := by decide +kernel
theorem dX2_waysFrom_44 : decode cX2_waysFrom 44 = .ok (.invokevirtual 62, 3) := by decide +kernel
theorem dX2_waysFrom_47 : decode cX2_waysFrom 47 = .ok (.istore 5, 2) := by decide +kernel
theorem dX2_waysFrom_49 : decode cX2_waysFrom 49 = .ok (.aload_n 0, 1) := by decide +kernel
theorem dX2_waysFrom_50 : decode cX2_waysFrom 50 = .ok (.getfield 13, 3) := by decide +kernel
theorem dX2_waysFrom_53 : decode cX2_waysFrom 53 = .ok (.iload_n 1, 1) := by decide +kernel
theorem dX2_waysFrom_54 : decode cX2_waysFrom 54 = .ok (.iconst 1, 1) := by decide +kernel
theorem dX2_waysFrom_55 : decode cX2_waysFrom 55 = .ok (.iadd, 1) := by decide +kernel
theorem dX2_waysFrom_56 : decode cX2_waysFrom 56 = .ok (.aaload, 1) := by decide +kernel
theorem dX2_waysFrom_57 : decode cX2_waysFrom 57 = .ok (.aload_n 0, 1) := by decide +kernel
theorem dX2_waysFrom_58 : decode cX2_waysFrom 58 = .ok (.getfield 13, 3) := by decide +kernel
theorem dX2_waysFrom_61 : decode cX2_waysFrom 61 = .ok (.iload_n 1, 1) := by decide +kernel
theorem dX2_waysFrom_62 : decode cX2_waysFrom 62 = .ok (.aaload, 1) := by decide +kernel
theorem dX2_waysFrom_63 : decode cX2_waysFrom 63 = .ok (.invokevirtual 84, 3) := by decide +kernel
theorem dX2_waysFrom_66 : decode cX2_waysFrom 66 = .ok (.aload_n 0, 1) := by decide +kernel
theorem dX2_waysFrom_67 : decode cX2_waysFrom 67 = .ok (.getfield 13, 3) := by decide +kernel
theorem dX2_waysFrom_70 : decode cX2_waysFrom 70 = .ok (.iload_n 1, 1) := by decide +kernel
theorem dX2_waysFrom_71 : decode cX2_waysFrom 71 = .ok (.iconst 1, 1) := by decide +kernel
theorem dX2_waysFrom_72 : decode cX2_waysFrom 72 = .ok (.iadd, 1) := by decide +kernel
theorem dX2_waysFrom_73 : decode cX2_waysFrom 73 = .ok (.aaload, 1) := by decide +kernel
theorem dX2_waysFrom_74 : decode cX2_waysFrom 74 = .ok (.aload_n 0, 1) := by decide +kernel
theorem dX2_waysFrom_75 : decode cX2_waysFrom 75 = .ok (.getfield 40, 3) := by decide +kernel
theorem dX2_waysFrom_78 : decode cX2_waysFrom 78 = .ok (.iload 4, 2) := by decide +kernel
theorem dX2_waysFrom_80 : decode cX2_waysFrom 80 = .ok (.iconst 0, 1) := by decide +kernel
theorem dX2_waysFrom_81 : decode cX2_waysFrom 81 = .ok (.invokevirtual 124, 3) := by decide +kernel
theorem dX2_waysFrom_84 : decode cX2_waysFrom 84 = .ok (.aload_n 0, 1) := by decide +kernel
theorem dX2_waysFrom_85 : decode cX2_waysFrom 85 = .ok (.iload_n 1, 1) := by decide +kernel
theorem dX2_waysFrom_86 : decode cX2_waysFrom 86 = .ok (.iconst 1, 1) := by decide +kernel
theorem dX2_waysFrom_87 : decode cX2_waysFrom 87 = .ok (.iadd, 1) := by decide +kernel
theorem dX2_waysFrom_88 : decode cX2_waysFrom 88 = .ok (.iload_n 2, 1) := by decide +kernel
theorem dX2_waysFrom_89 : decode cX2_waysFrom 89 = .ok (.iload_n 3, 1) := by decide +kernel
theorem dX2_waysFrom_90 : decode cX2_waysFrom 90 = .ok (.invokevirtual 121, 3) := by decide +kernel
theorem dX2_waysFrom_93 : decode cX2_waysFrom 93 = .ok (.istore 6, 2) := by decide +kernel
theorem dX2_waysFrom_95 : decode cX2_waysFrom 95 = .ok (.iload 5, 2) := by decide +kernel
theorem dX2_waysFrom_97 : decode cX2_waysFrom 97 = .ok (.ifCond .ne 9, 3) := by decide +kernel
theorem dX2_waysFrom_100 : decode cX2_waysFrom 100 = .ok (.bipush 10, 2) := by decide +kernel
theorem dX2_waysFrom_102 : decode cX2_waysFrom 102 = .ok (.iload 6, 2) := by decide +kernel
theorem dX2_waysFrom_104 : decode cX2_waysFrom 104 = .ok (.imul, 1) := by decide +kernel
theorem dX2_waysFrom_105 : decode cX2_waysFrom 105 = .ok (.ireturn, 1) := by decide +kernel
theorem dX2_waysFrom_106 : decode cX2_waysFrom 106 = .ok (.aload_n 0, 1) := by decide +kernel
theorem dX2_waysFrom_107 : decode cX2_waysFrom 107 = .ok (.getfield 13, 3) := by decide +kernel
theorem dX2_waysFrom_110 : decode cX2_waysFrom 110 = .ok (.iload_n 1, 1) := by decide +kernel
theorem dX2_waysFrom_111 : decode cX2_waysFrom 111 = .ok (.iconst 1, 1) := by decide +kernel
theorem dX2_waysFrom_112 : decode cX2_waysFrom 112 = .ok (.iadd, 1) := by decide +kernel
theorem dX2_waysFrom_113 : decode cX2_waysFrom 113 = .ok (.aaload, 1) := by decide +kernel
theorem dX2_waysFrom_114 : decode cX2_waysFrom 114 = .ok (.aload_n 0, 1) := by decide +kernel
theorem dX2_waysFrom_115 : decode cX2_waysFrom 115 = .ok (.getfield 13, 3) := by decide +kernel
theorem dX2_waysFrom_118 : decode cX2_waysFrom 118 = .ok (.iload_n 1, 1) := by decide +kernel
theorem dX2_waysFrom_119 : decode cX2_waysFrom 119 = .ok (.aaload, 1) := by decide +kernel
theorem dX2_waysFrom_120 : decode cX2_waysFrom 120 = .ok (.invokevirtual 84, 3) := by decide +kernel
theorem dX2_waysFrom_123 : decode cX2_waysFrom 123 = .ok (.aload_n 0, 1) := by decide +kernel
theorem dX2_waysFrom_124 : decode cX2_waysFrom 124 = .ok (.getfield 13, 3) := by decide +kernel
theorem dX2_waysFrom_127 : decode cX2_waysFrom 127 = .ok (.iload_n 1, 1) := by decide +kernel
theorem dX2_waysFrom_128 : decode cX2_waysFrom 128 = .ok (.iconst 1, 1) := by decide +kernel
theorem dX2_waysFrom_129 : decode cX2_waysFrom 129 = .ok (.iadd, 1) := by decide +kernel
theorem dX2_waysFrom_130 : decode cX2_waysFrom 130 = .ok (.aaload, 1) := by decide +kernel
theorem dX2_waysFrom_131 : decode cX2_waysFrom 131 = .ok (.aload_n 0, 1) := by decide +kernel
theorem dX2_waysFrom_132 : decode cX2_waysFrom 132 = .ok (.getfield 40, 3) := by decide +kernel
theorem dX2_waysFrom_135 : decode cX2_waysFrom 135 = .ok (.iload 4, 2) := by decide +kernel
theorem dX2_waysFrom_137 : decode cX2_waysFrom 137 = .ok (.iconst 1, 1) := by decide +kernel
theorem dX2_waysFrom_138 : decode cX2_waysFrom 138 = .ok (.invokevirtual 124, 3) := by decide +kernel
theorem dX2_waysFrom_141 : decode cX2_waysFrom 141 = .ok (.iload_n 3, 1) := by decide +kernel
theorem dX2_waysFrom_142 : decode cX2_waysFrom 142 = .ok (.iload 6, 2) := by decide +kernel
theorem dX2_waysFrom_144 : decode cX2_waysFrom 144 = .ok (.imul, 1) := by decide +kernel
theorem dX2_waysFrom_145 : decode cX2_waysFrom 145 = .ok (.bipush 10, 2) := by decide +kernel
theorem dX2_waysFrom_147 : decode cX2_waysFrom 147 = .ok (.iload_n 3, 1) := by decide +kernel
theorem dX2_waysFrom_148 : decode cX2_waysFrom 148 = .ok (.isub, 1) := by decide +kernel
theorem dX2_waysFrom_149 : decode cX2_waysFrom 149 = .ok (.aload_n 0, 1) := by decide +kernel
theorem dX2_waysFrom_150 : decode cX2_waysFrom 150 = .ok (.iload_n 1, 1) := by decide +kernel
theorem dX2_waysFrom_151 : decode cX2_waysFrom 151 = .ok (.iconst 1, 1) := by decide +kernel
theorem dX2_waysFrom_152 : decode cX2_waysFrom 152 = .ok (.iadd, 1) := by decide +kernel
theorem dX2_waysFrom_153 : decode cX2_waysFrom 153 = .ok (.iload_n 2, 1) := by decide +kernel
theorem dX2_waysFrom_154 : decode cX2_waysFrom 154 = .ok (.iconst 1, 1) := by decide +kernel
theorem dX2_waysFrom_155 : decode cX2_waysFrom 155 = .ok (.isub, 1) := by decide +kernel
theorem dX2_waysFrom_156 : decode cX2_waysFrom 156 = .ok (.iload_n 3, 1) := by decide +kernel
theorem dX2_waysFrom_157 : decode cX2_waysFrom 157 = .ok (.invokevirtual 121, 3) := by decide +kernel
theorem dX2_waysFrom_160 : decode cX2_waysFrom 160 = .ok (.imul, 1) := by decide +kernel
theorem dX2_waysFrom_161 : decode cX2_waysFrom 161 = .ok (.iadd, 1) := by decide +kernel
theorem dX2_waysFrom_162 : decode cX2_waysFrom 162 = .ok (.ireturn, 1) := by decide +kernel
end
section
/-- a town as it must be -/
def to_ (h : SH_) : Prop := (0 ≤ h 7 2 ∧ h 7 2 ≤ 6) ∧ (0 ≤ h 7 3 ∧ h 7 3 ≤ 4) ∧ (0 ≤ h 7 0 ∧ h 7 0 ≤ 9) ∧ (∀ l, 0 ≤ l → l < h 7 2 → lo_ (h 8 l) (h 9 l) (h 10 l)) ∧
  (∀ s, 0 ≤ s → s < h 7 3 → (0 ≤ h 11 s ∧ h 11 s ≤ 20) ∧ (0 ≤ h 12 s ∧ h 12 s < 16) ∧ (0 ≤ h 13 s ∧ h 13 s < 64) ∧ (0 ≤ h 14 s ∧ h 14 s < 64))
theorem pc_r {x : Int} : 0 ≤ pc_ x ∧ pc_ x ≤ 6 := by
  unfold pc_
  omega
theorem en_mo {h : SH_} {s : Int} (o : to_ h) (hs : 0 ≤ s ∧ s < h 7 3) : mo_ 6 (en_ h s) := by
  obtain ⟨o1, o2, o3, o4, o5⟩ := o
  obtain ⟨t1, t2, t3, t4⟩ := o5 s hs.1 hs.2
  refine ⟨t1, t2, pc_r, fun t h0 h1 => ?_⟩
  have h2 := cn_r (tp := h 10) (s := h 14 s) (n := (h 7 2).toNat) (fun l a b => (o4 l a (by omega)).2.2) t h0 h1
  show 0 ≤ q4_ (cn_ (h 10) (h 14 s) (h 7 2).toNat) t ∧ q4_ (cn_ (h 10) (h 14 s) (h 7 2).toNat) t ≤ 6
  omega
/-- kinds, weights, topics -/
abbrev TF_ : Type := (Int → Int) × (Int → Int) × (Int → Int)
def tf_ (h : SH_) : TF_ := (h 8, h 9, h 10)
def nl_ (F : TF_) (m : MU_) (l : Int) : Int := nb_ (F.1 l) (F.2.1 l) (F.2.2 l) m
def hl_ (F : TF_) (m : MU_) (l : Int) : MU_ := he_ (F.2.1 l) (F.2.2 l) (nl_ F m l) m
section PF0_
variable {g : SG_} {d : Nat} {M : MD_} {pc q : Nat} {ls : List (Option SV_)} {st : List SV_} {h : SH_} {Post : Option SV_ → SH_ → Prop}
theorem vr_aaMV {k i k2 : Int} (hd : decode M.2.1 pc = .ok (.aaload, 1)) (hq : pc + 1 = q) (hi : 0 ≤ i ∧ i < 7) (hk : 52 + 2 * i = k2) (kk : V_ g d M q ls (sv_r 4 3 k2 :: st) h Post) : V_ g d M pc ls (sv_i i :: sv_r 2 7 k :: st) h Post := vr_aaM hd hq hi (hk ▸ kk)
theorem vr_aaTV {k i k2 : Int} (hd : decode M.2.1 pc = .ok (.aaload, 1)) (hq : pc + 1 = q) (hi : 0 ≤ i ∧ i < 2) (hk : 23 + 8 * i = k2) (kk : V_ g d M q ls (sv_r 4 6 k2 :: st) h Post) : V_ g d M pc ls (sv_i i :: sv_r 3 2 k :: st) h Post := vr_aaT hd hq hi (hk ▸ kk)
end PF0_
section PF1_
variable {g : SG_} {d : Nat} {h : SH_} {Post : Option SV_ → SH_ → Prop}
theorem c_mindOf {s : Int} (o : to_ h) (hs : 0 ≤ s ∧ s < h 7 3) (kk : Post (some (sv_r 4 3 52)) (ms_ h 52 (en_ h s))) : Ctr_ g (d + 2) mX2_mindOf [sv_r 4 2 46, sv_i s] h Post := by
  have o2 := o.2.1
  refine V_mk (by decide +kernel) (Or.inr (Or.inr (Or.inr (Or.inr ⟨rfl, _, rfl⟩)))) (Nat.le_of_ble_eq_true rfl) (by simp [sv_c]) ?_
  show V_ _ _ _ 0 [_, _] [] _ _
  refine vr_aload_n (q := 1) dX2_mindOf_0 rfl rfl ?_
  refine vr_getR (q := 4) dX2_mindOf_1 rfl fX2_13 rfl y_X2_1 (by first | (simp only [Int.reduceAdd]; rfl) | rfl) ?_
  refine vr_iconst (q := 5) dX2_mindOf_4 rfl ⟨by decide, by decide⟩ ?_
  refine vr_aaMV (q := 6) dX2_mindOf_5 rfl ⟨by omega, by omega⟩ (by first | (simp only [Int.reduceMul, Int.reduceAdd]; rfl) | rfl) ?_
  refine vr_aload_n (q := 7) dX2_mindOf_6 rfl rfl ?_
  refine vr_getA (q := 10) dX2_mindOf_7 rfl fX2_40 rfl ⟨by decide, by decide, rfl⟩ ?_
  refine vr_iload_n (q := 11) dX2_mindOf_10 rfl rfl ?_
  refine vr_iv2 (q := 14) dX2_mindOf_11 rfl vX2_45 (Nat.le_of_ble_eq_true rfl) ?_
  refine c_enter (by decide) ⟨by omega, by omega⟩ o.1 (fun l a b => (o.2.2.2.1 l a b).2.2) (o.2.2.2.2 s hs.1 hs.2).2.2.1 ?_
  refine vr_aload_n (q := 15) dX2_mindOf_14 rfl rfl ?_
  refine vr_getR (q := 18) dX2_mindOf_15 rfl fX2_13 rfl y_X2_1 (by first | (simp only [Int.reduceAdd]; rfl) | rfl) ?_
  refine vr_iconst (q := 19) dX2_mindOf_18 rfl ⟨by decide, by decide⟩ ?_
  refine vr_aaMV (q := 20) dX2_mindOf_19 rfl ⟨by omega, by omega⟩ (by first | (simp only [Int.reduceMul, Int.reduceAdd]; rfl) | rfl) ?_
  refine vr_aret dX2_mindOf_20 rfl ?_
  first | exact kk | (exfalso; omega) | (repeat (first | exact kk | rw [if_pos (by omega)] at kk | rw [if_neg (by omega)] at kk))
theorem c_bestNods (kk : Post (some (sv_i (h 46 5))) h) : Ctr_ g d mX2_bestNods [sv_r 4 2 46] h Post := by
  refine V_mk (by decide +kernel) (Or.inr (Or.inl ⟨rfl, rfl⟩)) (Nat.le_of_ble_eq_true rfl) (by simp [sv_c]) ?_
  show V_ _ _ _ 0 [_] [] _ _
  refine vr_aload_n (q := 1) dX2_bestNods_0 rfl rfl ?_
  refine vr_getI (ji := 5) (q := 4) dX2_bestNods_1 rfl fX2_28 rfl rfl ?_
  refine vr_iret dX2_bestNods_4 rfl ?_
  first | exact kk | (exfalso; omega) | (repeat (first | exact kk | rw [if_pos (by omega)] at kk | rw [if_neg (by omega)] at kk))
theorem c_bestAt {i : Int} (hb : 0 ≤ h 46 4 ∧ h 46 4 ≤ 6) (kk : Post (some (sv_i (if 0 ≤ i ∧ i < h 46 4 then h 49 i else -1000000))) h) : Ctr_ g d mX2_bestAt [sv_r 4 2 46, sv_i i] h Post := by
  refine V_mk (by decide +kernel) (Or.inr (Or.inl ⟨rfl, rfl⟩)) (Nat.le_of_ble_eq_true rfl) (by simp [sv_c]) ?_
  show V_ _ _ _ 0 [_, _] [] _ _
  refine vr_iload_n (q := 1) dX2_bestAt_0 rfl rfl ?_
  refine vr_if_lt (t := 21) (q := 4) dX2_bestAt_1 (by decide) rfl (fun c1 => ?_) (fun c1 => ?_)
  · refine vr_ldc (x := -1000000) (q := 23) dX2_bestAt_21 rfl ⟨by decide, by decide⟩ qX2_70 ?_
    refine vr_iret dX2_bestAt_23 rfl ?_
    first | exact kk | (exfalso; omega) | (repeat (first | exact kk | rw [if_pos (by omega)] at kk | rw [if_neg (by omega)] at kk))
  · refine vr_iload_n (q := 5) dX2_bestAt_4 rfl rfl ?_
    refine vr_aload_n (q := 6) dX2_bestAt_5 rfl rfl ?_
    refine vr_getI (ji := 4) (q := 9) dX2_bestAt_6 rfl fX2_24 rfl rfl ?_
    refine vr_ic_ge (t := 21) (q := 12) dX2_bestAt_9 (by decide) rfl (fun c9 => ?_) (fun c9 => ?_)
    · refine vr_ldc (x := -1000000) (q := 23) dX2_bestAt_21 rfl ⟨by decide, by decide⟩ qX2_70 ?_
      refine vr_iret dX2_bestAt_23 rfl ?_
      first | exact kk | (exfalso; omega) | (repeat (first | exact kk | rw [if_pos (by omega)] at kk | rw [if_neg (by omega)] at kk))
    · refine vr_aload_n (q := 13) dX2_bestAt_12 rfl rfl ?_
      refine vr_getR (q := 16) dX2_bestAt_13 rfl fX2_21 rfl y_X2_3 (by first | (simp only [Int.reduceAdd]; rfl) | rfl) ?_
      refine vr_iload_n (q := 17) dX2_bestAt_16 rfl rfl ?_
      refine vr_iald (q := 18) dX2_bestAt_17 rfl ⟨by omega, by omega⟩ ?_
      refine vr_goto (q := 23) dX2_bestAt_18 (by decide) ?_
      refine vr_iret dX2_bestAt_23 rfl ?_
      first | exact kk | (exfalso; omega) | (repeat (first | exact kk | rw [if_pos (by omega)] at kk | rw [if_neg (by omega)] at kk))
theorem c_firstAhead (kk : Post (some (sv_i (h 48 0))) h) : Ctr_ g d mX2_firstAhead [sv_r 4 2 46] h Post := by
  refine V_mk (by decide +kernel) (Or.inr (Or.inl ⟨rfl, rfl⟩)) (Nat.le_of_ble_eq_true rfl) (by simp [sv_c]) ?_
  show V_ _ _ _ 0 [_] [] _ _
  refine vr_aload_n (q := 1) dX2_firstAhead_0 rfl rfl ?_
  refine vr_getR (q := 4) dX2_firstAhead_1 rfl fX2_17 rfl y_X2_2 (by first | (simp only [Int.reduceAdd]; rfl) | rfl) ?_
  refine vr_iconst (q := 5) dX2_firstAhead_4 rfl ⟨by decide, by decide⟩ ?_
  refine vr_iald (q := 6) dX2_firstAhead_5 rfl ⟨by omega, by omega⟩ ?_
  refine vr_iret dX2_firstAhead_6 rfl ?_
  first | exact kk | (exfalso; omega) | (repeat (first | exact kk | rw [if_pos (by omega)] at kk | rw [if_neg (by omega)] at kk))
/-- the town's cells, and what stands ahead of the minds, under a write to a mind -/
theorem ms_lo {h : SH_} {k a : Int} {m : MU_} (hk : 52 ≤ k) (ha : a < 52) : ms_ h k m a = h a := ms_n (by omega) (by omega)
theorem to_k {h hc : SH_} (hk : ∀ a, 7 ≤ a → a ≤ 14 → hc a = h a) (o : to_ h) : to_ hc := by
  unfold to_ at o ⊢
  rw [hk 7 (by decide) (by decide), hk 8 (by decide) (by decide), hk 9 (by decide) (by decide), hk 10 (by decide) (by decide), hk 11 (by decide) (by decide), hk 12 (by decide) (by decide), hk 13 (by decide) (by decide), hk 14 (by decide) (by decide)]
  exact o
theorem tf_k {h hc : SH_} (hk : ∀ a, 7 ≤ a → a ≤ 14 → hc a = h a) : tf_ hc = tf_ h := by
  unfold tf_
  rw [hk 8 (by decide) (by decide), hk 9 (by decide) (by decide), hk 10 (by decide) (by decide)]
/-- the lies (of the first n) in a set at which a mind nods -/
def ns_ (F : TF_) (m : MU_) (s : Int) : Nat → Int
  | 0 => 0
  | n + 1 => if bt_ s n = 0 then ns_ F m s n else if nl_ F m n = 0 then ns_ F m s n else sb_ior (ns_ F m s n) (sb_ishl 1 n)
theorem l_nodsNow {s u : Int} (o : to_ h) (m : MU_) (hm : mo_ 6 m) (kk : Post (some (sv_i (ns_ (tf_ h) m u (h 7 2).toNat))) (ms_ h 52 m)) : ∀ (k i : Nat), (i : Int) + k = h 7 2 → V_ g (d + 4) mX2_nodsNow 21 [some (sv_r 4 2 46), some (sv_i s), some (sv_r 4 3 52), some (sv_i u), some (sv_i (ns_ (tf_ h) m u i)), some (sv_i i)] [] (ms_ h 52 m) Post := by
  intro k
  have o1 := o.1
  have e7 : ms_ h 52 m 7 = h 7 := ms_lo (by decide) (by decide)
  have e8 : ms_ h 52 m 8 = h 8 := ms_lo (by decide) (by decide)
  have e9 : ms_ h 52 m 9 = h 9 := ms_lo (by decide) (by decide)
  have e10 : ms_ h 52 m 10 = h 10 := ms_lo (by decide) (by decide)
  induction k with
  | zero =>
    intro i hi
    rw [show (h 7 2).toNat = i by omega] at kk
    refine vr_iload (q := 23) dX2_nodsNow_21 rfl rfl ?_
    refine vr_aload_n (q := 24) dX2_nodsNow_23 rfl rfl ?_
    refine vr_getA (q := 27) dX2_nodsNow_24 rfl fX2_40 rfl ⟨by decide, by decide, rfl⟩ ?_
    refine vr_getV (ji := 2) (q := 30) dX2_nodsNow_27 rfl fX2_59 rfl rfl (by rw [e7]) ?_
    -- at X2.nodsNow 30: .if_icmp .ge 40
    refine vr_ic_ge (t := 70) (q := 33) dX2_nodsNow_30 (by decide) rfl (fun _ => ?_) (fun c9 => absurd c9 (by omega))
    refine vr_iload (q := 72) dX2_nodsNow_70 rfl rfl ?_
    refine vr_iret dX2_nodsNow_72 rfl ?_
    first | exact kk | (exfalso; omega) | (repeat (first | exact kk | rw [if_pos (by omega)] at kk | rw [if_neg (by omega)] at kk))
  | succ k ih =>
    intro i hi
    have hl := o.2.2.2.1 i (by omega) (by omega)
    have k2 := ih (i + 1) (by omega)
    have e : ns_ (tf_ h) m u (i + 1) = if bt_ u i = 0 then ns_ (tf_ h) m u i else if nl_ (tf_ h) m i = 0 then ns_ (tf_ h) m u i else sb_ior (ns_ (tf_ h) m u i) (sb_ishl 1 i) := rfl
    rw [e] at k2
    refine vr_iload (q := 23) dX2_nodsNow_21 rfl rfl ?_
    refine vr_aload_n (q := 24) dX2_nodsNow_23 rfl rfl ?_
    refine vr_getA (q := 27) dX2_nodsNow_24 rfl fX2_40 rfl ⟨by decide, by decide, rfl⟩ ?_
    refine vr_getV (ji := 2) (q := 30) dX2_nodsNow_27 rfl fX2_59 rfl rfl (by rw [e7]) ?_
    -- at X2.nodsNow 30: .if_icmp .ge 40
    refine vr_ic_ge (t := 70) (q := 33) dX2_nodsNow_30 (by decide) rfl (fun c9 => absurd c9 (by omega)) (fun _ => ?_)
    refine vr_iload_n (q := 34) dX2_nodsNow_33 rfl rfl ?_
    refine vr_iload (q := 36) dX2_nodsNow_34 rfl rfl ?_
    refine vr_ishr (q := 37) dX2_nodsNow_36 rfl ?_
    refine vr_iconst (q := 38) dX2_nodsNow_37 rfl ⟨by decide, by decide⟩ ?_
    refine vr_iand (q := 39) dX2_nodsNow_38 rfl ?_
    -- at X2.nodsNow 39: .ifCond .eq 25
    refine vr_if_eq (t := 64) (q := 42) dX2_nodsNow_39 (by decide) rfl (fun c1 => ?_) (fun c1 => ?_)
    · have c2 : bt_ u i = 0 := c1
      rw [if_pos c2] at k2
      refine vr_iinc (q := 67) dX2_nodsNow_64 rfl rfl ⟨by omega, by omega⟩ (Nat.le_of_ble_eq_true rfl) rfl rfl ?_
      refine vr_goto (q := 21) dX2_nodsNow_67 (by decide) ?_
      -- at X2.nodsNow 21: .iload 5
      exact k2
    · have c2 : ¬ bt_ u i = 0 := c1
      rw [if_neg c2] at k2
      refine vr_aload_n (q := 43) dX2_nodsNow_42 rfl rfl ?_
      refine vr_aload_n (q := 44) dX2_nodsNow_43 rfl rfl ?_
      refine vr_getA (q := 47) dX2_nodsNow_44 rfl fX2_40 rfl ⟨by decide, by decide, rfl⟩ ?_
      refine vr_iload (q := 49) dX2_nodsNow_47 rfl rfl ?_
      -- at X2.nodsNow 49: .invokevirtual 62
      refine vr_iv2 (q := 52) dX2_nodsNow_49 rfl vX2_62 (Nat.le_of_ble_eq_true rfl) ?_
      refine c_wouldNod (n := 6) ⟨by omega, by omega⟩ (by rw [e8, e9, e10]; exact hl) (by rw [mu_ms]; exact hm) (by decide) ?_
      rw [e8, e9, e10, mu_ms]
      refine vr_if_eq (t := 64) (q := 55) dX2_nodsNow_52 (by decide) rfl (fun c3 => ?_) (fun c3 => ?_)
      · have c4 : nl_ (tf_ h) m i = 0 := c3
        rw [if_pos c4] at k2
        refine vr_iinc (q := 67) dX2_nodsNow_64 rfl rfl ⟨by omega, by omega⟩ (Nat.le_of_ble_eq_true rfl) rfl rfl ?_
        refine vr_goto (q := 21) dX2_nodsNow_67 (by decide) ?_
        -- at X2.nodsNow 21: .iload 5
        exact k2
      · have c4 : ¬ nl_ (tf_ h) m i = 0 := c3
        rw [if_neg c4] at k2
        refine vr_iload (q := 57) dX2_nodsNow_55 rfl rfl ?_
        refine vr_iconst (q := 58) dX2_nodsNow_57 rfl ⟨by decide, by decide⟩ ?_
        refine vr_iload (q := 60) dX2_nodsNow_58 rfl rfl ?_
        refine vr_ishl (q := 61) dX2_nodsNow_60 rfl ?_
        refine vr_ior (q := 62) dX2_nodsNow_61 rfl ?_
        refine vr_istore (q := 64) dX2_nodsNow_62 rfl (Nat.le_of_ble_eq_true rfl) rfl rfl ?_
        refine vr_iinc (q := 67) dX2_nodsNow_64 rfl rfl ⟨by omega, by omega⟩ (Nat.le_of_ble_eq_true rfl) rfl rfl ?_
        refine vr_goto (q := 21) dX2_nodsNow_67 (by decide) ?_
        -- at X2.nodsNow 21: .iload 5
        exact k2
theorem c_nodsNow {s : Int} (o : to_ h) (hs : 0 ≤ s ∧ s < h 7 3) (kk : Post (some (sv_i (ns_ (tf_ h) (en_ h s) (ut_ (h 7 2) (h 13 s)) (h 7 2).toNat))) (ms_ h 52 (en_ h s))) : Ctr_ g (d + 4) mX2_nodsNow [sv_r 4 2 46, sv_i s] h Post := by
  have o1 := o.1
  have o2 := o.2.1
  have e7 : ms_ h 52 (en_ h s) 7 = h 7 := ms_lo (by decide) (by decide)
  have e13 : ms_ h 52 (en_ h s) 13 = h 13 := ms_lo (by decide) (by decide)
  refine V_mk (by decide +kernel) (Or.inr (Or.inl ⟨rfl, rfl⟩)) (Nat.le_of_ble_eq_true rfl) (by simp [sv_c]) ?_
  show V_ _ _ _ 0 [_, _, _, _, _, _] [] _ _
  refine vr_aload_n (q := 1) dX2_nodsNow_0 rfl rfl ?_
  refine vr_iload_n (q := 2) dX2_nodsNow_1 rfl rfl ?_
  -- at X2.nodsNow 2: .invokevirtual 49
  refine vr_iv1 (q := 5) dX2_nodsNow_2 rfl vX2_49 (Nat.le_of_ble_eq_true rfl) ?_
  refine c_mindOf o hs ?_
  refine vr_astore_n (q := 6) dX2_nodsNow_5 rfl rfl (Nat.le_of_ble_eq_true rfl) rfl rfl ?_
  refine vr_aload_n (q := 7) dX2_nodsNow_6 rfl rfl ?_
  refine vr_getA (q := 10) dX2_nodsNow_7 rfl fX2_40 rfl ⟨by decide, by decide, rfl⟩ ?_
  refine vr_iload_n (q := 11) dX2_nodsNow_10 rfl rfl ?_
  -- at X2.nodsNow 11: .invokevirtual 53
  refine vr_iv1 (q := 14) dX2_nodsNow_11 rfl vX2_53 (Nat.le_of_ble_eq_true rfl) ?_
  refine c_untold ⟨by omega, by omega⟩ (by rw [e7]; exact o1) ?_
  rw [e7, e13]
  refine vr_istore_n (q := 15) dX2_nodsNow_14 rfl rfl (Nat.le_of_ble_eq_true rfl) rfl rfl ?_
  refine vr_iconst (q := 16) dX2_nodsNow_15 rfl ⟨by decide, by decide⟩ ?_
  refine vr_istore (q := 18) dX2_nodsNow_16 rfl (Nat.le_of_ble_eq_true rfl) rfl rfl ?_
  refine vr_iconst (q := 19) dX2_nodsNow_18 rfl ⟨by decide, by decide⟩ ?_
  refine vr_istore (q := 21) dX2_nodsNow_19 rfl (Nat.le_of_ble_eq_true rfl) rfl rfl ?_
  -- at X2.nodsNow 21: .iload 5
  exact l_nodsNow o _ (en_mo o hs) kk (h 7 2).toNat 0 (by omega)
/-- one more lie is tried on the mind at depth e -/
def tn_ (h : SH_) (e l : Int) : SH_ := ms_ (hs_ h 48 e l) (52 + 2 * (e + 1)) (hl_ (tf_ h) (mu_ h (52 + 2 * e)) l)
theorem c_tryNext {e l n : Int} (he : 0 ≤ e ∧ e < 6) (hl : 0 ≤ l ∧ l < 6) (hlo : lo_ (h 8 l) (h 9 l) (h 10 l)) (hm : mo_ n (mu_ h (52 + 2 * e))) (hn : n ≤ 100) (kk : Post (some (sv_i (nl_ (tf_ h) (mu_ h (52 + 2 * e)) l))) (tn_ h e l)) : Ctr_ g (d + 5) mX2_tryNext [sv_r 4 2 46, sv_i e, sv_i l] h Post := by
  have em : mu_ (hs_ h 48 e l) (52 + 2 * e) = mu_ h (52 + 2 * e) := by
    unfold mu_
    rw [hs_k (by omega), hs_k (by omega)]
  have e8 : ms_ (hs_ h 48 e l) (52 + 2 * (e + 1)) (mu_ h (52 + 2 * e)) 8 = h 8 := by rw [ms_lo (by omega) (by decide), hs_k (by decide)]
  have e9 : ms_ (hs_ h 48 e l) (52 + 2 * (e + 1)) (mu_ h (52 + 2 * e)) 9 = h 9 := by rw [ms_lo (by omega) (by decide), hs_k (by decide)]
  have e10 : ms_ (hs_ h 48 e l) (52 + 2 * (e + 1)) (mu_ h (52 + 2 * e)) 10 = h 10 := by rw [ms_lo (by omega) (by decide), hs_k (by decide)]
  refine V_mk (by decide +kernel) (Or.inr (Or.inr (Or.inl ⟨rfl, rfl⟩))) (Nat.le_of_ble_eq_true rfl) (by simp [sv_c]) ?_
  show V_ _ _ _ 0 [_, _, _] [] _ _
  refine vr_aload_n (q := 1) dX2_tryNext_0 rfl rfl ?_
  refine vr_getR (q := 4) dX2_tryNext_1 rfl fX2_17 rfl y_X2_2 (by first | (simp only [Int.reduceAdd]; rfl) | rfl) ?_
  refine vr_iload_n (q := 5) dX2_tryNext_4 rfl rfl ?_
  refine vr_iload_n (q := 6) dX2_tryNext_5 rfl rfl ?_
  refine vr_iast (q := 7) dX2_tryNext_6 rfl ⟨by omega, by omega⟩ ?_
  refine vr_aload_n (q := 8) dX2_tryNext_7 rfl rfl ?_
  refine vr_getR (q := 11) dX2_tryNext_8 rfl fX2_13 rfl y_X2_1 (by first | (simp only [Int.reduceAdd]; rfl) | rfl) ?_
  refine vr_iload_n (q := 12) dX2_tryNext_11 rfl rfl ?_
  refine vr_iconst (q := 13) dX2_tryNext_12 rfl ⟨by decide, by decide⟩ ?_
  refine vr_iaddN (q := 14) dX2_tryNext_13 rfl ⟨by omega, by omega⟩ ?_
  refine vr_aaMV (q := 15) dX2_tryNext_14 rfl ⟨by omega, by omega⟩ (by first | (simp only [Int.reduceMul, Int.reduceAdd]; rfl) | rfl) ?_
  refine vr_aload_n (q := 16) dX2_tryNext_15 rfl rfl ?_
  refine vr_getR (q := 19) dX2_tryNext_16 rfl fX2_13 rfl y_X2_1 (by first | (simp only [Int.reduceAdd]; rfl) | rfl) ?_
  refine vr_iload_n (q := 20) dX2_tryNext_19 rfl rfl ?_
  refine vr_aaMV (q := 21) dX2_tryNext_20 rfl ⟨by omega, by omega⟩ (by first | (simp only [Int.reduceMul, Int.reduceAdd]; rfl) | rfl) ?_
  -- at X2.tryNext 21: .invokevirtual 84
  refine vr_iv1 (q := 24) dX2_tryNext_21 rfl vX2_84 (Nat.le_of_ble_eq_true rfl) ?_
  refine c_become (by omega) ⟨by omega, by omega, by omega⟩ ?_
  rw [em]
  refine vr_aload_n (q := 25) dX2_tryNext_24 rfl rfl ?_
  refine vr_getR (q := 28) dX2_tryNext_25 rfl fX2_13 rfl y_X2_1 (by first | (simp only [Int.reduceAdd]; rfl) | rfl) ?_
  refine vr_iload_n (q := 29) dX2_tryNext_28 rfl rfl ?_
  refine vr_iconst (q := 30) dX2_tryNext_29 rfl ⟨by decide, by decide⟩ ?_
  refine vr_iaddN (q := 31) dX2_tryNext_30 rfl ⟨by omega, by omega⟩ ?_
  refine vr_aaMV (q := 32) dX2_tryNext_31 rfl ⟨by omega, by omega⟩ (by first | (simp only [Int.reduceMul, Int.reduceAdd]; rfl) | rfl) ?_
  refine vr_aload_n (q := 33) dX2_tryNext_32 rfl rfl ?_
  refine vr_getA (q := 36) dX2_tryNext_33 rfl fX2_40 rfl ⟨by decide, by decide, rfl⟩ ?_
  refine vr_iload_n (q := 37) dX2_tryNext_36 rfl rfl ?_
  -- at X2.tryNext 37: .invokevirtual 88
  refine vr_iv2 (q := 40) dX2_tryNext_37 rfl vX2_88 (Nat.le_of_ble_eq_true rfl) ?_
  refine c_hear (n := n) hl (by omega) (by rw [e8, e9, e10]; exact hlo) (by rw [mu_ms]; exact hm) hn ?_
  rw [e8, e9, e10, mu_ms, ms_ms]
  refine vr_zret dX2_tryNext_40 rfl ?_ ?_
  · exact nb_01 _ _ _ _
  · exact kk
end PF1_
end
section
/-- but for what foretelling scratches, all is as it was -/
def fk_ (h hc : SH_) : Prop := ∀ a, (a < 46 ∨ 65 < a) → hc a = h a
theorem fk_r (h : SH_) : fk_ h h := fun _ _ => rfl
theorem fk_s {h hc : SH_} {a b v : Int} (ha : 46 ≤ a ∧ a ≤ 65) (k : fk_ h hc) : fk_ h (hs_ hc a b v) := fun x hx => by rw [hs_k (by omega)]; exact k x hx
theorem fk_m {h hc : SH_} {k : Int} {m : MU_} (hk : 52 ≤ k ∧ k ≤ 64) (f : fk_ h hc) : fk_ h (ms_ hc k m) := fun x hx => by rw [ms_n (by omega) (by omega)]; exact f x hx
theorem fk_t {h hc hd : SH_} (a : fk_ h hc) (b : fk_ hc hd) : fk_ h hd := fun x hx => (b x hx).trans (a x hx)
theorem fk_to {h hc : SH_} (k : fk_ h hc) (o : to_ h) : to_ hc := to_k (fun a _ _ => k a (by omega)) o
theorem fk_tf {h hc : SH_} (k : fk_ h hc) : tf_ hc = tf_ h := tf_k (fun a _ _ => k a (by omega))
/-- whether a told ahead brings b in -/
def bi_ (F : TF_) (m : MU_) (a b : Int) : Int := if nl_ F m b = 0 then nl_ F (hl_ F m a) b else 0
theorem bi_01 (F : TF_) (m : MU_) (a b : Int) : bi_ F m a b = 0 ∨ bi_ F m a b = 1 := by
  unfold bi_
  split
  · exact nb_01 _ _ _ _
  · exact Or.inl rfl
section PF2_
variable {g : SG_} {d : Nat} {h : SH_} {Post : Option SV_ → SH_ → Prop}
theorem c_bringsIn {a b : Int} (o : to_ h) (ha : 0 ≤ a ∧ a < h 7 2) (hb : 0 ≤ b ∧ b < h 7 2) (hm : mo_ 6 (mu_ h 52)) (kk : ∀ hc, fk_ h hc → mu_ hc 52 = mu_ h 52 → Post (some (sv_i (bi_ (tf_ h) (mu_ h 52) a b))) hc) : Ctr_ g (d + 6) mX2_bringsIn [sv_r 4 2 46, sv_i a, sv_i b] h Post := by
  have o1 := o.1
  have la := o.2.2.2.1 a ha.1 ha.2
  have lb := o.2.2.2.1 b hb.1 hb.2
  have k1 : fk_ h (tn_ h 0 a) := fk_m ⟨by decide, by decide⟩ (fk_s ⟨by decide, by decide⟩ (fk_r h))
  have k2 : mu_ (tn_ h 0 a) 52 = mu_ h 52 := by
    unfold tn_
    rw [mu_n (by decide) (by decide) (by decide)]
    unfold mu_
    rw [hs_k (by decide), hs_k (by decide)]
  have e54 : mu_ (tn_ h 0 a) 54 = hl_ (tf_ h) (mu_ h 52) a := mu_ms (hs_ h 48 0 a) 54 (hl_ (tf_ h) (mu_ h 52) a)
  have e8 := k1 8 (by omega)
  have e9 := k1 9 (by omega)
  have e10 := k1 10 (by omega)
  unfold bi_ at kk
  refine V_mk (by decide +kernel) (Or.inr (Or.inr (Or.inl ⟨rfl, rfl⟩))) (Nat.le_of_ble_eq_true rfl) (by simp [sv_c]) ?_
  show V_ _ _ _ 0 [_, _, _] [] _ _
  refine vr_aload_n (q := 1) dX2_bringsIn_0 rfl rfl ?_
  refine vr_getR (q := 4) dX2_bringsIn_1 rfl fX2_13 rfl y_X2_1 (by first | (simp only [Int.reduceAdd]; rfl) | rfl) ?_
  refine vr_iconst (q := 5) dX2_bringsIn_4 rfl ⟨by decide, by decide⟩ ?_
  refine vr_aaMV (q := 6) dX2_bringsIn_5 rfl ⟨by omega, by omega⟩ (by first | (simp only [Int.reduceMul, Int.reduceAdd]; rfl) | rfl) ?_
  refine vr_aload_n (q := 7) dX2_bringsIn_6 rfl rfl ?_
  refine vr_getA (q := 10) dX2_bringsIn_7 rfl fX2_40 rfl ⟨by decide, by decide, rfl⟩ ?_
  refine vr_iload_n (q := 11) dX2_bringsIn_10 rfl rfl ?_
  -- at X2.bringsIn 11: .invokevirtual 62
  refine vr_iv2 (q := 14) dX2_bringsIn_11 rfl vX2_62 (Nat.le_of_ble_eq_true rfl) ?_
  refine c_wouldNod (n := 6) ⟨by omega, by omega⟩ lb hm (by decide) ?_
  refine vr_if_eq (t := 19) (q := 17) dX2_bringsIn_14 (by decide) rfl (fun c1 => ?_) (fun c1 => ?_)
  · have c2 : nl_ (tf_ h) (mu_ h 52) b = 0 := c1
    rw [if_pos c2] at kk
    refine vr_aload_n (q := 20) dX2_bringsIn_19 rfl rfl ?_
    refine vr_iconst (q := 21) dX2_bringsIn_20 rfl ⟨by decide, by decide⟩ ?_
    refine vr_iload_n (q := 22) dX2_bringsIn_21 rfl rfl ?_
    -- at X2.bringsIn 22: .invokevirtual 80
    refine vr_iv2 (q := 25) dX2_bringsIn_22 rfl vX2_80 (Nat.le_of_ble_eq_true rfl) ?_
    refine c_tryNext (n := 6) ⟨by decide, by decide⟩ ⟨by omega, by omega⟩ la hm (by decide) ?_
    refine vr_pop (q := 26) dX2_bringsIn_25 rfl rfl ?_
    refine vr_aload_n (q := 27) dX2_bringsIn_26 rfl rfl ?_
    refine vr_getR (q := 30) dX2_bringsIn_27 rfl fX2_13 rfl y_X2_1 (by first | (simp only [Int.reduceAdd]; rfl) | rfl) ?_
    refine vr_iconst (q := 31) dX2_bringsIn_30 rfl ⟨by decide, by decide⟩ ?_
    refine vr_aaMV (q := 32) dX2_bringsIn_31 rfl ⟨by omega, by omega⟩ (by first | (simp only [Int.reduceMul, Int.reduceAdd]; rfl) | rfl) ?_
    refine vr_aload_n (q := 33) dX2_bringsIn_32 rfl rfl ?_
    refine vr_getA (q := 36) dX2_bringsIn_33 rfl fX2_40 rfl ⟨by decide, by decide, rfl⟩ ?_
    refine vr_iload_n (q := 37) dX2_bringsIn_36 rfl rfl ?_
    -- at X2.bringsIn 37: .invokevirtual 62
    refine vr_iv2 (q := 40) dX2_bringsIn_37 rfl vX2_62 (Nat.le_of_ble_eq_true rfl) ?_
    refine c_wouldNod (n := 7) ⟨by omega, by omega⟩ (by rw [e8, e9, e10]; exact lb) (by rw [e54]; exact he_mo la hm) (by decide) ?_
    rw [e8, e9, e10, e54]
    refine vr_zret dX2_bringsIn_40 rfl ?_ ?_
    · exact nb_01 _ _ _ _
    · exact kk _ k1 k2
  · have c2 : ¬ nl_ (tf_ h) (mu_ h 52) b = 0 := c1
    rw [if_neg c2] at kk
    refine vr_iconst (q := 18) dX2_bringsIn_17 rfl ⟨by decide, by decide⟩ ?_
    -- at X2.bringsIn 18: .ireturn
    refine vr_zret dX2_bringsIn_18 rfl ?_ ?_
    · exact Or.inl rfl
    · exact kk _ (fk_r h) rfl
/-- whether a and b help each other with stranger s -/
def hp_ (h : SH_) (s a b : Int) : Int := if ¬ bt_ (h 13 s) a = 0 then 0 else if ¬ bt_ (h 13 s) b = 0 then 0 else if bi_ (tf_ h) (en_ h s) a b = 0 then bi_ (tf_ h) (en_ h s) b a else 1
theorem c_helpEachOther {s a b : Int} (o : to_ h) (hs : 0 ≤ s ∧ s < h 7 3) (ha : 0 ≤ a ∧ a < h 7 2) (hb : 0 ≤ b ∧ b < h 7 2) (kk : ∀ hc, fk_ h hc → Post (some (sv_i (hp_ h s a b))) hc) : Ctr_ g (d + 7) mX2_helpEachOther [sv_r 4 2 46, sv_i s, sv_i a, sv_i b] h Post := by
  have o2 := o.2.1
  have k1 : fk_ h (ms_ h 52 (en_ h s)) := fk_m ⟨by decide, by decide⟩ (fk_r h)
  have o3 := fk_to k1 o
  have e7 := k1 7 (by omega)
  have em := mu_ms h 52 (en_ h s)
  unfold hp_ at kk
  refine V_mk (by decide +kernel) (Or.inr (Or.inr (Or.inl ⟨rfl, rfl⟩))) (Nat.le_of_ble_eq_true rfl) (by simp [sv_c]) ?_
  show V_ _ _ _ 0 [_, _, _, _] [] _ _
  refine vr_aload_n (q := 1) dX2_helpEachOther_0 rfl rfl ?_
  refine vr_getA (q := 4) dX2_helpEachOther_1 rfl fX2_40 rfl ⟨by decide, by decide, rfl⟩ ?_
  refine vr_iload_n (q := 5) dX2_helpEachOther_4 rfl rfl ?_
  refine vr_iload_n (q := 6) dX2_helpEachOther_5 rfl rfl ?_
  -- at X2.helpEachOther 6: .invokevirtual 99
  refine vr_iv2 (q := 9) dX2_helpEachOther_6 rfl vX2_99 (Nat.le_of_ble_eq_true rfl) ?_
  refine c_wasTold ⟨by omega, by omega⟩ (fun c1 => ?_) (fun c1 => ?_)
  · rw [if_pos c1] at kk
    refine vr_if_ne (t := 24) (q := 12) dX2_helpEachOther_9 (by decide) rfl (fun _ => ?_) (fun c9 => absurd c9 (by omega))
    refine vr_iconst (q := 25) dX2_helpEachOther_24 rfl ⟨by decide, by decide⟩ ?_
    -- at X2.helpEachOther 25: .ireturn
    refine vr_zret dX2_helpEachOther_25 rfl ?_ ?_
    · exact Or.inl rfl
    · exact kk _ (fk_r h)
  rw [if_neg (fun z => z c1)] at kk
  refine vr_if_ne (t := 24) (q := 12) dX2_helpEachOther_9 (by decide) rfl (fun c9 => absurd c9 (by omega)) (fun _ => ?_)
  refine vr_aload_n (q := 13) dX2_helpEachOther_12 rfl rfl ?_
  refine vr_getA (q := 16) dX2_helpEachOther_13 rfl fX2_40 rfl ⟨by decide, by decide, rfl⟩ ?_
  refine vr_iload_n (q := 17) dX2_helpEachOther_16 rfl rfl ?_
  refine vr_iload_n (q := 18) dX2_helpEachOther_17 rfl rfl ?_
  -- at X2.helpEachOther 18: .invokevirtual 99
  refine vr_iv2 (q := 21) dX2_helpEachOther_18 rfl vX2_99 (Nat.le_of_ble_eq_true rfl) ?_
  refine c_wasTold ⟨by omega, by omega⟩ (fun c2 => ?_) (fun c2 => ?_)
  · rw [if_pos c2] at kk
    refine vr_if_eq (t := 26) (q := 24) dX2_helpEachOther_21 (by decide) rfl (fun c9 => absurd c9 (by omega)) (fun _ => ?_)
    refine vr_iconst (q := 25) dX2_helpEachOther_24 rfl ⟨by decide, by decide⟩ ?_
    -- at X2.helpEachOther 25: .ireturn
    refine vr_zret dX2_helpEachOther_25 rfl ?_ ?_
    · exact Or.inl rfl
    · exact kk _ (fk_r h)
  rw [if_neg (fun z => z c2)] at kk
  refine vr_if_eq (t := 26) (q := 24) dX2_helpEachOther_21 (by decide) rfl (fun _ => ?_) (fun c9 => absurd c9 (by omega))
  refine vr_aload_n (q := 27) dX2_helpEachOther_26 rfl rfl ?_
  refine vr_iload_n (q := 28) dX2_helpEachOther_27 rfl rfl ?_
  -- at X2.helpEachOther 28: .invokevirtual 49
  refine vr_iv1 (q := 31) dX2_helpEachOther_28 rfl vX2_49 (Nat.le_of_ble_eq_true rfl) ?_
  refine c_mindOf o hs ?_
  refine vr_pop (q := 32) dX2_helpEachOther_31 rfl rfl ?_
  refine vr_aload_n (q := 33) dX2_helpEachOther_32 rfl rfl ?_
  refine vr_iload_n (q := 34) dX2_helpEachOther_33 rfl rfl ?_
  refine vr_iload_n (q := 35) dX2_helpEachOther_34 rfl rfl ?_
  -- at X2.helpEachOther 35: .invokevirtual 102
  refine vr_iv2 (q := 38) dX2_helpEachOther_35 rfl vX2_102 (Nat.le_of_ble_eq_true rfl) ?_
  refine c_bringsIn o3 (by rw [e7]; exact ha) (by rw [e7]; exact hb) (by rw [em]; exact en_mo o hs) (fun h1 f1 m1 => ?_)
  rw [em] at m1
  rw [em, fk_tf k1]
  have k2 := fk_t k1 f1
  have o4 := fk_to k2 o
  refine vr_if_ne (t := 50) (q := 41) dX2_helpEachOther_38 (by decide) rfl (fun c3 => ?_) (fun c3 => ?_)
  · rw [if_neg c3] at kk
    refine vr_iconst (q := 51) dX2_helpEachOther_50 rfl ⟨by decide, by decide⟩ ?_
    refine vr_goto (q := 55) dX2_helpEachOther_51 (by decide) ?_
    -- at X2.helpEachOther 55: .ireturn
    refine vr_zret dX2_helpEachOther_55 rfl ?_ ?_
    · exact Or.inr rfl
    · exact kk _ k2
  · rw [if_pos c3] at kk
    refine vr_aload_n (q := 42) dX2_helpEachOther_41 rfl rfl ?_
    refine vr_iload_n (q := 43) dX2_helpEachOther_42 rfl rfl ?_
    refine vr_iload_n (q := 44) dX2_helpEachOther_43 rfl rfl ?_
    -- at X2.helpEachOther 44: .invokevirtual 102
    refine vr_iv2 (q := 47) dX2_helpEachOther_44 rfl vX2_102 (Nat.le_of_ble_eq_true rfl) ?_
    refine c_bringsIn o4 (by rw [k2 7 (by omega)]; exact hb) (by rw [k2 7 (by omega)]; exact ha) (by rw [m1]; exact en_mo o hs) (fun h2 f2 m2 => ?_)
    rw [m1, fk_tf k2]
    refine vr_if_eq (t := 54) (q := 50) dX2_helpEachOther_47 (by decide) rfl (fun c4 => ?_) (fun c4 => ?_)
    · rw [c4] at kk
      refine vr_iconst (q := 55) dX2_helpEachOther_54 rfl ⟨by decide, by decide⟩ ?_
      -- at X2.helpEachOther 55: .ireturn
      refine vr_zret dX2_helpEachOther_55 rfl ?_ ?_
      · exact Or.inl rfl
      · exact kk _ (fk_t k2 f2)
    · have c5 : bi_ (tf_ h) (en_ h s) b a = 1 := by
        rcases bi_01 (tf_ h) (en_ h s) b a with z | z
        · exact absurd z c4
        · exact z
      rw [c5] at kk
      refine vr_iconst (q := 51) dX2_helpEachOther_50 rfl ⟨by decide, by decide⟩ ?_
      refine vr_goto (q := 55) dX2_helpEachOther_51 (by decide) ?_
      -- at X2.helpEachOther 55: .ireturn
      refine vr_zret dX2_helpEachOther_55 rfl ?_ ?_
      · exact Or.inr rfl
      · exact kk _ (fk_t k2 f2)
/-- a row's telling lies ready: n lies, their nods -/
def tt_ (h : SH_) (p n : Int) (hc : SH_) : Prop := fk_ h hc ∧ hc 46 8 = n ∧ ∀ t, 0 ≤ t → t < n → hc 50 t = h 4 (p + 2 * t) ∧ hc 51 t = h 4 (p + 2 * t + 1)
theorem l_takeTelling {r i n : Int} (o : to_ h) (hr : 0 ≤ r ∧ r < 8) (hi : 0 ≤ i ∧ i + 2 * n ≤ 40) (hn : 0 ≤ n ∧ n ≤ 6) (kt : (∀ t, 0 ≤ t → t < n → 0 ≤ h 4 (r * 40 + i + 2 * t) ∧ h 4 (r * 40 + i + 2 * t) < h 7 2) → ∀ hc, tt_ h (r * 40 + i) n hc → Post (some (sv_i 1)) hc) (kf : ¬ (∀ t, 0 ≤ t → t < n → 0 ≤ h 4 (r * 40 + i + 2 * t) ∧ h 4 (r * 40 + i + 2 * t) < h 7 2) → ∀ hc, fk_ h hc → Post (some (sv_i 0)) hc) : ∀ (m j : Nat) (hc : SH_) (o6 : Option SV_), (j : Int) + m = n → (∀ t : Int, 0 ≤ t → t < j → 0 ≤ h 4 (r * 40 + i + 2 * t) ∧ h 4 (r * 40 + i + 2 * t) < h 7 2) → fk_ h hc → (∀ t : Int, 0 ≤ t → t < j → hc 50 t = h 4 (r * 40 + i + 2 * t) ∧ hc 51 t = h 4 (r * 40 + i + 2 * t + 1)) → V_ g (d + 1) mX2_takeTelling 3 [some (sv_r 4 2 46), some (sv_r 4 5 1), some (sv_i r), some (sv_i i), some (sv_i n), some (sv_i j), o6] [] hc Post := by
  intro m
  induction m with
  | zero =>
    intro j hc o6 hj hall hk hI
    have ej : (j : Int) = n := by omega
    rw [ej] at hall hI
    refine vr_iload (q := 5) dX2_takeTelling_3 rfl rfl ?_
    refine vr_iload (q := 7) dX2_takeTelling_5 rfl rfl ?_
    -- at X2.takeTelling 7: .if_icmp .ge 65
    refine vr_ic_ge (t := 72) (q := 10) dX2_takeTelling_7 (by decide) rfl (fun _ => ?_) (fun c9 => absurd c9 (by omega))
    refine vr_aload_n (q := 73) dX2_takeTelling_72 rfl rfl ?_
    refine vr_iload (q := 75) dX2_takeTelling_73 rfl rfl ?_
    refine vr_put (ji := 8) (q := 78) dX2_takeTelling_75 rfl pX2_37 rfl rfl ?_
    refine vr_iconst (q := 79) dX2_takeTelling_78 rfl ⟨by decide, by decide⟩ ?_
    -- at X2.takeTelling 79: .ireturn
    refine vr_zret dX2_takeTelling_79 rfl ?_ ?_
    · exact Or.inr rfl
    · refine kt hall _ ⟨fk_s ⟨by decide, by decide⟩ hk, hs_e _ _ _ _, fun t t0 t1 => ?_⟩
      rw [hs_k (by decide), hs_k (by decide)]
      exact hI t t0 t1
  | succ m ih =>
    intro j hc o6 hj hall hk hI
    have e4 := hk 4 (by omega)
    have e7 := hk 7 (by omega)
    have ep : r * 40 + (i + 2 * (j : Int)) = r * 40 + i + 2 * (j : Int) := by omega
    have ep1 : r * 40 + (i + 2 * (j : Int) + 1) = r * 40 + i + 2 * (j : Int) + 1 := by omega
    refine vr_iload (q := 5) dX2_takeTelling_3 rfl rfl ?_
    refine vr_iload (q := 7) dX2_takeTelling_5 rfl rfl ?_
    -- at X2.takeTelling 7: .if_icmp .ge 65
    refine vr_ic_ge (t := 72) (q := 10) dX2_takeTelling_7 (by decide) rfl (fun c9 => absurd c9 (by omega)) (fun _ => ?_)
    refine vr_aload_n (q := 11) dX2_takeTelling_10 rfl rfl ?_
    refine vr_iload_n (q := 12) dX2_takeTelling_11 rfl rfl ?_
    refine vr_iload_n (q := 13) dX2_takeTelling_12 rfl rfl ?_
    refine vr_iconst (q := 14) dX2_takeTelling_13 rfl ⟨by decide, by decide⟩ ?_
    refine vr_iload (q := 16) dX2_takeTelling_14 rfl rfl ?_
    refine vr_imulN (q := 17) dX2_takeTelling_16 rfl ⟨by omega, by omega⟩ ?_
    refine vr_iaddN (q := 18) dX2_takeTelling_17 rfl ⟨by omega, by omega⟩ ?_
    -- at X2.takeTelling 18: .invokevirtual 105
    refine vr_iv2 (q := 21) dX2_takeTelling_18 rfl vX2_105 (Nat.le_of_ble_eq_true rfl) ?_
    refine c_itemAt hr ⟨by omega, by omega⟩ ?_
    rw [e4, ep]
    refine vr_istore (q := 23) dX2_takeTelling_21 rfl (Nat.le_of_ble_eq_true rfl) rfl rfl ?_
    refine vr_aload_n (q := 24) dX2_takeTelling_23 rfl rfl ?_
    refine vr_getA (q := 27) dX2_takeTelling_24 rfl fX2_40 rfl ⟨by decide, by decide, rfl⟩ ?_
    refine vr_iload (q := 29) dX2_takeTelling_27 rfl rfl ?_
    -- at X2.takeTelling 29: .invokevirtual 111
    refine vr_iv1 (q := 32) dX2_takeTelling_29 rfl vX2_111 (Nat.le_of_ble_eq_true rfl) ?_
    refine c_hasLie (fun c1 => ?_) (fun c1 => ?_)
    · rw [e7] at c1
      refine vr_if_ne (t := 37) (q := 35) dX2_takeTelling_32 (by decide) rfl (fun _ => ?_) (fun c9 => absurd c9 (by omega))
      refine vr_aload_n (q := 38) dX2_takeTelling_37 rfl rfl ?_
      refine vr_getR (q := 41) dX2_takeTelling_38 rfl fX2_31 rfl y_X2_6 (by first | (simp only [Int.reduceAdd]; rfl) | rfl) ?_
      refine vr_iload (q := 43) dX2_takeTelling_41 rfl rfl ?_
      refine vr_iload (q := 45) dX2_takeTelling_43 rfl rfl ?_
      refine vr_iast (q := 46) dX2_takeTelling_45 rfl ⟨by omega, by omega⟩ ?_
      refine vr_aload_n (q := 47) dX2_takeTelling_46 rfl rfl ?_
      refine vr_getR (q := 50) dX2_takeTelling_47 rfl fX2_34 rfl y_X2_7 (by first | (simp only [Int.reduceAdd]; rfl) | rfl) ?_
      refine vr_iload (q := 52) dX2_takeTelling_50 rfl rfl ?_
      refine vr_aload_n (q := 53) dX2_takeTelling_52 rfl rfl ?_
      refine vr_iload_n (q := 54) dX2_takeTelling_53 rfl rfl ?_
      refine vr_iload_n (q := 55) dX2_takeTelling_54 rfl rfl ?_
      refine vr_iconst (q := 56) dX2_takeTelling_55 rfl ⟨by decide, by decide⟩ ?_
      refine vr_iload (q := 58) dX2_takeTelling_56 rfl rfl ?_
      refine vr_imulN (q := 59) dX2_takeTelling_58 rfl ⟨by omega, by omega⟩ ?_
      refine vr_iaddN (q := 60) dX2_takeTelling_59 rfl ⟨by omega, by omega⟩ ?_
      refine vr_iconst (q := 61) dX2_takeTelling_60 rfl ⟨by decide, by decide⟩ ?_
      refine vr_iaddN (q := 62) dX2_takeTelling_61 rfl ⟨by omega, by omega⟩ ?_
      -- at X2.takeTelling 62: .invokevirtual 105
      refine vr_iv2 (q := 65) dX2_takeTelling_62 rfl vX2_105 (Nat.le_of_ble_eq_true rfl) ?_
      refine c_itemAt hr ⟨by omega, by omega⟩ ?_
      rw [hs_k (by decide), e4, ep1]
      refine vr_iast (q := 66) dX2_takeTelling_65 rfl ⟨by omega, by omega⟩ ?_
      refine vr_iinc (q := 69) dX2_takeTelling_66 rfl rfl ⟨by omega, by omega⟩ (Nat.le_of_ble_eq_true rfl) rfl rfl ?_
      refine vr_goto (q := 3) dX2_takeTelling_69 (by decide) ?_
      -- at X2.takeTelling 3: .iload 5
      refine ih (j + 1) _ _ (by omega) (fun t t0 t1 => ?_) (fk_s ⟨by decide, by decide⟩ (fk_s ⟨by decide, by decide⟩ hk)) (fun t t0 t1 => ?_)
      · by_cases ht : t = j
        · rw [ht]; exact c1
        · exact hall t t0 (by omega)
      · by_cases ht : t = j
        · subst ht
          rw [hs_k (a := 50) (by decide), hs_e, hs_e]
          exact ⟨rfl, rfl⟩
        · rw [hs_k (a := 50) (by decide), hs_n (by omega), hs_n (by omega), hs_k (a := 51) (by decide)]
          exact hI t t0 (by omega)
    · rw [e7] at c1
      refine vr_if_ne (t := 37) (q := 35) dX2_takeTelling_32 (by decide) rfl (fun c9 => absurd c9 (by omega)) (fun _ => ?_)
      refine vr_iconst (q := 36) dX2_takeTelling_35 rfl ⟨by decide, by decide⟩ ?_
      -- at X2.takeTelling 36: .ireturn
      refine vr_zret dX2_takeTelling_36 rfl ?_ ?_
      · exact Or.inl rfl
      · exact kf (fun z => c1 (z j (by omega) (by omega))) _ hk
theorem c_takeTelling {r i n : Int} (o : to_ h) (hr : 0 ≤ r ∧ r < 8) (hi : 0 ≤ i ∧ i + 2 * n ≤ 40) (hn : 0 ≤ n ∧ n ≤ 6) (kt : (∀ t, 0 ≤ t → t < n → 0 ≤ h 4 (r * 40 + i + 2 * t) ∧ h 4 (r * 40 + i + 2 * t) < h 7 2) → ∀ hc, tt_ h (r * 40 + i) n hc → Post (some (sv_i 1)) hc) (kf : ¬ (∀ t, 0 ≤ t → t < n → 0 ≤ h 4 (r * 40 + i + 2 * t) ∧ h 4 (r * 40 + i + 2 * t) < h 7 2) → ∀ hc, fk_ h hc → Post (some (sv_i 0)) hc) : Ctr_ g (d + 1) mX2_takeTelling [sv_r 4 2 46, sv_r 4 5 1, sv_i r, sv_i i, sv_i n] h Post := by
  refine V_mk (by decide +kernel) (Or.inr (Or.inr (Or.inl ⟨rfl, rfl⟩))) (Nat.le_of_ble_eq_true rfl) (by simp [sv_c]) ?_
  show V_ _ _ _ 0 [_, _, _, _, _, _, _] [] _ _
  refine vr_iconst (q := 1) dX2_takeTelling_0 rfl ⟨by decide, by decide⟩ ?_
  refine vr_istore (q := 3) dX2_takeTelling_1 rfl (Nat.le_of_ble_eq_true rfl) rfl rfl ?_
  -- at X2.takeTelling 3: .iload 5
  exact l_takeTelling o hr hi hn kt kf n.toNat 0 h _ (by omega) (fun t t0 t1 => absurd t1 (by omega)) (fk_r h) (fun t t0 t1 => absurd t1 (by omega))
/-- whether it goes so: k more lies from t on -/
def gs_ (F : TF_) (L N : Int → Int) : Nat → Int → MU_ → Int
  | 0, _, _ => 1
  | k + 1, t, m => if nl_ F m (L t) = N t then gs_ F L N k (t + 1) (hl_ F m (L t)) else 0
theorem l_goesSo {s tr db n : Int} (o : to_ h) (hn : 0 ≤ n ∧ n ≤ 6) (e8 : h 46 8 = n) (hL : ∀ t, 0 ≤ t → t < n → 0 ≤ h 50 t ∧ h 50 t < h 7 2) : ∀ (k j : Nat) (m : MU_) (o6 : Option SV_), (j : Int) + k = n → mo_ (6 + j) m → (∀ m2, Post (some (sv_i (gs_ (tf_ h) (h 50) (h 51) k j m))) (ms_ h 52 m2)) → V_ g (d + 5) mX2_goesSo 22 [some (sv_r 4 2 46), some (sv_i s), some (sv_i tr), some (sv_i db), some (sv_r 4 3 52), some (sv_i j), o6] [] (ms_ h 52 m) Post := by
  intro k
  induction k with
  | zero =>
    intro j m o6 hj hm kk
    have e46 : ms_ h 52 m 46 = h 46 := ms_lo (by decide) (by decide)
    refine vr_iload (q := 24) dX2_goesSo_22 rfl rfl ?_
    refine vr_aload_n (q := 25) dX2_goesSo_24 rfl rfl ?_
    refine vr_getV (ji := 8) (q := 28) dX2_goesSo_25 rfl fX2_37 rfl rfl (by rw [e46, e8]) ?_
    -- at X2.goesSo 28: .if_icmp .ge 49
    refine vr_ic_ge (t := 77) (q := 31) dX2_goesSo_28 (by decide) rfl (fun _ => ?_) (fun c9 => absurd c9 (by omega))
    refine vr_iconst (q := 78) dX2_goesSo_77 rfl ⟨by decide, by decide⟩ ?_
    -- at X2.goesSo 78: .ireturn
    refine vr_zret dX2_goesSo_78 rfl ?_ ?_
    · exact Or.inr rfl
    · exact kk m
  | succ k ih =>
    intro j m o6 hj hm kk
    have o1 := o.1
    have e46 : ms_ h 52 m 46 = h 46 := ms_lo (by decide) (by decide)
    have f8 : ms_ h 52 m 8 = h 8 := ms_lo (by decide) (by decide)
    have f9 : ms_ h 52 m 9 = h 9 := ms_lo (by decide) (by decide)
    have f10 : ms_ h 52 m 10 = h 10 := ms_lo (by decide) (by decide)
    have hl := hL j (by omega) (by omega)
    have hlo := o.2.2.2.1 (h 50 j) hl.1 hl.2
    have e : gs_ (tf_ h) (h 50) (h 51) (k + 1) j m = if nl_ (tf_ h) m (h 50 j) = h 51 j then gs_ (tf_ h) (h 50) (h 51) k (j + 1) (hl_ (tf_ h) m (h 50 j)) else 0 := rfl
    have hm2 : mo_ (6 + ((j + 1 : Nat) : Int)) (hl_ (tf_ h) m (h 50 j)) := by
      have z := he_mo (b := nl_ (tf_ h) m (h 50 j)) hlo hm
      rw [show (6 : Int) + ((j + 1 : Nat) : Int) = 6 + (j : Int) + 1 by omega]
      exact z
    rw [e] at kk
    refine vr_iload (q := 24) dX2_goesSo_22 rfl rfl ?_
    refine vr_aload_n (q := 25) dX2_goesSo_24 rfl rfl ?_
    refine vr_getV (ji := 8) (q := 28) dX2_goesSo_25 rfl fX2_37 rfl rfl (by rw [e46, e8]) ?_
    -- at X2.goesSo 28: .if_icmp .ge 49
    refine vr_ic_ge (t := 77) (q := 31) dX2_goesSo_28 (by decide) rfl (fun c9 => absurd c9 (by omega)) (fun _ => ?_)
    refine vr_aload (q := 33) dX2_goesSo_31 rfl rfl ?_
    refine vr_aload_n (q := 34) dX2_goesSo_33 rfl rfl ?_
    refine vr_getA (q := 37) dX2_goesSo_34 rfl fX2_40 rfl ⟨by decide, by decide, rfl⟩ ?_
    refine vr_aload_n (q := 38) dX2_goesSo_37 rfl rfl ?_
    refine vr_getR (q := 41) dX2_goesSo_38 rfl fX2_31 rfl y_X2_6 (by first | (simp only [Int.reduceAdd]; rfl) | rfl) ?_
    refine vr_iload (q := 43) dX2_goesSo_41 rfl rfl ?_
    refine vr_ialdV (q := 44) dX2_goesSo_43 rfl ⟨by omega, by omega⟩ (by rw [ms_lo (by decide) (by decide)]) ?_
    -- at X2.goesSo 44: .invokevirtual 88
    refine vr_iv2 (q := 47) dX2_goesSo_44 rfl vX2_88 (Nat.le_of_ble_eq_true rfl) ?_
    refine c_hear (n := 6 + j) ⟨by omega, by omega⟩ (by decide) (by rw [f8, f9, f10]; exact hlo) (by rw [mu_ms]; exact hm) (by omega) ?_
    rw [f8, f9, f10, mu_ms, ms_ms]
    have hx : ∀ x : Int, x = nl_ (tf_ h) m (h 50 j) → V_ g (d + 5) mX2_goesSo 55 [some (sv_r 4 2 46), some (sv_i s), some (sv_i tr), some (sv_i db), some (sv_r 4 3 52), some (sv_i j), o6] [sv_i x] (ms_ h 52 (hl_ (tf_ h) m (h 50 j))) Post := by
      intro x hx
      refine vr_istore (q := 57) dX2_goesSo_55 rfl (Nat.le_of_ble_eq_true rfl) rfl rfl ?_
      refine vr_iload (q := 59) dX2_goesSo_57 rfl rfl ?_
      refine vr_aload_n (q := 60) dX2_goesSo_59 rfl rfl ?_
      refine vr_getR (q := 63) dX2_goesSo_60 rfl fX2_34 rfl y_X2_7 (by first | (simp only [Int.reduceAdd]; rfl) | rfl) ?_
      refine vr_iload (q := 65) dX2_goesSo_63 rfl rfl ?_
      refine vr_ialdV (q := 66) dX2_goesSo_65 rfl ⟨by omega, by omega⟩ (by rw [ms_lo (by decide) (by decide)]) ?_
      -- at X2.goesSo 66: .if_icmp .eq 5
      refine vr_ic_eq (t := 71) (q := 69) dX2_goesSo_66 (by decide) rfl (fun c1 => ?_) (fun c1 => ?_)
      · rw [hx] at c1
        rw [if_pos c1] at kk
        refine vr_iinc (q := 74) dX2_goesSo_71 rfl rfl ⟨by omega, by omega⟩ (Nat.le_of_ble_eq_true rfl) rfl rfl ?_
        refine vr_goto (q := 22) dX2_goesSo_74 (by decide) ?_
        -- at X2.goesSo 22: .iload 5
        exact ih (j + 1) _ _ (by omega) hm2 kk
      · rw [hx] at c1
        rw [if_neg c1] at kk
        refine vr_iconst (q := 70) dX2_goesSo_69 rfl ⟨by decide, by decide⟩ ?_
        -- at X2.goesSo 70: .ireturn
        refine vr_zret dX2_goesSo_70 rfl ?_ ?_
        · exact Or.inl rfl
        · exact kk _
    refine vr_if_eq (t := 54) (q := 50) dX2_goesSo_47 (by decide) rfl (fun c0 => ?_) (fun c0 => ?_)
    · refine vr_iconst (q := 55) dX2_goesSo_54 rfl ⟨by decide, by decide⟩ ?_
      -- at X2.goesSo 55: .istore 6
      exact hx 0 c0.symm
    · refine vr_iconst (q := 51) dX2_goesSo_50 rfl ⟨by decide, by decide⟩ ?_
      refine vr_goto (q := 55) dX2_goesSo_51 (by decide) ?_
      -- at X2.goesSo 55: .istore 6
      refine hx 1 ?_
      rcases nb_01 (h 8 (h 50 j)) (h 9 (h 50 j)) (h 10 (h 50 j)) m with z | z
      · exact absurd z c0
      · exact z.symm
theorem c_goesSo {s tr db n : Int} (o : to_ h) (hs : 0 ≤ s ∧ s < h 7 3) (ht : 0 ≤ tr ∧ tr ≤ 20) (hb : 0 ≤ db ∧ db < 16) (hn : 0 ≤ n ∧ n ≤ 6) (e8 : h 46 8 = n) (hL : ∀ t, 0 ≤ t → t < n → 0 ≤ h 50 t ∧ h 50 t < h 7 2) (kk : ∀ m2, Post (some (sv_i (gs_ (tf_ h) (h 50) (h 51) n.toNat 0 (tr, db, (en_ h s).2.2)))) (ms_ h 52 m2)) : Ctr_ g (d + 5) mX2_goesSo [sv_r 4 2 46, sv_i s, sv_i tr, sv_i db] h Post := by
  have hm := en_mo o hs
  refine V_mk (by decide +kernel) (Or.inr (Or.inr (Or.inl ⟨rfl, rfl⟩))) (Nat.le_of_ble_eq_true rfl) (by simp [sv_c]) ?_
  show V_ _ _ _ 0 [_, _, _, _, _, _, _] [] _ _
  refine vr_aload_n (q := 1) dX2_goesSo_0 rfl rfl ?_
  refine vr_iload_n (q := 2) dX2_goesSo_1 rfl rfl ?_
  -- at X2.goesSo 2: .invokevirtual 49
  refine vr_iv1 (q := 5) dX2_goesSo_2 rfl vX2_49 (Nat.le_of_ble_eq_true rfl) ?_
  refine c_mindOf o hs ?_
  refine vr_astore (q := 7) dX2_goesSo_5 rfl (Nat.le_of_ble_eq_true rfl) rfl rfl ?_
  refine vr_aload (q := 9) dX2_goesSo_7 rfl rfl ?_
  refine vr_iload_n (q := 10) dX2_goesSo_9 rfl rfl ?_
  refine vr_put (ji := 0) (q := 13) dX2_goesSo_10 rfl pX2_115 rfl rfl ?_
  refine vr_aload (q := 15) dX2_goesSo_13 rfl rfl ?_
  refine vr_iload_n (q := 16) dX2_goesSo_15 rfl rfl ?_
  refine vr_put (ji := 1) (q := 19) dX2_goesSo_16 rfl pX2_118 rfl rfl ?_
  -- at X2.goesSo 19: .iconst 0
  rw [ms_h0, ms_h1]
  refine vr_iconst (q := 20) dX2_goesSo_19 rfl ⟨by decide, by decide⟩ ?_
  refine vr_istore (q := 22) dX2_goesSo_20 rfl (Nat.le_of_ble_eq_true rfl) rfl rfl ?_
  -- at X2.goesSo 22: .iload 5
  exact l_goesSo o hn e8 hL n.toNat 0 _ _ (by omega) ⟨ht, hb, hm.2.2.1, hm.2.2.2⟩ kk
def pw_ : Nat → Int
  | 0 => 1
  | n + 1 => pw_ n * 10
theorem pw_r : ∀ n : Fin 7, 1 ≤ pw_ n ∧ pw_ n ≤ 1000000 := by decide +kernel
theorem pw_b {n : Nat} (h : n ≤ 6) : 1 ≤ pw_ n ∧ pw_ n ≤ 1000000 := pw_r ⟨n, by omega⟩
theorem l_waysInAll {n : Int} (hn : 0 ≤ n ∧ n ≤ 6) (e8 : h 46 8 = n) (kk : Post (some (sv_i (pw_ n.toNat))) h) : ∀ (k j : Nat), (j : Int) + k = n → V_ g d mX2_waysInAll 4 [some (sv_r 4 2 46), some (sv_i (pw_ j)), some (sv_i j)] [] h Post := by
  intro k
  induction k with
  | zero =>
    intro j hj
    rw [show n.toNat = j by omega] at kk
    refine vr_iload_n (q := 5) dX2_waysInAll_4 rfl rfl ?_
    refine vr_aload_n (q := 6) dX2_waysInAll_5 rfl rfl ?_
    refine vr_getV (ji := 8) (q := 9) dX2_waysInAll_6 rfl fX2_37 rfl rfl (e8) ?_
    -- at X2.waysInAll 9: .if_icmp .ge 14
    refine vr_ic_ge (t := 23) (q := 12) dX2_waysInAll_9 (by decide) rfl (fun _ => ?_) (fun c9 => absurd c9 (by omega))
    refine vr_iload_n (q := 24) dX2_waysInAll_23 rfl rfl ?_
    refine vr_iret dX2_waysInAll_24 rfl ?_
    first | exact kk | (exfalso; omega) | (repeat (first | exact kk | rw [if_pos (by omega)] at kk | rw [if_neg (by omega)] at kk))
  | succ k ih =>
    intro j hj
    have b := pw_b (n := j) (by omega)
    refine vr_iload_n (q := 5) dX2_waysInAll_4 rfl rfl ?_
    refine vr_aload_n (q := 6) dX2_waysInAll_5 rfl rfl ?_
    refine vr_getV (ji := 8) (q := 9) dX2_waysInAll_6 rfl fX2_37 rfl rfl (e8) ?_
    -- at X2.waysInAll 9: .if_icmp .ge 14
    refine vr_ic_ge (t := 23) (q := 12) dX2_waysInAll_9 (by decide) rfl (fun c9 => absurd c9 (by omega)) (fun _ => ?_)
    refine vr_iload_n (q := 13) dX2_waysInAll_12 rfl rfl ?_
    refine vr_bipush (q := 15) dX2_waysInAll_13 rfl ⟨by decide, by decide⟩ (by decide) ?_
    refine vr_imulN (q := 16) dX2_waysInAll_15 rfl ⟨by omega, by omega⟩ ?_
    refine vr_istore_n (q := 17) dX2_waysInAll_16 rfl rfl (Nat.le_of_ble_eq_true rfl) rfl rfl ?_
    refine vr_iinc (q := 20) dX2_waysInAll_17 rfl rfl ⟨by omega, by omega⟩ (Nat.le_of_ble_eq_true rfl) rfl rfl ?_
    refine vr_goto (q := 4) dX2_waysInAll_20 (by decide) ?_
    -- at X2.waysInAll 4: .iload_n 2
    exact ih (j + 1) (by omega)
theorem c_waysInAll {n : Int} (hn : 0 ≤ n ∧ n ≤ 6) (e8 : h 46 8 = n) (kk : Post (some (sv_i (pw_ n.toNat))) h) : Ctr_ g d mX2_waysInAll [sv_r 4 2 46] h Post := by
  refine V_mk (by decide +kernel) (Or.inr (Or.inl ⟨rfl, rfl⟩)) (Nat.le_of_ble_eq_true rfl) (by simp [sv_c]) ?_
  show V_ _ _ _ 0 [_, _, _] [] _ _
  refine vr_iconst (q := 1) dX2_waysInAll_0 rfl ⟨by decide, by decide⟩ ?_
  refine vr_istore_n (q := 2) dX2_waysInAll_1 rfl rfl (Nat.le_of_ble_eq_true rfl) rfl rfl ?_
  refine vr_iconst (q := 3) dX2_waysInAll_2 rfl ⟨by decide, by decide⟩ ?_
  refine vr_istore_n (q := 4) dX2_waysInAll_3 rfl rfl (Nat.le_of_ble_eq_true rfl) rfl rfl ?_
  -- at X2.waysInAll 4: .iload_n 2
  exact l_waysInAll hn e8 kk n.toNat 0 (by omega)
end PF2_
end
section
/-- at depth e: minds deeper than e and the path from e on are free -/
def sd_ (e : Int) (h hc : SH_) : Prop := (∀ a, a ≠ 48 → ¬ (54 + 2 * e ≤ a ∧ a ≤ 65) → hc a = h a) ∧ ∀ b, b < e → hc 48 b = h 48 b
theorem sd_r (e : Int) (h : SH_) : sd_ e h h := ⟨fun _ _ _ => rfl, fun _ _ => rfl⟩
theorem sd_t {e : Int} {h h1 h2 : SH_} (a : sd_ e h h1) (b : sd_ e h1 h2) : sd_ e h h2 := ⟨fun x x1 x2 => (b.1 x x1 x2).trans (a.1 x x1 x2), fun x hx => (b.2 x hx).trans (a.2 x hx)⟩
theorem sd_up {e : Int} {h h1 : SH_} (a : sd_ (e + 1) h h1) : sd_ e h h1 := ⟨fun x x1 x2 => a.1 x x1 (by omega), fun x hx => a.2 x (by omega)⟩
theorem sd_m {e : Int} {h : SH_} (he : 0 ≤ e ∧ e < 6) (m : MU_) : sd_ e h (ms_ h (52 + 2 * (e + 1)) m) := ⟨fun x x1 x2 => ms_n (by omega) (by omega), fun x hx => by rw [ms_n (by omega) (by omega)]⟩
theorem sd_n {e l : Int} {h : SH_} (he : 0 ≤ e ∧ e < 6) : sd_ e h (tn_ h e l) := by
  unfold tn_
  refine ⟨fun x x1 x2 => ?_, fun x hx => ?_⟩
  · rw [ms_n (by omega) (by omega), hs_k x1]
  · rw [ms_n (by omega) (by omega), hs_n (by omega)]
theorem sd_mu {e : Int} {h hc : SH_} (a : sd_ e h hc) (he : 0 ≤ e) : mu_ hc (52 + 2 * e) = mu_ h (52 + 2 * e) := by
  unfold mu_
  rw [a.1 _ (by omega) (by omega), a.1 _ (by omega) (by omega)]
theorem sd_lo {e : Int} {h hc : SH_} (a : sd_ e h hc) (he : 0 ≤ e) {x : Int} (hx : x < 48 ∨ 65 < x ∨ (48 < x ∧ x < 54)) : hc x = h x := a.1 x (by omega) (by omega)
theorem sd_to {e : Int} {h hc : SH_} (a : sd_ e h hc) (he : 0 ≤ e) (o : to_ h) : to_ hc := to_k (fun x _ _ => sd_lo a he (by omega)) o
theorem sd_tf {e : Int} {h hc : SH_} (a : sd_ e h hc) (he : 0 ≤ e) : tf_ hc = tf_ h := tf_k (fun x _ _ => sd_lo a he (by omega))
theorem sd_fk {e : Int} {h hc : SH_} (a : sd_ e h hc) (he : 0 ≤ e) : fk_ h hc := fun x hx => sd_lo a he (by omega)
/-- in how many of 10^k ways it nods w times or more -/
def wf_ (F : TF_) (L : Int → Int) (c : Int) : Nat → Int → MU_ → Int → Int
  | 0, _, _, w => if 0 < w then 0 else 1
  | k + 1, t, m, w => if nl_ F m (L t) = 0 then 10 * wf_ F L c k (t + 1) (he_ (F.2.1 (L t)) (F.2.2 (L t)) 0 m) w else c * wf_ F L c k (t + 1) (he_ (F.2.1 (L t)) (F.2.2 (L t)) 0 m) w + (10 - c) * wf_ F L c k (t + 1) (he_ (F.2.1 (L t)) (F.2.2 (L t)) 1 m) (w - 1)
theorem wf_r {F : TF_} {L : Int → Int} {c : Int} (hc : 0 ≤ c ∧ c ≤ 10) : ∀ (k : Nat) (t : Int) (m : MU_) (w : Int), 0 ≤ wf_ F L c k t m w ∧ wf_ F L c k t m w ≤ pw_ k := by
  intro k
  induction k with
  | zero =>
    intro t m w
    show 0 ≤ (if 0 < w then (0 : Int) else 1) ∧ (if 0 < w then (0 : Int) else 1) ≤ 1
    split <;> omega
  | succ k ih =>
    intro t m w
    have i1 := ih (t + 1) (he_ (F.2.1 (L t)) (F.2.2 (L t)) 0 m) w
    have i2 := ih (t + 1) (he_ (F.2.1 (L t)) (F.2.2 (L t)) 1 m) (w - 1)
    unfold wf_
    show _ ∧ _ ≤ pw_ k * 10
    split
    · omega
    · have a1 := Int.mul_nonneg hc.1 i1.1
      have a2 := Int.mul_nonneg (show 0 ≤ 10 - c by omega) i2.1
      have a3 := Int.mul_le_mul_of_nonneg_left i1.2 hc.1
      have a4 := Int.mul_le_mul_of_nonneg_left i2.2 (show 0 ≤ 10 - c by omega)
      have a5 : c * pw_ k + (10 - c) * pw_ k = pw_ k * 10 := by
        rw [← Int.add_mul, show c + (10 - c) = 10 by omega, Int.mul_comm]
      omega
/-- the first that isn't none, of c places from i on -/
def fl_ (f : Int → Option (List Int)) : Nat → Int → Option (List Int)
  | 0, _ => none
  | c + 1, i => match f i with
    | some r => some r
    | none => fl_ f c (i + 1)
/-- a set without l -/
def dl_ (s l : Int) : Int := sb_iand s (sb_ixor (sb_ishl 1 l) (-1))
/-- the first row of k lies of a set, told ahead of a lie, so that it nods at it -/
def cp_ (F : TF_) (n : Nat) (lie : Int) : Nat → MU_ → Int → Option (List Int)
  | 0, m, _ => if nl_ F m lie = 0 then none else some []
  | k + 1, m, s => fl_ (fun l => if bt_ s l = 0 then none else (cp_ F n lie k (hl_ F m l) (dl_ s l)).map (fun r => l :: r)) n 0
section PF3_
variable {g : SG_} {d : Nat} {Post : Option SV_ → SH_ → Prop}
theorem c_waysFrom {n c : Int} (hn : 0 ≤ n ∧ n ≤ 6) (hc : 0 ≤ c ∧ c ≤ 10) : ∀ (k : Nat) (e w : Int) (h : SH_) (Post : Option SV_ → SH_ → Prop), to_ h → h 46 8 = n → (∀ t, 0 ≤ t → t < n → 0 ≤ h 50 t ∧ h 50 t < h 7 2) → 0 ≤ e → e + k = n → mo_ (6 + e) (mu_ h (52 + 2 * e)) → (-10 ≤ w - k ∧ w ≤ 10) → (∀ h2, sd_ e h h2 → Post (some (sv_i (wf_ (tf_ h) (h 50) c k e (mu_ h (52 + 2 * e)) w))) h2) → Ctr_ g (d + k + 5) mX2_waysFrom [sv_r 4 2 46, sv_i e, sv_i w, sv_i c] h Post := by
  intro k
  induction k with
  | zero =>
    intro e w h Post o e8 hL he hek hm hw kk
    unfold wf_ at kk
    refine V_mk (by decide +kernel) (Or.inr (Or.inl ⟨rfl, rfl⟩)) (Nat.le_of_ble_eq_true rfl) (by simp [sv_c]) ?_
    show V_ _ _ _ 0 [_, _, _, _, _, _, _] [] _ _
    refine vr_iload_n (q := 1) dX2_waysFrom_0 rfl rfl ?_
    refine vr_aload_n (q := 2) dX2_waysFrom_1 rfl rfl ?_
    refine vr_getV (ji := 8) (q := 5) dX2_waysFrom_2 rfl fX2_37 rfl rfl (e8) ?_
    -- at X2.waysFrom 5: .if_icmp .ge 9
    refine vr_ic_ge (t := 14) (q := 8) dX2_waysFrom_5 (by decide) rfl (fun _ => ?_) (fun c9 => absurd c9 (by omega))
    refine vr_iload_n (q := 15) dX2_waysFrom_14 rfl rfl ?_
    -- at X2.waysFrom 15: .ifCond .gt 7
    refine vr_if_gt (t := 22) (q := 18) dX2_waysFrom_15 (by decide) rfl (fun c1 => ?_) (fun c1 => ?_)
    · rw [if_pos c1] at kk
      refine vr_iconst (q := 23) dX2_waysFrom_22 rfl ⟨by decide, by decide⟩ ?_
      refine vr_iret dX2_waysFrom_23 rfl ?_
      exact kk _ (sd_r e h)
    · rw [if_neg c1] at kk
      refine vr_iconst (q := 19) dX2_waysFrom_18 rfl ⟨by decide, by decide⟩ ?_
      refine vr_goto (q := 23) dX2_waysFrom_19 (by decide) ?_
      refine vr_iret dX2_waysFrom_23 rfl ?_
      exact kk _ (sd_r e h)
  | succ k ih =>
    intro e w h Post o e8 hL he hek hm hw kk
    have o1 := o.1
    have hl := hL e he (by omega)
    have hlo := o.2.2.2.1 (h 50 e) hl.1 hl.2
    have r1 := wf_r (F := tf_ h) (L := h 50) hc k (e + 1) (he_ (h 9 (h 50 e)) (h 10 (h 50 e)) 0 (mu_ h (52 + 2 * e))) w
    have r2 := wf_r (F := tf_ h) (L := h 50) hc k (e + 1) (he_ (h 9 (h 50 e)) (h 10 (h 50 e)) 1 (mu_ h (52 + 2 * e))) (w - 1)
    have rp := pw_b (n := k) (by omega)
    generalize hM : mu_ h (52 + 2 * e) = m at hm kk r1 r2
    have hx : ∀ (b : Int) (hq : SH_), sd_ e h hq → ∀ (P : Option SV_ → SH_ → Prop), P none (ms_ hq (52 + 2 * (e + 1)) (he_ (h 9 (h 50 e)) (h 10 (h 50 e)) b m)) → Ctr_ g (d + k + 5) mX4_hearAs [sv_r 4 3 (52 + 2 * (e + 1)), sv_r 4 6 7, sv_i (h 50 e), sv_i b] (ms_ hq (52 + 2 * (e + 1)) m) P := by
      intro b hq s1 P hP
      have f8 : ms_ hq (52 + 2 * (e + 1)) m 8 = h 8 := by rw [ms_lo (by omega) (by decide), sd_lo s1 he (by omega)]
      have f9 : ms_ hq (52 + 2 * (e + 1)) m 9 = h 9 := by rw [ms_lo (by omega) (by decide), sd_lo s1 he (by omega)]
      have f10 : ms_ hq (52 + 2 * (e + 1)) m 10 = h 10 := by rw [ms_lo (by omega) (by decide), sd_lo s1 he (by omega)]
      refine c_hearAs (n := 6 + e) ⟨by omega, by omega⟩ (by omega) (by rw [f8, f9, f10]; exact hlo) (by rw [mu_ms]; exact hm) (by omega) ?_
      rw [f9, f10, mu_ms, ms_ms]
      exact hP
    unfold wf_ at kk
    refine V_mk (by decide +kernel) (Or.inr (Or.inl ⟨rfl, rfl⟩)) (Nat.le_of_ble_eq_true rfl) (by simp [sv_c]) ?_
    show V_ _ _ _ 0 [_, _, _, _, _, _, _] [] _ _
    refine vr_iload_n (q := 1) dX2_waysFrom_0 rfl rfl ?_
    refine vr_aload_n (q := 2) dX2_waysFrom_1 rfl rfl ?_
    refine vr_getV (ji := 8) (q := 5) dX2_waysFrom_2 rfl fX2_37 rfl rfl (e8) ?_
    -- at X2.waysFrom 5: .if_icmp .ge 9
    refine vr_ic_ge (t := 14) (q := 8) dX2_waysFrom_5 (by decide) rfl (fun c9 => absurd c9 (by omega)) (fun _ => ?_)
    refine vr_iload_n (q := 9) dX2_waysFrom_8 rfl rfl ?_
    refine vr_bipush (q := 11) dX2_waysFrom_9 rfl ⟨by decide, by decide⟩ (by decide) ?_
    -- at X2.waysFrom 11: .if_icmp .lt 13
    refine vr_ic_lt (t := 24) (q := 14) dX2_waysFrom_11 (by decide) rfl (fun _ => ?_) (fun c9 => absurd c9 (by omega))
    refine vr_aload_n (q := 25) dX2_waysFrom_24 rfl rfl ?_
    refine vr_getR (q := 28) dX2_waysFrom_25 rfl fX2_31 rfl y_X2_6 (by first | (simp only [Int.reduceAdd]; rfl) | rfl) ?_
    refine vr_iload_n (q := 29) dX2_waysFrom_28 rfl rfl ?_
    refine vr_iald (q := 30) dX2_waysFrom_29 rfl ⟨by omega, by omega⟩ ?_
    refine vr_istore (q := 32) dX2_waysFrom_30 rfl (Nat.le_of_ble_eq_true rfl) rfl rfl ?_
    refine vr_aload_n (q := 33) dX2_waysFrom_32 rfl rfl ?_
    refine vr_getR (q := 36) dX2_waysFrom_33 rfl fX2_13 rfl y_X2_1 (by first | (simp only [Int.reduceAdd]; rfl) | rfl) ?_
    refine vr_iload_n (q := 37) dX2_waysFrom_36 rfl rfl ?_
    refine vr_aaMV (q := 38) dX2_waysFrom_37 rfl ⟨by omega, by omega⟩ (by first | (simp only [Int.reduceMul, Int.reduceAdd]; rfl) | rfl) ?_
    refine vr_aload_n (q := 39) dX2_waysFrom_38 rfl rfl ?_
    refine vr_getA (q := 42) dX2_waysFrom_39 rfl fX2_40 rfl ⟨by decide, by decide, rfl⟩ ?_
    refine vr_iload (q := 44) dX2_waysFrom_42 rfl rfl ?_
    -- at X2.waysFrom 44: .invokevirtual 62
    refine vr_iv2 (q := 47) dX2_waysFrom_44 rfl vX2_62 (Nat.le_of_ble_eq_true rfl) ?_
    refine c_wouldNod (n := 6 + e) ⟨by omega, by omega⟩ hlo (by rw [hM]; exact hm) (by omega) ?_
    rw [hM]
    refine vr_istore (q := 49) dX2_waysFrom_47 rfl (Nat.le_of_ble_eq_true rfl) rfl rfl ?_
    refine vr_aload_n (q := 50) dX2_waysFrom_49 rfl rfl ?_
    refine vr_getR (q := 53) dX2_waysFrom_50 rfl fX2_13 rfl y_X2_1 (by first | (simp only [Int.reduceAdd]; rfl) | rfl) ?_
    refine vr_iload_n (q := 54) dX2_waysFrom_53 rfl rfl ?_
    refine vr_iconst (q := 55) dX2_waysFrom_54 rfl ⟨by decide, by decide⟩ ?_
    refine vr_iaddN (q := 56) dX2_waysFrom_55 rfl ⟨by omega, by omega⟩ ?_
    refine vr_aaMV (q := 57) dX2_waysFrom_56 rfl ⟨by omega, by omega⟩ (by first | (simp only [Int.reduceMul, Int.reduceAdd]; rfl) | rfl) ?_
    refine vr_aload_n (q := 58) dX2_waysFrom_57 rfl rfl ?_
    refine vr_getR (q := 61) dX2_waysFrom_58 rfl fX2_13 rfl y_X2_1 (by first | (simp only [Int.reduceAdd]; rfl) | rfl) ?_
    refine vr_iload_n (q := 62) dX2_waysFrom_61 rfl rfl ?_
    refine vr_aaMV (q := 63) dX2_waysFrom_62 rfl ⟨by omega, by omega⟩ (by first | (simp only [Int.reduceMul, Int.reduceAdd]; rfl) | rfl) ?_
    -- at X2.waysFrom 63: .invokevirtual 84
    refine vr_iv1 (q := 66) dX2_waysFrom_63 rfl vX2_84 (Nat.le_of_ble_eq_true rfl) ?_
    refine c_become (by omega) ⟨by omega, by omega, by omega⟩ ?_
    rw [hM]
    refine vr_aload_n (q := 67) dX2_waysFrom_66 rfl rfl ?_
    refine vr_getR (q := 70) dX2_waysFrom_67 rfl fX2_13 rfl y_X2_1 (by first | (simp only [Int.reduceAdd]; rfl) | rfl) ?_
    refine vr_iload_n (q := 71) dX2_waysFrom_70 rfl rfl ?_
    refine vr_iconst (q := 72) dX2_waysFrom_71 rfl ⟨by decide, by decide⟩ ?_
    refine vr_iaddN (q := 73) dX2_waysFrom_72 rfl ⟨by omega, by omega⟩ ?_
    refine vr_aaMV (q := 74) dX2_waysFrom_73 rfl ⟨by omega, by omega⟩ (by first | (simp only [Int.reduceMul, Int.reduceAdd]; rfl) | rfl) ?_
    refine vr_aload_n (q := 75) dX2_waysFrom_74 rfl rfl ?_
    refine vr_getA (q := 78) dX2_waysFrom_75 rfl fX2_40 rfl ⟨by decide, by decide, rfl⟩ ?_
    refine vr_iload (q := 80) dX2_waysFrom_78 rfl rfl ?_
    refine vr_iconst (q := 81) dX2_waysFrom_80 rfl ⟨by decide, by decide⟩ ?_
    -- at X2.waysFrom 81: .invokevirtual 124
    refine vr_iv3 (q := 84) dX2_waysFrom_81 rfl vX2_124 (Nat.le_of_ble_eq_true rfl) ?_
    refine hx 0 h (sd_r e h) _ ?_
    have s1 : sd_ e h (ms_ h (52 + 2 * (e + 1)) (he_ (h 9 (h 50 e)) (h 10 (h 50 e)) 0 m)) := sd_m ⟨he, by omega⟩ _
    have m1 : mu_ (ms_ h (52 + 2 * (e + 1)) (he_ (h 9 (h 50 e)) (h 10 (h 50 e)) 0 m)) (52 + 2 * (e + 1)) = he_ (h 9 (h 50 e)) (h 10 (h 50 e)) 0 m := mu_ms _ _ _
    generalize ms_ h (52 + 2 * (e + 1)) (he_ (h 9 (h 50 e)) (h 10 (h 50 e)) 0 m) = h1 at s1 m1 ⊢
    refine vr_aload_n (q := 85) dX2_waysFrom_84 rfl rfl ?_
    refine vr_iload_n (q := 86) dX2_waysFrom_85 rfl rfl ?_
    refine vr_iconst (q := 87) dX2_waysFrom_86 rfl ⟨by decide, by decide⟩ ?_
    refine vr_iaddN (q := 88) dX2_waysFrom_87 rfl ⟨by omega, by omega⟩ ?_
    refine vr_iload_n (q := 89) dX2_waysFrom_88 rfl rfl ?_
    refine vr_iload_n (q := 90) dX2_waysFrom_89 rfl rfl ?_
    -- at X2.waysFrom 90: .invokevirtual 121
    refine vr_iv3 (q := 93) dX2_waysFrom_90 rfl vX2_121 (Nat.le_of_ble_eq_true rfl) ?_
    refine ih (e + 1) w h1 _ (sd_to s1 he o) (by rw [sd_lo s1 he (by omega)]; exact e8) (by rw [sd_lo s1 he (x := 50) (by omega), sd_lo s1 he (x := 7) (by omega)]; exact hL) (by omega) (by omega) (by rw [m1, show 6 + (e + 1) = 6 + e + 1 by omega]; exact he_mo hlo hm) ⟨by omega, by omega⟩ (fun h2 s2 => ?_)
    rw [m1, sd_tf s1 he, sd_lo s1 he (x := 50) (by omega)]
    have s3 := sd_t s1 (sd_up s2)
    refine vr_istore (q := 95) dX2_waysFrom_93 rfl (Nat.le_of_ble_eq_true rfl) rfl rfl ?_
    refine vr_iload (q := 97) dX2_waysFrom_95 rfl rfl ?_
    -- at X2.waysFrom 97: .ifCond .ne 9
    refine vr_if_ne (t := 106) (q := 100) dX2_waysFrom_97 (by decide) rfl (fun c1 => ?_) (fun c1 => ?_)
    · have c2 : ¬ nl_ (tf_ h) m (h 50 e) = 0 := c1
      rw [if_neg c2] at kk
      have p1 := Int.mul_nonneg hc.1 r1.1
      have p2 := Int.mul_le_mul_of_nonneg_left r1.2 hc.1
      have p3 : c * pw_ k ≤ 10 * pw_ k := Int.mul_le_mul_of_nonneg_right hc.2 (by omega)
      have q1 := Int.mul_nonneg (show 0 ≤ 10 - c by omega) r2.1
      have q2 := Int.mul_le_mul_of_nonneg_left r2.2 (show 0 ≤ 10 - c by omega)
      have q3 : (10 - c) * pw_ k ≤ 10 * pw_ k := Int.mul_le_mul_of_nonneg_right (by omega) (by omega)
      refine vr_aload_n (q := 107) dX2_waysFrom_106 rfl rfl ?_
      refine vr_getR (q := 110) dX2_waysFrom_107 rfl fX2_13 rfl y_X2_1 (by first | (simp only [Int.reduceAdd]; rfl) | rfl) ?_
      refine vr_iload_n (q := 111) dX2_waysFrom_110 rfl rfl ?_
      refine vr_iconst (q := 112) dX2_waysFrom_111 rfl ⟨by decide, by decide⟩ ?_
      refine vr_iaddN (q := 113) dX2_waysFrom_112 rfl ⟨by omega, by omega⟩ ?_
      refine vr_aaMV (q := 114) dX2_waysFrom_113 rfl ⟨by omega, by omega⟩ (by first | (simp only [Int.reduceMul, Int.reduceAdd]; rfl) | rfl) ?_
      refine vr_aload_n (q := 115) dX2_waysFrom_114 rfl rfl ?_
      refine vr_getR (q := 118) dX2_waysFrom_115 rfl fX2_13 rfl y_X2_1 (by first | (simp only [Int.reduceAdd]; rfl) | rfl) ?_
      refine vr_iload_n (q := 119) dX2_waysFrom_118 rfl rfl ?_
      refine vr_aaMV (q := 120) dX2_waysFrom_119 rfl ⟨by omega, by omega⟩ (by first | (simp only [Int.reduceMul, Int.reduceAdd]; rfl) | rfl) ?_
      -- at X2.waysFrom 120: .invokevirtual 84
      refine vr_iv1 (q := 123) dX2_waysFrom_120 rfl vX2_84 (Nat.le_of_ble_eq_true rfl) ?_
      refine c_become (by omega) ⟨by omega, by omega, by omega⟩ ?_
      rw [sd_mu s3 he, hM]
      refine vr_aload_n (q := 124) dX2_waysFrom_123 rfl rfl ?_
      refine vr_getR (q := 127) dX2_waysFrom_124 rfl fX2_13 rfl y_X2_1 (by first | (simp only [Int.reduceAdd]; rfl) | rfl) ?_
      refine vr_iload_n (q := 128) dX2_waysFrom_127 rfl rfl ?_
      refine vr_iconst (q := 129) dX2_waysFrom_128 rfl ⟨by decide, by decide⟩ ?_
      refine vr_iaddN (q := 130) dX2_waysFrom_129 rfl ⟨by omega, by omega⟩ ?_
      refine vr_aaMV (q := 131) dX2_waysFrom_130 rfl ⟨by omega, by omega⟩ (by first | (simp only [Int.reduceMul, Int.reduceAdd]; rfl) | rfl) ?_
      refine vr_aload_n (q := 132) dX2_waysFrom_131 rfl rfl ?_
      refine vr_getA (q := 135) dX2_waysFrom_132 rfl fX2_40 rfl ⟨by decide, by decide, rfl⟩ ?_
      refine vr_iload (q := 137) dX2_waysFrom_135 rfl rfl ?_
      refine vr_iconst (q := 138) dX2_waysFrom_137 rfl ⟨by decide, by decide⟩ ?_
      -- at X2.waysFrom 138: .invokevirtual 124
      refine vr_iv3 (q := 141) dX2_waysFrom_138 rfl vX2_124 (Nat.le_of_ble_eq_true rfl) ?_
      refine hx 1 h2 s3 _ ?_
      have s4 : sd_ e h (ms_ h2 (52 + 2 * (e + 1)) (he_ (h 9 (h 50 e)) (h 10 (h 50 e)) 1 m)) := sd_t s3 (sd_m ⟨he, by omega⟩ _)
      have m4 : mu_ (ms_ h2 (52 + 2 * (e + 1)) (he_ (h 9 (h 50 e)) (h 10 (h 50 e)) 1 m)) (52 + 2 * (e + 1)) = he_ (h 9 (h 50 e)) (h 10 (h 50 e)) 1 m := mu_ms _ _ _
      generalize ms_ h2 (52 + 2 * (e + 1)) (he_ (h 9 (h 50 e)) (h 10 (h 50 e)) 1 m) = h4 at s4 m4 ⊢
      refine vr_iload_n (q := 142) dX2_waysFrom_141 rfl rfl ?_
      refine vr_iload (q := 144) dX2_waysFrom_142 rfl rfl ?_
      refine vr_imulN (q := 145) dX2_waysFrom_144 rfl ⟨by omega, by omega⟩ ?_
      refine vr_bipush (q := 147) dX2_waysFrom_145 rfl ⟨by decide, by decide⟩ (by decide) ?_
      refine vr_iload_n (q := 148) dX2_waysFrom_147 rfl rfl ?_
      refine vr_isubN (q := 149) dX2_waysFrom_148 rfl ⟨by omega, by omega⟩ ?_
      refine vr_aload_n (q := 150) dX2_waysFrom_149 rfl rfl ?_
      refine vr_iload_n (q := 151) dX2_waysFrom_150 rfl rfl ?_
      refine vr_iconst (q := 152) dX2_waysFrom_151 rfl ⟨by decide, by decide⟩ ?_
      refine vr_iaddN (q := 153) dX2_waysFrom_152 rfl ⟨by omega, by omega⟩ ?_
      refine vr_iload_n (q := 154) dX2_waysFrom_153 rfl rfl ?_
      refine vr_iconst (q := 155) dX2_waysFrom_154 rfl ⟨by decide, by decide⟩ ?_
      refine vr_isubN (q := 156) dX2_waysFrom_155 rfl ⟨by omega, by omega⟩ ?_
      refine vr_iload_n (q := 157) dX2_waysFrom_156 rfl rfl ?_
      -- at X2.waysFrom 157: .invokevirtual 121
      refine vr_iv3 (q := 160) dX2_waysFrom_157 rfl vX2_121 (Nat.le_of_ble_eq_true rfl) ?_
      refine ih (e + 1) (w - 1) h4 _ (sd_to s4 he o) (by rw [sd_lo s4 he (by omega)]; exact e8) (by rw [sd_lo s4 he (x := 50) (by omega), sd_lo s4 he (x := 7) (by omega)]; exact hL) (by omega) (by omega) (by rw [m4, show 6 + (e + 1) = 6 + e + 1 by omega]; exact he_mo hlo hm) ⟨by omega, by omega⟩ (fun h5 s5 => ?_)
      rw [m4, sd_tf s4 he, sd_lo s4 he (x := 50) (by omega)]
      refine vr_imulN (q := 161) dX2_waysFrom_160 rfl ⟨by omega, by omega⟩ ?_
      refine vr_iaddN (q := 162) dX2_waysFrom_161 rfl ⟨by omega, by omega⟩ ?_
      refine vr_iret dX2_waysFrom_162 rfl ?_
      exact kk _ (sd_t s4 (sd_up s5))
    · have c2 : nl_ (tf_ h) m (h 50 e) = 0 := c1
      rw [if_pos c2] at kk
      refine vr_bipush (q := 102) dX2_waysFrom_100 rfl ⟨by decide, by decide⟩ (by decide) ?_
      refine vr_iload (q := 104) dX2_waysFrom_102 rfl rfl ?_
      refine vr_imulN (q := 105) dX2_waysFrom_104 rfl ⟨by omega, by omega⟩ ?_
      refine vr_iret dX2_waysFrom_105 rfl ?_
      exact kk _ s3
end PF3_
end
section
/-- dead so far, c lies from i on, each changed by f, until none is left -/
def fd_ (f : Int → Int → Int) : Nat → Int → Int → Int
  | 0, _, x => x
  | c + 1, i, x => if x = 0 then x else fd_ f c (i + 1) (f i x)
def df_ (F : TF_) (n : Nat) : Nat → MU_ → Int → Int → Int
  | 0, _, _, x => x
  | k + 1, m, s, x => fd_ (fun l y => if bt_ s l = 0 then y else df_ F n k (hl_ F m l) (dl_ s l) (if nl_ F m l = 0 then y else dl_ y l)) n 0 x
theorem tn_mu (h : SH_) (e l : Int) : mu_ (tn_ h e l) (52 + 2 * (e + 1)) = hl_ (tf_ h) (mu_ h (52 + 2 * e)) l := mu_ms _ _ _
theorem tn_p {h : SH_} {e l : Int} (he : 0 ≤ e) : tn_ h e l 48 e = l := by
  unfold tn_
  rw [ms_lo (by omega) (by decide), hs_e]
theorem mo_le {n k : Int} {m : MU_} (h : n ≤ k) (hm : mo_ n m) : mo_ k m := ⟨hm.1, hm.2.1, ⟨hm.2.2.1.1, by have := hm.2.2.1.2; omega⟩, fun t a b => ⟨(hm.2.2.2 t a b).1, by have := (hm.2.2.2 t a b).2; omega⟩⟩
section PF4_
variable {g : SG_} {d : Nat}
theorem c_comesInFrom {lie w : Int} (hw : 0 ≤ w ∧ w ≤ 6) : ∀ (k : Nat) (e s : Int) (h : SH_) (Post : Option SV_ → SH_ → Prop), to_ h → (0 ≤ lie ∧ lie < h 7 2) → 0 ≤ e → e + k = w → mo_ (6 + e) (mu_ h (52 + 2 * e)) →
    (∀ r h2, cp_ (tf_ h) (h 7 2).toNat lie k (mu_ h (52 + 2 * e)) s = some r → sd_ e h h2 → (∀ x r2, r = x :: r2 → h2 48 e = x) → Post (some (sv_i 1)) h2) → (∀ h2, cp_ (tf_ h) (h 7 2).toNat lie k (mu_ h (52 + 2 * e)) s = none → sd_ e h h2 → Post (some (sv_i 0)) h2) →
    Ctr_ g (d + k + 6) mX2_comesInFrom [sv_r 4 2 46, sv_i e, sv_i s, sv_i lie, sv_i w] h Post := by
  intro k
  induction k with
  | zero =>
    intro e s h Post o hl he hek hm kt kf
    have o1 := o.1
    have hlo := o.2.2.2.1 lie hl.1 hl.2
    unfold cp_ at kt kf
    refine V_mk (by decide +kernel) (Or.inr (Or.inr (Or.inl ⟨rfl, rfl⟩))) (Nat.le_of_ble_eq_true rfl) (by simp [sv_c]) ?_
    show V_ _ _ _ 0 [_, _, _, _, _, _] [] _ _
    refine vr_iload_n (q := 1) dX2_comesInFrom_0 rfl rfl ?_
    refine vr_iload (q := 3) dX2_comesInFrom_1 rfl rfl ?_
    -- at X2.comesInFrom 3: .if_icmp .ge 9
    refine vr_ic_ge (t := 12) (q := 6) dX2_comesInFrom_3 (by decide) rfl (fun _ => ?_) (fun c9 => absurd c9 (by omega))
    refine vr_aload_n (q := 13) dX2_comesInFrom_12 rfl rfl ?_
    refine vr_getR (q := 16) dX2_comesInFrom_13 rfl fX2_13 rfl y_X2_1 (by first | (simp only [Int.reduceAdd]; rfl) | rfl) ?_
    refine vr_iload_n (q := 17) dX2_comesInFrom_16 rfl rfl ?_
    refine vr_aaMV (q := 18) dX2_comesInFrom_17 rfl ⟨by omega, by omega⟩ (by first | (simp only [Int.reduceMul, Int.reduceAdd]; rfl) | rfl) ?_
    refine vr_aload_n (q := 19) dX2_comesInFrom_18 rfl rfl ?_
    refine vr_getA (q := 22) dX2_comesInFrom_19 rfl fX2_40 rfl ⟨by decide, by decide, rfl⟩ ?_
    refine vr_iload_n (q := 23) dX2_comesInFrom_22 rfl rfl ?_
    -- at X2.comesInFrom 23: .invokevirtual 62
    refine vr_iv2 (q := 26) dX2_comesInFrom_23 rfl vX2_62 (Nat.le_of_ble_eq_true rfl) ?_
    refine c_wouldNod (n := 6 + e) ⟨by omega, by omega⟩ hlo hm (by omega) ?_
    refine vr_zret dX2_comesInFrom_26 rfl ?_ ?_
    · exact nb_01 _ _ _ _
    · by_cases c1 : nl_ (tf_ h) (mu_ h (52 + 2 * e)) lie = 0
      · have c2 : nb_ (h 8 lie) (h 9 lie) (h 10 lie) (mu_ h (52 + 2 * e)) = 0 := c1
        rw [c2]
        exact kf h (if_pos c1) (sd_r e h)
      · have c2 : nb_ (h 8 lie) (h 9 lie) (h 10 lie) (mu_ h (52 + 2 * e)) = 1 := by
          rcases nb_01 (h 8 lie) (h 9 lie) (h 10 lie) (mu_ h (52 + 2 * e)) with z | z
          · exact absurd z c1
          · exact z
        rw [c2]
        exact kt [] h (if_neg c1) (sd_r e h) (fun x r2 z => by cases z)
  | succ k ih =>
    intro e s h Post o hl he hek hm kt kf
    have o1 := o.1
    generalize hM : mu_ h (52 + 2 * e) = m at hm kt kf
    generalize hF : (fun l : Int => if bt_ s l = 0 then none else (cp_ (tf_ h) (h 7 2).toNat lie k (hl_ (tf_ h) m l) (dl_ s l)).map (fun r => l :: r)) = f
    have kt2 : ∀ r h2, fl_ f (h 7 2).toNat 0 = some r → sd_ e h h2 → (∀ x r2, r = x :: r2 → h2 48 e = x) → Post (some (sv_i 1)) h2 := by rw [← hF]; exact kt
    have kf2 : ∀ h2, fl_ f (h 7 2).toNat 0 = none → sd_ e h h2 → Post (some (sv_i 0)) h2 := by rw [← hF]; exact kf
    have lp : ∀ (c i : Nat) (hq : SH_), (i : Int) + c = h 7 2 → fl_ f (h 7 2).toNat 0 = fl_ f c i → sd_ e h hq → V_ g (d + (k + 1) + 6) mX2_comesInFrom 30 [some (sv_r 4 2 46), some (sv_i e), some (sv_i s), some (sv_i lie), some (sv_i w), some (sv_i i)] [] hq Post := by
      intro c
      induction c with
      | zero =>
        intro i hq hi ef s1
        have e7 := sd_lo s1 he (x := 7) (by omega)
        refine vr_iload (q := 32) dX2_comesInFrom_30 rfl rfl ?_
        refine vr_aload_n (q := 33) dX2_comesInFrom_32 rfl rfl ?_
        refine vr_getA (q := 36) dX2_comesInFrom_33 rfl fX2_40 rfl ⟨by decide, by decide, rfl⟩ ?_
        refine vr_getV (ji := 2) (q := 39) dX2_comesInFrom_36 rfl fX2_59 rfl rfl (by rw [e7]) ?_
        -- at X2.comesInFrom 39: .if_icmp .ge 49
        refine vr_ic_ge (t := 88) (q := 42) dX2_comesInFrom_39 (by decide) rfl (fun _ => ?_) (fun c9 => absurd c9 (by omega))
        refine vr_iconst (q := 89) dX2_comesInFrom_88 rfl ⟨by decide, by decide⟩ ?_
        -- at X2.comesInFrom 89: .ireturn
        refine vr_zret dX2_comesInFrom_89 rfl ?_ ?_
        · exact Or.inl rfl
        · exact kf2 hq ef s1
      | succ c ihc =>
        intro i hq hi ef s1
        have e7 := sd_lo s1 he (x := 7) (by omega)
        have q8 := sd_lo s1 he (x := 8) (by omega)
        have q9 := sd_lo s1 he (x := 9) (by omega)
        have q10 := sd_lo s1 he (x := 10) (by omega)
        have hlo := o.2.2.2.1 i (by omega) (by omega)
        have ef2 : fl_ f (c + 1) i = match f i with | some r => some r | none => fl_ f c (i + 1) := rfl
        have efi : f i = if bt_ s i = 0 then none else (cp_ (tf_ h) (h 7 2).toNat lie k (hl_ (tf_ h) m i) (dl_ s i)).map (fun r => (i : Int) :: r) := by rw [← hF]
        have mq : mu_ hq (52 + 2 * e) = m := by rw [sd_mu s1 he, hM]
        refine vr_iload (q := 32) dX2_comesInFrom_30 rfl rfl ?_
        refine vr_aload_n (q := 33) dX2_comesInFrom_32 rfl rfl ?_
        refine vr_getA (q := 36) dX2_comesInFrom_33 rfl fX2_40 rfl ⟨by decide, by decide, rfl⟩ ?_
        refine vr_getV (ji := 2) (q := 39) dX2_comesInFrom_36 rfl fX2_59 rfl rfl (by rw [e7]) ?_
        -- at X2.comesInFrom 39: .if_icmp .ge 49
        refine vr_ic_ge (t := 88) (q := 42) dX2_comesInFrom_39 (by decide) rfl (fun c9 => absurd c9 (by omega)) (fun _ => ?_)
        refine vr_iload_n (q := 43) dX2_comesInFrom_42 rfl rfl ?_
        refine vr_iload (q := 45) dX2_comesInFrom_43 rfl rfl ?_
        refine vr_ishr (q := 46) dX2_comesInFrom_45 rfl ?_
        refine vr_iconst (q := 47) dX2_comesInFrom_46 rfl ⟨by decide, by decide⟩ ?_
        refine vr_iand (q := 48) dX2_comesInFrom_47 rfl ?_
        -- at X2.comesInFrom 48: .ifCond .eq 34
        refine vr_if_eq (t := 82) (q := 51) dX2_comesInFrom_48 (by decide) rfl (fun c1 => ?_) (fun c1 => ?_)
        · have c2 : bt_ s i = 0 := c1
          rw [if_pos c2] at efi
          rw [efi] at ef2
          refine vr_iinc (q := 85) dX2_comesInFrom_82 rfl rfl ⟨by omega, by omega⟩ (Nat.le_of_ble_eq_true rfl) rfl rfl ?_
          refine vr_goto (q := 30) dX2_comesInFrom_85 (by decide) ?_
          -- at X2.comesInFrom 30: .iload 5
          exact ihc (i + 1) hq (by omega) (ef.trans ef2) s1
        · have c2 : ¬ bt_ s i = 0 := c1
          rw [if_neg c2] at efi
          refine vr_aload_n (q := 52) dX2_comesInFrom_51 rfl rfl ?_
          refine vr_iload_n (q := 53) dX2_comesInFrom_52 rfl rfl ?_
          refine vr_iload (q := 55) dX2_comesInFrom_53 rfl rfl ?_
          -- at X2.comesInFrom 55: .invokevirtual 80
          refine vr_iv2 (q := 58) dX2_comesInFrom_55 rfl vX2_80 (Nat.le_of_ble_eq_true rfl) ?_
          refine c_tryNext (n := 6 + e) ⟨he, by omega⟩ ⟨by omega, by omega⟩ (by rw [q8, q9, q10]; exact hlo) (by rw [mq]; exact hm) (by omega) ?_
          have s2 : sd_ e h (tn_ hq e i) := sd_t s1 (sd_n ⟨he, by omega⟩)
          have m2 : mu_ (tn_ hq e i) (52 + 2 * (e + 1)) = hl_ (tf_ h) m i := by rw [tn_mu, mq, sd_tf s1 he]
          have p2 : tn_ hq e i 48 e = i := tn_p he
          generalize tn_ hq e i = h2 at s2 m2 p2 ⊢
          have f7 := sd_lo s2 he (x := 7) (by omega)
          refine vr_pop (q := 59) dX2_comesInFrom_58 rfl rfl ?_
          refine vr_aload_n (q := 60) dX2_comesInFrom_59 rfl rfl ?_
          refine vr_iload_n (q := 61) dX2_comesInFrom_60 rfl rfl ?_
          refine vr_iconst (q := 62) dX2_comesInFrom_61 rfl ⟨by decide, by decide⟩ ?_
          refine vr_iaddN (q := 63) dX2_comesInFrom_62 rfl ⟨by omega, by omega⟩ ?_
          refine vr_iload_n (q := 64) dX2_comesInFrom_63 rfl rfl ?_
          refine vr_iconst (q := 65) dX2_comesInFrom_64 rfl ⟨by decide, by decide⟩ ?_
          refine vr_iload (q := 67) dX2_comesInFrom_65 rfl rfl ?_
          refine vr_ishl (q := 68) dX2_comesInFrom_67 rfl ?_
          refine vr_iconst (q := 69) dX2_comesInFrom_68 rfl ⟨by decide, by decide⟩ ?_
          refine vr_ixor (q := 70) dX2_comesInFrom_69 rfl ?_
          refine vr_iand (q := 71) dX2_comesInFrom_70 rfl ?_
          refine vr_iload_n (q := 72) dX2_comesInFrom_71 rfl rfl ?_
          refine vr_iload (q := 74) dX2_comesInFrom_72 rfl rfl ?_
          -- at X2.comesInFrom 74: .invokevirtual 91
          refine vr_iv4 (q := 77) dX2_comesInFrom_74 rfl vX2_91 (Nat.le_of_ble_eq_true rfl) ?_
          refine ih (e + 1) (dl_ s i) h2 _ (sd_to s2 he o) (by rw [f7]; exact hl) (by omega) (by omega) (by rw [m2, show 6 + (e + 1) = 6 + e + 1 by omega]; exact he_mo hlo hm) (fun r h3 e3 s3 _ => ?_) (fun h3 e3 s3 => ?_)
          · rw [m2, sd_tf s2 he, f7] at e3
            rw [e3] at efi
            rw [efi] at ef2
            refine vr_if_eq (t := 82) (q := 80) dX2_comesInFrom_77 (by decide) rfl (fun c9 => absurd c9 (by omega)) (fun _ => ?_)
            refine vr_iconst (q := 81) dX2_comesInFrom_80 rfl ⟨by decide, by decide⟩ ?_
            -- at X2.comesInFrom 81: .ireturn
            refine vr_zret dX2_comesInFrom_81 rfl ?_ ?_
            · exact Or.inr rfl
            · refine kt2 ((i : Int) :: r) h3 (ef.trans ef2) (sd_t s2 (sd_up s3)) (fun x r2 z => ?_)
              rw [s3.2 e (by omega), p2]
              injection z
          · rw [m2, sd_tf s2 he, f7] at e3
            rw [e3] at efi
            rw [efi] at ef2
            refine vr_if_eq (t := 82) (q := 80) dX2_comesInFrom_77 (by decide) rfl (fun _ => ?_) (fun c9 => absurd c9 (by omega))
            refine vr_iinc (q := 85) dX2_comesInFrom_82 rfl rfl ⟨by omega, by omega⟩ (Nat.le_of_ble_eq_true rfl) rfl rfl ?_
            refine vr_goto (q := 30) dX2_comesInFrom_85 (by decide) ?_
            -- at X2.comesInFrom 30: .iload 5
            exact ihc (i + 1) h3 (by omega) (ef.trans ef2) (sd_t s2 (sd_up s3))
    refine V_mk (by decide +kernel) (Or.inr (Or.inr (Or.inl ⟨rfl, rfl⟩))) (Nat.le_of_ble_eq_true rfl) (by simp [sv_c]) ?_
    show V_ _ _ _ 0 [_, _, _, _, _, _] [] _ _
    refine vr_iload_n (q := 1) dX2_comesInFrom_0 rfl rfl ?_
    refine vr_iload (q := 3) dX2_comesInFrom_1 rfl rfl ?_
    -- at X2.comesInFrom 3: .if_icmp .ge 9
    refine vr_ic_ge (t := 12) (q := 6) dX2_comesInFrom_3 (by decide) rfl (fun c9 => absurd c9 (by omega)) (fun _ => ?_)
    refine vr_iload_n (q := 7) dX2_comesInFrom_6 rfl rfl ?_
    refine vr_bipush (q := 9) dX2_comesInFrom_7 rfl ⟨by decide, by decide⟩ (by decide) ?_
    -- at X2.comesInFrom 9: .if_icmp .lt 18
    refine vr_ic_lt (t := 27) (q := 12) dX2_comesInFrom_9 (by decide) rfl (fun _ => ?_) (fun c9 => absurd c9 (by omega))
    refine vr_iconst (q := 28) dX2_comesInFrom_27 rfl ⟨by decide, by decide⟩ ?_
    refine vr_istore (q := 30) dX2_comesInFrom_28 rfl (Nat.le_of_ble_eq_true rfl) rfl rfl ?_
    -- at X2.comesInFrom 30: .iload 5
    refine lp (h 7 2).toNat 0 h (by omega) rfl (sd_r e h)
theorem c_deadFrom : ∀ (k : Nat) (e s x : Int) (h : SH_) (Post : Option SV_ → SH_ → Prop), to_ h → 0 ≤ e → e + k = 6 → mo_ (6 + e) (mu_ h (52 + 2 * e)) →
    (∀ h2, sd_ e h h2 → Post (some (sv_i (df_ (tf_ h) (h 7 2).toNat k (mu_ h (52 + 2 * e)) s x))) h2) →
    Ctr_ g (d + k + 6) mX2_deadFrom [sv_r 4 2 46, sv_i e, sv_i s, sv_i x] h Post := by
  intro k
  induction k with
  | zero =>
    intro e s x h Post o he hek hm kk
    refine V_mk (by decide +kernel) (Or.inr (Or.inl ⟨rfl, rfl⟩)) (Nat.le_of_ble_eq_true rfl) (by simp [sv_c]) ?_
    show V_ _ _ _ 0 [_, _, _, _, _, _] [] _ _
    refine vr_iload_n (q := 1) dX2_deadFrom_0 rfl rfl ?_
    refine vr_istore (q := 3) dX2_deadFrom_1 rfl (Nat.le_of_ble_eq_true rfl) rfl rfl ?_
    refine vr_iload_n (q := 4) dX2_deadFrom_3 rfl rfl ?_
    refine vr_bipush (q := 6) dX2_deadFrom_4 rfl ⟨by decide, by decide⟩ (by decide) ?_
    -- at X2.deadFrom 6: .if_icmp .lt 6
    refine vr_ic_lt (t := 12) (q := 9) dX2_deadFrom_6 (by decide) rfl (fun c9 => absurd c9 (by omega)) (fun _ => ?_)
    refine vr_iload (q := 11) dX2_deadFrom_9 rfl rfl ?_
    refine vr_iret dX2_deadFrom_11 rfl ?_
    exact kk h (sd_r e h)
  | succ k ih =>
    intro e s x h Post o he hek hm kk
    have o1 := o.1
    generalize hM : mu_ h (52 + 2 * e) = m at hm kk
    generalize hF : (fun l y : Int => if bt_ s l = 0 then y else df_ (tf_ h) (h 7 2).toNat k (hl_ (tf_ h) m l) (dl_ s l) (if nl_ (tf_ h) m l = 0 then y else dl_ y l)) = f
    have k2 : ∀ h2, sd_ e h h2 → Post (some (sv_i (fd_ f (h 7 2).toNat 0 x))) h2 := by rw [← hF]; exact kk
    have lp : ∀ (c i : Nat) (y : Int) (hq : SH_), (i : Int) + c = h 7 2 → fd_ f (h 7 2).toNat 0 x = fd_ f c i y → sd_ e h hq → V_ g (d + (k + 1) + 6) mX2_deadFrom 15 [some (sv_r 4 2 46), some (sv_i e), some (sv_i s), some (sv_i x), some (sv_i y), some (sv_i i)] [] hq Post := by
      intro c
      induction c with
      | zero =>
        intro i y hq hi ef s1
        have e7 := sd_lo s1 he (x := 7) (by omega)
        rw [ef] at k2
        refine vr_iload (q := 17) dX2_deadFrom_15 rfl rfl ?_
        refine vr_aload_n (q := 18) dX2_deadFrom_17 rfl rfl ?_
        refine vr_getA (q := 21) dX2_deadFrom_18 rfl fX2_40 rfl ⟨by decide, by decide, rfl⟩ ?_
        refine vr_getV (ji := 2) (q := 24) dX2_deadFrom_21 rfl fX2_59 rfl rfl (by rw [e7]) ?_
        -- at X2.deadFrom 24: .if_icmp .ge 63
        refine vr_ic_ge (t := 87) (q := 27) dX2_deadFrom_24 (by decide) rfl (fun _ => ?_) (fun c9 => absurd c9 (by omega))
        refine vr_iload (q := 89) dX2_deadFrom_87 rfl rfl ?_
        refine vr_iret dX2_deadFrom_89 rfl ?_
        exact k2 hq s1
      | succ c ihc =>
        intro i y hq hi ef s1
        have e7 := sd_lo s1 he (x := 7) (by omega)
        have q8 := sd_lo s1 he (x := 8) (by omega)
        have q9 := sd_lo s1 he (x := 9) (by omega)
        have q10 := sd_lo s1 he (x := 10) (by omega)
        have hlo := o.2.2.2.1 i (by omega) (by omega)
        have ef2 : fd_ f (c + 1) i y = if y = 0 then y else fd_ f c (i + 1) (f i y) := rfl
        have efi : f i y = if bt_ s i = 0 then y else df_ (tf_ h) (h 7 2).toNat k (hl_ (tf_ h) m i) (dl_ s i) (if nl_ (tf_ h) m i = 0 then y else dl_ y i) := by rw [← hF]
        have mq : mu_ hq (52 + 2 * e) = m := by rw [sd_mu s1 he, hM]
        refine vr_iload (q := 17) dX2_deadFrom_15 rfl rfl ?_
        refine vr_aload_n (q := 18) dX2_deadFrom_17 rfl rfl ?_
        refine vr_getA (q := 21) dX2_deadFrom_18 rfl fX2_40 rfl ⟨by decide, by decide, rfl⟩ ?_
        refine vr_getV (ji := 2) (q := 24) dX2_deadFrom_21 rfl fX2_59 rfl rfl (by rw [e7]) ?_
        -- at X2.deadFrom 24: .if_icmp .ge 63
        refine vr_ic_ge (t := 87) (q := 27) dX2_deadFrom_24 (by decide) rfl (fun c9 => absurd c9 (by omega)) (fun _ => ?_)
        refine vr_iload (q := 29) dX2_deadFrom_27 rfl rfl ?_
        -- at X2.deadFrom 29: .ifCond .eq 58
        refine vr_if_eq (t := 87) (q := 32) dX2_deadFrom_29 (by decide) rfl (fun c0 => ?_) (fun c0 => ?_)
        · rw [if_pos c0] at ef2
          rw [ef, ef2] at k2
          refine vr_iload (q := 89) dX2_deadFrom_87 rfl rfl ?_
          refine vr_iret dX2_deadFrom_89 rfl ?_
          exact k2 hq s1
        rw [if_neg c0] at ef2
        refine vr_iload_n (q := 33) dX2_deadFrom_32 rfl rfl ?_
        refine vr_iload (q := 35) dX2_deadFrom_33 rfl rfl ?_
        refine vr_ishr (q := 36) dX2_deadFrom_35 rfl ?_
        refine vr_iconst (q := 37) dX2_deadFrom_36 rfl ⟨by decide, by decide⟩ ?_
        refine vr_iand (q := 38) dX2_deadFrom_37 rfl ?_
        -- at X2.deadFrom 38: .ifCond .eq 43
        refine vr_if_eq (t := 81) (q := 41) dX2_deadFrom_38 (by decide) rfl (fun c1 => ?_) (fun c1 => ?_)
        · have c2 : bt_ s i = 0 := c1
          rw [if_pos c2] at efi
          rw [efi] at ef2
          refine vr_iinc (q := 84) dX2_deadFrom_81 rfl rfl ⟨by omega, by omega⟩ (Nat.le_of_ble_eq_true rfl) rfl rfl ?_
          refine vr_goto (q := 15) dX2_deadFrom_84 (by decide) ?_
          -- at X2.deadFrom 15: .iload 5
          exact ihc (i + 1) y hq (by omega) (ef.trans ef2) s1
        · have c2 : ¬ bt_ s i = 0 := c1
          rw [if_neg c2] at efi
          refine vr_aload_n (q := 42) dX2_deadFrom_41 rfl rfl ?_
          refine vr_iload_n (q := 43) dX2_deadFrom_42 rfl rfl ?_
          refine vr_iload (q := 45) dX2_deadFrom_43 rfl rfl ?_
          -- at X2.deadFrom 45: .invokevirtual 80
          refine vr_iv2 (q := 48) dX2_deadFrom_45 rfl vX2_80 (Nat.le_of_ble_eq_true rfl) ?_
          refine c_tryNext (n := 6 + e) ⟨he, by omega⟩ ⟨by omega, by omega⟩ (by rw [q8, q9, q10]; exact hlo) (by rw [mq]; exact hm) (by omega) ?_
          rw [mq, sd_tf s1 he]
          have s2 : sd_ e h (tn_ hq e i) := sd_t s1 (sd_n ⟨he, by omega⟩)
          have m2 : mu_ (tn_ hq e i) (52 + 2 * (e + 1)) = hl_ (tf_ h) m i := by rw [tn_mu, mq, sd_tf s1 he]
          generalize tn_ hq e i = h2 at s2 m2 ⊢
          have f7 := sd_lo s2 he (x := 7) (by omega)
          have rc0 : ∀ z : Int, z = (if nl_ (tf_ h) m i = 0 then y else dl_ y i) → V_ g (d + (k + 1) + 6) mX2_deadFrom 62 [some (sv_r 4 2 46), some (sv_i e), some (sv_i s), some (sv_i x), some (sv_i z), some (sv_i i)] [] h2 Post := by
            intro z hz
            refine vr_aload_n (q := 63) dX2_deadFrom_62 rfl rfl ?_
            refine vr_iload_n (q := 64) dX2_deadFrom_63 rfl rfl ?_
            refine vr_iconst (q := 65) dX2_deadFrom_64 rfl ⟨by decide, by decide⟩ ?_
            refine vr_iaddN (q := 66) dX2_deadFrom_65 rfl ⟨by omega, by omega⟩ ?_
            refine vr_iload_n (q := 67) dX2_deadFrom_66 rfl rfl ?_
            refine vr_iconst (q := 68) dX2_deadFrom_67 rfl ⟨by decide, by decide⟩ ?_
            refine vr_iload (q := 70) dX2_deadFrom_68 rfl rfl ?_
            refine vr_ishl (q := 71) dX2_deadFrom_70 rfl ?_
            refine vr_iconst (q := 72) dX2_deadFrom_71 rfl ⟨by decide, by decide⟩ ?_
            refine vr_ixor (q := 73) dX2_deadFrom_72 rfl ?_
            refine vr_iand (q := 74) dX2_deadFrom_73 rfl ?_
            refine vr_iload (q := 76) dX2_deadFrom_74 rfl rfl ?_
            -- at X2.deadFrom 76: .invokevirtual 95
            refine vr_iv3 (q := 79) dX2_deadFrom_76 rfl vX2_95 (Nat.le_of_ble_eq_true rfl) ?_
            refine ih (e + 1) (dl_ s i) z h2 _ (sd_to s2 he o) (by omega) (by omega) (by rw [m2, show 6 + (e + 1) = 6 + e + 1 by omega]; exact he_mo hlo hm) (fun h3 s3 => ?_)
            rw [m2, sd_tf s2 he, f7, hz, ← efi]
            refine vr_istore (q := 81) dX2_deadFrom_79 rfl (Nat.le_of_ble_eq_true rfl) rfl rfl ?_
            refine vr_iinc (q := 84) dX2_deadFrom_81 rfl rfl ⟨by omega, by omega⟩ (Nat.le_of_ble_eq_true rfl) rfl rfl ?_
            refine vr_goto (q := 15) dX2_deadFrom_84 (by decide) ?_
            -- at X2.deadFrom 15: .iload 5
            exact ihc (i + 1) _ h3 (by omega) (ef.trans ef2) (sd_t s2 (sd_up s3))
          refine vr_if_eq (t := 62) (q := 51) dX2_deadFrom_48 (by decide) rfl (fun c3 => ?_) (fun c3 => ?_)
          · exact rc0 y (if_pos c3).symm
          · refine vr_iload (q := 53) dX2_deadFrom_51 rfl rfl ?_
            refine vr_iconst (q := 54) dX2_deadFrom_53 rfl ⟨by decide, by decide⟩ ?_
            refine vr_iload (q := 56) dX2_deadFrom_54 rfl rfl ?_
            refine vr_ishl (q := 57) dX2_deadFrom_56 rfl ?_
            refine vr_iconst (q := 58) dX2_deadFrom_57 rfl ⟨by decide, by decide⟩ ?_
            refine vr_ixor (q := 59) dX2_deadFrom_58 rfl ?_
            refine vr_iand (q := 60) dX2_deadFrom_59 rfl ?_
            refine vr_istore (q := 62) dX2_deadFrom_60 rfl (Nat.le_of_ble_eq_true rfl) rfl rfl ?_
            -- at X2.deadFrom 62: .aload_n 0
            exact rc0 _ (if_neg c3).symm
    refine V_mk (by decide +kernel) (Or.inr (Or.inl ⟨rfl, rfl⟩)) (Nat.le_of_ble_eq_true rfl) (by simp [sv_c]) ?_
    show V_ _ _ _ 0 [_, _, _, _, _, _] [] _ _
    refine vr_iload_n (q := 1) dX2_deadFrom_0 rfl rfl ?_
    refine vr_istore (q := 3) dX2_deadFrom_1 rfl (Nat.le_of_ble_eq_true rfl) rfl rfl ?_
    refine vr_iload_n (q := 4) dX2_deadFrom_3 rfl rfl ?_
    refine vr_bipush (q := 6) dX2_deadFrom_4 rfl ⟨by decide, by decide⟩ (by decide) ?_
    -- at X2.deadFrom 6: .if_icmp .lt 6
    refine vr_ic_lt (t := 12) (q := 9) dX2_deadFrom_6 (by decide) rfl (fun _ => ?_) (fun c9 => absurd c9 (by omega))
    refine vr_iconst (q := 13) dX2_deadFrom_12 rfl ⟨by decide, by decide⟩ ?_
    refine vr_istore (q := 15) dX2_deadFrom_13 rfl (Nat.le_of_ble_eq_true rfl) rfl rfl ?_
    -- at X2.deadFrom 15: .iload 5
    exact lp (h 7 2).toNat 0 x h (by omega) rfl (sd_r e h)
end PF4_
end
section
abbrev BR_ : Type := List Int × Int
def fo_ (f : Int → BR_ → BR_) : Nat → Int → BR_ → BR_
  | 0, _, b => b
  | c + 1, i, b => fo_ f c (i + 1) (f i b)
/-- the best order so far, behind all that begin with p -/
def so_ (F : TF_) (n : Nat) : Nat → MU_ → Int → Int → List Int → BR_ → BR_
  | 0, _, s, w, p, b => if b.2 < w + pc_ s then (p, w) else b
  | k + 1, m, s, w, p, b => if b.2 < w + pc_ s then (if s = 0 then (p, w) else fo_ (fun l y => if bt_ s l = 0 then y else so_ F n k (hl_ F m l) (dl_ s l) (if nl_ F m l = 0 then w else w + 1) (p ++ [l]) y) n 0 b) else b
def br_ (h : SH_) (b : BR_) : Prop := h 46 4 = b.1.length ∧ h 46 5 = b.2 ∧ b.1.length ≤ 6 ∧ (-1 ≤ b.2 ∧ b.2 ≤ 6) ∧ ∀ (i : Nat) (x : Int), b.1[i]? = some x → h 49 i = x
def pp_ (h : SH_) (p : List Int) : Prop := ∀ (i : Nat) (x : Int), p[i]? = some x → h 48 i = x
def sq_ (e : Int) (h hc : SH_) : Prop := (∀ a, a ≠ 46 → a ≠ 48 → a ≠ 49 → ¬ (54 + 2 * e ≤ a ∧ a ≤ 65) → hc a = h a) ∧ ∀ b, b < e → hc 48 b = h 48 b
theorem sq_r (e : Int) (h : SH_) : sq_ e h h := ⟨fun _ _ _ _ _ => rfl, fun _ _ => rfl⟩
theorem sq_t {e : Int} {h h1 h2 : SH_} (a : sq_ e h h1) (b : sq_ e h1 h2) : sq_ e h h2 := ⟨fun x x1 x2 x3 x4 => (b.1 x x1 x2 x3 x4).trans (a.1 x x1 x2 x3 x4), fun x hx => (b.2 x hx).trans (a.2 x hx)⟩
theorem sq_up {e : Int} {h h1 : SH_} (a : sq_ (e + 1) h h1) : sq_ e h h1 := ⟨fun x x1 x2 x3 x4 => a.1 x x1 x2 x3 (by omega), fun x hx => a.2 x (by omega)⟩
theorem sq_s {e : Int} {h h1 : SH_} (a : sd_ e h h1) : sq_ e h h1 := ⟨fun x _ x2 _ x4 => a.1 x x2 x4, a.2⟩
theorem sq_lo {e : Int} {h hc : SH_} (a : sq_ e h hc) (he : 0 ≤ e) {x : Int} (hx : x < 46 ∨ 65 < x ∨ (49 < x ∧ x < 54)) : hc x = h x := a.1 x (by omega) (by omega) (by omega) (by omega)
theorem sq_mu {e : Int} {h hc : SH_} (a : sq_ e h hc) (he : 0 ≤ e) : mu_ hc (52 + 2 * e) = mu_ h (52 + 2 * e) := by
  unfold mu_
  rw [a.1 _ (by omega) (by omega) (by omega) (by omega), a.1 _ (by omega) (by omega) (by omega) (by omega)]
theorem sq_to {e : Int} {h hc : SH_} (a : sq_ e h hc) (he : 0 ≤ e) (o : to_ h) : to_ hc := to_k (fun x _ _ => sq_lo a he (by omega)) o
theorem sq_tf {e : Int} {h hc : SH_} (a : sq_ e h hc) (he : 0 ≤ e) : tf_ hc = tf_ h := tf_k (fun x _ _ => sq_lo a he (by omega))
theorem sq_fk {e : Int} {h hc : SH_} (a : sq_ e h hc) (he : 0 ≤ e) : fk_ h hc := fun x hx => sq_lo a he (by omega)
theorem br_sd {e : Int} {h hc : SH_} {b : BR_} (a : sd_ e h hc) (he : 0 ≤ e) (hb : br_ h b) : br_ hc b := by
  unfold br_ at hb ⊢
  rw [sd_lo a he (x := 46) (by omega), sd_lo a he (x := 49) (by omega)]
  exact hb
theorem pp_e {e : Int} {h hc : SH_} {p : List Int} (he : e = p.length) (a : ∀ b, b < e → hc 48 b = h 48 b) (hp : pp_ h p) : pp_ hc p := fun i x hx => by
  have hi := (List.getElem?_eq_some_iff.mp hx).1
  rw [a i (by omega)]
  exact hp i x hx
theorem dl_c : ∀ s : Fin 64, ∀ l : Fin 6, 0 ≤ dl_ ((s : Nat) : Int) ((l : Nat) : Int) ∧ dl_ ((s : Nat) : Int) ((l : Nat) : Int) < 64 := by decide +kernel
theorem dl_r {s l : Int} (hs : 0 ≤ s ∧ s < 64) (hl : 0 ≤ l ∧ l < 6) : 0 ≤ dl_ s l ∧ dl_ s l < 64 := by
  have e := dl_c ⟨s.toNat, by omega⟩ ⟨l.toNat, by omega⟩
  rw [show (((⟨s.toNat, by omega⟩ : Fin 64) : Nat) : Int) = s from Int.toNat_of_nonneg hs.1, show (((⟨l.toNat, by omega⟩ : Fin 6) : Nat) : Int) = l from Int.toNat_of_nonneg hl.1] at e
  exact e
section PF5_
variable {g : SG_} {d : Nat} {h : SH_} {Post : Option SV_ → SH_ → Prop}
theorem l_keepBest {p : List Int} {w : Int} (hl : p.length ≤ 6) (hw : -1 ≤ w ∧ w ≤ 6) (hp : pp_ h p) (kk : ∀ hc, (∀ a, a ≠ 46 → a ≠ 49 → hc a = h a) → br_ hc (p, w) → Post none hc) : ∀ (k j : Nat) (hc : SH_), j + k = p.length → (∀ a, a ≠ 46 → a ≠ 49 → hc a = h a) → hc 46 4 = p.length → hc 46 5 = w → (∀ (i : Nat) (x : Int), i < j → p[i]? = some x → hc 49 i = x) → V_ g d mX2_keepBest 12 [some (sv_r 4 2 46), some (sv_i p.length), some (sv_i w), some (sv_i j)] [] hc Post := by
  intro k
  induction k with
  | zero =>
    intro j hc hj h1 h2 h3 h4
    refine vr_iload_n (q := 13) dX2_keepBest_12 rfl rfl ?_
    refine vr_iload_n (q := 14) dX2_keepBest_13 rfl rfl ?_
    -- at X2.keepBest 14: .if_icmp .ge 21
    refine vr_ic_ge (t := 35) (q := 17) dX2_keepBest_14 (by decide) rfl (fun _ => ?_) (fun c9 => absurd c9 (by omega))
    refine vr_vret dX2_keepBest_35 rfl ?_
    exact kk hc h1 ⟨h2, h3, hl, hw, fun i x hx => h4 i x (by have := (List.getElem?_eq_some_iff.mp hx).1; show i < j; have z : i < p.length := this; omega) hx⟩
  | succ k ih =>
    intro j hc hj h1 h2 h3 h4
    have e48 := h1 48 (by decide) (by decide)
    refine vr_iload_n (q := 13) dX2_keepBest_12 rfl rfl ?_
    refine vr_iload_n (q := 14) dX2_keepBest_13 rfl rfl ?_
    -- at X2.keepBest 14: .if_icmp .ge 21
    refine vr_ic_ge (t := 35) (q := 17) dX2_keepBest_14 (by decide) rfl (fun c9 => absurd c9 (by omega)) (fun _ => ?_)
    refine vr_aload_n (q := 18) dX2_keepBest_17 rfl rfl ?_
    refine vr_getR (q := 21) dX2_keepBest_18 rfl fX2_21 rfl y_X2_3 (by first | (simp only [Int.reduceAdd]; rfl) | rfl) ?_
    refine vr_iload_n (q := 22) dX2_keepBest_21 rfl rfl ?_
    refine vr_aload_n (q := 23) dX2_keepBest_22 rfl rfl ?_
    refine vr_getR (q := 26) dX2_keepBest_23 rfl fX2_17 rfl y_X2_2 (by first | (simp only [Int.reduceAdd]; rfl) | rfl) ?_
    refine vr_iload_n (q := 27) dX2_keepBest_26 rfl rfl ?_
    refine vr_ialdV (q := 28) dX2_keepBest_27 rfl ⟨by omega, by omega⟩ (by rw [e48]) ?_
    refine vr_iast (q := 29) dX2_keepBest_28 rfl ⟨by omega, by omega⟩ ?_
    refine vr_iinc (q := 32) dX2_keepBest_29 rfl rfl ⟨by omega, by omega⟩ (Nat.le_of_ble_eq_true rfl) rfl rfl ?_
    refine vr_goto (q := 12) dX2_keepBest_32 (by decide) ?_
    -- at X2.keepBest 12: .iload_n 3
    refine ih (j + 1) _ (by omega) (fun a a1 a2 => by rw [hs_k a2]; exact h1 a a1 a2) (by rw [hs_k (by decide)]; exact h2) (by rw [hs_k (by decide)]; exact h3) (fun i x hi hx => ?_)
    by_cases c : i = j
    · subst c
      rw [hs_e]
      exact hp i x hx
    · rw [hs_n (by omega)]
      exact h4 i x (by omega) hx
theorem c_keepBest {p : List Int} {e w : Int} (he : e = p.length) (hl : p.length ≤ 6) (hw : -1 ≤ w ∧ w ≤ 6) (hp : pp_ h p) (kk : ∀ hc, (∀ a, a ≠ 46 → a ≠ 49 → hc a = h a) → br_ hc (p, w) → Post none hc) : Ctr_ g d mX2_keepBest [sv_r 4 2 46, sv_i e, sv_i w] h Post := by
  subst he
  refine V_mk (by decide +kernel) (Or.inl ⟨rfl, rfl⟩) (Nat.le_of_ble_eq_true rfl) (by simp [sv_c]) ?_
  show V_ _ _ _ 0 [_, _, _, _] [] _ _
  refine vr_aload_n (q := 1) dX2_keepBest_0 rfl rfl ?_
  refine vr_iload_n (q := 2) dX2_keepBest_1 rfl rfl ?_
  refine vr_put (ji := 4) (q := 5) dX2_keepBest_2 rfl pX2_24 rfl rfl ?_
  refine vr_aload_n (q := 6) dX2_keepBest_5 rfl rfl ?_
  refine vr_iload_n (q := 7) dX2_keepBest_6 rfl rfl ?_
  refine vr_put (ji := 5) (q := 10) dX2_keepBest_7 rfl pX2_28 rfl rfl ?_
  refine vr_iconst (q := 11) dX2_keepBest_10 rfl ⟨by decide, by decide⟩ ?_
  refine vr_istore_n (q := 12) dX2_keepBest_11 rfl rfl (Nat.le_of_ble_eq_true rfl) rfl rfl ?_
  -- at X2.keepBest 12: .iload_n 3
  exact l_keepBest hl hw hp kk p.length 0 _ (by omega) (fun a a1 a2 => by rw [hs_k a1, hs_k a1]) (by rw [hs_n (by omega), hs_e]) (hs_e _ _ _ _) (fun i x hi => absurd hi (by omega))
end PF5_
section PF6_
variable {g : SG_} {d : Nat}
theorem c_seekOrderFrom : ∀ (k : Nat) (e s w : Int) (p : List Int) (b : BR_) (h : SH_) (Post : Option SV_ → SH_ → Prop), to_ h → e = p.length → e + k = 6 → (0 ≤ s ∧ s < 64) → (0 ≤ w ∧ w ≤ e) → mo_ (6 + e) (mu_ h (52 + 2 * e)) → pp_ h p → br_ h b →
    (∀ h2, sq_ e h h2 → br_ h2 (so_ (tf_ h) (h 7 2).toNat k (mu_ h (52 + 2 * e)) s w p b) → Post none h2) →
    Ctr_ g (d + k + 6) mX2_seekOrderFrom [sv_r 4 2 46, sv_i e, sv_i s, sv_i w] h Post := by
  intro k
  induction k with
  | zero =>
    intro e s w p b h Post o ep hek hs hw hm hp hb kk
    have r1 := pc_r (x := s)
    unfold so_ at kk
    refine V_mk (by decide +kernel) (Or.inl ⟨rfl, rfl⟩) (Nat.le_of_ble_eq_true rfl) (by simp [sv_c]) ?_
    show V_ _ _ _ 0 [_, _, _, _, _, _] [] _ _
    refine vr_iload_n (q := 1) dX2_seekOrderFrom_0 rfl rfl ?_
    refine vr_iload_n (q := 2) dX2_seekOrderFrom_1 rfl rfl ?_
    -- at X2.seekOrderFrom 2: .invokestatic 71
    refine vr_is1 (q := 5) dX2_seekOrderFrom_2 rfl vX2_71 (Nat.le_of_ble_eq_true rfl) ?_
    refine c_bitCount hs ?_
    refine vr_iaddN (q := 6) dX2_seekOrderFrom_5 rfl ⟨by omega, by omega⟩ ?_
    refine vr_aload_n (q := 7) dX2_seekOrderFrom_6 rfl rfl ?_
    refine vr_getV (ji := 5) (q := 10) dX2_seekOrderFrom_7 rfl fX2_28 rfl rfl (hb.2.1) ?_
    -- at X2.seekOrderFrom 10: .if_icmp .gt 4
    refine vr_ic_gt (t := 14) (q := 13) dX2_seekOrderFrom_10 (by decide) rfl (fun c1 => ?_) (fun c1 => ?_)
    · rw [if_pos c1] at kk
      refine vr_iload_n (q := 15) dX2_seekOrderFrom_14 rfl rfl ?_
      -- at X2.seekOrderFrom 15: .ifCond .eq 9
      have fin : V_ g (d + 0 + 6) mX2_seekOrderFrom 24 [some (sv_r 4 2 46), some (sv_i e), some (sv_i s), some (sv_i w), none, none] [] h Post := by
        refine vr_aload_n (q := 25) dX2_seekOrderFrom_24 rfl rfl ?_
        refine vr_iload_n (q := 26) dX2_seekOrderFrom_25 rfl rfl ?_
        refine vr_iload_n (q := 27) dX2_seekOrderFrom_26 rfl rfl ?_
        -- at X2.seekOrderFrom 27: .invokevirtual 76
        refine vr_iv2 (q := 30) dX2_seekOrderFrom_27 rfl vX2_76 (Nat.le_of_ble_eq_true rfl) ?_
        refine c_keepBest ep (by omega) ⟨by omega, by omega⟩ hp (fun hc k1 k2 => ?_)
        refine vr_vret dX2_seekOrderFrom_30 rfl ?_
        exact kk hc ⟨fun a a1 a2 a3 a4 => k1 a a1 a3, fun x _ => by rw [k1 48 (by decide) (by decide)]⟩ k2
      refine vr_if_eq (t := 24) (q := 18) dX2_seekOrderFrom_15 (by decide) rfl (fun c2 => ?_) (fun c2 => ?_)
      · exact fin
      · refine vr_iload_n (q := 19) dX2_seekOrderFrom_18 rfl rfl ?_
        refine vr_bipush (q := 21) dX2_seekOrderFrom_19 rfl ⟨by decide, by decide⟩ (by decide) ?_
        -- at X2.seekOrderFrom 21: .if_icmp .lt 10
        refine vr_ic_lt (t := 31) (q := 24) dX2_seekOrderFrom_21 (by decide) rfl (fun c9 => absurd c9 (by omega)) (fun _ => ?_)
        exact fin
    · rw [if_neg c1] at kk
      refine vr_vret dX2_seekOrderFrom_13 rfl ?_
      exact kk h (sq_r e h) hb
  | succ k ih =>
    intro e s w p b h Post o ep hek hs hw hm hp hb kk
    have o1 := o.1
    have he : 0 ≤ e := by omega
    have r1 := pc_r (x := s)
    unfold so_ at kk
    generalize hM : mu_ h (52 + 2 * e) = m at hm kk
    refine V_mk (by decide +kernel) (Or.inl ⟨rfl, rfl⟩) (Nat.le_of_ble_eq_true rfl) (by simp [sv_c]) ?_
    show V_ _ _ _ 0 [_, _, _, _, _, _] [] _ _
    refine vr_iload_n (q := 1) dX2_seekOrderFrom_0 rfl rfl ?_
    refine vr_iload_n (q := 2) dX2_seekOrderFrom_1 rfl rfl ?_
    -- at X2.seekOrderFrom 2: .invokestatic 71
    refine vr_is1 (q := 5) dX2_seekOrderFrom_2 rfl vX2_71 (Nat.le_of_ble_eq_true rfl) ?_
    refine c_bitCount hs ?_
    refine vr_iaddN (q := 6) dX2_seekOrderFrom_5 rfl ⟨by omega, by omega⟩ ?_
    refine vr_aload_n (q := 7) dX2_seekOrderFrom_6 rfl rfl ?_
    refine vr_getV (ji := 5) (q := 10) dX2_seekOrderFrom_7 rfl fX2_28 rfl rfl (hb.2.1) ?_
    -- at X2.seekOrderFrom 10: .if_icmp .gt 4
    refine vr_ic_gt (t := 14) (q := 13) dX2_seekOrderFrom_10 (by decide) rfl (fun c1 => ?_) (fun c1 => ?_)
    · rw [if_pos c1] at kk
      refine vr_iload_n (q := 15) dX2_seekOrderFrom_14 rfl rfl ?_
      -- at X2.seekOrderFrom 15: .ifCond .eq 9
      refine vr_if_eq (t := 24) (q := 18) dX2_seekOrderFrom_15 (by decide) rfl (fun c2 => ?_) (fun c2 => ?_)
      · rw [if_pos c2] at kk
        refine vr_aload_n (q := 25) dX2_seekOrderFrom_24 rfl rfl ?_
        refine vr_iload_n (q := 26) dX2_seekOrderFrom_25 rfl rfl ?_
        refine vr_iload_n (q := 27) dX2_seekOrderFrom_26 rfl rfl ?_
        -- at X2.seekOrderFrom 27: .invokevirtual 76
        refine vr_iv2 (q := 30) dX2_seekOrderFrom_27 rfl vX2_76 (Nat.le_of_ble_eq_true rfl) ?_
        refine c_keepBest ep (by omega) ⟨by omega, by omega⟩ hp (fun hc k1 k2 => ?_)
        refine vr_vret dX2_seekOrderFrom_30 rfl ?_
        exact kk hc ⟨fun a a1 a2 a3 a4 => k1 a a1 a3, fun x _ => by rw [k1 48 (by decide) (by decide)]⟩ k2
      · rw [if_neg c2] at kk
        refine vr_iload_n (q := 19) dX2_seekOrderFrom_18 rfl rfl ?_
        refine vr_bipush (q := 21) dX2_seekOrderFrom_19 rfl ⟨by decide, by decide⟩ (by decide) ?_
        -- at X2.seekOrderFrom 21: .if_icmp .lt 10
        refine vr_ic_lt (t := 31) (q := 24) dX2_seekOrderFrom_21 (by decide) rfl (fun _ => ?_) (fun c9 => absurd c9 (by omega))
        refine vr_iconst (q := 32) dX2_seekOrderFrom_31 rfl ⟨by decide, by decide⟩ ?_
        refine vr_istore (q := 34) dX2_seekOrderFrom_32 rfl (Nat.le_of_ble_eq_true rfl) rfl rfl ?_
        -- at X2.seekOrderFrom 34: .iload 4
        generalize hF : (fun (l : Int) (y : BR_) => if bt_ s l = 0 then y else so_ (tf_ h) (h 7 2).toNat k (hl_ (tf_ h) m l) (dl_ s l) (if nl_ (tf_ h) m l = 0 then w else w + 1) (p ++ [l]) y) = f at kk
        have lp : ∀ (c i : Nat) (y : BR_) (hq : SH_) (o5 : Option SV_), (i : Int) + c = h 7 2 → fo_ f (h 7 2).toNat 0 b = fo_ f c i y → sq_ e h hq → br_ hq y → V_ g (d + (k + 1) + 6) mX2_seekOrderFrom 34 [some (sv_r 4 2 46), some (sv_i e), some (sv_i s), some (sv_i w), some (sv_i i), o5] [] hq Post := by
          intro c
          induction c with
          | zero =>
            intro i y hq o5 hi ef s1 b1
            have e7 := sq_lo s1 he (x := 7) (by omega)
            rw [ef] at kk
            refine vr_iload (q := 36) dX2_seekOrderFrom_34 rfl rfl ?_
            refine vr_aload_n (q := 37) dX2_seekOrderFrom_36 rfl rfl ?_
            refine vr_getA (q := 40) dX2_seekOrderFrom_37 rfl fX2_40 rfl ⟨by decide, by decide, rfl⟩ ?_
            refine vr_getV (ji := 2) (q := 43) dX2_seekOrderFrom_40 rfl fX2_59 rfl rfl (by rw [e7]) ?_
            -- at X2.seekOrderFrom 43: .if_icmp .ge 54
            refine vr_ic_ge (t := 97) (q := 46) dX2_seekOrderFrom_43 (by decide) rfl (fun _ => ?_) (fun c9 => absurd c9 (by omega))
            refine vr_vret dX2_seekOrderFrom_97 rfl ?_
            exact kk hq s1 b1
          | succ c ihc =>
            intro i y hq o5 hi ef s1 b1
            have e7 := sq_lo s1 he (x := 7) (by omega)
            have q8 := sq_lo s1 he (x := 8) (by omega)
            have q9 := sq_lo s1 he (x := 9) (by omega)
            have q10 := sq_lo s1 he (x := 10) (by omega)
            have hlo := o.2.2.2.1 i (by omega) (by omega)
            have ef2 : fo_ f (c + 1) i y = fo_ f c (i + 1) (f i y) := rfl
            have efi : f i y = if bt_ s i = 0 then y else so_ (tf_ h) (h 7 2).toNat k (hl_ (tf_ h) m i) (dl_ s i) (if nl_ (tf_ h) m i = 0 then w else w + 1) (p ++ [(i : Int)]) y := by rw [← hF]
            have mq : mu_ hq (52 + 2 * e) = m := by rw [sq_mu s1 he, hM]
            have hpq : pp_ hq p := pp_e ep s1.2 hp
            refine vr_iload (q := 36) dX2_seekOrderFrom_34 rfl rfl ?_
            refine vr_aload_n (q := 37) dX2_seekOrderFrom_36 rfl rfl ?_
            refine vr_getA (q := 40) dX2_seekOrderFrom_37 rfl fX2_40 rfl ⟨by decide, by decide, rfl⟩ ?_
            refine vr_getV (ji := 2) (q := 43) dX2_seekOrderFrom_40 rfl fX2_59 rfl rfl (by rw [e7]) ?_
            -- at X2.seekOrderFrom 43: .if_icmp .ge 54
            refine vr_ic_ge (t := 97) (q := 46) dX2_seekOrderFrom_43 (by decide) rfl (fun c9 => absurd c9 (by omega)) (fun _ => ?_)
            refine vr_iload_n (q := 47) dX2_seekOrderFrom_46 rfl rfl ?_
            refine vr_iload (q := 49) dX2_seekOrderFrom_47 rfl rfl ?_
            refine vr_ishr (q := 50) dX2_seekOrderFrom_49 rfl ?_
            refine vr_iconst (q := 51) dX2_seekOrderFrom_50 rfl ⟨by decide, by decide⟩ ?_
            refine vr_iand (q := 52) dX2_seekOrderFrom_51 rfl ?_
            -- at X2.seekOrderFrom 52: .ifCond .eq 39
            refine vr_if_eq (t := 91) (q := 55) dX2_seekOrderFrom_52 (by decide) rfl (fun c3 => ?_) (fun c3 => ?_)
            · have c4 : bt_ s i = 0 := c3
              rw [if_pos c4] at efi
              rw [efi] at ef2
              refine vr_iinc (q := 94) dX2_seekOrderFrom_91 rfl rfl ⟨by omega, by omega⟩ (Nat.le_of_ble_eq_true rfl) rfl rfl ?_
              refine vr_goto (q := 34) dX2_seekOrderFrom_94 (by decide) ?_
              -- at X2.seekOrderFrom 34: .iload 4
              exact ihc (i + 1) y hq _ (by omega) (ef.trans ef2) s1 b1
            · have c4 : ¬ bt_ s i = 0 := c3
              rw [if_neg c4] at efi
              refine vr_aload_n (q := 56) dX2_seekOrderFrom_55 rfl rfl ?_
              refine vr_iload_n (q := 57) dX2_seekOrderFrom_56 rfl rfl ?_
              refine vr_iload (q := 59) dX2_seekOrderFrom_57 rfl rfl ?_
              -- at X2.seekOrderFrom 59: .invokevirtual 80
              refine vr_iv2 (q := 62) dX2_seekOrderFrom_59 rfl vX2_80 (Nat.le_of_ble_eq_true rfl) ?_
              refine c_tryNext (n := 6 + e) ⟨he, by omega⟩ ⟨by omega, by omega⟩ (by rw [q8, q9, q10]; exact hlo) (by rw [mq]; exact hm) (by omega) ?_
              rw [mq, sq_tf s1 he]
              have s2 : sd_ e hq (tn_ hq e i) := sd_n ⟨he, by omega⟩
              have m2 : mu_ (tn_ hq e i) (52 + 2 * (e + 1)) = hl_ (tf_ h) m i := by rw [tn_mu, mq, sq_tf s1 he]
              have p2 : tn_ hq e i 48 e = i := tn_p he
              generalize tn_ hq e i = h2 at s2 m2 p2 ⊢
              have s3 : sq_ e h h2 := sq_t s1 (sq_s s2)
              have b3 : br_ h2 y := br_sd s2 he b1
              have f7 := sq_lo s3 he (x := 7) (by omega)
              have hp3 : pp_ h2 (p ++ [(i : Int)]) := fun j x hx => by
                by_cases hj : j < p.length
                · rw [List.getElem?_append_left hj] at hx
                  rw [s2.2 j (by omega)]
                  exact hpq j x hx
                · rw [List.getElem?_append_right (by omega)] at hx
                  have hz : j - p.length < 1 := (List.getElem?_eq_some_iff.mp hx).1
                  rw [show j - p.length = 0 by omega] at hx
                  cases hx
                  rw [show (j : Int) = e by omega]
                  exact p2
              have rc0 : ∀ z : Int, z = (if nl_ (tf_ h) m i = 0 then w else w + 1) → (0 ≤ z ∧ z ≤ e + 1) → ∀ o5 : Option SV_, Ctr_ g (d + k + 6) mX2_seekOrderFrom [sv_r 4 2 46, sv_i (e + 1), sv_i (dl_ s i), sv_i z] h2 (fun r h' => V_ g (d + (k + 1) + 6) mX2_seekOrderFrom 91 [some (sv_r 4 2 46), some (sv_i e), some (sv_i s), some (sv_i w), some (sv_i i), o5] (so_p r []) h' Post) := by
                intro z hz hz2 o5
                refine ih (e + 1) (dl_ s i) z (p ++ [(i : Int)]) y h2 _ (sq_to s3 he o) (by simp; omega) (by omega) (dl_r hs ⟨by omega, by omega⟩) hz2 (by rw [m2, show 6 + (e + 1) = 6 + e + 1 by omega]; exact he_mo hlo hm) hp3 b3 (fun h4 s4 b4 => ?_)
                rw [m2, sq_tf s3 he, f7, hz, ← efi] at b4
                refine vr_iinc (q := 94) dX2_seekOrderFrom_91 rfl rfl ⟨by omega, by omega⟩ (Nat.le_of_ble_eq_true rfl) rfl rfl ?_
                refine vr_goto (q := 34) dX2_seekOrderFrom_94 (by decide) ?_
                -- at X2.seekOrderFrom 34: .iload 4
                exact ihc (i + 1) (f i y) h4 _ (by omega) (ef.trans ef2) (sq_t s3 (sq_up s4)) b4
              refine vr_istore (q := 64) dX2_seekOrderFrom_62 rfl (Nat.le_of_ble_eq_true rfl) rfl rfl ?_
              refine vr_aload_n (q := 65) dX2_seekOrderFrom_64 rfl rfl ?_
              refine vr_iload_n (q := 66) dX2_seekOrderFrom_65 rfl rfl ?_
              refine vr_iconst (q := 67) dX2_seekOrderFrom_66 rfl ⟨by decide, by decide⟩ ?_
              refine vr_iaddN (q := 68) dX2_seekOrderFrom_67 rfl ⟨by omega, by omega⟩ ?_
              refine vr_iload_n (q := 69) dX2_seekOrderFrom_68 rfl rfl ?_
              refine vr_iconst (q := 70) dX2_seekOrderFrom_69 rfl ⟨by decide, by decide⟩ ?_
              refine vr_iload (q := 72) dX2_seekOrderFrom_70 rfl rfl ?_
              refine vr_ishl (q := 73) dX2_seekOrderFrom_72 rfl ?_
              refine vr_iconst (q := 74) dX2_seekOrderFrom_73 rfl ⟨by decide, by decide⟩ ?_
              refine vr_ixor (q := 75) dX2_seekOrderFrom_74 rfl ?_
              refine vr_iand (q := 76) dX2_seekOrderFrom_75 rfl ?_
              refine vr_iload (q := 78) dX2_seekOrderFrom_76 rfl rfl ?_
              -- at X2.seekOrderFrom 78: .ifCond .eq 9
              refine vr_if_eq (t := 87) (q := 81) dX2_seekOrderFrom_78 (by decide) rfl (fun c5 => ?_) (fun c5 => ?_)
              · refine vr_iload_n (q := 88) dX2_seekOrderFrom_87 rfl rfl ?_
                -- at X2.seekOrderFrom 88: .invokevirtual 66
                refine vr_iv3 (q := 91) dX2_seekOrderFrom_88 rfl vX2_66 (Nat.le_of_ble_eq_true rfl) ?_
                exact rc0 w (if_pos c5).symm ⟨by omega, by omega⟩ _
              · refine vr_iload_n (q := 82) dX2_seekOrderFrom_81 rfl rfl ?_
                refine vr_iconst (q := 83) dX2_seekOrderFrom_82 rfl ⟨by decide, by decide⟩ ?_
                refine vr_iaddN (q := 84) dX2_seekOrderFrom_83 rfl ⟨by omega, by omega⟩ ?_
                refine vr_goto (q := 88) dX2_seekOrderFrom_84 (by decide) ?_
                -- at X2.seekOrderFrom 88: .invokevirtual 66
                refine vr_iv3 (q := 91) dX2_seekOrderFrom_88 rfl vX2_66 (Nat.le_of_ble_eq_true rfl) ?_
                exact rc0 (w + 1) (if_neg c5).symm ⟨by omega, by omega⟩ _
        exact lp (h 7 2).toNat 0 b h none (by omega) rfl (sq_r e h) hb
    · rw [if_neg c1] at kk
      refine vr_vret dX2_seekOrderFrom_13 rfl ?_
      exact kk h (sq_r e h) hb
/-- the best order of a set for stranger s: the row, at how many it nods -/
def od_ (h : SH_) (s x : Int) : BR_ := so_ (tf_ h) (h 7 2).toNat 6 (en_ h s) x 0 [] ([], -1)
theorem c_seekOrder {h : SH_} {Post : Option SV_ → SH_ → Prop} {s x : Int} (o : to_ h) (hs : 0 ≤ s ∧ s < h 7 3) (hx : 0 ≤ x ∧ x < 64) (kk : ∀ h2, fk_ h h2 → br_ h2 (od_ h s x) → Post none h2) : Ctr_ g (d + 13) mX2_seekOrder [sv_r 4 2 46, sv_i s, sv_i x] h Post := by
  have k1 : fk_ h (hs_ (hs_ (ms_ h 52 (en_ h s)) 46 4 0) 46 5 (-1)) := fk_s ⟨by decide, by decide⟩ (fk_s ⟨by decide, by decide⟩ (fk_m ⟨by decide, by decide⟩ (fk_r h)))
  have m1 : mu_ (hs_ (hs_ (ms_ h 52 (en_ h s)) 46 4 0) 46 5 (-1)) 52 = en_ h s := by
    have e := mu_ms h 52 (en_ h s)
    unfold mu_ at e ⊢
    rw [hs_k (by decide), hs_k (by decide), hs_k (by decide), hs_k (by decide)]
    exact e
  have b1 : br_ (hs_ (hs_ (ms_ h 52 (en_ h s)) 46 4 0) 46 5 (-1)) ([], -1) := ⟨by rw [hs_n (by omega), hs_e]; rfl, hs_e _ _ _ _, by decide, ⟨by decide, by decide⟩, fun i y hy => by simp at hy⟩
  refine V_mk (by decide +kernel) (Or.inl ⟨rfl, rfl⟩) (Nat.le_of_ble_eq_true rfl) (by simp [sv_c]) ?_
  show V_ _ _ _ 0 [_, _, _] [] _ _
  refine vr_aload_n (q := 1) dX2_seekOrder_0 rfl rfl ?_
  refine vr_iload_n (q := 2) dX2_seekOrder_1 rfl rfl ?_
  -- at X2.seekOrder 2: .invokevirtual 49
  refine vr_iv1 (q := 5) dX2_seekOrder_2 rfl vX2_49 (Nat.le_of_ble_eq_true rfl) ?_
  refine c_mindOf o hs ?_
  refine vr_pop (q := 6) dX2_seekOrder_5 rfl rfl ?_
  refine vr_aload_n (q := 7) dX2_seekOrder_6 rfl rfl ?_
  refine vr_iconst (q := 8) dX2_seekOrder_7 rfl ⟨by decide, by decide⟩ ?_
  refine vr_put (ji := 4) (q := 11) dX2_seekOrder_8 rfl pX2_24 rfl rfl ?_
  refine vr_aload_n (q := 12) dX2_seekOrder_11 rfl rfl ?_
  refine vr_iconst (q := 13) dX2_seekOrder_12 rfl ⟨by decide, by decide⟩ ?_
  refine vr_put (ji := 5) (q := 16) dX2_seekOrder_13 rfl pX2_28 rfl rfl ?_
  refine vr_aload_n (q := 17) dX2_seekOrder_16 rfl rfl ?_
  refine vr_iconst (q := 18) dX2_seekOrder_17 rfl ⟨by decide, by decide⟩ ?_
  refine vr_iload_n (q := 19) dX2_seekOrder_18 rfl rfl ?_
  refine vr_iconst (q := 20) dX2_seekOrder_19 rfl ⟨by decide, by decide⟩ ?_
  -- at X2.seekOrder 20: .invokevirtual 66
  generalize hs_ (hs_ (ms_ h 52 (en_ h s)) 46 4 0) 46 5 (-1) = h1 at k1 m1 b1 ⊢
  refine vr_iv3 (q := 23) dX2_seekOrder_20 rfl vX2_66 (Nat.le_of_ble_eq_true rfl) ?_
  refine c_seekOrderFrom (d := d) 6 0 x 0 [] ([], -1) h1 _ (fk_to k1 o) rfl (by decide) hx ⟨by decide, by decide⟩ (by rw [show (52 : Int) + 2 * 0 = 52 by decide, m1]; exact en_mo o hs) (fun i y hy => by simp at hy) b1 (fun h2 s2 b2 => ?_)
  rw [show (52 : Int) + 2 * 0 = 52 by decide, m1, fk_tf k1, k1 7 (by omega)] at b2
  refine vr_vret dX2_seekOrder_23 rfl ?_
  exact kk h2 (fk_t k1 (sq_fk s2 (by decide))) b2
/-- which lies are dead for stranger s -/
def dd_ (h : SH_) (s : Int) : Int := df_ (tf_ h) (h 7 2).toNat 6 (en_ h s) (ut_ (h 7 2) (h 13 s)) (ut_ (h 7 2) (h 13 s))
theorem c_deadLies {h : SH_} {Post : Option SV_ → SH_ → Prop} {s : Int} (o : to_ h) (hs : 0 ≤ s ∧ s < h 7 3) (kk : ∀ h2, fk_ h h2 → Post (some (sv_i (dd_ h s))) h2) : Ctr_ g (d + 13) mX2_deadLies [sv_r 4 2 46, sv_i s] h Post := by
  have o2 := o.2.1
  have k1 : fk_ h (ms_ h 52 (en_ h s)) := fk_m ⟨by decide, by decide⟩ (fk_r h)
  have m1 := mu_ms h 52 (en_ h s)
  refine V_mk (by decide +kernel) (Or.inr (Or.inl ⟨rfl, rfl⟩)) (Nat.le_of_ble_eq_true rfl) (by simp [sv_c]) ?_
  show V_ _ _ _ 0 [_, _, _] [] _ _
  refine vr_aload_n (q := 1) dX2_deadLies_0 rfl rfl ?_
  refine vr_iload_n (q := 2) dX2_deadLies_1 rfl rfl ?_
  -- at X2.deadLies 2: .invokevirtual 49
  refine vr_iv1 (q := 5) dX2_deadLies_2 rfl vX2_49 (Nat.le_of_ble_eq_true rfl) ?_
  refine c_mindOf o hs ?_
  refine vr_pop (q := 6) dX2_deadLies_5 rfl rfl ?_
  refine vr_aload_n (q := 7) dX2_deadLies_6 rfl rfl ?_
  refine vr_getA (q := 10) dX2_deadLies_7 rfl fX2_40 rfl ⟨by decide, by decide, rfl⟩ ?_
  refine vr_iload_n (q := 11) dX2_deadLies_10 rfl rfl ?_
  -- at X2.deadLies 11: .invokevirtual 53
  generalize ms_ h 52 (en_ h s) = h1 at k1 m1 ⊢
  refine vr_iv1 (q := 14) dX2_deadLies_11 rfl vX2_53 (Nat.le_of_ble_eq_true rfl) ?_
  refine c_untold ⟨by omega, by omega⟩ (by rw [k1 7 (by omega)]; exact o.1) ?_
  rw [k1 7 (by omega), k1 13 (by omega)]
  refine vr_istore_n (q := 15) dX2_deadLies_14 rfl rfl (Nat.le_of_ble_eq_true rfl) rfl rfl ?_
  refine vr_aload_n (q := 16) dX2_deadLies_15 rfl rfl ?_
  refine vr_iconst (q := 17) dX2_deadLies_16 rfl ⟨by decide, by decide⟩ ?_
  refine vr_iload_n (q := 18) dX2_deadLies_17 rfl rfl ?_
  refine vr_iload_n (q := 19) dX2_deadLies_18 rfl rfl ?_
  -- at X2.deadLies 19: .invokevirtual 95
  refine vr_iv3 (q := 22) dX2_deadLies_19 rfl vX2_95 (Nat.le_of_ble_eq_true rfl) ?_
  refine c_deadFrom (d := d) 6 0 _ _ h1 _ (fk_to k1 o) (by decide) (by decide) (by rw [show (52 : Int) + 2 * 0 = 52 by decide, m1]; exact en_mo o hs) (fun h2 s2 => ?_)
  rw [show (52 : Int) + 2 * 0 = 52 by decide, m1, fk_tf k1, k1 7 (by omega)]
  refine vr_iret dX2_deadLies_22 rfl ?_
  exact kk h2 (fk_t k1 (sd_fk s2 (by decide)))
theorem c_waysToNod {h : SH_} {Post : Option SV_ → SH_ → Prop} {s w c n : Int} (o : to_ h) (hs : 0 ≤ s ∧ s < h 7 3) (hc : 0 ≤ c ∧ c ≤ 10) (hw : 0 ≤ w ∧ w ≤ 6) (hn : 0 ≤ n ∧ n ≤ 6) (e8 : h 46 8 = n) (hL : ∀ t, 0 ≤ t → t < n → 0 ≤ h 50 t ∧ h 50 t < h 7 2) (kk : ∀ h2, sd_ 0 (ms_ h 52 (en_ h s)) h2 → Post (some (sv_i (wf_ (tf_ h) (h 50) c n.toNat 0 (en_ h s) w))) h2) : Ctr_ g (d + n.toNat + 6) mX2_waysToNod [sv_r 4 2 46, sv_i s, sv_i w, sv_i c] h Post := by
  have k1 : fk_ h (ms_ h 52 (en_ h s)) := fk_m ⟨by decide, by decide⟩ (fk_r h)
  have m1 := mu_ms h 52 (en_ h s)
  have e50 : ms_ h 52 (en_ h s) 50 = h 50 := ms_lo (by decide) (by decide)
  have e46 : ms_ h 52 (en_ h s) 46 = h 46 := ms_lo (by decide) (by decide)
  refine V_mk (by decide +kernel) (Or.inr (Or.inl ⟨rfl, rfl⟩)) (Nat.le_of_ble_eq_true rfl) (by simp [sv_c]) ?_
  show V_ _ _ _ 0 [_, _, _, _] [] _ _
  refine vr_aload_n (q := 1) dX2_waysToNod_0 rfl rfl ?_
  refine vr_iload_n (q := 2) dX2_waysToNod_1 rfl rfl ?_
  -- at X2.waysToNod 2: .invokevirtual 49
  refine vr_iv1 (q := 5) dX2_waysToNod_2 rfl vX2_49 (Nat.le_of_ble_eq_true rfl) ?_
  refine c_mindOf o hs ?_
  refine vr_pop (q := 6) dX2_waysToNod_5 rfl rfl ?_
  refine vr_aload_n (q := 7) dX2_waysToNod_6 rfl rfl ?_
  refine vr_iconst (q := 8) dX2_waysToNod_7 rfl ⟨by decide, by decide⟩ ?_
  refine vr_iload_n (q := 9) dX2_waysToNod_8 rfl rfl ?_
  refine vr_iload_n (q := 10) dX2_waysToNod_9 rfl rfl ?_
  -- at X2.waysToNod 10: .invokevirtual 121
  refine vr_iv3 (q := 13) dX2_waysToNod_10 rfl vX2_121 (Nat.le_of_ble_eq_true rfl) ?_
  refine c_waysFrom (d := d) hn hc n.toNat 0 w _ _ (fk_to k1 o) (by rw [e46]; exact e8) (by rw [e50, k1 7 (by omega)]; exact hL) (by decide) (by omega) (by rw [show (52 : Int) + 2 * 0 = 52 by decide, m1]; exact en_mo o hs) ⟨by omega, by omega⟩ (fun h2 s2 => ?_)
  rw [show (52 : Int) + 2 * 0 = 52 by decide, m1, fk_tf k1, e50]
  refine vr_iret dX2_waysToNod_13 rfl ?_
  exact kk h2 s2
end PF6_
end
section
def fa_ (f : Nat → Option (List Int)) : Nat → Nat → Option (Nat × List Int)
  | 0, _ => none
  | c + 1, i => match f i with
    | some r => some (i, r)
    | none => fa_ f c (i + 1)
/-- the fewest lies ahead, so that stranger s nods at a lie, and their first row -/
def fw_ (h : SH_) (s l : Int) : Option (Nat × List Int) := fa_ (fun k => cp_ (tf_ h) (h 7 2).toNat l k (en_ h s) (dl_ (ut_ (h 7 2) (h 13 s)) l)) (pc_ (dl_ (ut_ (h 7 2) (h 13 s)) l) + 1).toNat 0
theorem ut_c : ∀ n : Fin 7, ∀ x : Fin 64, 0 ≤ ut_ ((n : Nat) : Int) ((x : Nat) : Int) ∧ ut_ ((n : Nat) : Int) ((x : Nat) : Int) < 64 := by decide +kernel
theorem ut_r {n x : Int} (hn : 0 ≤ n ∧ n ≤ 6) (hx : 0 ≤ x ∧ x < 64) : 0 ≤ ut_ n x ∧ ut_ n x < 64 := by
  have e := ut_c ⟨n.toNat, by omega⟩ ⟨x.toNat, by omega⟩
  rw [show (((⟨n.toNat, by omega⟩ : Fin 7) : Nat) : Int) = n from Int.toNat_of_nonneg hn.1, show (((⟨x.toNat, by omega⟩ : Fin 64) : Nat) : Int) = x from Int.toNat_of_nonneg hx.1] at e
  exact e
section PF7_
variable {g : SG_} {d : Nat} {h : SH_} {Post : Option SV_ → SH_ → Prop}
theorem c_fewestAhead {s l : Int} (o : to_ h) (hs : 0 ≤ s ∧ s < h 7 3) (hl : 0 ≤ l ∧ l < h 7 2) (kt : ∀ i r h2, fw_ h s l = some (i, r) → fk_ h h2 → (∀ x r2, r = x :: r2 → h2 48 0 = x) → i ≤ 6 → Post (some (sv_i (i : Int))) h2) (kf : ∀ h2, fw_ h s l = none → fk_ h h2 → Post (some (sv_i (-1000000))) h2) : Ctr_ g (d + 13) mX2_fewestAhead [sv_r 4 2 46, sv_i s, sv_i l] h Post := by
  have o2 := o.2.1
  have o1 := o.1
  have ht := (o.2.2.2.2 s hs.1 hs.2).2.2.1
  have k1 : fk_ h (ms_ h 52 (en_ h s)) := fk_m ⟨by decide, by decide⟩ (fk_r h)
  have m1 := mu_ms h 52 (en_ h s)
  have hu := dl_r (ut_r o1 ht) (l := l) ⟨by omega, by omega⟩
  have hp := pc_r (x := dl_ (ut_ (h 7 2) (h 13 s)) l)
  unfold fw_ at kt kf
  generalize hF : (fun k => cp_ (tf_ h) (h 7 2).toNat l k (en_ h s) (dl_ (ut_ (h 7 2) (h 13 s)) l)) = f at kt kf
  refine V_mk (by decide +kernel) (Or.inr (Or.inl ⟨rfl, rfl⟩)) (Nat.le_of_ble_eq_true rfl) (by simp [sv_c]) ?_
  show V_ _ _ _ 0 [_, _, _, _, _, _] [] _ _
  refine vr_aload_n (q := 1) dX2_fewestAhead_0 rfl rfl ?_
  refine vr_iload_n (q := 2) dX2_fewestAhead_1 rfl rfl ?_
  -- at X2.fewestAhead 2: .invokevirtual 49
  refine vr_iv1 (q := 5) dX2_fewestAhead_2 rfl vX2_49 (Nat.le_of_ble_eq_true rfl) ?_
  refine c_mindOf o hs ?_
  refine vr_pop (q := 6) dX2_fewestAhead_5 rfl rfl ?_
  refine vr_aload_n (q := 7) dX2_fewestAhead_6 rfl rfl ?_
  refine vr_getA (q := 10) dX2_fewestAhead_7 rfl fX2_40 rfl ⟨by decide, by decide, rfl⟩ ?_
  refine vr_iload_n (q := 11) dX2_fewestAhead_10 rfl rfl ?_
  -- at X2.fewestAhead 11: .invokevirtual 53
  generalize ms_ h 52 (en_ h s) = h1 at k1 m1 ⊢
  refine vr_iv1 (q := 14) dX2_fewestAhead_11 rfl vX2_53 (Nat.le_of_ble_eq_true rfl) ?_
  refine c_untold ⟨by omega, by omega⟩ (by rw [k1 7 (by omega)]; exact o.1) ?_
  rw [k1 7 (by omega), k1 13 (by omega)]
  refine vr_iconst (q := 15) dX2_fewestAhead_14 rfl ⟨by decide, by decide⟩ ?_
  refine vr_iload_n (q := 16) dX2_fewestAhead_15 rfl rfl ?_
  refine vr_ishl (q := 17) dX2_fewestAhead_16 rfl ?_
  refine vr_iconst (q := 18) dX2_fewestAhead_17 rfl ⟨by decide, by decide⟩ ?_
  refine vr_ixor (q := 19) dX2_fewestAhead_18 rfl ?_
  refine vr_iand (q := 20) dX2_fewestAhead_19 rfl ?_
  -- at X2.fewestAhead 20: .istore_n 3
  have edl : sb_iand (ut_ (h 7 2) (h 13 s)) (sb_ixor (sb_ishl 1 l) (-1)) = dl_ (ut_ (h 7 2) (h 13 s)) l := rfl
  rw [edl]
  generalize dl_ (ut_ (h 7 2) (h 13 s)) l = u at hu hp hF kt kf ⊢
  have lp : ∀ (c i : Nat) (hq : SH_), (i : Int) + c = pc_ u + 1 → fa_ f (pc_ u + 1).toNat 0 = fa_ f c i → fk_ h hq → mu_ hq 52 = en_ h s → V_ g (d + 13) mX2_fewestAhead 30 [some (sv_r 4 2 46), some (sv_i s), some (sv_i l), some (sv_i u), some (sv_i (pc_ u)), some (sv_i i)] [] hq Post := by
    intro c
    induction c with
    | zero =>
      intro i hq hi ef k2 m2
      refine vr_iload (q := 32) dX2_fewestAhead_30 rfl rfl ?_
      refine vr_iload (q := 34) dX2_fewestAhead_32 rfl rfl ?_
      -- at X2.fewestAhead 34: .if_icmp .gt 24
      refine vr_ic_gt (t := 58) (q := 37) dX2_fewestAhead_34 (by decide) rfl (fun _ => ?_) (fun c9 => absurd c9 (by omega))
      refine vr_ldc (x := -1000000) (q := 60) dX2_fewestAhead_58 rfl ⟨by decide, by decide⟩ qX2_70 ?_
      refine vr_iret dX2_fewestAhead_60 rfl ?_
      exact kf hq ef k2
    | succ c ihc =>
      intro i hq hi ef k2 m2
      have ef2 : fa_ f (c + 1) i = match f i with | some r => some (i, r) | none => fa_ f c (i + 1) := rfl
      have efi : f i = cp_ (tf_ h) (h 7 2).toNat l i (en_ h s) u := by rw [← hF]
      refine vr_iload (q := 32) dX2_fewestAhead_30 rfl rfl ?_
      refine vr_iload (q := 34) dX2_fewestAhead_32 rfl rfl ?_
      -- at X2.fewestAhead 34: .if_icmp .gt 24
      refine vr_ic_gt (t := 58) (q := 37) dX2_fewestAhead_34 (by decide) rfl (fun c9 => absurd c9 (by omega)) (fun _ => ?_)
      refine vr_aload_n (q := 38) dX2_fewestAhead_37 rfl rfl ?_
      refine vr_iconst (q := 39) dX2_fewestAhead_38 rfl ⟨by decide, by decide⟩ ?_
      refine vr_iload_n (q := 40) dX2_fewestAhead_39 rfl rfl ?_
      refine vr_iload_n (q := 41) dX2_fewestAhead_40 rfl rfl ?_
      refine vr_iload (q := 43) dX2_fewestAhead_41 rfl rfl ?_
      -- at X2.fewestAhead 43: .invokevirtual 91
      refine vr_iv4 (q := 46) dX2_fewestAhead_43 rfl vX2_91 (Nat.le_of_ble_eq_true rfl) ?_
      rw [show d + 12 = d + (6 - i) + i + 6 by omega]
      refine c_comesInFrom (d := d + (6 - i)) (w := i) ⟨by omega, by omega⟩ i 0 u hq _ (fk_to k2 o) (by rw [k2 7 (by omega)]; exact hl) (by decide) (by omega) (by rw [show (52 : Int) + 2 * 0 = 52 by decide, m2]; exact en_mo o hs) (fun r h3 e3 s3 p3 => ?_) (fun h3 e3 s3 => ?_)
      · rw [show (52 : Int) + 2 * 0 = 52 by decide, m2, fk_tf k2, k2 7 (by omega), ← efi] at e3
        rw [e3] at ef2
        rw [show d + (6 - i) + i + 6 = d + 12 by omega]
        refine vr_if_eq (t := 52) (q := 49) dX2_fewestAhead_46 (by decide) rfl (fun c9 => absurd c9 (by omega)) (fun _ => ?_)
        refine vr_iload (q := 51) dX2_fewestAhead_49 rfl rfl ?_
        refine vr_iret dX2_fewestAhead_51 rfl ?_
        exact kt i r h3 (ef.trans ef2) (fk_t k2 (sd_fk s3 (by decide))) p3 (by omega)
      · rw [show (52 : Int) + 2 * 0 = 52 by decide, m2, fk_tf k2, k2 7 (by omega), ← efi] at e3
        rw [e3] at ef2
        rw [show d + (6 - i) + i + 6 = d + 12 by omega]
        have m3 := sd_mu s3 (by decide)
        rw [show (52 : Int) + 2 * 0 = 52 by decide, m2] at m3
        refine vr_if_eq (t := 52) (q := 49) dX2_fewestAhead_46 (by decide) rfl (fun _ => ?_) (fun c9 => absurd c9 (by omega))
        refine vr_iinc (q := 55) dX2_fewestAhead_52 rfl rfl ⟨by omega, by omega⟩ (Nat.le_of_ble_eq_true rfl) rfl rfl ?_
        refine vr_goto (q := 30) dX2_fewestAhead_55 (by decide) ?_
        -- at X2.fewestAhead 30: .iload 5
        exact ihc (i + 1) h3 (by omega) (ef.trans ef2) (fk_t k2 (sd_fk s3 (by decide))) m3
  refine vr_istore_n (q := 21) dX2_fewestAhead_20 rfl rfl (Nat.le_of_ble_eq_true rfl) rfl rfl ?_
  refine vr_iload_n (q := 22) dX2_fewestAhead_21 rfl rfl ?_
  -- at X2.fewestAhead 22: .invokestatic 71
  refine vr_is1 (q := 25) dX2_fewestAhead_22 rfl vX2_71 (Nat.le_of_ble_eq_true rfl) ?_
  refine c_bitCount hu ?_
  refine vr_istore (q := 27) dX2_fewestAhead_25 rfl (Nat.le_of_ble_eq_true rfl) rfl rfl ?_
  refine vr_iconst (q := 28) dX2_fewestAhead_27 rfl ⟨by decide, by decide⟩ ?_
  refine vr_istore (q := 30) dX2_fewestAhead_28 rfl (Nat.le_of_ble_eq_true rfl) rfl rfl ?_
  -- at X2.fewestAhead 30: .iload 5
  exact lp (pc_ u + 1).toNat 0 h1 (by omega) rfl k1 m1
end PF7_
end
