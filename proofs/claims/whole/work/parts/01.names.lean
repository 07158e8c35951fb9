-- ===== PART A: goes FIRST, ahead of the names: the tables' words, and 'selects' of the private methods out of them =====
/-- a private method of a class that the tables say can be made, by its rows of tables_1 -/
def lw_okq (q : MethodName × Nat) : Prop := (q.1.cls ≠ "java/lang/invoke/MethodHandle" ∧ q.1.cls ≠ "java/lang/invoke/VarHandle") ∧ Cond.instantiable q.1.cls q.2 ∈ tables_1 ∧ Cond.privateMethod q.1 ∈ tables_1 ∧ Cond.instanceMethod q.1 ∈ tables_1
theorem lw_p0 : lw_okq (⟨"NodBets", "found", "(I)I"⟩, 9) := ⟨⟨by decide +kernel, by decide +kernel⟩, List.mem_of_getElem? (i := 15) (by decide +kernel), List.mem_of_getElem? (i := 261) (by decide +kernel), List.mem_of_getElem? (i := 262) (by decide +kernel)⟩
theorem lw_p1 : lw_okq (⟨"NodBets", "unfound", "(I)I"⟩, 9) := ⟨⟨by decide +kernel, by decide +kernel⟩, List.mem_of_getElem? (i := 15) (by decide +kernel), List.mem_of_getElem? (i := 270) (by decide +kernel), List.mem_of_getElem? (i := 271) (by decide +kernel)⟩
theorem lw_p2 : lw_okq (⟨"NodBets$Reader", "readLaw", "(LNodBets$Town;)Z"⟩, 4) := ⟨⟨by decide +kernel, by decide +kernel⟩, List.mem_of_getElem? (i := 40) (by decide +kernel), List.mem_of_getElem? (i := 337) (by decide +kernel), List.mem_of_getElem? (i := 338) (by decide +kernel)⟩
theorem lw_p3 : lw_okq (⟨"NodBets$Reader", "passed", "(I)Z"⟩, 4) := ⟨⟨by decide +kernel, by decide +kernel⟩, List.mem_of_getElem? (i := 40) (by decide +kernel), List.mem_of_getElem? (i := 341) (by decide +kernel), List.mem_of_getElem? (i := 342) (by decide +kernel)⟩
theorem lw_p4 : lw_okq (⟨"NodBets$Reader", "here", "()I"⟩, 4) := ⟨⟨by decide +kernel, by decide +kernel⟩, List.mem_of_getElem? (i := 40) (by decide +kernel), List.mem_of_getElem? (i := 345) (by decide +kernel), List.mem_of_getElem? (i := 346) (by decide +kernel)⟩
theorem lw_p5 : lw_okq (⟨"NodBets$Reader", "byteAt", "(I)I"⟩, 4) := ⟨⟨by decide +kernel, by decide +kernel⟩, List.mem_of_getElem? (i := 40) (by decide +kernel), List.mem_of_getElem? (i := 349) (by decide +kernel), List.mem_of_getElem? (i := 350) (by decide +kernel)⟩
theorem lw_p6 : lw_okq (⟨"NodBets$Reader", "refuse", "(I)Z"⟩, 4) := ⟨⟨by decide +kernel, by decide +kernel⟩, List.mem_of_getElem? (i := 40) (by decide +kernel), List.mem_of_getElem? (i := 353) (by decide +kernel), List.mem_of_getElem? (i := 354) (by decide +kernel)⟩
theorem lw_p7 : lw_okq (⟨"NodBets$Reader", "readNumber", "(II)I"⟩, 4) := ⟨⟨by decide +kernel, by decide +kernel⟩, List.mem_of_getElem? (i := 40) (by decide +kernel), List.mem_of_getElem? (i := 357) (by decide +kernel), List.mem_of_getElem? (i := 358) (by decide +kernel)⟩
theorem lw_p8 : lw_okq (⟨"NodBets$Reader", "readLies", "(LNodBets$Town;)Z"⟩, 4) := ⟨⟨by decide +kernel, by decide +kernel⟩, List.mem_of_getElem? (i := 40) (by decide +kernel), List.mem_of_getElem? (i := 368) (by decide +kernel), List.mem_of_getElem? (i := 369) (by decide +kernel)⟩
theorem lw_p9 : lw_okq (⟨"NodBets$Reader", "readStrangers", "(LNodBets$Town;)Z"⟩, 4) := ⟨⟨by decide +kernel, by decide +kernel⟩, List.mem_of_getElem? (i := 40) (by decide +kernel), List.mem_of_getElem? (i := 379) (by decide +kernel), List.mem_of_getElem? (i := 380) (by decide +kernel)⟩
theorem lw_p10 : lw_okq (⟨"NodBets$Mind", "undoubtedNeed", "(III)I"⟩, 4) := ⟨⟨by decide +kernel, by decide +kernel⟩, List.mem_of_getElem? (i := 162) (by decide +kernel), List.mem_of_getElem? (i := 458) (by decide +kernel), List.mem_of_getElem? (i := 459) (by decide +kernel)⟩
theorem lw_p11 : lw_okq (⟨"NodBets$Foresight", "seekOrderFrom", "(LNodBets$Town;III)V"⟩, 8) := ⟨⟨by decide +kernel, by decide +kernel⟩, List.mem_of_getElem? (i := 155) (by decide +kernel), List.mem_of_getElem? (i := 550) (by decide +kernel), List.mem_of_getElem? (i := 551) (by decide +kernel)⟩
theorem lw_p12 : lw_okq (⟨"NodBets$Foresight", "keepBest", "(II)V"⟩, 8) := ⟨⟨by decide +kernel, by decide +kernel⟩, List.mem_of_getElem? (i := 155) (by decide +kernel), List.mem_of_getElem? (i := 555) (by decide +kernel), List.mem_of_getElem? (i := 556) (by decide +kernel)⟩
theorem lw_p13 : lw_okq (⟨"NodBets$Foresight", "tryNext", "(LNodBets$Town;II)Z"⟩, 8) := ⟨⟨by decide +kernel, by decide +kernel⟩, List.mem_of_getElem? (i := 155) (by decide +kernel), List.mem_of_getElem? (i := 559) (by decide +kernel), List.mem_of_getElem? (i := 560) (by decide +kernel)⟩
theorem lw_p14 : lw_okq (⟨"NodBets$Foresight", "comesInFrom", "(LNodBets$Town;IIII)Z"⟩, 8) := ⟨⟨by decide +kernel, by decide +kernel⟩, List.mem_of_getElem? (i := 155) (by decide +kernel), List.mem_of_getElem? (i := 585) (by decide +kernel), List.mem_of_getElem? (i := 586) (by decide +kernel)⟩
theorem lw_p15 : lw_okq (⟨"NodBets$Foresight", "deadFrom", "(LNodBets$Town;III)I"⟩, 8) := ⟨⟨by decide +kernel, by decide +kernel⟩, List.mem_of_getElem? (i := 155) (by decide +kernel), List.mem_of_getElem? (i := 602) (by decide +kernel), List.mem_of_getElem? (i := 603) (by decide +kernel)⟩
def lw_privs_1 : List (MethodName × Nat) := [(⟨"NodBets", "found", "(I)I"⟩, 9), (⟨"NodBets", "unfound", "(I)I"⟩, 9), (⟨"NodBets$Reader", "readLaw", "(LNodBets$Town;)Z"⟩, 4), (⟨"NodBets$Reader", "passed", "(I)Z"⟩, 4), (⟨"NodBets$Reader", "here", "()I"⟩, 4), (⟨"NodBets$Reader", "byteAt", "(I)I"⟩, 4), (⟨"NodBets$Reader", "refuse", "(I)Z"⟩, 4), (⟨"NodBets$Reader", "readNumber", "(II)I"⟩, 4), (⟨"NodBets$Reader", "readLies", "(LNodBets$Town;)Z"⟩, 4), (⟨"NodBets$Reader", "readStrangers", "(LNodBets$Town;)Z"⟩, 4), (⟨"NodBets$Mind", "undoubtedNeed", "(III)I"⟩, 4), (⟨"NodBets$Foresight", "seekOrderFrom", "(LNodBets$Town;III)V"⟩, 8), (⟨"NodBets$Foresight", "keepBest", "(II)V"⟩, 8), (⟨"NodBets$Foresight", "tryNext", "(LNodBets$Town;II)Z"⟩, 8), (⟨"NodBets$Foresight", "comesInFrom", "(LNodBets$Town;IIII)Z"⟩, 8), (⟨"NodBets$Foresight", "deadFrom", "(LNodBets$Town;III)I"⟩, 8)]
theorem lw_r1 : ∀ q ∈ lw_privs_1, lw_okq q := List.forall_mem_cons.mpr ⟨lw_p0, List.forall_mem_cons.mpr ⟨lw_p1, List.forall_mem_cons.mpr ⟨lw_p2, List.forall_mem_cons.mpr ⟨lw_p3, List.forall_mem_cons.mpr ⟨lw_p4, List.forall_mem_cons.mpr ⟨lw_p5, List.forall_mem_cons.mpr ⟨lw_p6, List.forall_mem_cons.mpr ⟨lw_p7, List.forall_mem_cons.mpr ⟨lw_p8, List.forall_mem_cons.mpr ⟨lw_p9, List.forall_mem_cons.mpr ⟨lw_p10, List.forall_mem_cons.mpr ⟨lw_p11, List.forall_mem_cons.mpr ⟨lw_p12, List.forall_mem_cons.mpr ⟨lw_p13, List.forall_mem_cons.mpr ⟨lw_p14, List.forall_mem_cons.mpr ⟨lw_p15, fun _ h => absurd h List.not_mem_nil⟩⟩⟩⟩⟩⟩⟩⟩⟩⟩⟩⟩⟩⟩⟩⟩
theorem lw_p16 : lw_okq (⟨"NodBets$Foresight", "bringsIn", "(LNodBets$Town;II)Z"⟩, 8) := ⟨⟨by decide +kernel, by decide +kernel⟩, List.mem_of_getElem? (i := 155) (by decide +kernel), List.mem_of_getElem? (i := 615) (by decide +kernel), List.mem_of_getElem? (i := 616) (by decide +kernel)⟩
theorem lw_p17 : lw_okq (⟨"NodBets", "takeTelling", "(III)I"⟩, 9) := ⟨⟨by decide +kernel, by decide +kernel⟩, List.mem_of_getElem? (i := 15) (by decide +kernel), List.mem_of_getElem? (i := 631) (by decide +kernel), List.mem_of_getElem? (i := 632) (by decide +kernel)⟩
theorem lw_p18 : lw_okq (⟨"NodBets$Foresight", "waysFrom", "(LNodBets$Town;III)I"⟩, 8) := ⟨⟨by decide +kernel, by decide +kernel⟩, List.mem_of_getElem? (i := 155) (by decide +kernel), List.mem_of_getElem? (i := 669) (by decide +kernel), List.mem_of_getElem? (i := 670) (by decide +kernel)⟩
theorem lw_p19 : lw_okq (⟨"NodBets$Asks", "sizeOf", "(LNodBets$Town;II)I"⟩, 2) := ⟨⟨by decide +kernel, by decide +kernel⟩, List.mem_of_getElem? (i := 209) (by decide +kernel), List.mem_of_getElem? (i := 718) (by decide +kernel), List.mem_of_getElem? (i := 719) (by decide +kernel)⟩
theorem lw_p20 : lw_okq (⟨"NodBets$Asks", "run", "(LNodBets$Town;III)I"⟩, 2) := ⟨⟨by decide +kernel, by decide +kernel⟩, List.mem_of_getElem? (i := 209) (by decide +kernel), List.mem_of_getElem? (i := 728) (by decide +kernel), List.mem_of_getElem? (i := 729) (by decide +kernel)⟩
theorem lw_p21 : lw_okq (⟨"NodBets$Asks", "leaveTrace", "(I)V"⟩, 2) := ⟨⟨by decide +kernel, by decide +kernel⟩, List.mem_of_getElem? (i := 209) (by decide +kernel), List.mem_of_getElem? (i := 732) (by decide +kernel), List.mem_of_getElem? (i := 733) (by decide +kernel)⟩
theorem lw_p22 : lw_okq (⟨"NodBets$Asks", "markOf", "(LNodBets$Town;II)I"⟩, 2) := ⟨⟨by decide +kernel, by decide +kernel⟩, List.mem_of_getElem? (i := 209) (by decide +kernel), List.mem_of_getElem? (i := 736) (by decide +kernel), List.mem_of_getElem? (i := 737) (by decide +kernel)⟩
theorem lw_p23 : lw_okq (⟨"NodBetsModel", "found", "(I)I"⟩, 28) := ⟨⟨by decide +kernel, by decide +kernel⟩, List.mem_of_getElem? (i := 768) (by decide +kernel), List.mem_of_getElem? (i := 872) (by decide +kernel), List.mem_of_getElem? (i := 873) (by decide +kernel)⟩
theorem lw_p24 : lw_okq (⟨"NodBetsModel", "well", "(I)I"⟩, 28) := ⟨⟨by decide +kernel, by decide +kernel⟩, List.mem_of_getElem? (i := 768) (by decide +kernel), List.mem_of_getElem? (i := 877) (by decide +kernel), List.mem_of_getElem? (i := 878) (by decide +kernel)⟩
theorem lw_p25 : lw_okq (⟨"NodBetsModel", "isMissing", "(I)Z"⟩, 28) := ⟨⟨by decide +kernel, by decide +kernel⟩, List.mem_of_getElem? (i := 768) (by decide +kernel), List.mem_of_getElem? (i := 885) (by decide +kernel), List.mem_of_getElem? (i := 886) (by decide +kernel)⟩
theorem lw_p26 : lw_okq (⟨"NodBetsModel", "isPart", "(III)Z"⟩, 28) := ⟨⟨by decide +kernel, by decide +kernel⟩, List.mem_of_getElem? (i := 768) (by decide +kernel), List.mem_of_getElem? (i := 896) (by decide +kernel), List.mem_of_getElem? (i := 897) (by decide +kernel)⟩
theorem lw_p27 : lw_okq (⟨"NodBetsModel", "advances", "()V"⟩, 28) := ⟨⟨by decide +kernel, by decide +kernel⟩, List.mem_of_getElem? (i := 768) (by decide +kernel), List.mem_of_getElem? (i := 913) (by decide +kernel), List.mem_of_getElem? (i := 914) (by decide +kernel)⟩
theorem lw_p28 : lw_okq (⟨"NodBetsModel", "byteAt", "(I)I"⟩, 28) := ⟨⟨by decide +kernel, by decide +kernel⟩, List.mem_of_getElem? (i := 768) (by decide +kernel), List.mem_of_getElem? (i := 917) (by decide +kernel), List.mem_of_getElem? (i := 918) (by decide +kernel)⟩
theorem lw_p29 : lw_okq (⟨"NodBetsModel", "takes", "(ZI)I"⟩, 28) := ⟨⟨by decide +kernel, by decide +kernel⟩, List.mem_of_getElem? (i := 768) (by decide +kernel), List.mem_of_getElem? (i := 921) (by decide +kernel), List.mem_of_getElem? (i := 922) (by decide +kernel)⟩
theorem lw_p30 : lw_okq (⟨"NodBetsModel", "isWell", "()Z"⟩, 28) := ⟨⟨by decide +kernel, by decide +kernel⟩, List.mem_of_getElem? (i := 768) (by decide +kernel), List.mem_of_getElem? (i := 925) (by decide +kernel), List.mem_of_getElem? (i := 926) (by decide +kernel)⟩
theorem lw_p31 : lw_okq (⟨"NodBetsModel", "figure", "(II)I"⟩, 28) := ⟨⟨by decide +kernel, by decide +kernel⟩, List.mem_of_getElem? (i := 768) (by decide +kernel), List.mem_of_getElem? (i := 929) (by decide +kernel), List.mem_of_getElem? (i := 930) (by decide +kernel)⟩
def lw_privs_2 : List (MethodName × Nat) := [(⟨"NodBets$Foresight", "bringsIn", "(LNodBets$Town;II)Z"⟩, 8), (⟨"NodBets", "takeTelling", "(III)I"⟩, 9), (⟨"NodBets$Foresight", "waysFrom", "(LNodBets$Town;III)I"⟩, 8), (⟨"NodBets$Asks", "sizeOf", "(LNodBets$Town;II)I"⟩, 2), (⟨"NodBets$Asks", "run", "(LNodBets$Town;III)I"⟩, 2), (⟨"NodBets$Asks", "leaveTrace", "(I)V"⟩, 2), (⟨"NodBets$Asks", "markOf", "(LNodBets$Town;II)I"⟩, 2), (⟨"NodBetsModel", "found", "(I)I"⟩, 28), (⟨"NodBetsModel", "well", "(I)I"⟩, 28), (⟨"NodBetsModel", "isMissing", "(I)Z"⟩, 28), (⟨"NodBetsModel", "isPart", "(III)Z"⟩, 28), (⟨"NodBetsModel", "advances", "()V"⟩, 28), (⟨"NodBetsModel", "byteAt", "(I)I"⟩, 28), (⟨"NodBetsModel", "takes", "(ZI)I"⟩, 28), (⟨"NodBetsModel", "isWell", "()Z"⟩, 28), (⟨"NodBetsModel", "figure", "(II)I"⟩, 28)]
theorem lw_r2 : ∀ q ∈ lw_privs_2, lw_okq q := List.forall_mem_cons.mpr ⟨lw_p16, List.forall_mem_cons.mpr ⟨lw_p17, List.forall_mem_cons.mpr ⟨lw_p18, List.forall_mem_cons.mpr ⟨lw_p19, List.forall_mem_cons.mpr ⟨lw_p20, List.forall_mem_cons.mpr ⟨lw_p21, List.forall_mem_cons.mpr ⟨lw_p22, List.forall_mem_cons.mpr ⟨lw_p23, List.forall_mem_cons.mpr ⟨lw_p24, List.forall_mem_cons.mpr ⟨lw_p25, List.forall_mem_cons.mpr ⟨lw_p26, List.forall_mem_cons.mpr ⟨lw_p27, List.forall_mem_cons.mpr ⟨lw_p28, List.forall_mem_cons.mpr ⟨lw_p29, List.forall_mem_cons.mpr ⟨lw_p30, List.forall_mem_cons.mpr ⟨lw_p31, fun _ h => absurd h List.not_mem_nil⟩⟩⟩⟩⟩⟩⟩⟩⟩⟩⟩⟩⟩⟩⟩⟩
theorem lw_p32 : lw_okq (⟨"NodBetsModel", "readsLie", "()V"⟩, 28) := ⟨⟨by decide +kernel, by decide +kernel⟩, List.mem_of_getElem? (i := 768) (by decide +kernel), List.mem_of_getElem? (i := 936) (by decide +kernel), List.mem_of_getElem? (i := 937) (by decide +kernel)⟩
theorem lw_p33 : lw_okq (⟨"NodBetsModel", "next", "(II)I"⟩, 28) := ⟨⟨by decide +kernel, by decide +kernel⟩, List.mem_of_getElem? (i := 768) (by decide +kernel), List.mem_of_getElem? (i := 940) (by decide +kernel), List.mem_of_getElem? (i := 941) (by decide +kernel)⟩
theorem lw_p34 : lw_okq (⟨"NodBetsModel", "readsStranger", "()V"⟩, 28) := ⟨⟨by decide +kernel, by decide +kernel⟩, List.mem_of_getElem? (i := 768) (by decide +kernel), List.mem_of_getElem? (i := 944) (by decide +kernel), List.mem_of_getElem? (i := 945) (by decide +kernel)⟩
theorem lw_p35 : lw_okq (⟨"NodBetsModel", "isStranger", "(I)Z"⟩, 28) := ⟨⟨by decide +kernel, by decide +kernel⟩, List.mem_of_getElem? (i := 768) (by decide +kernel), List.mem_of_getElem? (i := 960) (by decide +kernel), List.mem_of_getElem? (i := 961) (by decide +kernel)⟩
theorem lw_p36 : lw_okq (⟨"NodBetsModel", "isLie", "(I)Z"⟩, 28) := ⟨⟨by decide +kernel, by decide +kernel⟩, List.mem_of_getElem? (i := 768) (by decide +kernel), List.mem_of_getElem? (i := 964) (by decide +kernel), List.mem_of_getElem? (i := 965) (by decide +kernel)⟩
theorem lw_p37 : lw_okq (⟨"NodBetsModel", "wasTold", "(II)Z"⟩, 28) := ⟨⟨by decide +kernel, by decide +kernel⟩, List.mem_of_getElem? (i := 768) (by decide +kernel), List.mem_of_getElem? (i := 968) (by decide +kernel), List.mem_of_getElem? (i := 969) (by decide +kernel)⟩
theorem lw_p38 : lw_okq (⟨"NodBetsModel", "notes", "()V"⟩, 28) := ⟨⟨by decide +kernel, by decide +kernel⟩, List.mem_of_getElem? (i := 768) (by decide +kernel), List.mem_of_getElem? (i := 976) (by decide +kernel), List.mem_of_getElem? (i := 977) (by decide +kernel)⟩
theorem lw_p39 : lw_okq (⟨"NodBetsModel", "tries", "(I)V"⟩, 28) := ⟨⟨by decide +kernel, by decide +kernel⟩, List.mem_of_getElem? (i := 768) (by decide +kernel), List.mem_of_getElem? (i := 980) (by decide +kernel), List.mem_of_getElem? (i := 981) (by decide +kernel)⟩
theorem lw_p40 : lw_okq (⟨"NodBetsModel", "wouldNod", "(I)Z"⟩, 28) := ⟨⟨by decide +kernel, by decide +kernel⟩, List.mem_of_getElem? (i := 768) (by decide +kernel), List.mem_of_getElem? (i := 987) (by decide +kernel), List.mem_of_getElem? (i := 988) (by decide +kernel)⟩
theorem lw_p41 : lw_okq (⟨"NodBetsModel", "needs", "(I)I"⟩, 28) := ⟨⟨by decide +kernel, by decide +kernel⟩, List.mem_of_getElem? (i := 768) (by decide +kernel), List.mem_of_getElem? (i := 991) (by decide +kernel), List.mem_of_getElem? (i := 992) (by decide +kernel)⟩
theorem lw_p42 : lw_okq (⟨"NodBetsModel", "hears", "(IZ)V"⟩, 28) := ⟨⟨by decide +kernel, by decide +kernel⟩, List.mem_of_getElem? (i := 768) (by decide +kernel), List.mem_of_getElem? (i := 995) (by decide +kernel), List.mem_of_getElem? (i := 996) (by decide +kernel)⟩
theorem lw_p43 : lw_okq (⟨"NodBetsModel", "strangersWith", "(II)I"⟩, 28) := ⟨⟨by decide +kernel, by decide +kernel⟩, List.mem_of_getElem? (i := 768) (by decide +kernel), List.mem_of_getElem? (i := 1015) (by decide +kernel), List.mem_of_getElem? (i := 1016) (by decide +kernel)⟩
theorem lw_p44 : lw_okq (⟨"NodBetsModel", "noddedAt", "(I)I"⟩, 28) := ⟨⟨by decide +kernel, by decide +kernel⟩, List.mem_of_getElem? (i := 768) (by decide +kernel), List.mem_of_getElem? (i := 1019) (by decide +kernel), List.mem_of_getElem? (i := 1020) (by decide +kernel)⟩
theorem lw_p45 : lw_okq (⟨"NodBetsModel", "untold", "(I)I"⟩, 28) := ⟨⟨by decide +kernel, by decide +kernel⟩, List.mem_of_getElem? (i := 768) (by decide +kernel), List.mem_of_getElem? (i := 1035) (by decide +kernel), List.mem_of_getElem? (i := 1036) (by decide +kernel)⟩
theorem lw_p46 : lw_okq (⟨"NodBetsModel", "fills", "(IIII)V"⟩, 28) := ⟨⟨by decide +kernel, by decide +kernel⟩, List.mem_of_getElem? (i := 768) (by decide +kernel), List.mem_of_getElem? (i := 1043) (by decide +kernel), List.mem_of_getElem? (i := 1044) (by decide +kernel)⟩
theorem lw_p47 : lw_okq (⟨"NodBetsModel", "nodsAt", "(II)I"⟩, 28) := ⟨⟨by decide +kernel, by decide +kernel⟩, List.mem_of_getElem? (i := 768) (by decide +kernel), List.mem_of_getElem? (i := 1047) (by decide +kernel), List.mem_of_getElem? (i := 1048) (by decide +kernel)⟩
def lw_privs_3 : List (MethodName × Nat) := [(⟨"NodBetsModel", "readsLie", "()V"⟩, 28), (⟨"NodBetsModel", "next", "(II)I"⟩, 28), (⟨"NodBetsModel", "readsStranger", "()V"⟩, 28), (⟨"NodBetsModel", "isStranger", "(I)Z"⟩, 28), (⟨"NodBetsModel", "isLie", "(I)Z"⟩, 28), (⟨"NodBetsModel", "wasTold", "(II)Z"⟩, 28), (⟨"NodBetsModel", "notes", "()V"⟩, 28), (⟨"NodBetsModel", "tries", "(I)V"⟩, 28), (⟨"NodBetsModel", "wouldNod", "(I)Z"⟩, 28), (⟨"NodBetsModel", "needs", "(I)I"⟩, 28), (⟨"NodBetsModel", "hears", "(IZ)V"⟩, 28), (⟨"NodBetsModel", "strangersWith", "(II)I"⟩, 28), (⟨"NodBetsModel", "noddedAt", "(I)I"⟩, 28), (⟨"NodBetsModel", "untold", "(I)I"⟩, 28), (⟨"NodBetsModel", "fills", "(IIII)V"⟩, 28), (⟨"NodBetsModel", "nodsAt", "(II)I"⟩, 28)]
theorem lw_r3 : ∀ q ∈ lw_privs_3, lw_okq q := List.forall_mem_cons.mpr ⟨lw_p32, List.forall_mem_cons.mpr ⟨lw_p33, List.forall_mem_cons.mpr ⟨lw_p34, List.forall_mem_cons.mpr ⟨lw_p35, List.forall_mem_cons.mpr ⟨lw_p36, List.forall_mem_cons.mpr ⟨lw_p37, List.forall_mem_cons.mpr ⟨lw_p38, List.forall_mem_cons.mpr ⟨lw_p39, List.forall_mem_cons.mpr ⟨lw_p40, List.forall_mem_cons.mpr ⟨lw_p41, List.forall_mem_cons.mpr ⟨lw_p42, List.forall_mem_cons.mpr ⟨lw_p43, List.forall_mem_cons.mpr ⟨lw_p44, List.forall_mem_cons.mpr ⟨lw_p45, List.forall_mem_cons.mpr ⟨lw_p46, List.forall_mem_cons.mpr ⟨lw_p47, fun _ h => absurd h List.not_mem_nil⟩⟩⟩⟩⟩⟩⟩⟩⟩⟩⟩⟩⟩⟩⟩⟩
theorem lw_p48 : lw_okq (⟨"NodBetsModel", "goesOn", "(II)Z"⟩, 28) := ⟨⟨by decide +kernel, by decide +kernel⟩, List.mem_of_getElem? (i := 768) (by decide +kernel), List.mem_of_getElem? (i := 1051) (by decide +kernel), List.mem_of_getElem? (i := 1052) (by decide +kernel)⟩
theorem lw_p49 : lw_okq (⟨"NodBetsModel", "aheadOf", "(II)I"⟩, 28) := ⟨⟨by decide +kernel, by decide +kernel⟩, List.mem_of_getElem? (i := 768) (by decide +kernel), List.mem_of_getElem? (i := 1059) (by decide +kernel), List.mem_of_getElem? (i := 1060) (by decide +kernel)⟩
theorem lw_p50 : lw_okq (⟨"NodBetsModel", "helps", "(III)Z"⟩, 28) := ⟨⟨by decide +kernel, by decide +kernel⟩, List.mem_of_getElem? (i := 768) (by decide +kernel), List.mem_of_getElem? (i := 1071) (by decide +kernel), List.mem_of_getElem? (i := 1072) (by decide +kernel)⟩
theorem lw_p51 : lw_okq (⟨"NodBetsModel", "wrongIn", "(III)I"⟩, 28) := ⟨⟨by decide +kernel, by decide +kernel⟩, List.mem_of_getElem? (i := 768) (by decide +kernel), List.mem_of_getElem? (i := 1083) (by decide +kernel), List.mem_of_getElem? (i := 1084) (by decide +kernel)⟩
theorem lw_p52 : lw_okq (⟨"NodBetsModel", "goesSo", "(II)Z"⟩, 28) := ⟨⟨by decide +kernel, by decide +kernel⟩, List.mem_of_getElem? (i := 768) (by decide +kernel), List.mem_of_getElem? (i := 1087) (by decide +kernel), List.mem_of_getElem? (i := 1088) (by decide +kernel)⟩
theorem lw_p53 : lw_okq (⟨"NodBetsModel", "isTown", "()Z"⟩, 28) := ⟨⟨by decide +kernel, by decide +kernel⟩, List.mem_of_getElem? (i := 768) (by decide +kernel), List.mem_of_getElem? (i := 1099) (by decide +kernel), List.mem_of_getElem? (i := 1100) (by decide +kernel)⟩
theorem lw_p54 : lw_okq (⟨"NodBetsModel", "goesBy", "(IIIII)J"⟩, 28) := ⟨⟨by decide +kernel, by decide +kernel⟩, List.mem_of_getElem? (i := 768) (by decide +kernel), List.mem_of_getElem? (i := 1108) (by decide +kernel), List.mem_of_getElem? (i := 1109) (by decide +kernel)⟩
theorem lw_p55 : lw_okq (⟨"NodBetsModel", "kindIn", "(I)I"⟩, 28) := ⟨⟨by decide +kernel, by decide +kernel⟩, List.mem_of_getElem? (i := 768) (by decide +kernel), List.mem_of_getElem? (i := 1124) (by decide +kernel), List.mem_of_getElem? (i := 1125) (by decide +kernel)⟩
theorem lw_p56 : lw_okq (⟨"NodBetsModel", "proofSize", "(I)I"⟩, 28) := ⟨⟨by decide +kernel, by decide +kernel⟩, List.mem_of_getElem? (i := 768) (by decide +kernel), List.mem_of_getElem? (i := 1136) (by decide +kernel), List.mem_of_getElem? (i := 1137) (by decide +kernel)⟩
theorem lw_p57 : lw_okq (⟨"NodBetsModel", "begins", "(I)V"⟩, 28) := ⟨⟨by decide +kernel, by decide +kernel⟩, List.mem_of_getElem? (i := 768) (by decide +kernel), List.mem_of_getElem? (i := 1140) (by decide +kernel), List.mem_of_getElem? (i := 1141) (by decide +kernel)⟩
theorem lw_p58 : lw_okq (⟨"NodBetsModel", "easySize", "(I)I"⟩, 28) := ⟨⟨by decide +kernel, by decide +kernel⟩, List.mem_of_getElem? (i := 768) (by decide +kernel), List.mem_of_getElem? (i := 1144) (by decide +kernel), List.mem_of_getElem? (i := 1145) (by decide +kernel)⟩
theorem lw_p59 : lw_okq (⟨"NodBetsModel", "easyMark", "(I)I"⟩, 28) := ⟨⟨by decide +kernel, by decide +kernel⟩, List.mem_of_getElem? (i := 768) (by decide +kernel), List.mem_of_getElem? (i := 1148) (by decide +kernel), List.mem_of_getElem? (i := 1149) (by decide +kernel)⟩
theorem lw_p60 : lw_okq (⟨"NodBetsModel", "proofMark", "(I)I"⟩, 28) := ⟨⟨by decide +kernel, by decide +kernel⟩, List.mem_of_getElem? (i := 768) (by decide +kernel), List.mem_of_getElem? (i := 1152) (by decide +kernel), List.mem_of_getElem? (i := 1153) (by decide +kernel)⟩
def lw_privs_4 : List (MethodName × Nat) := [(⟨"NodBetsModel", "goesOn", "(II)Z"⟩, 28), (⟨"NodBetsModel", "aheadOf", "(II)I"⟩, 28), (⟨"NodBetsModel", "helps", "(III)Z"⟩, 28), (⟨"NodBetsModel", "wrongIn", "(III)I"⟩, 28), (⟨"NodBetsModel", "goesSo", "(II)Z"⟩, 28), (⟨"NodBetsModel", "isTown", "()Z"⟩, 28), (⟨"NodBetsModel", "goesBy", "(IIIII)J"⟩, 28), (⟨"NodBetsModel", "kindIn", "(I)I"⟩, 28), (⟨"NodBetsModel", "proofSize", "(I)I"⟩, 28), (⟨"NodBetsModel", "begins", "(I)V"⟩, 28), (⟨"NodBetsModel", "easySize", "(I)I"⟩, 28), (⟨"NodBetsModel", "easyMark", "(I)I"⟩, 28), (⟨"NodBetsModel", "proofMark", "(I)I"⟩, 28)]
theorem lw_r4 : ∀ q ∈ lw_privs_4, lw_okq q := List.forall_mem_cons.mpr ⟨lw_p48, List.forall_mem_cons.mpr ⟨lw_p49, List.forall_mem_cons.mpr ⟨lw_p50, List.forall_mem_cons.mpr ⟨lw_p51, List.forall_mem_cons.mpr ⟨lw_p52, List.forall_mem_cons.mpr ⟨lw_p53, List.forall_mem_cons.mpr ⟨lw_p54, List.forall_mem_cons.mpr ⟨lw_p55, List.forall_mem_cons.mpr ⟨lw_p56, List.forall_mem_cons.mpr ⟨lw_p57, List.forall_mem_cons.mpr ⟨lw_p58, List.forall_mem_cons.mpr ⟨lw_p59, List.forall_mem_cons.mpr ⟨lw_p60, fun _ h => absurd h List.not_mem_nil⟩⟩⟩⟩⟩⟩⟩⟩⟩⟩⟩⟩⟩
def lw_privs : List (MethodName × Nat) := lw_privs_1 ++ (lw_privs_2 ++ (lw_privs_3 ++ (lw_privs_4)))
def lw_tbl : List Cond := k2_sels lw_privs ++ tables_1
theorem lw_privs_ok : ∀ q ∈ lw_privs, lw_okq q := by
  show ∀ q ∈ lw_privs_1 ++ (lw_privs_2 ++ (lw_privs_3 ++ (lw_privs_4))), lw_okq q
  exact List.forall_mem_append.mpr ⟨lw_r1, List.forall_mem_append.mpr ⟨lw_r2, List.forall_mem_append.mpr ⟨lw_r3, lw_r4⟩⟩⟩
def RX0 : String := "NodBets$Acts"
def TX0 : u_T := fun k => match k with
  | 0 => ("NodBets$Acts", "strangers", "[I", true)
  | 1 => ("NodBets$Acts", "trusts", "[I", true)
  | 2 => ("NodBets$Acts", "told", "[I", true)
  | 3 => ("NodBets$Acts", "nodded", "[I", true)
  | 4 => ("NodBets$Acts", "purses", "[I", true)
  | 5 => ("NodBets$Acts", "next", "I", false)
  | _ => ("NodBets$Acts", "kept", "I", false)
def tyX0 : Nat → FieldType := fun k => match k with
  | 0 => .array .int
  | 1 => .array .int
  | 2 => .array .int
  | 3 => .array .int
  | 4 => .array .int
  | 5 => .int
  | _ => .int
abbrev wsX00 : List Cond := u_ws RX0 TX0 7
theorem nmX0 : ∀ a, a < 7 → ∀ b, b < 7 → a ≠ b → (TX0 a).2.1 ≠ (TX0 b).2.1 := by decide +kernel
theorem tyX0_ok : ∀ k, k < 7 → parseFieldDescriptor (TX0 k).2.2.1 = some (tyX0 k) := by decide +kernel
abbrev cX0_init : ByteArray := prog_2_method_1_code
def yX0_init : MethodName := ⟨RX0, "<init>", "()V"⟩
abbrev cX0_kept : ByteArray := prog_2_method_2_code
def yX0_kept : MethodName := ⟨RX0, "kept", "()I"⟩
abbrev cX0_clear : ByteArray := prog_2_method_3_code
def yX0_clear : MethodName := ⟨RX0, "clear", "()V"⟩
abbrev cX0_keepAhead : ByteArray := prog_2_method_4_code
def yX0_keepAhead : MethodName := ⟨RX0, "keepAhead", "(LNodBets$Town;I)V"⟩
abbrev cX0_undoLatest : ByteArray := prog_2_method_5_code
def yX0_undoLatest : MethodName := ⟨RX0, "undoLatest", "(LNodBets$Town;)V"⟩
def RX1 : String := "NodBets$Asks"
def TX1 : u_T := fun k => match k with
  | 0 => ("NodBets$Asks", "traced", "[I", true)
  | _ => ("NodBets$Asks", "tracedLength", "I", false)
def tyX1 : Nat → FieldType := fun k => match k with
  | 0 => .array .int
  | _ => .int
abbrev wsX10 : List Cond := u_ws RX1 TX1 2
theorem nmX1 : ∀ a, a < 2 → ∀ b, b < 2 → a ≠ b → (TX1 a).2.1 ≠ (TX1 b).2.1 := by decide +kernel
theorem tyX1_ok : ∀ k, k < 2 → parseFieldDescriptor (TX1 k).2.2.1 = some (tyX1 k) := by decide +kernel
abbrev cX1_init : ByteArray := prog_3_method_1_code
def yX1_init : MethodName := ⟨RX1, "<init>", "()V"⟩
abbrev cX1_answer : ByteArray := prog_3_method_2_code
def yX1_answer : MethodName := ⟨RX1, "answer", "(LNodBets$Town;II)I"⟩
abbrev cX1_traceAt : ByteArray := prog_3_method_3_code
def yX1_traceAt : MethodName := ⟨RX1, "traceAt", "(I)I"⟩
abbrev cX1_sizeOf : ByteArray := prog_3_method_4_code
def yX1_sizeOf : MethodName := ⟨RX1, "sizeOf", "(LNodBets$Town;II)I"⟩
abbrev cX1_markOf : ByteArray := prog_3_method_5_code
def yX1_markOf : MethodName := ⟨RX1, "markOf", "(LNodBets$Town;II)I"⟩
abbrev cX1_nearestBody : ByteArray := prog_3_method_6_code
def yX1_nearestBody : MethodName := ⟨RX1, "nearestBody", "([II)I"⟩
abbrev cX1_run : ByteArray := prog_3_method_7_code
def yX1_run : MethodName := ⟨RX1, "run", "(LNodBets$Town;III)I"⟩
abbrev cX1_leaveTrace : ByteArray := prog_3_method_8_code
def yX1_leaveTrace : MethodName := ⟨RX1, "leaveTrace", "(I)V"⟩
def RX2 : String := "NodBets$Foresight"
def TX2 : u_T := fun k => match k with
  | 0 => ("NodBets$Foresight", "minds", "[LNodBets$Mind;", true)
  | 1 => ("NodBets$Foresight", "path", "[I", true)
  | 2 => ("NodBets$Foresight", "best", "[I", true)
  | 3 => ("NodBets$Foresight", "bestLength", "I", false)
  | 4 => ("NodBets$Foresight", "bestNodded", "I", false)
  | 5 => ("NodBets$Foresight", "tellingLies", "[I", true)
  | 6 => ("NodBets$Foresight", "tellingNods", "[I", true)
  | _ => ("NodBets$Foresight", "tellingLength", "I", false)
def tyX2 : Nat → FieldType := fun k => match k with
  | 0 => .array (.object "NodBets$Mind")
  | 1 => .array .int
  | 2 => .array .int
  | 3 => .int
  | 4 => .int
  | 5 => .array .int
  | 6 => .array .int
  | _ => .int
abbrev wsX20 : List Cond := u_ws RX2 TX2 8
theorem nmX2 : ∀ a, a < 8 → ∀ b, b < 8 → a ≠ b → (TX2 a).2.1 ≠ (TX2 b).2.1 := by decide +kernel
theorem tyX2_ok : ∀ k, k < 8 → parseFieldDescriptor (TX2 k).2.2.1 = some (tyX2 k) := by decide +kernel
abbrev cX2_init : ByteArray := prog_4_method_1_code
def yX2_init : MethodName := ⟨RX2, "<init>", "()V"⟩
abbrev cX2_mindOf : ByteArray := prog_4_method_2_code
def yX2_mindOf : MethodName := ⟨RX2, "mindOf", "(LNodBets$Town;I)LNodBets$Mind;"⟩
abbrev cX2_nodsNow : ByteArray := prog_4_method_3_code
def yX2_nodsNow : MethodName := ⟨RX2, "nodsNow", "(LNodBets$Town;I)I"⟩
abbrev cX2_seekOrder : ByteArray := prog_4_method_4_code
def yX2_seekOrder : MethodName := ⟨RX2, "seekOrder", "(LNodBets$Town;II)V"⟩
abbrev cX2_bestNods : ByteArray := prog_4_method_5_code
def yX2_bestNods : MethodName := ⟨RX2, "bestNods", "()I"⟩
abbrev cX2_bestAt : ByteArray := prog_4_method_6_code
def yX2_bestAt : MethodName := ⟨RX2, "bestAt", "(I)I"⟩
abbrev cX2_seekOrderFrom : ByteArray := prog_4_method_7_code
def yX2_seekOrderFrom : MethodName := ⟨RX2, "seekOrderFrom", "(LNodBets$Town;III)V"⟩
abbrev cX2_keepBest : ByteArray := prog_4_method_8_code
def yX2_keepBest : MethodName := ⟨RX2, "keepBest", "(II)V"⟩
abbrev cX2_tryNext : ByteArray := prog_4_method_9_code
def yX2_tryNext : MethodName := ⟨RX2, "tryNext", "(LNodBets$Town;II)Z"⟩
abbrev cX2_fewestAhead : ByteArray := prog_4_method_10_code
def yX2_fewestAhead : MethodName := ⟨RX2, "fewestAhead", "(LNodBets$Town;II)I"⟩
abbrev cX2_firstAhead : ByteArray := prog_4_method_11_code
def yX2_firstAhead : MethodName := ⟨RX2, "firstAhead", "()I"⟩
abbrev cX2_comesInFrom : ByteArray := prog_4_method_12_code
def yX2_comesInFrom : MethodName := ⟨RX2, "comesInFrom", "(LNodBets$Town;IIII)Z"⟩
abbrev cX2_deadLies : ByteArray := prog_4_method_13_code
def yX2_deadLies : MethodName := ⟨RX2, "deadLies", "(LNodBets$Town;I)I"⟩
abbrev cX2_deadFrom : ByteArray := prog_4_method_14_code
def yX2_deadFrom : MethodName := ⟨RX2, "deadFrom", "(LNodBets$Town;III)I"⟩
abbrev cX2_helpEachOther : ByteArray := prog_4_method_15_code
def yX2_helpEachOther : MethodName := ⟨RX2, "helpEachOther", "(LNodBets$Town;III)Z"⟩
abbrev cX2_bringsIn : ByteArray := prog_4_method_16_code
def yX2_bringsIn : MethodName := ⟨RX2, "bringsIn", "(LNodBets$Town;II)Z"⟩
abbrev cX2_takeTelling : ByteArray := prog_4_method_17_code
def yX2_takeTelling : MethodName := ⟨RX2, "takeTelling", "(LNodBets$Town;LNodBets$Rows;III)Z"⟩
abbrev cX2_goesSo : ByteArray := prog_4_method_18_code
def yX2_goesSo : MethodName := ⟨RX2, "goesSo", "(LNodBets$Town;III)Z"⟩
abbrev cX2_waysToNod : ByteArray := prog_4_method_19_code
def yX2_waysToNod : MethodName := ⟨RX2, "waysToNod", "(LNodBets$Town;III)I"⟩
abbrev cX2_waysInAll : ByteArray := prog_4_method_20_code
def yX2_waysInAll : MethodName := ⟨RX2, "waysInAll", "()I"⟩
abbrev cX2_waysFrom : ByteArray := prog_4_method_21_code
def yX2_waysFrom : MethodName := ⟨RX2, "waysFrom", "(LNodBets$Town;III)I"⟩
def RX3 : String := "NodBets$Kinds"
def TX3 : u_T := fun k => match k with
  | _ => ("", "", "", false)
def tyX3 : Nat → FieldType := fun k => match k with
  | _ => .int
abbrev wsX30 : List Cond := u_ws RX3 TX3 0
theorem nmX3 : ∀ a, a < 0 → ∀ b, b < 0 → a ≠ b → (TX3 a).2.1 ≠ (TX3 b).2.1 := by decide +kernel
theorem tyX3_ok : ∀ k, k < 0 → parseFieldDescriptor (TX3 k).2.2.1 = some (tyX3 k) := by decide +kernel
abbrev cX3_isKind : ByteArray := prog_5_method_2_code
def yX3_isKind : MethodName := ⟨RX3, "isKind", "(I)Z"⟩
abbrev cX3_isOne : ByteArray := prog_5_method_3_code
def yX3_isOne : MethodName := ⟨RX3, "isOne", "(II)Z"⟩
abbrev cX3_above : ByteArray := prog_5_method_4_code
def yX3_above : MethodName := ⟨RX3, "above", "(I)I"⟩
abbrev cX3_ofLetter : ByteArray := prog_5_method_5_code
def yX3_ofLetter : MethodName := ⟨RX3, "ofLetter", "(I)I"⟩
def RX4 : String := "NodBets$Mind"
def TX4 : u_T := fun k => match k with
  | 0 => ("NodBets$Mind", "trust", "I", false)
  | 1 => ("NodBets$Mind", "doubts", "I", false)
  | 2 => ("NodBets$Mind", "toldSoFar", "I", false)
  | _ => ("NodBets$Mind", "nodsOfTopic", "[I", true)
def tyX4 : Nat → FieldType := fun k => match k with
  | 0 => .int
  | 1 => .int
  | 2 => .int
  | _ => .array .int
abbrev wsX40 : List Cond := u_ws RX4 TX4 4
theorem nmX4 : ∀ a, a < 4 → ∀ b, b < 4 → a ≠ b → (TX4 a).2.1 ≠ (TX4 b).2.1 := by decide +kernel
theorem tyX4_ok : ∀ k, k < 4 → parseFieldDescriptor (TX4 k).2.2.1 = some (tyX4 k) := by decide +kernel
abbrev cX4_init : ByteArray := prog_6_method_1_code
def yX4_init : MethodName := ⟨RX4, "<init>", "()V"⟩
abbrev cX4_enter : ByteArray := prog_6_method_2_code
def yX4_enter : MethodName := ⟨RX4, "enter", "(LNodBets$Town;I)V"⟩
abbrev cX4_become : ByteArray := prog_6_method_3_code
def yX4_become : MethodName := ⟨RX4, "become", "(LNodBets$Mind;)V"⟩
abbrev cX4_needOf : ByteArray := prog_6_method_4_code
def yX4_needOf : MethodName := ⟨RX4, "needOf", "(LNodBets$Town;I)I"⟩
abbrev cX4_wouldNod : ByteArray := prog_6_method_5_code
def yX4_wouldNod : MethodName := ⟨RX4, "wouldNod", "(LNodBets$Town;I)Z"⟩
abbrev cX4_hear : ByteArray := prog_6_method_6_code
def yX4_hear : MethodName := ⟨RX4, "hear", "(LNodBets$Town;I)Z"⟩
abbrev cX4_hearAs : ByteArray := prog_6_method_7_code
def yX4_hearAs : MethodName := ⟨RX4, "hearAs", "(LNodBets$Town;IZ)V"⟩
abbrev cX4_dine : ByteArray := prog_6_method_8_code
def yX4_dine : MethodName := ⟨RX4, "dine", "()V"⟩
abbrev cX4_undoubtedNeed : ByteArray := prog_6_method_9_code
def yX4_undoubtedNeed : MethodName := ⟨RX4, "undoubtedNeed", "(III)I"⟩
def RX5 : String := "NodBets$Reader"
def TX5 : u_T := fun k => match k with
  | 0 => ("NodBets$Reader", "tape", "[I", true)
  | 1 => ("NodBets$Reader", "bytes", "I", false)
  | 2 => ("NodBets$Reader", "at", "I", false)
  | _ => ("NodBets$Reader", "latest", "I", false)
def tyX5 : Nat → FieldType := fun k => match k with
  | 0 => .array .int
  | 1 => .int
  | 2 => .int
  | _ => .int
abbrev wsX50 : List Cond := u_ws RX5 TX5 4
theorem nmX5 : ∀ a, a < 4 → ∀ b, b < 4 → a ≠ b → (TX5 a).2.1 ≠ (TX5 b).2.1 := by decide +kernel
theorem tyX5_ok : ∀ k, k < 4 → parseFieldDescriptor (TX5 k).2.2.1 = some (tyX5 k) := by decide +kernel
abbrev cX5_init : ByteArray := prog_7_method_1_code
def yX5_init : MethodName := ⟨RX5, "<init>", "()V"⟩
abbrev cX5_isFull : ByteArray := prog_7_method_2_code
def yX5_isFull : MethodName := ⟨RX5, "isFull", "()Z"⟩
abbrev cX5_append : ByteArray := prog_7_method_3_code
def yX5_append : MethodName := ⟨RX5, "append", "(I)I"⟩
abbrev cX5_length : ByteArray := prog_7_method_4_code
def yX5_length : MethodName := ⟨RX5, "length", "()I"⟩
abbrev cX5_faultPlace : ByteArray := prog_7_method_5_code
def yX5_faultPlace : MethodName := ⟨RX5, "faultPlace", "()I"⟩
abbrev cX5_latestFault : ByteArray := prog_7_method_6_code
def yX5_latestFault : MethodName := ⟨RX5, "latestFault", "()I"⟩
abbrev cX5_readInto : ByteArray := prog_7_method_7_code
def yX5_readInto : MethodName := ⟨RX5, "readInto", "(LNodBets$Town;)Z"⟩
abbrev cX5_readLaw : ByteArray := prog_7_method_8_code
def yX5_readLaw : MethodName := ⟨RX5, "readLaw", "(LNodBets$Town;)Z"⟩
abbrev cX5_readLies : ByteArray := prog_7_method_9_code
def yX5_readLies : MethodName := ⟨RX5, "readLies", "(LNodBets$Town;)Z"⟩
abbrev cX5_readStrangers : ByteArray := prog_7_method_10_code
def yX5_readStrangers : MethodName := ⟨RX5, "readStrangers", "(LNodBets$Town;)Z"⟩
abbrev cX5_readNumber : ByteArray := prog_7_method_11_code
def yX5_readNumber : MethodName := ⟨RX5, "readNumber", "(II)I"⟩
abbrev cX5_passed : ByteArray := prog_7_method_12_code
def yX5_passed : MethodName := ⟨RX5, "passed", "(I)Z"⟩
abbrev cX5_refuse : ByteArray := prog_7_method_13_code
def yX5_refuse : MethodName := ⟨RX5, "refuse", "(I)Z"⟩
abbrev cX5_here : ByteArray := prog_7_method_14_code
def yX5_here : MethodName := ⟨RX5, "here", "()I"⟩
abbrev cX5_byteAt : ByteArray := prog_7_method_15_code
def yX5_byteAt : MethodName := ⟨RX5, "byteAt", "(I)I"⟩
abbrev cX5_isFigure : ByteArray := prog_7_method_16_code
def yX5_isFigure : MethodName := ⟨RX5, "isFigure", "(I)Z"⟩
def RX6 : String := "NodBets$Rows"
def TX6 : u_T := fun k => match k with
  | 0 => ("NodBets$Rows", "lanes", "[I", true)
  | 1 => ("NodBets$Rows", "lengths", "[I", true)
  | _ => ("NodBets$Rows", "items", "[I", true)
def tyX6 : Nat → FieldType := fun k => match k with
  | 0 => .array .int
  | 1 => .array .int
  | _ => .array .int
abbrev wsX60 : List Cond := u_ws RX6 TX6 3
theorem nmX6 : ∀ a, a < 3 → ∀ b, b < 3 → a ≠ b → (TX6 a).2.1 ≠ (TX6 b).2.1 := by decide +kernel
theorem tyX6_ok : ∀ k, k < 3 → parseFieldDescriptor (TX6 k).2.2.1 = some (tyX6 k) := by decide +kernel
abbrev cX6_init : ByteArray := prog_8_method_1_code
def yX6_init : MethodName := ⟨RX6, "<init>", "()V"⟩
abbrev cX6_isRow : ByteArray := prog_8_method_2_code
def yX6_isRow : MethodName := ⟨RX6, "isRow", "(I)Z"⟩
abbrev cX6_isLane : ByteArray := prog_8_method_3_code
def yX6_isLane : MethodName := ⟨RX6, "isLane", "(I)Z"⟩
abbrev cX6_isMissing : ByteArray := prog_8_method_4_code
def yX6_isMissing : MethodName := ⟨RX6, "isMissing", "(I)Z"⟩
abbrev cX6_laneOf : ByteArray := prog_8_method_5_code
def yX6_laneOf : MethodName := ⟨RX6, "laneOf", "(I)I"⟩
abbrev cX6_hasPlaces : ByteArray := prog_8_method_6_code
def yX6_hasPlaces : MethodName := ⟨RX6, "hasPlaces", "(III)Z"⟩
abbrev cX6_make : ByteArray := prog_8_method_7_code
def yX6_make : MethodName := ⟨RX6, "make", "(III)V"⟩
abbrev cX6_put : ByteArray := prog_8_method_8_code
def yX6_put : MethodName := ⟨RX6, "put", "(III)I"⟩
abbrev cX6_itemAt : ByteArray := prog_8_method_9_code
def yX6_itemAt : MethodName := ⟨RX6, "itemAt", "(II)I"⟩
abbrev cX6_move : ByteArray := prog_8_method_10_code
def yX6_move : MethodName := ⟨RX6, "move", "(IIIII)V"⟩
abbrev cX6_remove : ByteArray := prog_8_method_11_code
def yX6_remove : MethodName := ⟨RX6, "remove", "(I)I"⟩
abbrev cX6_present : ByteArray := prog_8_method_12_code
def yX6_present : MethodName := ⟨RX6, "present", "()I"⟩
abbrev cX6_cutToLane : ByteArray := prog_8_method_13_code
def yX6_cutToLane : MethodName := ⟨RX6, "cutToLane", "(II)I"⟩
def RX7 : String := "NodBets$Town"
def TX7 : u_T := fun k => match k with
  | 0 => ("NodBets$Town", "stake", "I", false)
  | 1 => ("NodBets$Town", "purse", "I", false)
  | 2 => ("NodBets$Town", "lies", "I", false)
  | 3 => ("NodBets$Town", "strangers", "I", false)
  | 4 => ("NodBets$Town", "kinds", "[I", true)
  | 5 => ("NodBets$Town", "weights", "[I", true)
  | 6 => ("NodBets$Town", "topics", "[I", true)
  | 7 => ("NodBets$Town", "trusts", "[I", true)
  | 8 => ("NodBets$Town", "doubts", "[I", true)
  | 9 => ("NodBets$Town", "told", "[I", true)
  | _ => ("NodBets$Town", "nodded", "[I", true)
def tyX7 : Nat → FieldType := fun k => match k with
  | 0 => .int
  | 1 => .int
  | 2 => .int
  | 3 => .int
  | 4 => .array .int
  | 5 => .array .int
  | 6 => .array .int
  | 7 => .array .int
  | 8 => .array .int
  | 9 => .array .int
  | _ => .array .int
abbrev wsX70 : List Cond := u_ws RX7 TX7 11
theorem nmX7 : ∀ a, a < 11 → ∀ b, b < 11 → a ≠ b → (TX7 a).2.1 ≠ (TX7 b).2.1 := by decide +kernel
theorem tyX7_ok : ∀ k, k < 11 → parseFieldDescriptor (TX7 k).2.2.1 = some (tyX7 k) := by decide +kernel
abbrev cX7_init : ByteArray := prog_9_method_1_code
def yX7_init : MethodName := ⟨RX7, "<init>", "()V"⟩
abbrev cX7_stands : ByteArray := prog_9_method_2_code
def yX7_stands : MethodName := ⟨RX7, "stands", "()Z"⟩
abbrev cX7_hasLie : ByteArray := prog_9_method_3_code
def yX7_hasLie : MethodName := ⟨RX7, "hasLie", "(I)Z"⟩
abbrev cX7_hasStranger : ByteArray := prog_9_method_4_code
def yX7_hasStranger : MethodName := ⟨RX7, "hasStranger", "(I)Z"⟩
abbrev cX7_isSetOfLies : ByteArray := prog_9_method_5_code
def yX7_isSetOfLies : MethodName := ⟨RX7, "isSetOfLies", "(I)Z"⟩
abbrev cX7_wasTold : ByteArray := prog_9_method_6_code
def yX7_wasTold : MethodName := ⟨RX7, "wasTold", "(II)Z"⟩
abbrev cX7_untold : ByteArray := prog_9_method_7_code
def yX7_untold : MethodName := ⟨RX7, "untold", "(I)I"⟩
abbrev cX7_strangersWith : ByteArray := prog_9_method_8_code
def yX7_strangersWith : MethodName := ⟨RX7, "strangersWith", "([II)I"⟩
abbrev cX7_begin : ByteArray := prog_9_method_9_code
def yX7_begin : MethodName := ⟨RX7, "begin", "(I)V"⟩
abbrev cX7_addLie : ByteArray := prog_9_method_10_code
def yX7_addLie : MethodName := ⟨RX7, "addLie", "(III)V"⟩
abbrev cX7_addStranger : ByteArray := prog_9_method_11_code
def yX7_addStranger : MethodName := ⟨RX7, "addStranger", "(II)V"⟩
abbrev cX7_become : ByteArray := prog_9_method_12_code
def yX7_become : MethodName := ⟨RX7, "become", "(LNodBets$Town;)V"⟩
abbrev cX7_noteTold : ByteArray := prog_9_method_13_code
def yX7_noteTold : MethodName := ⟨RX7, "noteTold", "(IIZI)V"⟩
abbrev cX7_noteSupper : ByteArray := prog_9_method_14_code
def yX7_noteSupper : MethodName := ⟨RX7, "noteSupper", "(II)V"⟩
abbrev cX7_noteForgotten : ByteArray := prog_9_method_15_code
def yX7_noteForgotten : MethodName := ⟨RX7, "noteForgotten", "(II)V"⟩
def RX8 : String := "NodBets"
def TX8 : u_T := fun k => match k with
  | 0 => ("NodBets", "rows", "LNodBets$Rows;", true)
  | 1 => ("NodBets", "reader", "LNodBets$Reader;", true)
  | 2 => ("NodBets", "current", "LNodBets$Town;", true)
  | 3 => ("NodBets", "draft", "LNodBets$Town;", true)
  | 4 => ("NodBets", "images", "[LNodBets$Town;", true)
  | 5 => ("NodBets", "acts", "LNodBets$Acts;", true)
  | 6 => ("NodBets", "foresight", "LNodBets$Foresight;", true)
  | 7 => ("NodBets", "asks", "LNodBets$Asks;", true)
  | _ => ("NodBets", "latestFinding", "I", false)
def tyX8 : Nat → FieldType := fun k => match k with
  | 0 => .object "NodBets$Rows"
  | 1 => .object "NodBets$Reader"
  | 2 => .object "NodBets$Town"
  | 3 => .object "NodBets$Town"
  | 4 => .array (.object "NodBets$Town")
  | 5 => .object "NodBets$Acts"
  | 6 => .object "NodBets$Foresight"
  | 7 => .object "NodBets$Asks"
  | _ => .int
abbrev wsX80 : List Cond := u_ws RX8 TX8 9
theorem nmX8 : ∀ a, a < 9 → ∀ b, b < 9 → a ≠ b → (TX8 a).2.1 ≠ (TX8 b).2.1 := by decide +kernel
theorem tyX8_ok : ∀ k, k < 9 → parseFieldDescriptor (TX8 k).2.2.1 = some (tyX8 k) := by decide +kernel
abbrev cX8_init : ByteArray := prog_1_method_1_code
def yX8_init : MethodName := ⟨RX8, "<init>", "()V"⟩
abbrev cX8_row : ByteArray := prog_1_method_2_code
def yX8_row : MethodName := ⟨RX8, "row", "(III)I"⟩
abbrev cX8_set : ByteArray := prog_1_method_3_code
def yX8_set : MethodName := ⟨RX8, "set", "(III)I"⟩
abbrev cX8_copy : ByteArray := prog_1_method_4_code
def yX8_copy : MethodName := ⟨RX8, "copy", "(IIIII)I"⟩
abbrev cX8_drop : ByteArray := prog_1_method_5_code
def yX8_drop : MethodName := ⟨RX8, "drop", "(I)I"⟩
abbrev cX8_feed : ByteArray := prog_1_method_6_code
def yX8_feed : MethodName := ⟨RX8, "feed", "(I)I"⟩
abbrev cX8_town : ByteArray := prog_1_method_7_code
def yX8_town : MethodName := ⟨RX8, "town", "()I"⟩
abbrev cX8_fault : ByteArray := prog_1_method_8_code
def yX8_fault : MethodName := ⟨RX8, "fault", "()I"⟩
abbrev cX8_tell : ByteArray := prog_1_method_9_code
def yX8_tell : MethodName := ⟨RX8, "tell", "(II)I"⟩
abbrev cX8_supper : ByteArray := prog_1_method_10_code
def yX8_supper : MethodName := ⟨RX8, "supper", "(I)I"⟩
abbrev cX8_forget : ByteArray := prog_1_method_11_code
def yX8_forget : MethodName := ⟨RX8, "forget", "(II)I"⟩
abbrev cX8_undo : ByteArray := prog_1_method_12_code
def yX8_undo : MethodName := ⟨RX8, "undo", "()I"⟩
abbrev cX8_lie : ByteArray := prog_1_method_13_code
def yX8_lie : MethodName := ⟨RX8, "lie", "(II)I"⟩
abbrev cX8_stranger : ByteArray := prog_1_method_14_code
def yX8_stranger : MethodName := ⟨RX8, "stranger", "(II)I"⟩
abbrev cX8_need : ByteArray := prog_1_method_15_code
def yX8_need : MethodName := ⟨RX8, "need", "(II)I"⟩
abbrev cX8_nods : ByteArray := prog_1_method_16_code
def yX8_nods : MethodName := ⟨RX8, "nods", "(I)I"⟩
abbrev cX8_order : ByteArray := prog_1_method_17_code
def yX8_order : MethodName := ⟨RX8, "order", "(III)I"⟩
abbrev cX8_comesIn : ByteArray := prog_1_method_18_code
def yX8_comesIn : MethodName := ⟨RX8, "comesIn", "(III)I"⟩
abbrev cX8_dead : ByteArray := prog_1_method_19_code
def yX8_dead : MethodName := ⟨RX8, "dead", "(I)I"⟩
abbrev cX8_help : ByteArray := prog_1_method_20_code
def yX8_help : MethodName := ⟨RX8, "help", "(II)I"⟩
abbrev cX8_suppers : ByteArray := prog_1_method_21_code
def yX8_suppers : MethodName := ⟨RX8, "suppers", "(II)I"⟩
abbrev cX8_doubted : ByteArray := prog_1_method_22_code
def yX8_doubted : MethodName := ⟨RX8, "doubted", "(IIIII)I"⟩
abbrev cX8_trusted : ByteArray := prog_1_method_23_code
def yX8_trusted : MethodName := ⟨RX8, "trusted", "(IIII)I"⟩
abbrev cX8_who : ByteArray := prog_1_method_24_code
def yX8_who : MethodName := ⟨RX8, "who", "(III)I"⟩
abbrev cX8_odds : ByteArray := prog_1_method_25_code
def yX8_odds : MethodName := ⟨RX8, "odds", "(IIIIIII)I"⟩
abbrev cX8_image : ByteArray := prog_1_method_26_code
def yX8_image : MethodName := ⟨RX8, "image", "(I)I"⟩
abbrev cX8_restore : ByteArray := prog_1_method_27_code
def yX8_restore : MethodName := ⟨RX8, "restore", "(I)I"⟩
abbrev cX8_kind : ByteArray := prog_1_method_28_code
def yX8_kind : MethodName := ⟨RX8, "kind", "(I)I"⟩
abbrev cX8_as : ByteArray := prog_1_method_29_code
def yX8_as : MethodName := ⟨RX8, "as", "(II)I"⟩
abbrev cX8_ask : ByteArray := prog_1_method_30_code
def yX8_ask : MethodName := ⟨RX8, "ask", "(II)I"⟩
abbrev cX8_trace : ByteArray := prog_1_method_31_code
def yX8_trace : MethodName := ⟨RX8, "trace", "(I)I"⟩
abbrev cX8_count : ByteArray := prog_1_method_32_code
def yX8_count : MethodName := ⟨RX8, "count", "(I)I"⟩
abbrev cX8_status : ByteArray := prog_1_method_33_code
def yX8_status : MethodName := ⟨RX8, "status", "()I"⟩
abbrev cX8_found : ByteArray := prog_1_method_34_code
def yX8_found : MethodName := ⟨RX8, "found", "(I)I"⟩
abbrev cX8_unfound : ByteArray := prog_1_method_35_code
def yX8_unfound : MethodName := ⟨RX8, "unfound", "(I)I"⟩
abbrev cX8_isTelling : ByteArray := prog_1_method_36_code
def yX8_isTelling : MethodName := ⟨RX8, "isTelling", "(II)Z"⟩
abbrev cX8_takeTelling : ByteArray := prog_1_method_37_code
def yX8_takeTelling : MethodName := ⟨RX8, "takeTelling", "(III)I"⟩
abbrev cX8_commonDivisor : ByteArray := prog_1_method_38_code
def yX8_commonDivisor : MethodName := ⟨RX8, "commonDivisor", "(II)I"⟩
def RX9 : String := "NodBetsModel"
def TX9 : u_T := fun k => match k with
  | 0 => ("NodBetsModel", "lane", "[I", true)
  | 1 => ("NodBetsModel", "many", "[I", true)
  | 2 => ("NodBetsModel", "items", "[I", true)
  | 3 => ("NodBetsModel", "spare", "[I", true)
  | 4 => ("NodBetsModel", "status", "I", false)
  | 5 => ("NodBetsModel", "tape", "[I", true)
  | 6 => ("NodBetsModel", "taped", "I", false)
  | 7 => ("NodBetsModel", "faultKind", "I", false)
  | 8 => ("NodBetsModel", "faultPlace", "I", false)
  | 9 => ("NodBetsModel", "at", "I", false)
  | 10 => ("NodBetsModel", "start", "I", false)
  | 11 => ("NodBetsModel", "token", "I", false)
  | 12 => ("NodBetsModel", "value", "I", false)
  | 13 => ("NodBetsModel", "now", "[I", true)
  | 14 => ("NodBetsModel", "draft", "[I", true)
  | 15 => ("NodBetsModel", "past", "[I", true)
  | 16 => ("NodBetsModel", "acts", "I", false)
  | 17 => ("NodBetsModel", "images", "[I", true)
  | 18 => ("NodBetsModel", "kept", "[Z", true)
  | 19 => ("NodBetsModel", "trace", "[I", true)
  | 20 => ("NodBetsModel", "traced", "I", false)
  | 21 => ("NodBetsModel", "trust", "I", false)
  | 22 => ("NodBetsModel", "doubts", "I", false)
  | 23 => ("NodBetsModel", "heard", "I", false)
  | 24 => ("NodBetsModel", "nodded", "[I", true)
  | 25 => ("NodBetsModel", "row", "[I", true)
  | 26 => ("NodBetsModel", "best", "[I", true)
  | _ => ("NodBetsModel", "most", "I", false)
def tyX9 : Nat → FieldType := fun k => match k with
  | 0 => .array .int
  | 1 => .array .int
  | 2 => .array .int
  | 3 => .array .int
  | 4 => .int
  | 5 => .array .int
  | 6 => .int
  | 7 => .int
  | 8 => .int
  | 9 => .int
  | 10 => .int
  | 11 => .int
  | 12 => .int
  | 13 => .array .int
  | 14 => .array .int
  | 15 => .array .int
  | 16 => .int
  | 17 => .array .int
  | 18 => .array .boolean
  | 19 => .array .int
  | 20 => .int
  | 21 => .int
  | 22 => .int
  | 23 => .int
  | 24 => .array .int
  | 25 => .array .int
  | 26 => .array .int
  | _ => .int
abbrev wsX90 : List Cond := u_ws RX9 TX9 28
theorem nmX9 : ∀ a, a < 28 → ∀ b, b < 28 → a ≠ b → (TX9 a).2.1 ≠ (TX9 b).2.1 := by decide +kernel
theorem tyX9_ok : ∀ k, k < 28 → parseFieldDescriptor (TX9 k).2.2.1 = some (tyX9 k) := by decide +kernel
abbrev cX9_init : ByteArray := prog_11_method_1_code
def yX9_init : MethodName := ⟨RX9, "<init>", "()V"⟩
abbrev cX9_in : ByteArray := prog_11_method_3_code
def yX9_in : MethodName := ⟨RX9, "in", "(III)Z"⟩
abbrev cX9_has : ByteArray := prog_11_method_4_code
def yX9_has : MethodName := ⟨RX9, "has", "(II)Z"⟩
abbrev cX9_ones : ByteArray := prog_11_method_5_code
def yX9_ones : MethodName := ⟨RX9, "ones", "(I)I"⟩
abbrev cX9_found : ByteArray := prog_11_method_6_code
def yX9_found : MethodName := ⟨RX9, "found", "(I)I"⟩
abbrev cX9_well : ByteArray := prog_11_method_7_code
def yX9_well : MethodName := ⟨RX9, "well", "(I)I"⟩
abbrev cX9_copies : ByteArray := prog_11_method_8_code
def yX9_copies : MethodName := ⟨RX9, "copies", "([II[II)V"⟩
abbrev cX9_isRow : ByteArray := prog_11_method_9_code
def yX9_isRow : MethodName := ⟨RX9, "isRow", "(I)Z"⟩
abbrev cX9_isMissing : ByteArray := prog_11_method_10_code
def yX9_isMissing : MethodName := ⟨RX9, "isMissing", "(I)Z"⟩
abbrev cX9_cut : ByteArray := prog_11_method_11_code
def yX9_cut : MethodName := ⟨RX9, "cut", "(II)I"⟩
abbrev cX9_row : ByteArray := prog_11_method_12_code
def yX9_row : MethodName := ⟨RX9, "row", "(III)I"⟩
abbrev cX9_set : ByteArray := prog_11_method_13_code
def yX9_set : MethodName := ⟨RX9, "set", "(III)I"⟩
abbrev cX9_isPart : ByteArray := prog_11_method_14_code
def yX9_isPart : MethodName := ⟨RX9, "isPart", "(III)Z"⟩
abbrev cX9_copy : ByteArray := prog_11_method_15_code
def yX9_copy : MethodName := ⟨RX9, "copy", "(IIIII)I"⟩
abbrev cX9_drop : ByteArray := prog_11_method_16_code
def yX9_drop : MethodName := ⟨RX9, "drop", "(I)I"⟩
abbrev cX9_feed : ByteArray := prog_11_method_17_code
def yX9_feed : MethodName := ⟨RX9, "feed", "(I)I"⟩
abbrev cX9_byteAt : ByteArray := prog_11_method_18_code
def yX9_byteAt : MethodName := ⟨RX9, "byteAt", "(I)I"⟩
abbrev cX9_advances : ByteArray := prog_11_method_19_code
def yX9_advances : MethodName := ⟨RX9, "advances", "()V"⟩
abbrev cX9_isWell : ByteArray := prog_11_method_20_code
def yX9_isWell : MethodName := ⟨RX9, "isWell", "()Z"⟩
abbrev cX9_takes : ByteArray := prog_11_method_21_code
def yX9_takes : MethodName := ⟨RX9, "takes", "(ZI)I"⟩
abbrev cX9_figure : ByteArray := prog_11_method_22_code
def yX9_figure : MethodName := ⟨RX9, "figure", "(II)I"⟩
abbrev cX9_kindOf : ByteArray := prog_11_method_23_code
def yX9_kindOf : MethodName := ⟨RX9, "kindOf", "(I)I"⟩
abbrev cX9_next : ByteArray := prog_11_method_24_code
def yX9_next : MethodName := ⟨RX9, "next", "(II)I"⟩
abbrev cX9_readsLie : ByteArray := prog_11_method_25_code
def yX9_readsLie : MethodName := ⟨RX9, "readsLie", "()V"⟩
abbrev cX9_readsStranger : ByteArray := prog_11_method_26_code
def yX9_readsStranger : MethodName := ⟨RX9, "readsStranger", "()V"⟩
abbrev cX9_town : ByteArray := prog_11_method_27_code
def yX9_town : MethodName := ⟨RX9, "town", "()I"⟩
abbrev cX9_fault : ByteArray := prog_11_method_28_code
def yX9_fault : MethodName := ⟨RX9, "fault", "()I"⟩
abbrev cX9_isTown : ByteArray := prog_11_method_29_code
def yX9_isTown : MethodName := ⟨RX9, "isTown", "()Z"⟩
abbrev cX9_isLie : ByteArray := prog_11_method_30_code
def yX9_isLie : MethodName := ⟨RX9, "isLie", "(I)Z"⟩
abbrev cX9_isStranger : ByteArray := prog_11_method_31_code
def yX9_isStranger : MethodName := ⟨RX9, "isStranger", "(I)Z"⟩
abbrev cX9_tries : ByteArray := prog_11_method_32_code
def yX9_tries : MethodName := ⟨RX9, "tries", "(I)V"⟩
abbrev cX9_needs : ByteArray := prog_11_method_33_code
def yX9_needs : MethodName := ⟨RX9, "needs", "(I)I"⟩
abbrev cX9_wouldNod : ByteArray := prog_11_method_34_code
def yX9_wouldNod : MethodName := ⟨RX9, "wouldNod", "(I)Z"⟩
abbrev cX9_hears : ByteArray := prog_11_method_35_code
def yX9_hears : MethodName := ⟨RX9, "hears", "(IZ)V"⟩
abbrev cX9_notes : ByteArray := prog_11_method_36_code
def yX9_notes : MethodName := ⟨RX9, "notes", "()V"⟩
abbrev cX9_wasTold : ByteArray := prog_11_method_37_code
def yX9_wasTold : MethodName := ⟨RX9, "wasTold", "(II)Z"⟩
abbrev cX9_tell : ByteArray := prog_11_method_38_code
def yX9_tell : MethodName := ⟨RX9, "tell", "(II)I"⟩
abbrev cX9_supper : ByteArray := prog_11_method_39_code
def yX9_supper : MethodName := ⟨RX9, "supper", "(I)I"⟩
abbrev cX9_forget : ByteArray := prog_11_method_40_code
def yX9_forget : MethodName := ⟨RX9, "forget", "(II)I"⟩
abbrev cX9_undo : ByteArray := prog_11_method_41_code
def yX9_undo : MethodName := ⟨RX9, "undo", "()I"⟩
abbrev cX9_strangersWith : ByteArray := prog_11_method_42_code
def yX9_strangersWith : MethodName := ⟨RX9, "strangersWith", "(II)I"⟩
abbrev cX9_noddedAt : ByteArray := prog_11_method_43_code
def yX9_noddedAt : MethodName := ⟨RX9, "noddedAt", "(I)I"⟩
abbrev cX9_lie : ByteArray := prog_11_method_44_code
def yX9_lie : MethodName := ⟨RX9, "lie", "(II)I"⟩
abbrev cX9_stranger : ByteArray := prog_11_method_45_code
def yX9_stranger : MethodName := ⟨RX9, "stranger", "(II)I"⟩
abbrev cX9_need : ByteArray := prog_11_method_46_code
def yX9_need : MethodName := ⟨RX9, "need", "(II)I"⟩
abbrev cX9_untold : ByteArray := prog_11_method_47_code
def yX9_untold : MethodName := ⟨RX9, "untold", "(I)I"⟩
abbrev cX9_nods : ByteArray := prog_11_method_48_code
def yX9_nods : MethodName := ⟨RX9, "nods", "(I)I"⟩
abbrev cX9_nodsAt : ByteArray := prog_11_method_49_code
def yX9_nodsAt : MethodName := ⟨RX9, "nodsAt", "(II)I"⟩
abbrev cX9_goesOn : ByteArray := prog_11_method_50_code
def yX9_goesOn : MethodName := ⟨RX9, "goesOn", "(II)Z"⟩
abbrev cX9_fills : ByteArray := prog_11_method_51_code
def yX9_fills : MethodName := ⟨RX9, "fills", "(IIII)V"⟩
abbrev cX9_order : ByteArray := prog_11_method_52_code
def yX9_order : MethodName := ⟨RX9, "order", "(III)I"⟩
abbrev cX9_aheadOf : ByteArray := prog_11_method_53_code
def yX9_aheadOf : MethodName := ⟨RX9, "aheadOf", "(II)I"⟩
abbrev cX9_comesIn : ByteArray := prog_11_method_54_code
def yX9_comesIn : MethodName := ⟨RX9, "comesIn", "(III)I"⟩
abbrev cX9_dead : ByteArray := prog_11_method_55_code
def yX9_dead : MethodName := ⟨RX9, "dead", "(I)I"⟩
abbrev cX9_helps : ByteArray := prog_11_method_56_code
def yX9_helps : MethodName := ⟨RX9, "helps", "(III)Z"⟩
abbrev cX9_help : ByteArray := prog_11_method_57_code
def yX9_help : MethodName := ⟨RX9, "help", "(II)I"⟩
abbrev cX9_suppers : ByteArray := prog_11_method_58_code
def yX9_suppers : MethodName := ⟨RX9, "suppers", "(II)I"⟩
abbrev cX9_wrongIn : ByteArray := prog_11_method_59_code
def yX9_wrongIn : MethodName := ⟨RX9, "wrongIn", "(III)I"⟩
abbrev cX9_goesSo : ByteArray := prog_11_method_60_code
def yX9_goesSo : MethodName := ⟨RX9, "goesSo", "(II)Z"⟩
abbrev cX9_doubted : ByteArray := prog_11_method_61_code
def yX9_doubted : MethodName := ⟨RX9, "doubted", "(IIIII)I"⟩
abbrev cX9_trusted : ByteArray := prog_11_method_62_code
def yX9_trusted : MethodName := ⟨RX9, "trusted", "(IIII)I"⟩
abbrev cX9_who : ByteArray := prog_11_method_63_code
def yX9_who : MethodName := ⟨RX9, "who", "(III)I"⟩
abbrev cX9_goesBy : ByteArray := prog_11_method_64_code
def yX9_goesBy : MethodName := ⟨RX9, "goesBy", "(IIIII)J"⟩
abbrev cX9_odds : ByteArray := prog_11_method_65_code
def yX9_odds : MethodName := ⟨RX9, "odds", "(IIIIIII)I"⟩
abbrev cX9_image : ByteArray := prog_11_method_66_code
def yX9_image : MethodName := ⟨RX9, "image", "(I)I"⟩
abbrev cX9_restore : ByteArray := prog_11_method_67_code
def yX9_restore : MethodName := ⟨RX9, "restore", "(I)I"⟩
abbrev cX9_kindIn : ByteArray := prog_11_method_68_code
def yX9_kindIn : MethodName := ⟨RX9, "kindIn", "(I)I"⟩
abbrev cX9_kind : ByteArray := prog_11_method_69_code
def yX9_kind : MethodName := ⟨RX9, "kind", "(I)I"⟩
abbrev cX9_as : ByteArray := prog_11_method_70_code
def yX9_as : MethodName := ⟨RX9, "as", "(II)I"⟩
abbrev cX9_begins : ByteArray := prog_11_method_71_code
def yX9_begins : MethodName := ⟨RX9, "begins", "(I)V"⟩
abbrev cX9_easyMark : ByteArray := prog_11_method_72_code
def yX9_easyMark : MethodName := ⟨RX9, "easyMark", "(I)I"⟩
abbrev cX9_proofSize : ByteArray := prog_11_method_73_code
def yX9_proofSize : MethodName := ⟨RX9, "proofSize", "(I)I"⟩
abbrev cX9_easySize : ByteArray := prog_11_method_74_code
def yX9_easySize : MethodName := ⟨RX9, "easySize", "(I)I"⟩
abbrev cX9_proofMark : ByteArray := prog_11_method_75_code
def yX9_proofMark : MethodName := ⟨RX9, "proofMark", "(I)I"⟩
abbrev cX9_ask : ByteArray := prog_11_method_76_code
def yX9_ask : MethodName := ⟨RX9, "ask", "(II)I"⟩
abbrev cX9_trace : ByteArray := prog_11_method_77_code
def yX9_trace : MethodName := ⟨RX9, "trace", "(I)I"⟩
abbrev cX9_count : ByteArray := prog_11_method_78_code
def yX9_count : MethodName := ⟨RX9, "count", "(I)I"⟩
abbrev cX9_status : ByteArray := prog_11_method_79_code
def yX9_status : MethodName := ⟨RX9, "status", "()I"⟩
def RJ6 : String := "java/lang/Integer"
def TJ6 : u_T := fun k => match k with
  | _ => ("", "", "", false)
def tyJ6 : Nat → FieldType := fun k => match k with
  | _ => .int
abbrev wsJ60 : List Cond := u_ws RJ6 TJ6 0
theorem nmJ6 : ∀ a, a < 0 → ∀ b, b < 0 → a ≠ b → (TJ6 a).2.1 ≠ (TJ6 b).2.1 := by decide +kernel
theorem tyJ6_ok : ∀ k, k < 0 → parseFieldDescriptor (TJ6 k).2.2.1 = some (tyJ6 k) := by decide +kernel
abbrev cJ6_bitCount_0f7a4 : ByteArray := prog_12_method_49_code
def yJ6_bitCount_0f7a4 : MethodName := ⟨RJ6, "bitCount", "(I)I"⟩
def RJ9 : String := "java/lang/Math"
def TJ9 : u_T := fun k => match k with
  | _ => ("", "", "", false)
def tyJ9 : Nat → FieldType := fun k => match k with
  | _ => .int
abbrev wsJ90 : List Cond := u_ws RJ9 TJ9 0
theorem nmJ9 : ∀ a, a < 0 → ∀ b, b < 0 → a ≠ b → (TJ9 a).2.1 ≠ (TJ9 b).2.1 := by decide +kernel
theorem tyJ9_ok : ∀ k, k < 0 → parseFieldDescriptor (TJ9 k).2.2.1 = some (tyJ9 k) := by decide +kernel
abbrev cJ9_max_7cf53 : ByteArray := prog_13_method_65_code
def yJ9_max_7cf53 : MethodName := ⟨RJ9, "max", "(II)I"⟩
abbrev cJ9_min_7cf53 : ByteArray := prog_13_method_69_code
def yJ9_min_7cf53 : MethodName := ⟨RJ9, "min", "(II)I"⟩
def RJ10 : String := "java/lang/System"
def TJ10 : u_T := fun k => match k with
  | _ => ("", "", "", false)
def tyJ10 : Nat → FieldType := fun k => match k with
  | _ => .int
abbrev wsJ100 : List Cond := u_ws RJ10 TJ10 0
theorem nmJ10 : ∀ a, a < 0 → ∀ b, b < 0 → a ≠ b → (TJ10 a).2.1 ≠ (TJ10 b).2.1 := by decide +kernel
theorem tyJ10_ok : ∀ k, k < 0 → parseFieldDescriptor (TJ10 k).2.2.1 = some (tyJ10 k) := by decide +kernel
def RL : String := "NodBetsLaw"
abbrev cL_law : ByteArray := code
def yL_law : MethodName := ⟨RL, "law", "([I)Z"⟩
abbrev vwCl : List vw_C := [(RX0, TX0, 7), (RX1, TX1, 2), (RX2, TX2, 8), (RX4, TX4, 4), (RX5, TX5, 4), (RX6, TX6, 3), (RX7, TX7, 11), (RX8, TX8, 9), (RX9, TX9, 28)]
