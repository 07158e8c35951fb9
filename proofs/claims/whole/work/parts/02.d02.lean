theorem dX6_put_20 : decode cX6_put 20 = .ok (.iload_n 2, 1) := by decide +kernel
theorem dX6_put_21 : decode cX6_put 21 = .ok (.iadd, 1) := by decide +kernel
theorem dX6_put_22 : decode cX6_put 22 = .ok (.iload 4, 2) := by decide +kernel
theorem dX6_put_24 : decode cX6_put 24 = .ok (.iastore, 1) := by decide +kernel
theorem dX6_put_25 : decode cX6_put 25 = .ok (.iload 4, 2) := by decide +kernel
theorem dX6_put_27 : decode cX6_put 27 = .ok (.ireturn, 1) := by decide +kernel
theorem dX6_itemAt_0 : decode cX6_itemAt 0 = .ok (.aload_n 0, 1) := by decide +kernel
theorem dX6_itemAt_1 : decode cX6_itemAt 1 = .ok (.getfield 16, 3) := by decide +kernel
theorem dX6_itemAt_4 : decode cX6_itemAt 4 = .ok (.iload_n 1, 1) := by decide +kernel
theorem dX6_itemAt_5 : decode cX6_itemAt 5 = .ok (.bipush 40, 2) := by decide +kernel
theorem dX6_itemAt_7 : decode cX6_itemAt 7 = .ok (.imul, 1) := by decide +kernel
theorem dX6_itemAt_8 : decode cX6_itemAt 8 = .ok (.iload_n 2, 1) := by decide +kernel
theorem dX6_itemAt_9 : decode cX6_itemAt 9 = .ok (.iadd, 1) := by decide +kernel
theorem dX6_itemAt_10 : decode cX6_itemAt 10 = .ok (.iaload, 1) := by decide +kernel
theorem dX6_itemAt_11 : decode cX6_itemAt 11 = .ok (.ireturn, 1) := by decide +kernel
theorem dX6_move_0 : decode cX6_move 0 = .ok (.aload_n 0, 1) := by decide +kernel
theorem dX6_move_1 : decode cX6_move 1 = .ok (.getfield 16, 3) := by decide +kernel
theorem dX6_move_4 : decode cX6_move 4 = .ok (.iload_n 1, 1) := by decide +kernel
theorem dX6_move_5 : decode cX6_move 5 = .ok (.bipush 40, 2) := by decide +kernel
theorem dX6_move_7 : decode cX6_move 7 = .ok (.imul, 1) := by decide +kernel
theorem dX6_move_8 : decode cX6_move 8 = .ok (.iload_n 2, 1) := by decide +kernel
theorem dX6_move_9 : decode cX6_move 9 = .ok (.iadd, 1) := by decide +kernel
theorem dX6_move_10 : decode cX6_move 10 = .ok (.aload_n 0, 1) := by decide +kernel
theorem dX6_move_11 : decode cX6_move 11 = .ok (.getfield 16, 3) := by decide +kernel
theorem dX6_move_14 : decode cX6_move 14 = .ok (.iload_n 3, 1) := by decide +kernel
theorem dX6_move_15 : decode cX6_move 15 = .ok (.bipush 40, 2) := by decide +kernel
theorem dX6_move_17 : decode cX6_move 17 = .ok (.imul, 1) := by decide +kernel
theorem dX6_move_18 : decode cX6_move 18 = .ok (.iload 4, 2) := by decide +kernel
theorem dX6_move_20 : decode cX6_move 20 = .ok (.iadd, 1) := by decide +kernel
theorem dX6_move_21 : decode cX6_move 21 = .ok (.iload 5, 2) := by decide +kernel
theorem dX6_move_23 : decode cX6_move 23 = .ok (.invokestatic 23, 3) := by decide +kernel
theorem dX6_move_26 : decode cX6_move 26 = .ok (.return_, 1) := by decide +kernel
theorem dX6_remove_0 : decode cX6_remove 0 = .ok (.aload_n 0, 1) := by decide +kernel
theorem dX6_remove_1 : decode cX6_remove 1 = .ok (.getfield 13, 3) := by decide +kernel
theorem dX6_remove_4 : decode cX6_remove 4 = .ok (.iload_n 1, 1) := by decide +kernel
theorem dX6_remove_5 : decode cX6_remove 5 = .ok (.iaload, 1) := by decide +kernel
theorem dX6_remove_6 : decode cX6_remove 6 = .ok (.istore_n 2, 1) := by decide +kernel
theorem dX6_remove_7 : decode cX6_remove 7 = .ok (.aload_n 0, 1) := by decide +kernel
theorem dX6_remove_8 : decode cX6_remove 8 = .ok (.getfield 9, 3) := by decide +kernel
theorem dX6_remove_11 : decode cX6_remove 11 = .ok (.iload_n 1, 1) := by decide +kernel
theorem dX6_remove_12 : decode cX6_remove 12 = .ok (.iconst (-1), 1) := by decide +kernel
theorem dX6_remove_13 : decode cX6_remove 13 = .ok (.iastore, 1) := by decide +kernel
theorem dX6_remove_14 : decode cX6_remove 14 = .ok (.aload_n 0, 1) := by decide +kernel
theorem dX6_remove_15 : decode cX6_remove 15 = .ok (.getfield 13, 3) := by decide +kernel
theorem dX6_remove_18 : decode cX6_remove 18 = .ok (.iload_n 1, 1) := by decide +kernel
theorem dX6_remove_19 : decode cX6_remove 19 = .ok (.iconst 0, 1) := by decide +kernel
theorem dX6_remove_20 : decode cX6_remove 20 = .ok (.iastore, 1) := by decide +kernel
theorem dX6_remove_21 : decode cX6_remove 21 = .ok (.iload_n 2, 1) := by decide +kernel
theorem dX6_remove_22 : decode cX6_remove 22 = .ok (.ireturn, 1) := by decide +kernel
theorem dX6_present_0 : decode cX6_present 0 = .ok (.iconst 0, 1) := by decide +kernel
theorem dX6_present_1 : decode cX6_present 1 = .ok (.istore_n 1, 1) := by decide +kernel
theorem dX6_present_2 : decode cX6_present 2 = .ok (.iconst 0, 1) := by decide +kernel
theorem dX6_present_3 : decode cX6_present 3 = .ok (.istore_n 2, 1) := by decide +kernel
theorem dX6_present_4 : decode cX6_present 4 = .ok (.iload_n 2, 1) := by decide +kernel
theorem dX6_present_5 : decode cX6_present 5 = .ok (.bipush 8, 2) := by decide +kernel
theorem dX6_present_7 : decode cX6_present 7 = .ok (.if_icmp .ge 27, 3) := by decide +kernel
theorem dX6_present_10 : decode cX6_present 10 = .ok (.iload_n 1, 1) := by decide +kernel
theorem dX6_present_11 : decode cX6_present 11 = .ok (.aload_n 0, 1) := by decide +kernel
theorem dX6_present_12 : decode cX6_present 12 = .ok (.getfield 9, 3) := by decide +kernel
theorem dX6_present_15 : decode cX6_present 15 = .ok (.iload_n 2, 1) := by decide +kernel
theorem dX6_present_16 : decode cX6_present 16 = .ok (.iaload, 1) := by decide +kernel
theorem dX6_present_17 : decode cX6_present 17 = .ok (.iconst (-1), 1) := by decide +kernel
theorem dX6_present_18 : decode cX6_present 18 = .ok (.if_icmp .ne 7, 3) := by decide +kernel
theorem dX6_present_21 : decode cX6_present 21 = .ok (.iconst 0, 1) := by decide +kernel
theorem dX6_present_22 : decode cX6_present 22 = .ok (.goto 4, 3) := by decide +kernel
theorem dX6_present_25 : decode cX6_present 25 = .ok (.iconst 1, 1) := by decide +kernel
theorem dX6_present_26 : decode cX6_present 26 = .ok (.iadd, 1) := by decide +kernel
theorem dX6_present_27 : decode cX6_present 27 = .ok (.istore_n 1, 1) := by decide +kernel
theorem dX6_present_28 : decode cX6_present 28 = .ok (.iinc 2 1, 3) := by decide +kernel
theorem dX6_present_31 : decode cX6_present 31 = .ok (.goto (-27), 3) := by decide +kernel
theorem dX6_present_34 : decode cX6_present 34 = .ok (.iload_n 1, 1) := by decide +kernel
theorem dX6_present_35 : decode cX6_present 35 = .ok (.ireturn, 1) := by decide +kernel
theorem dX6_cutToLane_0 : decode cX6_cutToLane 0 = .ok (.iload_n 1, 1) := by decide +kernel
theorem dX6_cutToLane_1 : decode cX6_cutToLane 1 = .ok (.lookupswitch 33 #[(0, 27), (1, 30)], 27) := by decide +kernel
theorem dX6_cutToLane_28 : decode cX6_cutToLane 28 = .ok (.iload_n 0, 1) := by decide +kernel
theorem dX6_cutToLane_29 : decode cX6_cutToLane 29 = .ok (.i2b, 1) := by decide +kernel
theorem dX6_cutToLane_30 : decode cX6_cutToLane 30 = .ok (.ireturn, 1) := by decide +kernel
theorem dX6_cutToLane_31 : decode cX6_cutToLane 31 = .ok (.iload_n 0, 1) := by decide +kernel
theorem dX6_cutToLane_32 : decode cX6_cutToLane 32 = .ok (.i2s, 1) := by decide +kernel
theorem dX6_cutToLane_33 : decode cX6_cutToLane 33 = .ok (.ireturn, 1) := by decide +kernel
theorem dX6_cutToLane_34 : decode cX6_cutToLane 34 = .ok (.iload_n 0, 1) := by decide +kernel
theorem dX6_cutToLane_35 : decode cX6_cutToLane 35 = .ok (.ireturn, 1) := by decide +kernel
theorem dX7_init_0 : decode cX7_init 0 = .ok (.aload_n 0, 1) := by decide +kernel
theorem dX7_init_1 : decode cX7_init 1 = .ok (.invokespecial 1, 3) := by decide +kernel
theorem dX7_init_4 : decode cX7_init 4 = .ok (.aload_n 0, 1) := by decide +kernel
theorem dX7_init_5 : decode cX7_init 5 = .ok (.iconst 0, 1) := by decide +kernel
theorem dX7_init_6 : decode cX7_init 6 = .ok (.putfield 7, 3) := by decide +kernel
theorem dX7_init_9 : decode cX7_init 9 = .ok (.aload_n 0, 1) := by decide +kernel
theorem dX7_init_10 : decode cX7_init 10 = .ok (.iconst 0, 1) := by decide +kernel
theorem dX7_init_11 : decode cX7_init 11 = .ok (.putfield 13, 3) := by decide +kernel
theorem dX7_init_14 : decode cX7_init 14 = .ok (.aload_n 0, 1) := by decide +kernel
theorem dX7_init_15 : decode cX7_init 15 = .ok (.iconst 0, 1) := by decide +kernel
theorem dX7_init_16 : decode cX7_init 16 = .ok (.putfield 16, 3) := by decide +kernel
theorem dX7_init_19 : decode cX7_init 19 = .ok (.aload_n 0, 1) := by decide +kernel
theorem dX7_init_20 : decode cX7_init 20 = .ok (.iconst 0, 1) := by decide +kernel
theorem dX7_init_21 : decode cX7_init 21 = .ok (.putfield 19, 3) := by decide +kernel
theorem dX7_init_24 : decode cX7_init 24 = .ok (.aload_n 0, 1) := by decide +kernel
theorem dX7_init_25 : decode cX7_init 25 = .ok (.bipush 6, 2) := by decide +kernel
theorem dX7_init_27 : decode cX7_init 27 = .ok (.newarray .int, 2) := by decide +kernel
theorem dX7_init_29 : decode cX7_init 29 = .ok (.putfield 22, 3) := by decide +kernel
theorem dX7_init_32 : decode cX7_init 32 = .ok (.aload_n 0, 1) := by decide +kernel
theorem dX7_init_33 : decode cX7_init 33 = .ok (.bipush 6, 2) := by decide +kernel
theorem dX7_init_35 : decode cX7_init 35 = .ok (.newarray .int, 2) := by decide +kernel
theorem dX7_init_37 : decode cX7_init 37 = .ok (.putfield 26, 3) := by decide +kernel
theorem dX7_init_40 : decode cX7_init 40 = .ok (.aload_n 0, 1) := by decide +kernel
theorem dX7_init_41 : decode cX7_init 41 = .ok (.bipush 6, 2) := by decide +kernel
theorem dX7_init_43 : decode cX7_init 43 = .ok (.newarray .int, 2) := by decide +kernel
theorem dX7_init_45 : decode cX7_init 45 = .ok (.putfield 29, 3) := by decide +kernel
theorem dX7_init_48 : decode cX7_init 48 = .ok (.aload_n 0, 1) := by decide +kernel
theorem dX7_init_49 : decode cX7_init 49 = .ok (.iconst 4, 1) := by decide +kernel
theorem dX7_init_50 : decode cX7_init 50 = .ok (.newarray .int, 2) := by decide +kernel
theorem dX7_init_52 : decode cX7_init 52 = .ok (.putfield 32, 3) := by decide +kernel
theorem dX7_init_55 : decode cX7_init 55 = .ok (.aload_n 0, 1) := by decide +kernel
theorem dX7_init_56 : decode cX7_init 56 = .ok (.iconst 4, 1) := by decide +kernel
theorem dX7_init_57 : decode cX7_init 57 = .ok (.newarray .int, 2) := by decide +kernel
theorem dX7_init_59 : decode cX7_init 59 = .ok (.putfield 35, 3) := by decide +kernel
theorem dX7_init_62 : decode cX7_init 62 = .ok (.aload_n 0, 1) := by decide +kernel
theorem dX7_init_63 : decode cX7_init 63 = .ok (.iconst 4, 1) := by decide +kernel
theorem dX7_init_64 : decode cX7_init 64 = .ok (.newarray .int, 2) := by decide +kernel
theorem dX7_init_66 : decode cX7_init 66 = .ok (.putfield 38, 3) := by decide +kernel
theorem dX7_init_69 : decode cX7_init 69 = .ok (.aload_n 0, 1) := by decide +kernel
theorem dX7_init_70 : decode cX7_init 70 = .ok (.iconst 4, 1) := by decide +kernel
theorem dX7_init_71 : decode cX7_init 71 = .ok (.newarray .int, 2) := by decide +kernel
theorem dX7_init_73 : decode cX7_init 73 = .ok (.putfield 41, 3) := by decide +kernel
theorem dX7_init_76 : decode cX7_init 76 = .ok (.return_, 1) := by decide +kernel
theorem dX7_stands_0 : decode cX7_stands 0 = .ok (.aload_n 0, 1) := by decide +kernel
theorem dX7_stands_1 : decode cX7_stands 1 = .ok (.getfield 7, 3) := by decide +kernel
theorem dX7_stands_4 : decode cX7_stands 4 = .ok (.ifCond .le 7, 3) := by decide +kernel
theorem dX7_stands_7 : decode cX7_stands 7 = .ok (.iconst 1, 1) := by decide +kernel
theorem dX7_stands_8 : decode cX7_stands 8 = .ok (.goto 4, 3) := by decide +kernel
theorem dX7_stands_11 : decode cX7_stands 11 = .ok (.iconst 0, 1) := by decide +kernel
theorem dX7_stands_12 : decode cX7_stands 12 = .ok (.ireturn, 1) := by decide +kernel
theorem dX7_hasLie_0 : decode cX7_hasLie 0 = .ok (.iload_n 1, 1) := by decide +kernel
theorem dX7_hasLie_1 : decode cX7_hasLie 1 = .ok (.ifCond .lt 15, 3) := by decide +kernel
theorem dX7_hasLie_4 : decode cX7_hasLie 4 = .ok (.iload_n 1, 1) := by decide +kernel
theorem dX7_hasLie_5 : decode cX7_hasLie 5 = .ok (.aload_n 0, 1) := by decide +kernel
theorem dX7_hasLie_6 : decode cX7_hasLie 6 = .ok (.getfield 16, 3) := by decide +kernel
theorem dX7_hasLie_9 : decode cX7_hasLie 9 = .ok (.if_icmp .ge 7, 3) := by decide +kernel
theorem dX7_hasLie_12 : decode cX7_hasLie 12 = .ok (.iconst 1, 1) := by decide +kernel
theorem dX7_hasLie_13 : decode cX7_hasLie 13 = .ok (.goto 4, 3) := by decide +kernel
theorem dX7_hasLie_16 : decode cX7_hasLie 16 = .ok (.iconst 0, 1) := by decide +kernel
theorem dX7_hasLie_17 : decode cX7_hasLie 17 = .ok (.ireturn, 1) := by decide +kernel
theorem dX7_hasStranger_0 : decode cX7_hasStranger 0 = .ok (.iload_n 1, 1) := by decide +kernel
theorem dX7_hasStranger_1 : decode cX7_hasStranger 1 = .ok (.ifCond .lt 15, 3) := by decide +kernel
theorem dX7_hasStranger_4 : decode cX7_hasStranger 4 = .ok (.iload_n 1, 1) := by decide +kernel
theorem dX7_hasStranger_5 : decode cX7_hasStranger 5 = .ok (.aload_n 0, 1) := by decide +kernel
theorem dX7_hasStranger_6 : decode cX7_hasStranger 6 = .ok (.getfield 19, 3) := by decide +kernel
theorem dX7_hasStranger_9 : decode cX7_hasStranger 9 = .ok (.if_icmp .ge 7, 3) := by decide +kernel
theorem dX7_hasStranger_12 : decode cX7_hasStranger 12 = .ok (.iconst 1, 1) := by decide +kernel
theorem dX7_hasStranger_13 : decode cX7_hasStranger 13 = .ok (.goto 4, 3) := by decide +kernel
theorem dX7_hasStranger_16 : decode cX7_hasStranger 16 = .ok (.iconst 0, 1) := by decide +kernel
theorem dX7_hasStranger_17 : decode cX7_hasStranger 17 = .ok (.ireturn, 1) := by decide +kernel
theorem dX7_isSetOfLies_0 : decode cX7_isSetOfLies 0 = .ok (.iload_n 1, 1) := by decide +kernel
theorem dX7_isSetOfLies_1 : decode cX7_isSetOfLies 1 = .ok (.ifCond .lt 17, 3) := by decide +kernel
theorem dX7_isSetOfLies_4 : decode cX7_isSetOfLies 4 = .ok (.iload_n 1, 1) := by decide +kernel
theorem dX7_isSetOfLies_5 : decode cX7_isSetOfLies 5 = .ok (.iconst 1, 1) := by decide +kernel
theorem dX7_isSetOfLies_6 : decode cX7_isSetOfLies 6 = .ok (.aload_n 0, 1) := by decide +kernel
theorem dX7_isSetOfLies_7 : decode cX7_isSetOfLies 7 = .ok (.getfield 16, 3) := by decide +kernel
theorem dX7_isSetOfLies_10 : decode cX7_isSetOfLies 10 = .ok (.ishl, 1) := by decide +kernel
theorem dX7_isSetOfLies_11 : decode cX7_isSetOfLies 11 = .ok (.if_icmp .ge 7, 3) := by decide +kernel
theorem dX7_isSetOfLies_14 : decode cX7_isSetOfLies 14 = .ok (.iconst 1, 1) := by decide +kernel
theorem dX7_isSetOfLies_15 : decode cX7_isSetOfLies 15 = .ok (.goto 4, 3) := by decide +kernel
theorem dX7_isSetOfLies_18 : decode cX7_isSetOfLies 18 = .ok (.iconst 0, 1) := by decide +kernel
theorem dX7_isSetOfLies_19 : decode cX7_isSetOfLies 19 = .ok (.ireturn, 1) := by decide +kernel
theorem dX7_wasTold_0 : decode cX7_wasTold 0 = .ok (.aload_n 0, 1) := by decide +kernel
theorem dX7_wasTold_1 : decode cX7_wasTold 1 = .ok (.getfield 38, 3) := by decide +kernel
theorem dX7_wasTold_4 : decode cX7_wasTold 4 = .ok (.iload_n 1, 1) := by decide +kernel
theorem dX7_wasTold_5 : decode cX7_wasTold 5 = .ok (.iaload, 1) := by decide +kernel
theorem dX7_wasTold_6 : decode cX7_wasTold 6 = .ok (.iload_n 2, 1) := by decide +kernel
theorem dX7_wasTold_7 : decode cX7_wasTold 7 = .ok (.ishr, 1) := by decide +kernel
theorem dX7_wasTold_8 : decode cX7_wasTold 8 = .ok (.iconst 1, 1) := by decide +kernel
theorem dX7_wasTold_9 : decode cX7_wasTold 9 = .ok (.iand, 1) := by decide +kernel
theorem dX7_wasTold_10 : decode cX7_wasTold 10 = .ok (.ifCond .eq 7, 3) := by decide +kernel
theorem dX7_wasTold_13 : decode cX7_wasTold 13 = .ok (.iconst 1, 1) := by decide +kernel
theorem dX7_wasTold_14 : decode cX7_wasTold 14 = .ok (.goto 4, 3) := by decide +kernel
theorem dX7_wasTold_17 : decode cX7_wasTold 17 = .ok (.iconst 0, 1) := by decide +kernel
theorem dX7_wasTold_18 : decode cX7_wasTold 18 = .ok (.ireturn, 1) := by decide +kernel
theorem dX7_untold_0 : decode cX7_untold 0 = .ok (.iconst 1, 1) := by decide +kernel
theorem dX7_untold_1 : decode cX7_untold 1 = .ok (.aload_n 0, 1) := by decide +kernel
theorem dX7_untold_2 : decode cX7_untold 2 = .ok (.getfield 16, 3) := by decide +kernel
theorem dX7_untold_5 : decode cX7_untold 5 = .ok (.ishl, 1) := by decide +kernel
theorem dX7_untold_6 : decode cX7_untold 6 = .ok (.iconst 1, 1) := by decide +kernel
theorem dX7_untold_7 : decode cX7_untold 7 = .ok (.isub, 1) := by decide +kernel
theorem dX7_untold_8 : decode cX7_untold 8 = .ok (.aload_n 0, 1) := by decide +kernel
theorem dX7_untold_9 : decode cX7_untold 9 = .ok (.getfield 38, 3) := by decide +kernel
theorem dX7_untold_12 : decode cX7_untold 12 = .ok (.iload_n 1, 1) := by decide +kernel
theorem dX7_untold_13 : decode cX7_untold 13 = .ok (.iaload, 1) := by decide +kernel
theorem dX7_untold_14 : decode cX7_untold 14 = .ok (.iconst (-1), 1) := by decide +kernel
theorem dX7_untold_15 : decode cX7_untold 15 = .ok (.ixor, 1) := by decide +kernel
theorem dX7_untold_16 : decode cX7_untold 16 = .ok (.iand, 1) := by decide +kernel
theorem dX7_untold_17 : decode cX7_untold 17 = .ok (.ireturn, 1) := by decide +kernel
theorem dX7_strangersWith_0 : decode cX7_strangersWith 0 = .ok (.iconst 0, 1) := by decide +kernel
theorem dX7_strangersWith_1 : decode cX7_strangersWith 1 = .ok (.istore_n 3, 1) := by decide +kernel
theorem dX7_strangersWith_2 : decode cX7_strangersWith 2 = .ok (.iconst 0, 1) := by decide +kernel
theorem dX7_strangersWith_3 : decode cX7_strangersWith 3 = .ok (.istore 4, 2) := by decide +kernel
theorem dX7_strangersWith_5 : decode cX7_strangersWith 5 = .ok (.iload 4, 2) := by decide +kernel
theorem dX7_strangersWith_7 : decode cX7_strangersWith 7 = .ok (.aload_n 0, 1) := by decide +kernel
theorem dX7_strangersWith_8 : decode cX7_strangersWith 8 = .ok (.getfield 19, 3) := by decide +kernel
theorem dX7_strangersWith_11 : decode cX7_strangersWith 11 = .ok (.if_icmp .ge 27, 3) := by decide +kernel
theorem dX7_strangersWith_14 : decode cX7_strangersWith 14 = .ok (.iload 4, 2) := by decide +kernel
theorem dX7_strangersWith_16 : decode cX7_strangersWith 16 = .ok (.aload_n 1, 1) := by decide +kernel
theorem dX7_strangersWith_17 : decode cX7_strangersWith 17 = .ok (.arraylength, 1) := by decide +kernel
theorem dX7_strangersWith_18 : decode cX7_strangersWith 18 = .ok (.if_icmp .ge 20, 3) := by decide +kernel
theorem dX7_strangersWith_21 : decode cX7_strangersWith 21 = .ok (.iload_n 3, 1) := by decide +kernel
theorem dX7_strangersWith_22 : decode cX7_strangersWith 22 = .ok (.aload_n 1, 1) := by decide +kernel
theorem dX7_strangersWith_23 : decode cX7_strangersWith 23 = .ok (.iload 4, 2) := by decide +kernel
theorem dX7_strangersWith_25 : decode cX7_strangersWith 25 = .ok (.iaload, 1) := by decide +kernel
theorem dX7_strangersWith_26 : decode cX7_strangersWith 26 = .ok (.iload_n 2, 1) := by decide +kernel
theorem dX7_strangersWith_27 : decode cX7_strangersWith 27 = .ok (.ishr, 1) := by decide +kernel
theorem dX7_strangersWith_28 : decode cX7_strangersWith 28 = .ok (.iconst 1, 1) := by decide +kernel
theorem dX7_strangersWith_29 : decode cX7_strangersWith 29 = .ok (.iand, 1) := by decide +kernel
theorem dX7_strangersWith_30 : decode cX7_strangersWith 30 = .ok (.iadd, 1) := by decide +kernel
theorem dX7_strangersWith_31 : decode cX7_strangersWith 31 = .ok (.istore_n 3, 1) := by decide +kernel
theorem dX7_strangersWith_32 : decode cX7_strangersWith 32 = .ok (.iinc 4 1, 3) := by decide +kernel
theorem dX7_strangersWith_35 : decode cX7_strangersWith 35 = .ok (.goto (-30), 3) := by decide +kernel
theorem dX7_strangersWith_38 : decode cX7_strangersWith 38 = .ok (.iload_n 3, 1) := by decide +kernel
theorem dX7_strangersWith_39 : decode cX7_strangersWith 39 = .ok (.ireturn, 1) := by decide +kernel
theorem dX7_begin_0 : decode cX7_begin 0 = .ok (.aload_n 0, 1) := by decide +kernel
theorem dX7_begin_1 : decode cX7_begin 1 = .ok (.iload_n 1, 1) := by decide +kernel
theorem dX7_begin_2 : decode cX7_begin 2 = .ok (.putfield 7, 3) := by decide +kernel
theorem dX7_begin_5 : decode cX7_begin 5 = .ok (.aload_n 0, 1) := by decide +kernel
theorem dX7_begin_6 : decode cX7_begin 6 = .ok (.iconst 0, 1) := by decide +kernel
theorem dX7_begin_7 : decode cX7_begin 7 = .ok (.putfield 13, 3) := by decide +kernel
theorem dX7_begin_10 : decode cX7_begin 10 = .ok (.aload_n 0, 1) := by decide +kernel
theorem dX7_begin_11 : decode cX7_begin 11 = .ok (.iconst 0, 1) := by decide +kernel
theorem dX7_begin_12 : decode cX7_begin 12 = .ok (.putfield 16, 3) := by decide +kernel
theorem dX7_begin_15 : decode cX7_begin 15 = .ok (.aload_n 0, 1) := by decide +kernel
theorem dX7_begin_16 : decode cX7_begin 16 = .ok (.iconst 0, 1) := by decide +kernel
theorem dX7_begin_17 : decode cX7_begin 17 = .ok (.putfield 19, 3) := by decide +kernel
theorem dX7_begin_20 : decode cX7_begin 20 = .ok (.return_, 1) := by decide +kernel
theorem dX7_addLie_0 : decode cX7_addLie 0 = .ok (.aload_n 0, 1) := by decide +kernel
theorem dX7_addLie_1 : decode cX7_addLie 1 = .ok (.getfield 16, 3) := by decide +kernel
theorem dX7_addLie_4 : decode cX7_addLie 4 = .ok (.bipush 6, 2) := by decide +kernel
theorem dX7_addLie_6 : decode cX7_addLie 6 = .ok (.if_icmp .ge 43, 3) := by decide +kernel
theorem dX7_addLie_9 : decode cX7_addLie 9 = .ok (.aload_n 0, 1) := by decide +kernel
theorem dX7_addLie_10 : decode cX7_addLie 10 = .ok (.getfield 22, 3) := by decide +kernel
theorem dX7_addLie_13 : decode cX7_addLie 13 = .ok (.aload_n 0, 1) := by decide +kernel
theorem dX7_addLie_14 : decode cX7_addLie 14 = .ok (.getfield 16, 3) := by decide +kernel
theorem dX7_addLie_17 : decode cX7_addLie 17 = .ok (.iload_n 1, 1) := by decide +kernel
theorem dX7_addLie_18 : decode cX7_addLie 18 = .ok (.iastore, 1) := by decide +kernel
theorem dX7_addLie_19 : decode cX7_addLie 19 = .ok (.aload_n 0, 1) := by decide +kernel
theorem dX7_addLie_20 : decode cX7_addLie 20 = .ok (.getfield 26, 3) := by decide +kernel
theorem dX7_addLie_23 : decode cX7_addLie 23 = .ok (.aload_n 0, 1) := by decide +kernel
theorem dX7_addLie_24 : decode cX7_addLie 24 = .ok (.getfield 16, 3) := by decide +kernel
theorem dX7_addLie_27 : decode cX7_addLie 27 = .ok (.iload_n 2, 1) := by decide +kernel
theorem dX7_addLie_28 : decode cX7_addLie 28 = .ok (.iastore, 1) := by decide +kernel
theorem dX7_addLie_29 : decode cX7_addLie 29 = .ok (.aload_n 0, 1) := by decide +kernel
theorem dX7_addLie_30 : decode cX7_addLie 30 = .ok (.getfield 29, 3) := by decide +kernel
theorem dX7_addLie_33 : decode cX7_addLie 33 = .ok (.aload_n 0, 1) := by decide +kernel
theorem dX7_addLie_34 : decode cX7_addLie 34 = .ok (.getfield 16, 3) := by decide +kernel
theorem dX7_addLie_37 : decode cX7_addLie 37 = .ok (.iload_n 3, 1) := by decide +kernel
theorem dX7_addLie_38 : decode cX7_addLie 38 = .ok (.iastore, 1) := by decide +kernel
theorem dX7_addLie_39 : decode cX7_addLie 39 = .ok (.aload_n 0, 1) := by decide +kernel
theorem dX7_addLie_40 : decode cX7_addLie 40 = .ok (.dup, 1) := by decide +kernel
theorem dX7_addLie_41 : decode cX7_addLie 41 = .ok (.getfield 16, 3) := by decide +kernel
theorem dX7_addLie_44 : decode cX7_addLie 44 = .ok (.iconst 1, 1) := by decide +kernel
theorem dX7_addLie_45 : decode cX7_addLie 45 = .ok (.iadd, 1) := by decide +kernel
theorem dX7_addLie_46 : decode cX7_addLie 46 = .ok (.putfield 16, 3) := by decide +kernel
theorem dX7_addLie_49 : decode cX7_addLie 49 = .ok (.return_, 1) := by decide +kernel
theorem dX7_addStranger_0 : decode cX7_addStranger 0 = .ok (.aload_n 0, 1) := by decide +kernel
theorem dX7_addStranger_1 : decode cX7_addStranger 1 = .ok (.getfield 19, 3) := by decide +kernel
theorem dX7_addStranger_4 : decode cX7_addStranger 4 = .ok (.iconst 4, 1) := by decide +kernel
theorem dX7_addStranger_5 : decode cX7_addStranger 5 = .ok (.if_icmp .ge 53, 3) := by decide +kernel
theorem dX7_addStranger_8 : decode cX7_addStranger 8 = .ok (.aload_n 0, 1) := by decide +kernel
theorem dX7_addStranger_9 : decode cX7_addStranger 9 = .ok (.getfield 32, 3) := by decide +kernel
theorem dX7_addStranger_12 : decode cX7_addStranger 12 = .ok (.aload_n 0, 1) := by decide +kernel
theorem dX7_addStranger_13 : decode cX7_addStranger 13 = .ok (.getfield 19, 3) := by decide +kernel
theorem dX7_addStranger_16 : decode cX7_addStranger 16 = .ok (.iload_n 1, 1) := by decide +kernel
theorem dX7_addStranger_17 : decode cX7_addStranger 17 = .ok (.iastore, 1) := by decide +kernel
theorem dX7_addStranger_18 : decode cX7_addStranger 18 = .ok (.aload_n 0, 1) := by decide +kernel
theorem dX7_addStranger_19 : decode cX7_addStranger 19 = .ok (.getfield 35, 3) := by decide +kernel
theorem dX7_addStranger_22 : decode cX7_addStranger 22 = .ok (.aload_n 0, 1) := by decide +kernel
theorem dX7_addStranger_23 : decode cX7_addStranger 23 = .ok (.getfield 19, 3) := by decide +kernel
theorem dX7_addStranger_26 : decode cX7_addStranger 26 = .ok (.iload_n 2, 1) := by decide +kernel
theorem dX7_addStranger_27 : decode cX7_addStranger 27 = .ok (.iastore, 1) := by decide +kernel
theorem dX7_addStranger_28 : decode cX7_addStranger 28 = .ok (.aload_n 0, 1) := by decide +kernel
theorem dX7_addStranger_29 : decode cX7_addStranger 29 = .ok (.getfield 38, 3) := by decide +kernel
theorem dX7_addStranger_32 : decode cX7_addStranger 32 = .ok (.aload_n 0, 1) := by decide +kernel
theorem dX7_addStranger_33 : decode cX7_addStranger 33 = .ok (.getfield 19, 3) := by decide +kernel
theorem dX7_addStranger_36 : decode cX7_addStranger 36 = .ok (.iconst 0, 1) := by decide +kernel
theorem dX7_addStranger_37 : decode cX7_addStranger 37 = .ok (.iastore, 1) := by decide +kernel
theorem dX7_addStranger_38 : decode cX7_addStranger 38 = .ok (.aload_n 0, 1) := by decide +kernel
theorem dX7_addStranger_39 : decode cX7_addStranger 39 = .ok (.getfield 41, 3) := by decide +kernel
theorem dX7_addStranger_42 : decode cX7_addStranger 42 = .ok (.aload_n 0, 1) := by decide +kernel
theorem dX7_addStranger_43 : decode cX7_addStranger 43 = .ok (.getfield 19, 3) := by decide +kernel
theorem dX7_addStranger_46 : decode cX7_addStranger 46 = .ok (.iconst 0, 1) := by decide +kernel
theorem dX7_addStranger_47 : decode cX7_addStranger 47 = .ok (.iastore, 1) := by decide +kernel
theorem dX7_addStranger_48 : decode cX7_addStranger 48 = .ok (.aload_n 0, 1) := by decide +kernel
theorem dX7_addStranger_49 : decode cX7_addStranger 49 = .ok (.dup, 1) := by decide +kernel
theorem dX7_addStranger_50 : decode cX7_addStranger 50 = .ok (.getfield 19, 3) := by decide +kernel
theorem dX7_addStranger_53 : decode cX7_addStranger 53 = .ok (.iconst 1, 1) := by decide +kernel
theorem dX7_addStranger_54 : decode cX7_addStranger 54 = .ok (.iadd, 1) := by decide +kernel
theorem dX7_addStranger_55 : decode cX7_addStranger 55 = .ok (.putfield 19, 3) := by decide +kernel
theorem dX7_addStranger_58 : decode cX7_addStranger 58 = .ok (.return_, 1) := by decide +kernel
theorem dX7_become_0 : decode cX7_become 0 = .ok (.aload_n 0, 1) := by decide +kernel
theorem dX7_become_1 : decode cX7_become 1 = .ok (.aload_n 1, 1) := by decide +kernel
theorem dX7_become_2 : decode cX7_become 2 = .ok (.getfield 7, 3) := by decide +kernel
theorem dX7_become_5 : decode cX7_become 5 = .ok (.putfield 7, 3) := by decide +kernel
theorem dX7_become_8 : decode cX7_become 8 = .ok (.aload_n 0, 1) := by decide +kernel
theorem dX7_become_9 : decode cX7_become 9 = .ok (.aload_n 1, 1) := by decide +kernel
theorem dX7_become_10 : decode cX7_become 10 = .ok (.getfield 13, 3) := by decide +kernel
theorem dX7_become_13 : decode cX7_become 13 = .ok (.putfield 13, 3) := by decide +kernel
theorem dX7_become_16 : decode cX7_become 16 = .ok (.aload_n 0, 1) := by decide +kernel
theorem dX7_become_17 : decode cX7_become 17 = .ok (.aload_n 1, 1) := by decide +kernel
theorem dX7_become_18 : decode cX7_become 18 = .ok (.getfield 16, 3) := by decide +kernel
theorem dX7_become_21 : decode cX7_become 21 = .ok (.putfield 16, 3) := by decide +kernel
theorem dX7_become_24 : decode cX7_become 24 = .ok (.aload_n 0, 1) := by decide +kernel
theorem dX7_become_25 : decode cX7_become 25 = .ok (.aload_n 1, 1) := by decide +kernel
theorem dX7_become_26 : decode cX7_become 26 = .ok (.getfield 19, 3) := by decide +kernel
theorem dX7_become_29 : decode cX7_become 29 = .ok (.putfield 19, 3) := by decide +kernel
theorem dX7_become_32 : decode cX7_become 32 = .ok (.iconst 0, 1) := by decide +kernel
theorem dX7_become_33 : decode cX7_become 33 = .ok (.istore_n 2, 1) := by decide +kernel
theorem dX7_become_34 : decode cX7_become 34 = .ok (.iload_n 2, 1) := by decide +kernel
theorem dX7_become_35 : decode cX7_become 35 = .ok (.bipush 6, 2) := by decide +kernel
theorem dX7_become_37 : decode cX7_become 37 = .ok (.if_icmp .ge 45, 3) := by decide +kernel
theorem dX7_become_40 : decode cX7_become 40 = .ok (.aload_n 0, 1) := by decide +kernel
theorem dX7_become_41 : decode cX7_become 41 = .ok (.getfield 22, 3) := by decide +kernel
theorem dX7_become_44 : decode cX7_become 44 = .ok (.iload_n 2, 1) := by decide +kernel
theorem dX7_become_45 : decode cX7_become 45 = .ok (.aload_n 1, 1) := by decide +kernel
theorem dX7_become_46 : decode cX7_become 46 = .ok (.getfield 22, 3) := by decide +kernel
theorem dX7_become_49 : decode cX7_become 49 = .ok (.iload_n 2, 1) := by decide +kernel
theorem dX7_become_50 : decode cX7_become 50 = .ok (.iaload, 1) := by decide +kernel
theorem dX7_become_51 : decode cX7_become 51 = .ok (.iastore, 1) := by decide +kernel
theorem dX7_become_52 : decode cX7_become 52 = .ok (.aload_n 0, 1) := by decide +kernel
theorem dX7_become_53 : decode cX7_become 53 = .ok (.getfield 26, 3) := by decide +kernel
theorem dX7_become_56 : decode cX7_become 56 = .ok (.iload_n 2, 1) := by decide +kernel
theorem dX7_become_57 : decode cX7_become 57 = .ok (.aload_n 1, 1) := by decide +kernel
theorem dX7_become_58 : decode cX7_become 58 = .ok (.getfield 26, 3) := by decide +kernel
theorem dX7_become_61 : decode cX7_become 61 = .ok (.iload_n 2, 1) := by decide +kernel
theorem dX7_become_62 : decode cX7_become 62 = .ok (.iaload, 1) := by decide +kernel
theorem dX7_become_63 : decode cX7_become 63 = .ok (.iastore, 1) := by decide +kernel
theorem dX7_become_64 : decode cX7_become 64 = .ok (.aload_n 0, 1) := by decide +kernel
theorem dX7_become_65 : decode cX7_become 65 = .ok (.getfield 29, 3) := by decide +kernel
theorem dX7_become_68 : decode cX7_become 68 = .ok (.iload_n 2, 1) := by decide +kernel
theorem dX7_become_69 : decode cX7_become 69 = .ok (.aload_n 1, 1) := by decide +kernel
theorem dX7_become_70 : decode cX7_become 70 = .ok (.getfield 29, 3) := by decide +kernel
theorem dX7_become_73 : decode cX7_become 73 = .ok (.iload_n 2, 1) := by decide +kernel
theorem dX7_become_74 : decode cX7_become 74 = .ok (.iaload, 1) := by decide +kernel
theorem dX7_become_75 : decode cX7_become 75 = .ok (.iastore, 1) := by decide +kernel
theorem dX7_become_76 : decode cX7_become 76 = .ok (.iinc 2 1, 3) := by decide +kernel
theorem dX7_become_79 : decode cX7_become 79 = .ok (.goto (-45), 3) := by decide +kernel
theorem dX7_become_82 : decode cX7_become 82 = .ok (.iconst 0, 1) := by decide +kernel
theorem dX7_become_83 : decode cX7_become 83 = .ok (.istore_n 2, 1) := by decide +kernel
theorem dX7_become_84 : decode cX7_become 84 = .ok (.iload_n 2, 1) := by decide +kernel
theorem dX7_become_85 : decode cX7_become 85 = .ok (.iconst 4, 1) := by decide +kernel
theorem dX7_become_86 : decode cX7_become 86 = .ok (.if_icmp .ge 57, 3) := by decide +kernel
theorem dX7_become_89 : decode cX7_become 89 = .ok (.aload_n 0, 1) := by decide +kernel
theorem dX7_become_90 : decode cX7_become 90 = .ok (.getfield 32, 3) := by decide +kernel
theorem dX7_become_93 : decode cX7_become 93 = .ok (.iload_n 2, 1) := by decide +kernel
theorem dX7_become_94 : decode cX7_become 94 = .ok (.aload_n 1, 1) := by decide +kernel
theorem dX7_become_95 : decode cX7_become 95 = .ok (.getfield 32, 3) := by decide +kernel
theorem dX7_become_98 : decode cX7_become 98 = .ok (.iload_n 2, 1) := by decide +kernel
theorem dX7_become_99 : decode cX7_become 99 = .ok (.iaload, 1) := by decide +kernel
theorem dX7_become_100 : decode cX7_become 100 = .ok (.iastore, 1) := by decide +kernel
theorem dX7_become_101 : decode cX7_become 101 = .ok (.aload_n 0, 1) := by decide +kernel
theorem dX7_become_102 : decode cX7_become 102 = .ok (.getfield 35, 3) := by decide +kernel
theorem dX7_become_105 : decode cX7_become 105 = .ok (.iload_n 2, 1) := by decide +kernel
theorem dX7_become_106 : decode cX7_become 106 = .ok (.aload_n 1, 1) := by decide +kernel
theorem dX7_become_107 : decode cX7_become 107 = .ok (.getfield 35, 3) := by decide +kernel
theorem dX7_become_110 : decode cX7_become 110 = .ok (.iload_n 2, 1) := by decide +kernel
theorem dX7_become_111 : decode cX7_become 111 = .ok (.iaload, 1) := by decide +kernel
theorem dX7_become_112 : decode cX7_become 112 = .ok (.iastore, 1) := by decide +kernel
theorem dX7_become_113 : decode cX7_become 113 = .ok (.aload_n 0, 1) := by decide +kernel
theorem dX7_become_114 : decode cX7_become 114 = .ok (.getfield 38, 3) := by decide +kernel
theorem dX7_become_117 : decode cX7_become 117 = .ok (.iload_n 2, 1) := by decide +kernel
theorem dX7_become_118 : decode cX7_become 118 = .ok (.aload_n 1, 1) := by decide +kernel
theorem dX7_become_119 : decode cX7_become 119 = .ok (.getfield 38, 3) := by decide +kernel
theorem dX7_become_122 : decode cX7_become 122 = .ok (.iload_n 2, 1) := by decide +kernel
theorem dX7_become_123 : decode cX7_become 123 = .ok (.iaload, 1) := by decide +kernel
theorem dX7_become_124 : decode cX7_become 124 = .ok (.iastore, 1) := by decide +kernel
theorem dX7_become_125 : decode cX7_become 125 = .ok (.aload_n 0, 1) := by decide +kernel
theorem dX7_become_126 : decode cX7_become 126 = .ok (.getfield 41, 3) := by decide +kernel
theorem dX7_become_129 : decode cX7_become 129 = .ok (.iload_n 2, 1) := by decide +kernel
theorem dX7_become_130 : decode cX7_become 130 = .ok (.aload_n 1, 1) := by decide +kernel
theorem dX7_become_131 : decode cX7_become 131 = .ok (.getfield 41, 3) := by decide +kernel
theorem dX7_become_134 : decode cX7_become 134 = .ok (.iload_n 2, 1) := by decide +kernel
theorem dX7_become_135 : decode cX7_become 135 = .ok (.iaload, 1) := by decide +kernel
theorem dX7_become_136 : decode cX7_become 136 = .ok (.iastore, 1) := by decide +kernel
theorem dX7_become_137 : decode cX7_become 137 = .ok (.iinc 2 1, 3) := by decide +kernel
theorem dX7_become_140 : decode cX7_become 140 = .ok (.goto (-56), 3) := by decide +kernel
theorem dX7_become_143 : decode cX7_become 143 = .ok (.return_, 1) := by decide +kernel
theorem dX7_noteTold_0 : decode cX7_noteTold 0 = .ok (.aload_n 0, 1) := by decide +kernel
theorem dX7_noteTold_1 : decode cX7_noteTold 1 = .ok (.getfield 38, 3) := by decide +kernel
theorem dX7_noteTold_4 : decode cX7_noteTold 4 = .ok (.iload_n 1, 1) := by decide +kernel
theorem dX7_noteTold_5 : decode cX7_noteTold 5 = .ok (.dup2, 1) := by decide +kernel
theorem dX7_noteTold_6 : decode cX7_noteTold 6 = .ok (.iaload, 1) := by decide +kernel
theorem dX7_noteTold_7 : decode cX7_noteTold 7 = .ok (.iconst 1, 1) := by decide +kernel
theorem dX7_noteTold_8 : decode cX7_noteTold 8 = .ok (.iload_n 2, 1) := by decide +kernel
theorem dX7_noteTold_9 : decode cX7_noteTold 9 = .ok (.ishl, 1) := by decide +kernel
theorem dX7_noteTold_10 : decode cX7_noteTold 10 = .ok (.ior, 1) := by decide +kernel
theorem dX7_noteTold_11 : decode cX7_noteTold 11 = .ok (.iastore, 1) := by decide +kernel
theorem dX7_noteTold_12 : decode cX7_noteTold 12 = .ok (.iload_n 3, 1) := by decide +kernel
theorem dX7_noteTold_13 : decode cX7_noteTold 13 = .ok (.ifCond .eq 15, 3) := by decide +kernel
theorem dX7_noteTold_16 : decode cX7_noteTold 16 = .ok (.aload_n 0, 1) := by decide +kernel
theorem dX7_noteTold_17 : decode cX7_noteTold 17 = .ok (.getfield 41, 3) := by decide +kernel
theorem dX7_noteTold_20 : decode cX7_noteTold 20 = .ok (.iload_n 1, 1) := by decide +kernel
theorem dX7_noteTold_21 : decode cX7_noteTold 21 = .ok (.dup2, 1) := by decide +kernel
theorem dX7_noteTold_22 : decode cX7_noteTold 22 = .ok (.iaload, 1) := by decide +kernel
theorem dX7_noteTold_23 : decode cX7_noteTold 23 = .ok (.iconst 1, 1) := by decide +kernel
theorem dX7_noteTold_24 : decode cX7_noteTold 24 = .ok (.iload_n 2, 1) := by decide +kernel
theorem dX7_noteTold_25 : decode cX7_noteTold 25 = .ok (.ishl, 1) := by decide +kernel
theorem dX7_noteTold_26 : decode cX7_noteTold 26 = .ok (.ior, 1) := by decide +kernel
theorem dX7_noteTold_27 : decode cX7_noteTold 27 = .ok (.iastore, 1) := by decide +kernel
theorem dX7_noteTold_28 : decode cX7_noteTold 28 = .ok (.aload_n 0, 1) := by decide +kernel
theorem dX7_noteTold_29 : decode cX7_noteTold 29 = .ok (.dup, 1) := by decide +kernel
theorem dX7_noteTold_30 : decode cX7_noteTold 30 = .ok (.getfield 13, 3) := by decide +kernel
theorem dX7_noteTold_33 : decode cX7_noteTold 33 = .ok (.iload_n 3, 1) := by decide +kernel
theorem dX7_noteTold_34 : decode cX7_noteTold 34 = .ok (.ifCond .eq 10, 3) := by decide +kernel
theorem dX7_noteTold_37 : decode cX7_noteTold 37 = .ok (.aload_n 0, 1) := by decide +kernel
theorem dX7_noteTold_38 : decode cX7_noteTold 38 = .ok (.getfield 7, 3) := by decide +kernel
theorem dX7_noteTold_41 : decode cX7_noteTold 41 = .ok (.goto 8, 3) := by decide +kernel
theorem dX7_noteTold_44 : decode cX7_noteTold 44 = .ok (.aload_n 0, 1) := by decide +kernel
theorem dX7_noteTold_45 : decode cX7_noteTold 45 = .ok (.getfield 7, 3) := by decide +kernel
theorem dX7_noteTold_48 : decode cX7_noteTold 48 = .ok (.ineg, 1) := by decide +kernel
theorem dX7_noteTold_49 : decode cX7_noteTold 49 = .ok (.iadd, 1) := by decide +kernel
theorem dX7_noteTold_50 : decode cX7_noteTold 50 = .ok (.putfield 13, 3) := by decide +kernel
theorem dX7_noteTold_53 : decode cX7_noteTold 53 = .ok (.aload_n 0, 1) := by decide +kernel
theorem dX7_noteTold_54 : decode cX7_noteTold 54 = .ok (.getfield 32, 3) := by decide +kernel
theorem dX7_noteTold_57 : decode cX7_noteTold 57 = .ok (.iload_n 1, 1) := by decide +kernel
theorem dX7_noteTold_58 : decode cX7_noteTold 58 = .ok (.iload 4, 2) := by decide +kernel
theorem dX7_noteTold_60 : decode cX7_noteTold 60 = .ok (.iastore, 1) := by decide +kernel
theorem dX7_noteTold_61 : decode cX7_noteTold 61 = .ok (.return_, 1) := by decide +kernel
theorem dX7_noteSupper_0 : decode cX7_noteSupper 0 = .ok (.aload_n 0, 1) := by decide +kernel
theorem dX7_noteSupper_1 : decode cX7_noteSupper 1 = .ok (.dup, 1) := by decide +kernel
theorem dX7_noteSupper_2 : decode cX7_noteSupper 2 = .ok (.getfield 13, 3) := by decide +kernel
theorem dX7_noteSupper_5 : decode cX7_noteSupper 5 = .ok (.iconst 1, 1) := by decide +kernel
theorem dX7_noteSupper_6 : decode cX7_noteSupper 6 = .ok (.isub, 1) := by decide +kernel
theorem dX7_noteSupper_7 : decode cX7_noteSupper 7 = .ok (.putfield 13, 3) := by decide +kernel
theorem dX7_noteSupper_10 : decode cX7_noteSupper 10 = .ok (.aload_n 0, 1) := by decide +kernel
theorem dX7_noteSupper_11 : decode cX7_noteSupper 11 = .ok (.getfield 32, 3) := by decide +kernel
theorem dX7_noteSupper_14 : decode cX7_noteSupper 14 = .ok (.iload_n 1, 1) := by decide +kernel
theorem dX7_noteSupper_15 : decode cX7_noteSupper 15 = .ok (.iload_n 2, 1) := by decide +kernel
theorem dX7_noteSupper_16 : decode cX7_noteSupper 16 = .ok (.iastore, 1) := by decide +kernel
theorem dX7_noteSupper_17 : decode cX7_noteSupper 17 = .ok (.return_, 1) := by decide +kernel
theorem dX7_noteForgotten_0 : decode cX7_noteForgotten 0 = .ok (.aload_n 0, 1) := by decide +kernel
theorem dX7_noteForgotten_1 : decode cX7_noteForgotten 1 = .ok (.getfield 38, 3) := by decide +kernel
theorem dX7_noteForgotten_4 : decode cX7_noteForgotten 4 = .ok (.iload_n 1, 1) := by decide +kernel
theorem dX7_noteForgotten_5 : decode cX7_noteForgotten 5 = .ok (.dup2, 1) := by decide +kernel
theorem dX7_noteForgotten_6 : decode cX7_noteForgotten 6 = .ok (.iaload, 1) := by decide +kernel
theorem dX7_noteForgotten_7 : decode cX7_noteForgotten 7 = .ok (.iconst 1, 1) := by decide +kernel
theorem dX7_noteForgotten_8 : decode cX7_noteForgotten 8 = .ok (.iload_n 2, 1) := by decide +kernel
theorem dX7_noteForgotten_9 : decode cX7_noteForgotten 9 = .ok (.ishl, 1) := by decide +kernel
theorem dX7_noteForgotten_10 : decode cX7_noteForgotten 10 = .ok (.iconst (-1), 1) := by decide +kernel
theorem dX7_noteForgotten_11 : decode cX7_noteForgotten 11 = .ok (.ixor, 1) := by decide +kernel
theorem dX7_noteForgotten_12 : decode cX7_noteForgotten 12 = .ok (.iand, 1) := by decide +kernel
theorem dX7_noteForgotten_13 : decode cX7_noteForgotten 13 = .ok (.iastore, 1) := by decide +kernel
theorem dX7_noteForgotten_14 : decode cX7_noteForgotten 14 = .ok (.aload_n 0, 1) := by decide +kernel
theorem dX7_noteForgotten_15 : decode cX7_noteForgotten 15 = .ok (.getfield 41, 3) := by decide +kernel
theorem dX7_noteForgotten_18 : decode cX7_noteForgotten 18 = .ok (.iload_n 1, 1) := by decide +kernel
theorem dX7_noteForgotten_19 : decode cX7_noteForgotten 19 = .ok (.dup2, 1) := by decide +kernel
theorem dX7_noteForgotten_20 : decode cX7_noteForgotten 20 = .ok (.iaload, 1) := by decide +kernel
theorem dX7_noteForgotten_21 : decode cX7_noteForgotten 21 = .ok (.iconst 1, 1) := by decide +kernel
theorem dX7_noteForgotten_22 : decode cX7_noteForgotten 22 = .ok (.iload_n 2, 1) := by decide +kernel
theorem dX7_noteForgotten_23 : decode cX7_noteForgotten 23 = .ok (.ishl, 1) := by decide +kernel
theorem dX7_noteForgotten_24 : decode cX7_noteForgotten 24 = .ok (.iconst (-1), 1) := by decide +kernel
theorem dX7_noteForgotten_25 : decode cX7_noteForgotten 25 = .ok (.ixor, 1) := by decide +kernel
theorem dX7_noteForgotten_26 : decode cX7_noteForgotten 26 = .ok (.iand, 1) := by decide +kernel
theorem dX7_noteForgotten_27 : decode cX7_noteForgotten 27 = .ok (.iastore, 1) := by decide +kernel
theorem dX7_noteForgotten_28 : decode cX7_noteForgotten 28 = .ok (.return_, 1) := by decide +kernel
theorem dX8_init_0 : decode cX8_init 0 = .ok (.aload_n 0, 1) := by decide +kernel
theorem dX8_init_1 : decode cX8_init 1 = .ok (.invokespecial 1, 3) := by decide +kernel
theorem dX8_init_4 : decode cX8_init 4 = .ok (.aload_n 0, 1) := by decide +kernel
theorem dX8_init_5 : decode cX8_init 5 = .ok (.new 7, 3) := by decide +kernel
theorem dX8_init_8 : decode cX8_init 8 = .ok (.dup, 1) := by decide +kernel
theorem dX8_init_9 : decode cX8_init 9 = .ok (.invokespecial 9, 3) := by decide +kernel
theorem dX8_init_12 : decode cX8_init 12 = .ok (.putfield 10, 3) := by decide +kernel
theorem dX8_init_15 : decode cX8_init 15 = .ok (.aload_n 0, 1) := by decide +kernel
theorem dX8_init_16 : decode cX8_init 16 = .ok (.new 16, 3) := by decide +kernel
theorem dX8_init_19 : decode cX8_init 19 = .ok (.dup, 1) := by decide +kernel
theorem dX8_init_20 : decode cX8_init 20 = .ok (.invokespecial 18, 3) := by decide +kernel
theorem dX8_init_23 : decode cX8_init 23 = .ok (.putfield 19, 3) := by decide +kernel
theorem dX8_init_26 : decode cX8_init 26 = .ok (.aload_n 0, 1) := by decide +kernel
theorem dX8_init_27 : decode cX8_init 27 = .ok (.new 23, 3) := by decide +kernel
theorem dX8_init_30 : decode cX8_init 30 = .ok (.dup, 1) := by decide +kernel
theorem dX8_init_31 : decode cX8_init 31 = .ok (.invokespecial 25, 3) := by decide +kernel
theorem dX8_init_34 : decode cX8_init 34 = .ok (.putfield 26, 3) := by decide +kernel
theorem dX8_init_37 : decode cX8_init 37 = .ok (.aload_n 0, 1) := by decide +kernel
theorem dX8_init_38 : decode cX8_init 38 = .ok (.new 23, 3) := by decide +kernel
theorem dX8_init_41 : decode cX8_init 41 = .ok (.dup, 1) := by decide +kernel
theorem dX8_init_42 : decode cX8_init 42 = .ok (.invokespecial 25, 3) := by decide +kernel
theorem dX8_init_45 : decode cX8_init 45 = .ok (.putfield 30, 3) := by decide +kernel
theorem dX8_init_48 : decode cX8_init 48 = .ok (.aload_n 0, 1) := by decide +kernel
theorem dX8_init_49 : decode cX8_init 49 = .ok (.iconst 2, 1) := by decide +kernel
theorem dX8_init_50 : decode cX8_init 50 = .ok (.anewarray 23, 3) := by decide +kernel
theorem dX8_init_53 : decode cX8_init 53 = .ok (.putfield 33, 3) := by decide +kernel
theorem dX8_init_56 : decode cX8_init 56 = .ok (.aload_n 0, 1) := by decide +kernel
theorem dX8_init_57 : decode cX8_init 57 = .ok (.new 37, 3) := by decide +kernel
theorem dX8_init_60 : decode cX8_init 60 = .ok (.dup, 1) := by decide +kernel
theorem dX8_init_61 : decode cX8_init 61 = .ok (.invokespecial 39, 3) := by decide +kernel
theorem dX8_init_64 : decode cX8_init 64 = .ok (.putfield 40, 3) := by decide +kernel
theorem dX8_init_67 : decode cX8_init 67 = .ok (.aload_n 0, 1) := by decide +kernel
theorem dX8_init_68 : decode cX8_init 68 = .ok (.new 44, 3) := by decide +kernel
theorem dX8_init_71 : decode cX8_init 71 = .ok (.dup, 1) := by decide +kernel
theorem dX8_init_72 : decode cX8_init 72 = .ok (.aload_n 0, 1) := by decide +kernel
theorem dX8_init_73 : decode cX8_init 73 = .ok (.getfield 26, 3) := by decide +kernel
theorem dX8_init_76 : decode cX8_init 76 = .ok (.invokespecial 46, 3) := by decide +kernel
theorem dX8_init_79 : decode cX8_init 79 = .ok (.putfield 49, 3) := by decide +kernel
theorem dX8_init_82 : decode cX8_init 82 = .ok (.aload_n 0, 1) := by decide +kernel
theorem dX8_init_83 : decode cX8_init 83 = .ok (.new 53, 3) := by decide +kernel
theorem dX8_init_86 : decode cX8_init 86 = .ok (.dup, 1) := by decide +kernel
theorem dX8_init_87 : decode cX8_init 87 = .ok (.aload_n 0, 1) := by decide +kernel
theorem dX8_init_88 : decode cX8_init 88 = .ok (.getfield 26, 3) := by decide +kernel
theorem dX8_init_91 : decode cX8_init 91 = .ok (.invokespecial 55, 3) := by decide +kernel
theorem dX8_init_94 : decode cX8_init 94 = .ok (.putfield 56, 3) := by decide +kernel
theorem dX8_init_97 : decode cX8_init 97 = .ok (.aload_n 0, 1) := by decide +kernel
theorem dX8_init_98 : decode cX8_init 98 = .ok (.iconst 0, 1) := by decide +kernel
theorem dX8_init_99 : decode cX8_init 99 = .ok (.putfield 60, 3) := by decide +kernel
theorem dX8_init_102 : decode cX8_init 102 = .ok (.iconst 0, 1) := by decide +kernel
theorem dX8_init_103 : decode cX8_init 103 = .ok (.istore_n 1, 1) := by decide +kernel
theorem dX8_init_104 : decode cX8_init 104 = .ok (.iload_n 1, 1) := by decide +kernel
theorem dX8_init_105 : decode cX8_init 105 = .ok (.iconst 2, 1) := by decide +kernel
theorem dX8_init_106 : decode cX8_init 106 = .ok (.if_icmp .ge 22, 3) := by decide +kernel
theorem dX8_init_109 : decode cX8_init 109 = .ok (.aload_n 0, 1) := by decide +kernel
theorem dX8_init_110 : decode cX8_init 110 = .ok (.getfield 33, 3) := by decide +kernel
theorem dX8_init_113 : decode cX8_init 113 = .ok (.iload_n 1, 1) := by decide +kernel
theorem dX8_init_114 : decode cX8_init 114 = .ok (.new 23, 3) := by decide +kernel
theorem dX8_init_117 : decode cX8_init 117 = .ok (.dup, 1) := by decide +kernel
theorem dX8_init_118 : decode cX8_init 118 = .ok (.invokespecial 25, 3) := by decide +kernel
theorem dX8_init_121 : decode cX8_init 121 = .ok (.aastore, 1) := by decide +kernel
theorem dX8_init_122 : decode cX8_init 122 = .ok (.iinc 1 1, 3) := by decide +kernel
theorem dX8_init_125 : decode cX8_init 125 = .ok (.goto (-21), 3) := by decide +kernel
theorem dX8_init_128 : decode cX8_init 128 = .ok (.return_, 1) := by decide +kernel
theorem dX8_row_0 : decode cX8_row 0 = .ok (.iload_n 1, 1) := by decide +kernel
theorem dX8_row_1 : decode cX8_row 1 = .ok (.invokestatic 64, 3) := by decide +kernel
theorem dX8_row_4 : decode cX8_row 4 = .ok (.ifCond .eq 16, 3) := by decide +kernel
theorem dX8_row_7 : decode cX8_row 7 = .ok (.iload_n 2, 1) := by decide +kernel
theorem dX8_row_8 : decode cX8_row 8 = .ok (.invokestatic 68, 3) := by decide +kernel
theorem dX8_row_11 : decode cX8_row 11 = .ok (.ifCond .eq 9, 3) := by decide +kernel
theorem dX8_row_14 : decode cX8_row 14 = .ok (.iload_n 3, 1) := by decide +kernel
theorem dX8_row_15 : decode cX8_row 15 = .ok (.bipush 40, 2) := by decide +kernel
theorem dX8_row_17 : decode cX8_row 17 = .ok (.if_icmp .le 6, 3) := by decide +kernel
theorem dX8_row_20 : decode cX8_row 20 = .ok (.ldc 71, 2) := by decide +kernel
theorem dX8_row_22 : decode cX8_row 22 = .ok (.ireturn, 1) := by decide +kernel
theorem dX8_row_23 : decode cX8_row 23 = .ok (.iload_n 3, 1) := by decide +kernel
theorem dX8_row_24 : decode cX8_row 24 = .ok (.ifCond .ge 9, 3) := by decide +kernel
theorem dX8_row_27 : decode cX8_row 27 = .ok (.aload_n 0, 1) := by decide +kernel
theorem dX8_row_28 : decode cX8_row 28 = .ok (.iconst 4, 1) := by decide +kernel
theorem dX8_row_29 : decode cX8_row 29 = .ok (.invokevirtual 72, 3) := by decide +kernel
theorem dX8_row_32 : decode cX8_row 32 = .ok (.ireturn, 1) := by decide +kernel
theorem dX8_row_33 : decode cX8_row 33 = .ok (.aload_n 0, 1) := by decide +kernel
theorem dX8_row_34 : decode cX8_row 34 = .ok (.getfield 10, 3) := by decide +kernel
theorem dX8_row_37 : decode cX8_row 37 = .ok (.iload_n 1, 1) := by decide +kernel
theorem dX8_row_38 : decode cX8_row 38 = .ok (.iload_n 2, 1) := by decide +kernel
theorem dX8_row_39 : decode cX8_row 39 = .ok (.iload_n 3, 1) := by decide +kernel
theorem dX8_row_40 : decode cX8_row 40 = .ok (.invokevirtual 76, 3) := by decide +kernel
theorem dX8_row_43 : decode cX8_row 43 = .ok (.aload_n 0, 1) := by decide +kernel
theorem dX8_row_44 : decode cX8_row 44 = .ok (.iload_n 3, 1) := by decide +kernel
theorem dX8_row_45 : decode cX8_row 45 = .ok (.invokevirtual 80, 3) := by decide +kernel
theorem dX8_row_48 : decode cX8_row 48 = .ok (.ireturn, 1) := by decide +kernel
theorem dX8_set_0 : decode cX8_set 0 = .ok (.iload_n 1, 1) := by decide +kernel
theorem dX8_set_1 : decode cX8_set 1 = .ok (.invokestatic 64, 3) := by decide +kernel
theorem dX8_set_4 : decode cX8_set 4 = .ok (.ifCond .ne 6, 3) := by decide +kernel
theorem dX8_set_7 : decode cX8_set 7 = .ok (.ldc 71, 2) := by decide +kernel
theorem dX8_set_9 : decode cX8_set 9 = .ok (.ireturn, 1) := by decide +kernel
theorem dX8_set_10 : decode cX8_set 10 = .ok (.aload_n 0, 1) := by decide +kernel
theorem dX8_set_11 : decode cX8_set 11 = .ok (.getfield 10, 3) := by decide +kernel
theorem dX8_set_14 : decode cX8_set 14 = .ok (.iload_n 1, 1) := by decide +kernel
theorem dX8_set_15 : decode cX8_set 15 = .ok (.invokevirtual 83, 3) := by decide +kernel
theorem dX8_set_18 : decode cX8_set 18 = .ok (.ifCond .eq 9, 3) := by decide +kernel
theorem dX8_set_21 : decode cX8_set 21 = .ok (.aload_n 0, 1) := by decide +kernel
theorem dX8_set_22 : decode cX8_set 22 = .ok (.iconst 1, 1) := by decide +kernel
theorem dX8_set_23 : decode cX8_set 23 = .ok (.invokevirtual 72, 3) := by decide +kernel
theorem dX8_set_26 : decode cX8_set 26 = .ok (.ireturn, 1) := by decide +kernel
theorem dX8_set_27 : decode cX8_set 27 = .ok (.aload_n 0, 1) := by decide +kernel
theorem dX8_set_28 : decode cX8_set 28 = .ok (.getfield 10, 3) := by decide +kernel
theorem dX8_set_31 : decode cX8_set 31 = .ok (.iload_n 1, 1) := by decide +kernel
theorem dX8_set_32 : decode cX8_set 32 = .ok (.iload_n 2, 1) := by decide +kernel
theorem dX8_set_33 : decode cX8_set 33 = .ok (.iconst 1, 1) := by decide +kernel
theorem dX8_set_34 : decode cX8_set 34 = .ok (.invokevirtual 86, 3) := by decide +kernel
theorem dX8_set_37 : decode cX8_set 37 = .ok (.ifCond .ne 9, 3) := by decide +kernel
theorem dX8_set_40 : decode cX8_set 40 = .ok (.aload_n 0, 1) := by decide +kernel
theorem dX8_set_41 : decode cX8_set 41 = .ok (.iconst 2, 1) := by decide +kernel
theorem dX8_set_42 : decode cX8_set 42 = .ok (.invokevirtual 72, 3) := by decide +kernel
theorem dX8_set_45 : decode cX8_set 45 = .ok (.ireturn, 1) := by decide +kernel
theorem dX8_set_46 : decode cX8_set 46 = .ok (.aload_n 0, 1) := by decide +kernel
theorem dX8_set_47 : decode cX8_set 47 = .ok (.aload_n 0, 1) := by decide +kernel
theorem dX8_set_48 : decode cX8_set 48 = .ok (.getfield 10, 3) := by decide +kernel
theorem dX8_set_51 : decode cX8_set 51 = .ok (.iload_n 1, 1) := by decide +kernel
theorem dX8_set_52 : decode cX8_set 52 = .ok (.iload_n 2, 1) := by decide +kernel
theorem dX8_set_53 : decode cX8_set 53 = .ok (.iload_n 3, 1) := by decide +kernel
theorem dX8_set_54 : decode cX8_set 54 = .ok (.invokevirtual 90, 3) := by decide +kernel
theorem dX8_set_57 : decode cX8_set 57 = .ok (.invokevirtual 80, 3) := by decide +kernel
theorem dX8_set_60 : decode cX8_set 60 = .ok (.ireturn, 1) := by decide +kernel
theorem dX8_copy_0 : decode cX8_copy 0 = .ok (.iload_n 1, 1) := by decide +kernel
theorem dX8_copy_1 : decode cX8_copy 1 = .ok (.invokestatic 64, 3) := by decide +kernel
theorem dX8_copy_4 : decode cX8_copy 4 = .ok (.ifCond .eq 10, 3) := by decide +kernel
theorem dX8_copy_7 : decode cX8_copy 7 = .ok (.iload_n 3, 1) := by decide +kernel
theorem dX8_copy_8 : decode cX8_copy 8 = .ok (.invokestatic 64, 3) := by decide +kernel
theorem dX8_copy_11 : decode cX8_copy 11 = .ok (.ifCond .ne 6, 3) := by decide +kernel
theorem dX8_copy_14 : decode cX8_copy 14 = .ok (.ldc 71, 2) := by decide +kernel
theorem dX8_copy_16 : decode cX8_copy 16 = .ok (.ireturn, 1) := by decide +kernel
theorem dX8_copy_17 : decode cX8_copy 17 = .ok (.aload_n 0, 1) := by decide +kernel
theorem dX8_copy_18 : decode cX8_copy 18 = .ok (.getfield 10, 3) := by decide +kernel
theorem dX8_copy_21 : decode cX8_copy 21 = .ok (.iload_n 1, 1) := by decide +kernel
theorem dX8_copy_22 : decode cX8_copy 22 = .ok (.invokevirtual 83, 3) := by decide +kernel
theorem dX8_copy_25 : decode cX8_copy 25 = .ok (.ifCond .ne 14, 3) := by decide +kernel
theorem dX8_copy_28 : decode cX8_copy 28 = .ok (.aload_n 0, 1) := by decide +kernel
theorem dX8_copy_29 : decode cX8_copy 29 = .ok (.getfield 10, 3) := by decide +kernel
theorem dX8_copy_32 : decode cX8_copy 32 = .ok (.iload_n 3, 1) := by decide +kernel
theorem dX8_copy_33 : decode cX8_copy 33 = .ok (.invokevirtual 83, 3) := by decide +kernel
theorem dX8_copy_36 : decode cX8_copy 36 = .ok (.ifCond .eq 9, 3) := by decide +kernel
theorem dX8_copy_39 : decode cX8_copy 39 = .ok (.aload_n 0, 1) := by decide +kernel
theorem dX8_copy_40 : decode cX8_copy 40 = .ok (.iconst 1, 1) := by decide +kernel
theorem dX8_copy_41 : decode cX8_copy 41 = .ok (.invokevirtual 72, 3) := by decide +kernel
theorem dX8_copy_44 : decode cX8_copy 44 = .ok (.ireturn, 1) := by decide +kernel
theorem dX8_copy_45 : decode cX8_copy 45 = .ok (.aload_n 0, 1) := by decide +kernel
theorem dX8_copy_46 : decode cX8_copy 46 = .ok (.getfield 10, 3) := by decide +kernel
theorem dX8_copy_49 : decode cX8_copy 49 = .ok (.iload_n 1, 1) := by decide +kernel
theorem dX8_copy_50 : decode cX8_copy 50 = .ok (.invokevirtual 94, 3) := by decide +kernel
theorem dX8_copy_53 : decode cX8_copy 53 = .ok (.aload_n 0, 1) := by decide +kernel
theorem dX8_copy_54 : decode cX8_copy 54 = .ok (.getfield 10, 3) := by decide +kernel
theorem dX8_copy_57 : decode cX8_copy 57 = .ok (.iload_n 3, 1) := by decide +kernel
theorem dX8_copy_58 : decode cX8_copy 58 = .ok (.invokevirtual 94, 3) := by decide +kernel
theorem dX8_copy_61 : decode cX8_copy 61 = .ok (.if_icmp .eq 9, 3) := by decide +kernel
theorem dX8_copy_64 : decode cX8_copy 64 = .ok (.aload_n 0, 1) := by decide +kernel
theorem dX8_copy_65 : decode cX8_copy 65 = .ok (.iconst 5, 1) := by decide +kernel
theorem dX8_copy_66 : decode cX8_copy 66 = .ok (.invokevirtual 72, 3) := by decide +kernel
theorem dX8_copy_69 : decode cX8_copy 69 = .ok (.ireturn, 1) := by decide +kernel
theorem dX8_copy_70 : decode cX8_copy 70 = .ok (.aload_n 0, 1) := by decide +kernel
theorem dX8_copy_71 : decode cX8_copy 71 = .ok (.getfield 10, 3) := by decide +kernel
theorem dX8_copy_74 : decode cX8_copy 74 = .ok (.iload_n 1, 1) := by decide +kernel
theorem dX8_copy_75 : decode cX8_copy 75 = .ok (.iload_n 2, 1) := by decide +kernel
theorem dX8_copy_76 : decode cX8_copy 76 = .ok (.iload 5, 2) := by decide +kernel
theorem dX8_copy_78 : decode cX8_copy 78 = .ok (.invokevirtual 86, 3) := by decide +kernel
theorem dX8_copy_81 : decode cX8_copy 81 = .ok (.ifCond .eq 18, 3) := by decide +kernel
theorem dX8_copy_84 : decode cX8_copy 84 = .ok (.aload_n 0, 1) := by decide +kernel
theorem dX8_copy_85 : decode cX8_copy 85 = .ok (.getfield 10, 3) := by decide +kernel
theorem dX8_copy_88 : decode cX8_copy 88 = .ok (.iload_n 3, 1) := by decide +kernel
theorem dX8_copy_89 : decode cX8_copy 89 = .ok (.iload 4, 2) := by decide +kernel
theorem dX8_copy_91 : decode cX8_copy 91 = .ok (.iload 5, 2) := by decide +kernel
theorem dX8_copy_93 : decode cX8_copy 93 = .ok (.invokevirtual 86, 3) := by decide +kernel
theorem dX8_copy_96 : decode cX8_copy 96 = .ok (.ifCond .ne 9, 3) := by decide +kernel
theorem dX8_copy_99 : decode cX8_copy 99 = .ok (.aload_n 0, 1) := by decide +kernel
theorem dX8_copy_100 : decode cX8_copy 100 = .ok (.iconst 2, 1) := by decide +kernel
theorem dX8_copy_101 : decode cX8_copy 101 = .ok (.invokevirtual 72, 3) := by decide +kernel
theorem dX8_copy_104 : decode cX8_copy 104 = .ok (.ireturn, 1) := by decide +kernel
theorem dX8_copy_105 : decode cX8_copy 105 = .ok (.aload_n 0, 1) := by decide +kernel
theorem dX8_copy_106 : decode cX8_copy 106 = .ok (.getfield 10, 3) := by decide +kernel
theorem dX8_copy_109 : decode cX8_copy 109 = .ok (.iload_n 1, 1) := by decide +kernel
theorem dX8_copy_110 : decode cX8_copy 110 = .ok (.iload_n 2, 1) := by decide +kernel
theorem dX8_copy_111 : decode cX8_copy 111 = .ok (.iload_n 3, 1) := by decide +kernel
theorem dX8_copy_112 : decode cX8_copy 112 = .ok (.iload 4, 2) := by decide +kernel
theorem dX8_copy_114 : decode cX8_copy 114 = .ok (.iload 5, 2) := by decide +kernel
theorem dX8_copy_116 : decode cX8_copy 116 = .ok (.invokevirtual 97, 3) := by decide +kernel
theorem dX8_copy_119 : decode cX8_copy 119 = .ok (.aload_n 0, 1) := by decide +kernel
theorem dX8_copy_120 : decode cX8_copy 120 = .ok (.iload 5, 2) := by decide +kernel
theorem dX8_copy_122 : decode cX8_copy 122 = .ok (.invokevirtual 80, 3) := by decide +kernel
theorem dX8_copy_125 : decode cX8_copy 125 = .ok (.ireturn, 1) := by decide +kernel
theorem dX8_drop_0 : decode cX8_drop 0 = .ok (.iload_n 1, 1) := by decide +kernel
theorem dX8_drop_1 : decode cX8_drop 1 = .ok (.invokestatic 64, 3) := by decide +kernel
theorem dX8_drop_4 : decode cX8_drop 4 = .ok (.ifCond .ne 6, 3) := by decide +kernel
theorem dX8_drop_7 : decode cX8_drop 7 = .ok (.ldc 71, 2) := by decide +kernel
theorem dX8_drop_9 : decode cX8_drop 9 = .ok (.ireturn, 1) := by decide +kernel
theorem dX8_drop_10 : decode cX8_drop 10 = .ok (.aload_n 0, 1) := by decide +kernel
theorem dX8_drop_11 : decode cX8_drop 11 = .ok (.getfield 10, 3) := by decide +kernel
theorem dX8_drop_14 : decode cX8_drop 14 = .ok (.iload_n 1, 1) := by decide +kernel
theorem dX8_drop_15 : decode cX8_drop 15 = .ok (.invokevirtual 83, 3) := by decide +kernel
theorem dX8_drop_18 : decode cX8_drop 18 = .ok (.ifCond .eq 9, 3) := by decide +kernel
theorem dX8_drop_21 : decode cX8_drop 21 = .ok (.aload_n 0, 1) := by decide +kernel
theorem dX8_drop_22 : decode cX8_drop 22 = .ok (.iconst 1, 1) := by decide +kernel
theorem dX8_drop_23 : decode cX8_drop 23 = .ok (.invokevirtual 72, 3) := by decide +kernel
theorem dX8_drop_26 : decode cX8_drop 26 = .ok (.ireturn, 1) := by decide +kernel
theorem dX8_drop_27 : decode cX8_drop 27 = .ok (.aload_n 0, 1) := by decide +kernel
theorem dX8_drop_28 : decode cX8_drop 28 = .ok (.aload_n 0, 1) := by decide +kernel
theorem dX8_drop_29 : decode cX8_drop 29 = .ok (.getfield 10, 3) := by decide +kernel
theorem dX8_drop_32 : decode cX8_drop 32 = .ok (.iload_n 1, 1) := by decide +kernel
theorem dX8_drop_33 : decode cX8_drop 33 = .ok (.invokevirtual 101, 3) := by decide +kernel
theorem dX8_drop_36 : decode cX8_drop 36 = .ok (.invokevirtual 80, 3) := by decide +kernel
theorem dX8_drop_39 : decode cX8_drop 39 = .ok (.ireturn, 1) := by decide +kernel
theorem dX8_feed_0 : decode cX8_feed 0 = .ok (.iload_n 1, 1) := by decide +kernel
theorem dX8_feed_1 : decode cX8_feed 1 = .ok (.ifCond .lt 10, 3) := by decide +kernel
theorem dX8_feed_4 : decode cX8_feed 4 = .ok (.iload_n 1, 1) := by decide +kernel
theorem dX8_feed_5 : decode cX8_feed 5 = .ok (.sipush 255, 3) := by decide +kernel
theorem dX8_feed_8 : decode cX8_feed 8 = .ok (.if_icmp .le 6, 3) := by decide +kernel
theorem dX8_feed_11 : decode cX8_feed 11 = .ok (.ldc 71, 2) := by decide +kernel
theorem dX8_feed_13 : decode cX8_feed 13 = .ok (.ireturn, 1) := by decide +kernel
theorem dX8_feed_14 : decode cX8_feed 14 = .ok (.aload_n 0, 1) := by decide +kernel
theorem dX8_feed_15 : decode cX8_feed 15 = .ok (.getfield 19, 3) := by decide +kernel
theorem dX8_feed_18 : decode cX8_feed 18 = .ok (.invokevirtual 104, 3) := by decide +kernel
theorem dX8_feed_21 : decode cX8_feed 21 = .ok (.ifCond .eq 6, 3) := by decide +kernel
theorem dX8_feed_24 : decode cX8_feed 24 = .ok (.ldc 108, 2) := by decide +kernel
theorem dX8_feed_26 : decode cX8_feed 26 = .ok (.ireturn, 1) := by decide +kernel
theorem dX8_feed_27 : decode cX8_feed 27 = .ok (.aload_n 0, 1) := by decide +kernel
theorem dX8_feed_28 : decode cX8_feed 28 = .ok (.getfield 19, 3) := by decide +kernel
theorem dX8_feed_31 : decode cX8_feed 31 = .ok (.iload_n 1, 1) := by decide +kernel
theorem dX8_feed_32 : decode cX8_feed 32 = .ok (.invokevirtual 109, 3) := by decide +kernel
theorem dX8_feed_35 : decode cX8_feed 35 = .ok (.ireturn, 1) := by decide +kernel
theorem dX8_town_0 : decode cX8_town 0 = .ok (.aload_n 0, 1) := by decide +kernel
theorem dX8_town_1 : decode cX8_town 1 = .ok (.getfield 19, 3) := by decide +kernel
theorem dX8_town_4 : decode cX8_town 4 = .ok (.aload_n 0, 1) := by decide +kernel
theorem dX8_town_5 : decode cX8_town 5 = .ok (.getfield 30, 3) := by decide +kernel
theorem dX8_town_8 : decode cX8_town 8 = .ok (.invokevirtual 112, 3) := by decide +kernel
theorem dX8_town_11 : decode cX8_town 11 = .ok (.ifCond .ne 14, 3) := by decide +kernel
theorem dX8_town_14 : decode cX8_town 14 = .ok (.ldc 116, 2) := by decide +kernel
theorem dX8_town_16 : decode cX8_town 16 = .ok (.aload_n 0, 1) := by decide +kernel
theorem dX8_town_17 : decode cX8_town 17 = .ok (.getfield 19, 3) := by decide +kernel
theorem dX8_town_20 : decode cX8_town 20 = .ok (.invokevirtual 117, 3) := by decide +kernel
theorem dX8_town_23 : decode cX8_town 23 = .ok (.isub, 1) := by decide +kernel
theorem dX8_town_24 : decode cX8_town 24 = .ok (.ireturn, 1) := by decide +kernel
theorem dX8_town_25 : decode cX8_town 25 = .ok (.aload_n 0, 1) := by decide +kernel
theorem dX8_town_26 : decode cX8_town 26 = .ok (.getfield 26, 3) := by decide +kernel
theorem dX8_town_29 : decode cX8_town 29 = .ok (.aload_n 0, 1) := by decide +kernel
theorem dX8_town_30 : decode cX8_town 30 = .ok (.getfield 30, 3) := by decide +kernel
theorem dX8_town_33 : decode cX8_town 33 = .ok (.invokevirtual 121, 3) := by decide +kernel
theorem dX8_town_36 : decode cX8_town 36 = .ok (.aload_n 0, 1) := by decide +kernel
theorem dX8_town_37 : decode cX8_town 37 = .ok (.getfield 40, 3) := by decide +kernel
theorem dX8_town_40 : decode cX8_town 40 = .ok (.invokevirtual 124, 3) := by decide +kernel
theorem dX8_town_43 : decode cX8_town 43 = .ok (.aload_n 0, 1) := by decide +kernel
theorem dX8_town_44 : decode cX8_town 44 = .ok (.getfield 26, 3) := by decide +kernel
theorem dX8_town_47 : decode cX8_town 47 = .ok (.getfield 127, 3) := by decide +kernel
theorem dX8_town_50 : decode cX8_town 50 = .ok (.ireturn, 1) := by decide +kernel
theorem dX8_fault_0 : decode cX8_fault 0 = .ok (.aload_n 0, 1) := by decide +kernel
theorem dX8_fault_1 : decode cX8_fault 1 = .ok (.getfield 19, 3) := by decide +kernel
theorem dX8_fault_4 : decode cX8_fault 4 = .ok (.invokevirtual 130, 3) := by decide +kernel
theorem dX8_fault_7 : decode cX8_fault 7 = .ok (.ireturn, 1) := by decide +kernel
theorem dX8_tell_0 : decode cX8_tell 0 = .ok (.aload_n 0, 1) := by decide +kernel
theorem dX8_tell_1 : decode cX8_tell 1 = .ok (.getfield 26, 3) := by decide +kernel
theorem dX8_tell_4 : decode cX8_tell 4 = .ok (.iload_n 1, 1) := by decide +kernel
theorem dX8_tell_5 : decode cX8_tell 5 = .ok (.invokevirtual 133, 3) := by decide +kernel
theorem dX8_tell_8 : decode cX8_tell 8 = .ok (.ifCond .eq 14, 3) := by decide +kernel
theorem dX8_tell_11 : decode cX8_tell 11 = .ok (.aload_n 0, 1) := by decide +kernel
theorem dX8_tell_12 : decode cX8_tell 12 = .ok (.getfield 26, 3) := by decide +kernel
theorem dX8_tell_15 : decode cX8_tell 15 = .ok (.iload_n 2, 1) := by decide +kernel
theorem dX8_tell_16 : decode cX8_tell 16 = .ok (.invokevirtual 136, 3) := by decide +kernel
theorem dX8_tell_19 : decode cX8_tell 19 = .ok (.ifCond .ne 6, 3) := by decide +kernel
theorem dX8_tell_22 : decode cX8_tell 22 = .ok (.ldc 71, 2) := by decide +kernel
theorem dX8_tell_24 : decode cX8_tell 24 = .ok (.ireturn, 1) := by decide +kernel
theorem dX8_tell_25 : decode cX8_tell 25 = .ok (.aload_n 0, 1) := by decide +kernel
theorem dX8_tell_26 : decode cX8_tell 26 = .ok (.getfield 26, 3) := by decide +kernel
theorem dX8_tell_29 : decode cX8_tell 29 = .ok (.iload_n 1, 1) := by decide +kernel
theorem dX8_tell_30 : decode cX8_tell 30 = .ok (.iload_n 2, 1) := by decide +kernel
theorem dX8_tell_31 : decode cX8_tell 31 = .ok (.invokevirtual 139, 3) := by decide +kernel
theorem dX8_tell_34 : decode cX8_tell 34 = .ok (.ifCond .eq 6, 3) := by decide +kernel
theorem dX8_tell_37 : decode cX8_tell 37 = .ok (.ldc 143, 2) := by decide +kernel
theorem dX8_tell_39 : decode cX8_tell 39 = .ok (.ireturn, 1) := by decide +kernel
theorem dX8_tell_40 : decode cX8_tell 40 = .ok (.aload_n 0, 1) := by decide +kernel
theorem dX8_tell_41 : decode cX8_tell 41 = .ok (.getfield 40, 3) := by decide +kernel
theorem dX8_tell_44 : decode cX8_tell 44 = .ok (.aload_n 0, 1) := by decide +kernel
theorem dX8_tell_45 : decode cX8_tell 45 = .ok (.getfield 26, 3) := by decide +kernel
theorem dX8_tell_48 : decode cX8_tell 48 = .ok (.iload_n 1, 1) := by decide +kernel
theorem dX8_tell_49 : decode cX8_tell 49 = .ok (.invokevirtual 144, 3) := by decide +kernel
theorem dX8_tell_52 : decode cX8_tell 52 = .ok (.aload_n 0, 1) := by decide +kernel
theorem dX8_tell_53 : decode cX8_tell 53 = .ok (.getfield 49, 3) := by decide +kernel
theorem dX8_tell_56 : decode cX8_tell 56 = .ok (.iload_n 1, 1) := by decide +kernel
theorem dX8_tell_57 : decode cX8_tell 57 = .ok (.invokevirtual 148, 3) := by decide +kernel
theorem dX8_tell_60 : decode cX8_tell 60 = .ok (.astore_n 3, 1) := by decide +kernel
theorem dX8_tell_61 : decode cX8_tell 61 = .ok (.aload_n 3, 1) := by decide +kernel
theorem dX8_tell_62 : decode cX8_tell 62 = .ok (.aload_n 0, 1) := by decide +kernel
theorem dX8_tell_63 : decode cX8_tell 63 = .ok (.getfield 26, 3) := by decide +kernel
theorem dX8_tell_66 : decode cX8_tell 66 = .ok (.iload_n 2, 1) := by decide +kernel
theorem dX8_tell_67 : decode cX8_tell 67 = .ok (.invokevirtual 152, 3) := by decide +kernel
theorem dX8_tell_70 : decode cX8_tell 70 = .ok (.istore 4, 2) := by decide +kernel
theorem dX8_tell_72 : decode cX8_tell 72 = .ok (.aload_n 0, 1) := by decide +kernel
theorem dX8_tell_73 : decode cX8_tell 73 = .ok (.getfield 26, 3) := by decide +kernel
theorem dX8_tell_76 : decode cX8_tell 76 = .ok (.iload_n 1, 1) := by decide +kernel
theorem dX8_tell_77 : decode cX8_tell 77 = .ok (.iload_n 2, 1) := by decide +kernel
theorem dX8_tell_78 : decode cX8_tell 78 = .ok (.iload 4, 2) := by decide +kernel
theorem dX8_tell_80 : decode cX8_tell 80 = .ok (.aload_n 3, 1) := by decide +kernel
theorem dX8_tell_81 : decode cX8_tell 81 = .ok (.getfield 158, 3) := by decide +kernel
theorem dX8_tell_84 : decode cX8_tell 84 = .ok (.invokevirtual 161, 3) := by decide +kernel
theorem dX8_tell_87 : decode cX8_tell 87 = .ok (.iload 4, 2) := by decide +kernel
theorem dX8_tell_89 : decode cX8_tell 89 = .ok (.ifCond .eq 7, 3) := by decide +kernel
theorem dX8_tell_92 : decode cX8_tell 92 = .ok (.iconst 1, 1) := by decide +kernel
theorem dX8_tell_93 : decode cX8_tell 93 = .ok (.goto 4, 3) := by decide +kernel
theorem dX8_tell_96 : decode cX8_tell 96 = .ok (.iconst 0, 1) := by decide +kernel
theorem dX8_tell_97 : decode cX8_tell 97 = .ok (.ireturn, 1) := by decide +kernel
theorem dX8_supper_0 : decode cX8_supper 0 = .ok (.aload_n 0, 1) := by decide +kernel
theorem dX8_supper_1 : decode cX8_supper 1 = .ok (.getfield 26, 3) := by decide +kernel
theorem dX8_supper_4 : decode cX8_supper 4 = .ok (.iload_n 1, 1) := by decide +kernel
theorem dX8_supper_5 : decode cX8_supper 5 = .ok (.invokevirtual 133, 3) := by decide +kernel
theorem dX8_supper_8 : decode cX8_supper 8 = .ok (.ifCond .ne 6, 3) := by decide +kernel
theorem dX8_supper_11 : decode cX8_supper 11 = .ok (.ldc 71, 2) := by decide +kernel
theorem dX8_supper_13 : decode cX8_supper 13 = .ok (.ireturn, 1) := by decide +kernel
theorem dX8_supper_14 : decode cX8_supper 14 = .ok (.aload_n 0, 1) := by decide +kernel
theorem dX8_supper_15 : decode cX8_supper 15 = .ok (.getfield 40, 3) := by decide +kernel
theorem dX8_supper_18 : decode cX8_supper 18 = .ok (.aload_n 0, 1) := by decide +kernel
theorem dX8_supper_19 : decode cX8_supper 19 = .ok (.getfield 26, 3) := by decide +kernel
theorem dX8_supper_22 : decode cX8_supper 22 = .ok (.iload_n 1, 1) := by decide +kernel
theorem dX8_supper_23 : decode cX8_supper 23 = .ok (.invokevirtual 144, 3) := by decide +kernel
theorem dX8_supper_26 : decode cX8_supper 26 = .ok (.aload_n 0, 1) := by decide +kernel
theorem dX8_supper_27 : decode cX8_supper 27 = .ok (.getfield 49, 3) := by decide +kernel
theorem dX8_supper_30 : decode cX8_supper 30 = .ok (.iload_n 1, 1) := by decide +kernel
theorem dX8_supper_31 : decode cX8_supper 31 = .ok (.invokevirtual 148, 3) := by decide +kernel
theorem dX8_supper_34 : decode cX8_supper 34 = .ok (.astore_n 2, 1) := by decide +kernel
theorem dX8_supper_35 : decode cX8_supper 35 = .ok (.aload_n 2, 1) := by decide +kernel
theorem dX8_supper_36 : decode cX8_supper 36 = .ok (.invokevirtual 165, 3) := by decide +kernel
theorem dX8_supper_39 : decode cX8_supper 39 = .ok (.aload_n 0, 1) := by decide +kernel
theorem dX8_supper_40 : decode cX8_supper 40 = .ok (.getfield 26, 3) := by decide +kernel
theorem dX8_supper_43 : decode cX8_supper 43 = .ok (.iload_n 1, 1) := by decide +kernel
theorem dX8_supper_44 : decode cX8_supper 44 = .ok (.aload_n 2, 1) := by decide +kernel
theorem dX8_supper_45 : decode cX8_supper 45 = .ok (.getfield 158, 3) := by decide +kernel
theorem dX8_supper_48 : decode cX8_supper 48 = .ok (.invokevirtual 168, 3) := by decide +kernel
theorem dX8_supper_51 : decode cX8_supper 51 = .ok (.aload_n 2, 1) := by decide +kernel
theorem dX8_supper_52 : decode cX8_supper 52 = .ok (.getfield 158, 3) := by decide +kernel
theorem dX8_supper_55 : decode cX8_supper 55 = .ok (.ireturn, 1) := by decide +kernel
theorem dX8_forget_0 : decode cX8_forget 0 = .ok (.aload_n 0, 1) := by decide +kernel
theorem dX8_forget_1 : decode cX8_forget 1 = .ok (.getfield 26, 3) := by decide +kernel
theorem dX8_forget_4 : decode cX8_forget 4 = .ok (.iload_n 1, 1) := by decide +kernel
theorem dX8_forget_5 : decode cX8_forget 5 = .ok (.invokevirtual 133, 3) := by decide +kernel
theorem dX8_forget_8 : decode cX8_forget 8 = .ok (.ifCond .eq 14, 3) := by decide +kernel
theorem dX8_forget_11 : decode cX8_forget 11 = .ok (.aload_n 0, 1) := by decide +kernel
theorem dX8_forget_12 : decode cX8_forget 12 = .ok (.getfield 26, 3) := by decide +kernel
theorem dX8_forget_15 : decode cX8_forget 15 = .ok (.iload_n 2, 1) := by decide +kernel
theorem dX8_forget_16 : decode cX8_forget 16 = .ok (.invokevirtual 136, 3) := by decide +kernel
theorem dX8_forget_19 : decode cX8_forget 19 = .ok (.ifCond .ne 6, 3) := by decide +kernel
theorem dX8_forget_22 : decode cX8_forget 22 = .ok (.ldc 71, 2) := by decide +kernel
theorem dX8_forget_24 : decode cX8_forget 24 = .ok (.ireturn, 1) := by decide +kernel
theorem dX8_forget_25 : decode cX8_forget 25 = .ok (.aload_n 0, 1) := by decide +kernel
theorem dX8_forget_26 : decode cX8_forget 26 = .ok (.getfield 26, 3) := by decide +kernel
theorem dX8_forget_29 : decode cX8_forget 29 = .ok (.iload_n 1, 1) := by decide +kernel
theorem dX8_forget_30 : decode cX8_forget 30 = .ok (.iload_n 2, 1) := by decide +kernel
theorem dX8_forget_31 : decode cX8_forget 31 = .ok (.invokevirtual 139, 3) := by decide +kernel
theorem dX8_forget_34 : decode cX8_forget 34 = .ok (.ifCond .ne 6, 3) := by decide +kernel
theorem dX8_forget_37 : decode cX8_forget 37 = .ok (.ldc 143, 2) := by decide +kernel
theorem dX8_forget_39 : decode cX8_forget 39 = .ok (.ireturn, 1) := by decide +kernel
theorem dX8_forget_40 : decode cX8_forget 40 = .ok (.aload_n 0, 1) := by decide +kernel
theorem dX8_forget_41 : decode cX8_forget 41 = .ok (.getfield 40, 3) := by decide +kernel
theorem dX8_forget_44 : decode cX8_forget 44 = .ok (.aload_n 0, 1) := by decide +kernel
theorem dX8_forget_45 : decode cX8_forget 45 = .ok (.getfield 26, 3) := by decide +kernel
theorem dX8_forget_48 : decode cX8_forget 48 = .ok (.iload_n 1, 1) := by decide +kernel
theorem dX8_forget_49 : decode cX8_forget 49 = .ok (.invokevirtual 144, 3) := by decide +kernel
theorem dX8_forget_52 : decode cX8_forget 52 = .ok (.aload_n 0, 1) := by decide +kernel
theorem dX8_forget_53 : decode cX8_forget 53 = .ok (.getfield 26, 3) := by decide +kernel
theorem dX8_forget_56 : decode cX8_forget 56 = .ok (.iload_n 1, 1) := by decide +kernel
theorem dX8_forget_57 : decode cX8_forget 57 = .ok (.iload_n 2, 1) := by decide +kernel
theorem dX8_forget_58 : decode cX8_forget 58 = .ok (.invokevirtual 172, 3) := by decide +kernel
theorem dX8_forget_61 : decode cX8_forget 61 = .ok (.aload_n 0, 1) := by decide +kernel
theorem dX8_forget_62 : decode cX8_forget 62 = .ok (.getfield 26, 3) := by decide +kernel
theorem dX8_forget_65 : decode cX8_forget 65 = .ok (.getfield 175, 3) := by decide +kernel
theorem dX8_forget_68 : decode cX8_forget 68 = .ok (.iload_n 1, 1) := by decide +kernel
theorem dX8_forget_69 : decode cX8_forget 69 = .ok (.iaload, 1) := by decide +kernel
theorem dX8_forget_70 : decode cX8_forget 70 = .ok (.invokestatic 179, 3) := by decide +kernel
theorem dX8_forget_73 : decode cX8_forget 73 = .ok (.ireturn, 1) := by decide +kernel
theorem dX8_undo_0 : decode cX8_undo 0 = .ok (.aload_n 0, 1) := by decide +kernel
theorem dX8_undo_1 : decode cX8_undo 1 = .ok (.getfield 40, 3) := by decide +kernel
theorem dX8_undo_4 : decode cX8_undo 4 = .ok (.invokevirtual 184, 3) := by decide +kernel
theorem dX8_undo_7 : decode cX8_undo 7 = .ok (.ifCond .ne 6, 3) := by decide +kernel
theorem dX8_undo_10 : decode cX8_undo 10 = .ok (.ldc 143, 2) := by decide +kernel
theorem dX8_undo_12 : decode cX8_undo 12 = .ok (.ireturn, 1) := by decide +kernel
theorem dX8_undo_13 : decode cX8_undo 13 = .ok (.aload_n 0, 1) := by decide +kernel
theorem dX8_undo_14 : decode cX8_undo 14 = .ok (.getfield 40, 3) := by decide +kernel
theorem dX8_undo_17 : decode cX8_undo 17 = .ok (.aload_n 0, 1) := by decide +kernel
theorem dX8_undo_18 : decode cX8_undo 18 = .ok (.getfield 26, 3) := by decide +kernel
theorem dX8_undo_21 : decode cX8_undo 21 = .ok (.invokevirtual 187, 3) := by decide +kernel
theorem dX8_undo_24 : decode cX8_undo 24 = .ok (.aload_n 0, 1) := by decide +kernel
theorem dX8_undo_25 : decode cX8_undo 25 = .ok (.getfield 40, 3) := by decide +kernel
theorem dX8_undo_28 : decode cX8_undo 28 = .ok (.invokevirtual 184, 3) := by decide +kernel
theorem dX8_undo_31 : decode cX8_undo 31 = .ok (.ireturn, 1) := by decide +kernel
theorem dX8_lie_0 : decode cX8_lie 0 = .ok (.aload_n 0, 1) := by decide +kernel
theorem dX8_lie_1 : decode cX8_lie 1 = .ok (.getfield 26, 3) := by decide +kernel
theorem dX8_lie_4 : decode cX8_lie 4 = .ok (.iload_n 1, 1) := by decide +kernel
theorem dX8_lie_5 : decode cX8_lie 5 = .ok (.invokevirtual 136, 3) := by decide +kernel
theorem dX8_lie_8 : decode cX8_lie 8 = .ok (.ifCond .ne 6, 3) := by decide +kernel
theorem dX8_lie_11 : decode cX8_lie 11 = .ok (.ldc 71, 2) := by decide +kernel
theorem dX8_lie_13 : decode cX8_lie 13 = .ok (.ireturn, 1) := by decide +kernel
theorem dX8_lie_14 : decode cX8_lie 14 = .ok (.iload_n 2, 1) := by decide +kernel
theorem dX8_lie_15 : decode cX8_lie 15 = .ok (.tableswitch 81 0 3 #[29, 39, 49, 65], 29) := by decide +kernel
theorem dX8_lie_44 : decode cX8_lie 44 = .ok (.aload_n 0, 1) := by decide +kernel
theorem dX8_lie_45 : decode cX8_lie 45 = .ok (.getfield 26, 3) := by decide +kernel
theorem dX8_lie_48 : decode cX8_lie 48 = .ok (.getfield 190, 3) := by decide +kernel
theorem dX8_lie_51 : decode cX8_lie 51 = .ok (.iload_n 1, 1) := by decide +kernel
theorem dX8_lie_52 : decode cX8_lie 52 = .ok (.iaload, 1) := by decide +kernel
theorem dX8_lie_53 : decode cX8_lie 53 = .ok (.ireturn, 1) := by decide +kernel
theorem dX8_lie_54 : decode cX8_lie 54 = .ok (.aload_n 0, 1) := by decide +kernel
theorem dX8_lie_55 : decode cX8_lie 55 = .ok (.getfield 26, 3) := by decide +kernel
theorem dX8_lie_58 : decode cX8_lie 58 = .ok (.getfield 193, 3) := by decide +kernel
theorem dX8_lie_61 : decode cX8_lie 61 = .ok (.iload_n 1, 1) := by decide +kernel
theorem dX8_lie_62 : decode cX8_lie 62 = .ok (.iaload, 1) := by decide +kernel
theorem dX8_lie_63 : decode cX8_lie 63 = .ok (.ireturn, 1) := by decide +kernel
theorem dX8_lie_64 : decode cX8_lie 64 = .ok (.aload_n 0, 1) := by decide +kernel
theorem dX8_lie_65 : decode cX8_lie 65 = .ok (.getfield 26, 3) := by decide +kernel
theorem dX8_lie_68 : decode cX8_lie 68 = .ok (.aload_n 0, 1) := by decide +kernel
theorem dX8_lie_69 : decode cX8_lie 69 = .ok (.getfield 26, 3) := by decide +kernel
theorem dX8_lie_72 : decode cX8_lie 72 = .ok (.getfield 175, 3) := by decide +kernel
theorem dX8_lie_75 : decode cX8_lie 75 = .ok (.iload_n 1, 1) := by decide +kernel
theorem dX8_lie_76 : decode cX8_lie 76 = .ok (.invokevirtual 196, 3) := by decide +kernel
theorem dX8_lie_79 : decode cX8_lie 79 = .ok (.ireturn, 1) := by decide +kernel
theorem dX8_lie_80 : decode cX8_lie 80 = .ok (.aload_n 0, 1) := by decide +kernel
theorem dX8_lie_81 : decode cX8_lie 81 = .ok (.getfield 26, 3) := by decide +kernel
theorem dX8_lie_84 : decode cX8_lie 84 = .ok (.aload_n 0, 1) := by decide +kernel
theorem dX8_lie_85 : decode cX8_lie 85 = .ok (.getfield 26, 3) := by decide +kernel
theorem dX8_lie_88 : decode cX8_lie 88 = .ok (.getfield 200, 3) := by decide +kernel
theorem dX8_lie_91 : decode cX8_lie 91 = .ok (.iload_n 1, 1) := by decide +kernel
theorem dX8_lie_92 : decode cX8_lie 92 = .ok (.invokevirtual 196, 3) := by decide +kernel
theorem dX8_lie_95 : decode cX8_lie 95 = .ok (.ireturn, 1) := by decide +kernel
theorem dX8_lie_96 : decode cX8_lie 96 = .ok (.ldc 71, 2) := by decide +kernel
theorem dX8_lie_98 : decode cX8_lie 98 = .ok (.ireturn, 1) := by decide +kernel
theorem dX8_stranger_0 : decode cX8_stranger 0 = .ok (.aload_n 0, 1) := by decide +kernel
theorem dX8_stranger_1 : decode cX8_stranger 1 = .ok (.getfield 26, 3) := by decide +kernel
theorem dX8_stranger_4 : decode cX8_stranger 4 = .ok (.iload_n 1, 1) := by decide +kernel
theorem dX8_stranger_5 : decode cX8_stranger 5 = .ok (.invokevirtual 133, 3) := by decide +kernel
theorem dX8_stranger_8 : decode cX8_stranger 8 = .ok (.ifCond .ne 6, 3) := by decide +kernel
theorem dX8_stranger_11 : decode cX8_stranger 11 = .ok (.ldc 71, 2) := by decide +kernel
theorem dX8_stranger_13 : decode cX8_stranger 13 = .ok (.ireturn, 1) := by decide +kernel
theorem dX8_stranger_14 : decode cX8_stranger 14 = .ok (.iload_n 2, 1) := by decide +kernel
theorem dX8_stranger_15 : decode cX8_stranger 15 = .ok (.tableswitch 69 0 3 #[29, 39, 49, 59], 29) := by decide +kernel
theorem dX8_stranger_44 : decode cX8_stranger 44 = .ok (.aload_n 0, 1) := by decide +kernel
theorem dX8_stranger_45 : decode cX8_stranger 45 = .ok (.getfield 26, 3) := by decide +kernel
theorem dX8_stranger_48 : decode cX8_stranger 48 = .ok (.getfield 203, 3) := by decide +kernel
theorem dX8_stranger_51 : decode cX8_stranger 51 = .ok (.iload_n 1, 1) := by decide +kernel
