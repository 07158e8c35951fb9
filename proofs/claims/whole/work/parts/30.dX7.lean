theorem dX7_init_0 : decode cX7_init 0 = .ok (.aload_n 0, 1) := by decide +kernel
theorem dX7_init_1 : decode cX7_init 1 = .ok (.invokespecial 1, 3) := by decide +kernel
theorem dX7_init_4 : decode cX7_init 4 = .ok (.aload_n 0, 1) := by decide +kernel
theorem dX7_init_5 : decode cX7_init 5 = .ok (.iconst 0, 1) := by decide +kernel
theorem dX7_init_6 : decode cX7_init 6 = .ok (.putfield 7, 3) := by decide +kernel
theorem dX7_init_9 : decode cX7_init 9 = .ok (.aload_n 0, 1) := by decide +kernel
theorem dX7_init_10 : decode cX7_init 10 = .ok (.iconst 0, 1) := by decide +kernel
theorem dX7_init_11 : decode cX7_init 11 = .ok (.putfield 13, 3) := by decide +kernel
theorem dX7_init_14 : decode cX7_init 14 = .ok (.aload_n 0, 1) := by decide +kernel
theorem dX7_init_15 : decode cX7_init 15 = .ok (.iconst 0, 1) := by decide +kernel
theorem dX7_init_16 : decode cX7_init 16 = .ok (.putfield 16, 3) := by decide +kernel
theorem dX7_init_19 : decode cX7_init 19 = .ok (.aload_n 0, 1) := by decide +kernel
theorem dX7_init_20 : decode cX7_init 20 = .ok (.iconst 0, 1) := by decide +kernel
theorem dX7_init_21 : decode cX7_init 21 = .ok (.putfield 19, 3) := by decide +kernel
theorem dX7_init_24 : decode cX7_init 24 = .ok (.aload_n 0, 1) := by decide +kernel
theorem dX7_init_25 : decode cX7_init 25 = .ok (.bipush 6, 2) := by decide +kernel
theorem dX7_init_27 : decode cX7_init 27 = .ok (.newarray .int, 2) := by decide +kernel
theorem dX7_init_29 : decode cX7_init 29 = .ok (.putfield 22, 3) := by decide +kernel
theorem dX7_init_32 : decode cX7_init 32 = .ok (.aload_n 0, 1) := by decide +kernel
theorem dX7_init_33 : decode cX7_init 33 = .ok (.bipush 6, 2) := by decide +kernel
theorem dX7_init_35 : decode cX7_init 35 = .ok (.newarray .int, 2) := by decide +kernel
theorem dX7_init_37 : decode cX7_init 37 = .ok (.putfield 26, 3) := by decide +kernel
theorem dX7_init_40 : decode cX7_init 40 = .ok (.aload_n 0, 1) := by decide +kernel
theorem dX7_init_41 : decode cX7_init 41 = .ok (.bipush 6, 2) := by decide +kernel
theorem dX7_init_43 : decode cX7_init 43 = .ok (.newarray .int, 2) := by decide +kernel
theorem dX7_init_45 : decode cX7_init 45 = .ok (.putfield 29, 3) := by decide +kernel
theorem dX7_init_48 : decode cX7_init 48 = .ok (.aload_n 0, 1) := by decide +kernel
theorem dX7_init_49 : decode cX7_init 49 = .ok (.iconst 4, 1) := by decide +kernel
theorem dX7_init_50 : decode cX7_init 50 = .ok (.newarray .int, 2) := by decide +kernel
theorem dX7_init_52 : decode cX7_init 52 = .ok (.putfield 32, 3) := by decide +kernel
theorem dX7_init_55 : decode cX7_init 55 = .ok (.aload_n 0, 1) := by decide +kernel
theorem dX7_init_56 : decode cX7_init 56 = .ok (.iconst 4, 1) := by decide +kernel
theorem dX7_init_57 : decode cX7_init 57 = .ok (.newarray .int, 2) := by decide +kernel
theorem dX7_init_59 : decode cX7_init 59 = .ok (.putfield 35, 3) := by decide +kernel
theorem dX7_init_62 : decode cX7_init 62 = .ok (.aload_n 0, 1) := by decide +kernel
theorem dX7_init_63 : decode cX7_init 63 = .ok (.iconst 4, 1) := by decide +kernel
theorem dX7_init_64 : decode cX7_init 64 = .ok (.newarray .int, 2) := by decide +kernel
theorem dX7_init_66 : decode cX7_init 66 = .ok (.putfield 38, 3) := by decide +kernel
theorem dX7_init_69 : decode cX7_init 69 = .ok (.aload_n 0, 1) := by decide +kernel
theorem dX7_init_70 : decode cX7_init 70 = .ok (.iconst 4, 1) := by decide +kernel
theorem dX7_init_71 : decode cX7_init 71 = .ok (.newarray .int, 2) := by decide +kernel
theorem dX7_init_73 : decode cX7_init 73 = .ok (.putfield 41, 3) := by decide +kernel
theorem dX7_init_76 : decode cX7_init 76 = .ok (.return_, 1) := by decide +kernel
theorem dX7_stands_0 : decode cX7_stands 0 = .ok (.aload_n 0, 1) := by decide +kernel
theorem dX7_stands_1 : decode cX7_stands 1 = .ok (.getfield 7, 3) := by decide +kernel
theorem dX7_stands_4 : decode cX7_stands 4 = .ok (.ifCond .le 7, 3) := by decide +kernel
theorem dX7_stands_7 : decode cX7_stands 7 = .ok (.iconst 1, 1) := by decide +kernel
theorem dX7_stands_8 : decode cX7_stands 8 = .ok (.goto 4, 3) := by decide +kernel
theorem dX7_stands_11 : decode cX7_stands 11 = .ok (.iconst 0, 1) := by decide +kernel
theorem dX7_stands_12 : decode cX7_stands 12 = .ok (.ireturn, 1) := by decide +kernel
theorem dX7_hasLie_0 : decode cX7_hasLie 0 = .ok (.iload_n 1, 1) := by decide +kernel
theorem dX7_hasLie_1 : decode cX7_hasLie 1 = .ok (.ifCond .lt 15, 3) := by decide +kernel
theorem dX7_hasLie_4 : decode cX7_hasLie 4 = .ok (.iload_n 1, 1) := by decide +kernel
theorem dX7_hasLie_5 : decode cX7_hasLie 5 = .ok (.aload_n 0, 1) := by decide +kernel
theorem dX7_hasLie_6 : decode cX7_hasLie 6 = .ok (.getfield 16, 3) := by decide +kernel
theorem dX7_hasLie_9 : decode cX7_hasLie 9 = .ok (.if_icmp .ge 7, 3) := by decide +kernel
theorem dX7_hasLie_12 : decode cX7_hasLie 12 = .ok (.iconst 1, 1) := by decide +kernel
theorem dX7_hasLie_13 : decode cX7_hasLie 13 = .ok (.goto 4, 3) := by decide +kernel
theorem dX7_hasLie_16 : decode cX7_hasLie 16 = .ok (.iconst 0, 1) := by decide +kernel
theorem dX7_hasLie_17 : decode cX7_hasLie 17 = .ok (.ireturn, 1) := by decide +kernel
theorem dX7_hasStranger_0 : decode cX7_hasStranger 0 = .ok (.iload_n 1, 1) := by decide +kernel
theorem dX7_hasStranger_1 : decode cX7_hasStranger 1 = .ok (.ifCond .lt 15, 3) := by decide +kernel
theorem dX7_hasStranger_4 : decode cX7_hasStranger 4 = .ok (.iload_n 1, 1) := by decide +kernel
theorem dX7_hasStranger_5 : decode cX7_hasStranger 5 = .ok (.aload_n 0, 1) := by decide +kernel
theorem dX7_hasStranger_6 : decode cX7_hasStranger 6 = .ok (.getfield 19, 3) := by decide +kernel
theorem dX7_hasStranger_9 : decode cX7_hasStranger 9 = .ok (.if_icmp .ge 7, 3) := by decide +kernel
theorem dX7_hasStranger_12 : decode cX7_hasStranger 12 = .ok (.iconst 1, 1) := by decide +kernel
theorem dX7_hasStranger_13 : decode cX7_hasStranger 13 = .ok (.goto 4, 3) := by decide +kernel
theorem dX7_hasStranger_16 : decode cX7_hasStranger 16 = .ok (.iconst 0, 1) := by decide +kernel
theorem dX7_hasStranger_17 : decode cX7_hasStranger 17 = .ok (.ireturn, 1) := by decide +kernel
theorem dX7_isSetOfLies_0 : decode cX7_isSetOfLies 0 = .ok (.iload_n 1, 1) := by decide +kernel
theorem dX7_isSetOfLies_1 : decode cX7_isSetOfLies 1 = .ok (.ifCond .lt 17, 3) := by decide +kernel
theorem dX7_isSetOfLies_4 : decode cX7_isSetOfLies 4 = .ok (.iload_n 1, 1) := by decide +kernel
theorem dX7_isSetOfLies_5 : decode cX7_isSetOfLies 5 = .ok (.iconst 1, 1) := by decide +kernel
theorem dX7_isSetOfLies_6 : decode cX7_isSetOfLies 6 = .ok (.aload_n 0, 1) := by decide +kernel
theorem dX7_isSetOfLies_7 : decode cX7_isSetOfLies 7 = .ok (.getfield 16, 3) := by decide +kernel
theorem dX7_isSetOfLies_10 : decode cX7_isSetOfLies 10 = .ok (.ishl, 1) := by decide +kernel
theorem dX7_isSetOfLies_11 : decode cX7_isSetOfLies 11 = .ok (.if_icmp .ge 7, 3) := by decide +kernel
theorem dX7_isSetOfLies_14 : decode cX7_isSetOfLies 14 = .ok (.iconst 1, 1) := by decide +kernel
theorem dX7_isSetOfLies_15 : decode cX7_isSetOfLies 15 = .ok (.goto 4, 3) := by decide +kernel
theorem dX7_isSetOfLies_18 : decode cX7_isSetOfLies 18 = .ok (.iconst 0, 1) := by decide +kernel
theorem dX7_isSetOfLies_19 : decode cX7_isSetOfLies 19 = .ok (.ireturn, 1) := by decide +kernel
theorem dX7_wasTold_0 : decode cX7_wasTold 0 = .ok (.aload_n 0, 1) := by decide +kernel
theorem dX7_wasTold_1 : decode cX7_wasTold 1 = .ok (.getfield 38, 3) := by decide +kernel
theorem dX7_wasTold_4 : decode cX7_wasTold 4 = .ok (.iload_n 1, 1) := by decide +kernel
theorem dX7_wasTold_5 : decode cX7_wasTold 5 = .ok (.iaload, 1) := by decide +kernel
theorem dX7_wasTold_6 : decode cX7_wasTold 6 = .ok (.iload_n 2, 1) := by decide +kernel
theorem dX7_wasTold_7 : decode cX7_wasTold 7 = .ok (.ishr, 1) := by decide +kernel
theorem dX7_wasTold_8 : decode cX7_wasTold 8 = .ok (.iconst 1, 1) := by decide +kernel
theorem dX7_wasTold_9 : decode cX7_wasTold 9 = .ok (.iand, 1) := by decide +kernel
theorem dX7_wasTold_10 : decode cX7_wasTold 10 = .ok (.ifCond .eq 7, 3) := by decide +kernel
theorem dX7_wasTold_13 : decode cX7_wasTold 13 = .ok (.iconst 1, 1) := by decide +kernel
theorem dX7_wasTold_14 : decode cX7_wasTold 14 = .ok (.goto 4, 3) := by decide +kernel
theorem dX7_wasTold_17 : decode cX7_wasTold 17 = .ok (.iconst 0, 1) := by decide +kernel
theorem dX7_wasTold_18 : decode cX7_wasTold 18 = .ok (.ireturn, 1) := by decide +kernel
theorem dX7_untold_0 : decode cX7_untold 0 = .ok (.iconst 1, 1) := by decide +kernel
theorem dX7_untold_1 : decode cX7_untold 1 = .ok (.aload_n 0, 1) := by decide +kernel
theorem dX7_untold_2 : decode cX7_untold 2 = .ok (.getfield 16, 3) := by decide +kernel
theorem dX7_untold_5 : decode cX7_untold 5 = .ok (.ishl, 1) := by decide +kernel
theorem dX7_untold_6 : decode cX7_untold 6 = .ok (.iconst 1, 1) := by decide +kernel
theorem dX7_untold_7 : decode cX7_untold 7 = .ok (.isub, 1) := by decide +kernel
theorem dX7_untold_8 : decode cX7_untold 8 = .ok (.aload_n 0, 1) := by decide +kernel
theorem dX7_untold_9 : decode cX7_untold 9 = .ok (.getfield 38, 3) := by decide +kernel
theorem dX7_untold_12 : decode cX7_untold 12 = .ok (.iload_n 1, 1) := by decide +kernel
theorem dX7_untold_13 : decode cX7_untold 13 = .ok (.iaload, 1) := by decide +kernel
theorem dX7_untold_14 : decode cX7_untold 14 = .ok (.iconst (-1), 1) := by decide +kernel
theorem dX7_untold_15 : decode cX7_untold 15 = .ok (.ixor, 1) := by decide +kernel
theorem dX7_untold_16 : decode cX7_untold 16 = .ok (.iand, 1) := by decide +kernel
theorem dX7_untold_17 : decode cX7_untold 17 = .ok (.ireturn, 1) := by decide +kernel
theorem dX7_strangersWith_0 : decode cX7_strangersWith 0 = .ok (.iconst 0, 1) := by decide +kernel
theorem dX7_strangersWith_1 : decode cX7_strangersWith 1 = .ok (.istore_n 3, 1) := by decide +kernel
theorem dX7_strangersWith_2 : decode cX7_strangersWith 2 = .ok (.iconst 0, 1) := by decide +kernel
theorem dX7_strangersWith_3 : decode cX7_strangersWith 3 = .ok (.istore 4, 2) := by decide +kernel
theorem dX7_strangersWith_5 : decode cX7_strangersWith 5 = .ok (.iload 4, 2) := by decide +kernel
theorem dX7_strangersWith_7 : decode cX7_strangersWith 7 = .ok (.aload_n 0, 1) := by decide +kernel
theorem dX7_strangersWith_8 : decode cX7_strangersWith 8 = .ok (.getfield 19, 3) := by decide +kernel
theorem dX7_strangersWith_11 : decode cX7_strangersWith 11 = .ok (.if_icmp .ge 27, 3) := by decide +kernel
theorem dX7_strangersWith_14 : decode cX7_strangersWith 14 = .ok (.iload 4, 2) := by decide +kernel
theorem dX7_strangersWith_16 : decode cX7_strangersWith 16 = .ok (.aload_n 1, 1) := by decide +kernel
theorem dX7_strangersWith_17 : decode cX7_strangersWith 17 = .ok (.arraylength, 1) := by decide +kernel
theorem dX7_strangersWith_18 : decode cX7_strangersWith 18 = .ok (.if_icmp .ge 20, 3) := by decide +kernel
theorem dX7_strangersWith_21 : decode cX7_strangersWith 21 = .ok (.iload_n 3, 1) := by decide +kernel
theorem dX7_strangersWith_22 : decode cX7_strangersWith 22 = .ok (.aload_n 1, 1) := by decide +kernel
theorem dX7_strangersWith_23 : decode cX7_strangersWith 23 = .ok (.iload 4, 2) := by decide +kernel
theorem dX7_strangersWith_25 : decode cX7_strangersWith 25 = .ok (.iaload, 1) := by decide +kernel
theorem dX7_strangersWith_26 : decode cX7_strangersWith 26 = .ok (.iload_n 2, 1) := by decide +kernel
theorem dX7_strangersWith_27 : decode cX7_strangersWith 27 = .ok (.ishr, 1) := by decide +kernel
theorem dX7_strangersWith_28 : decode cX7_strangersWith 28 = .ok (.iconst 1, 1) := by decide +kernel
theorem dX7_strangersWith_29 : decode cX7_strangersWith 29 = .ok (.iand, 1) := by decide +kernel
theorem dX7_strangersWith_30 : decode cX7_strangersWith 30 = .ok (.iadd, 1) := by decide +kernel
theorem dX7_strangersWith_31 : decode cX7_strangersWith 31 = .ok (.istore_n 3, 1) := by decide +kernel
theorem dX7_strangersWith_32 : decode cX7_strangersWith 32 = .ok (.iinc 4 1, 3) := by decide +kernel
theorem dX7_strangersWith_35 : decode cX7_strangersWith 35 = .ok (.goto (-30), 3) := by decide +kernel
theorem dX7_strangersWith_38 : decode cX7_strangersWith 38 = .ok (.iload_n 3, 1) := by decide +kernel
theorem dX7_strangersWith_39 : decode cX7_strangersWith 39 = .ok (.ireturn, 1) := by decide +kernel
theorem dX7_begin_0 : decode cX7_begin 0 = .ok (.aload_n 0, 1) := by decide +kernel
theorem dX7_begin_1 : decode cX7_begin 1 = .ok (.iload_n 1, 1) := by decide +kernel
theorem dX7_begin_2 : decode cX7_begin 2 = .ok (.putfield 7, 3) := by decide +kernel
theorem dX7_begin_5 : decode cX7_begin 5 = .ok (.aload_n 0, 1) := by decide +kernel
theorem dX7_begin_6 : decode cX7_begin 6 = .ok (.iconst 0, 1) := by decide +kernel
theorem dX7_begin_7 : decode cX7_begin 7 = .ok (.putfield 13, 3) := by decide +kernel
theorem dX7_begin_10 : decode cX7_begin 10 = .ok (.aload_n 0, 1) := by decide +kernel
theorem dX7_begin_11 : decode cX7_begin 11 = .ok (.iconst 0, 1) := by decide +kernel
theorem dX7_begin_12 : decode cX7_begin 12 = .ok (.putfield 16, 3) := by decide +kernel
theorem dX7_begin_15 : decode cX7_begin 15 = .ok (.aload_n 0, 1) := by decide +kernel
theorem dX7_begin_16 : decode cX7_begin 16 = .ok (.iconst 0, 1) := by decide +kernel
theorem dX7_begin_17 : decode cX7_begin 17 = .ok (.putfield 19, 3) := by decide +kernel
theorem dX7_begin_20 : decode cX7_begin 20 = .ok (.return_, 1) := by decide +kernel
theorem dX7_addLie_0 : decode cX7_addLie 0 = .ok (.aload_n 0, 1) := by decide +kernel
theorem dX7_addLie_1 : decode cX7_addLie 1 = .ok (.getfield 16, 3) := by decide +kernel
theorem dX7_addLie_4 : decode cX7_addLie 4 = .ok (.bipush 6, 2) := by decide +kernel
theorem dX7_addLie_6 : decode cX7_addLie 6 = .ok (.if_icmp .ge 43, 3) := by decide +kernel
theorem dX7_addLie_9 : decode cX7_addLie 9 = .ok (.aload_n 0, 1) := by decide +kernel
theorem dX7_addLie_10 : decode cX7_addLie 10 = .ok (.getfield 22, 3) := by decide +kernel
theorem dX7_addLie_13 : decode cX7_addLie 13 = .ok (.aload_n 0, 1) := by decide +kernel
theorem dX7_addLie_14 : decode cX7_addLie 14 = .ok (.getfield 16, 3) := by decide +kernel
theorem dX7_addLie_17 : decode cX7_addLie 17 = .ok (.iload_n 1, 1) := by decide +kernel
theorem dX7_addLie_18 : decode cX7_addLie 18 = .ok (.iastore, 1) := by decide +kernel
theorem dX7_addLie_19 : decode cX7_addLie 19 = .ok (.aload_n 0, 1) := by decide +kernel
theorem dX7_addLie_20 : decode cX7_addLie 20 = .ok (.getfield 26, 3) := by decide +kernel
theorem dX7_addLie_23 : decode cX7_addLie 23 = .ok (.aload_n 0, 1) := by decide +kernel
theorem dX7_addLie_24 : decode cX7_addLie 24 = .ok (.getfield 16, 3) := by decide +kernel
theorem dX7_addLie_27 : decode cX7_addLie 27 = .ok (.iload_n 2, 1) := by decide +kernel
theorem dX7_addLie_28 : decode cX7_addLie 28 = .ok (.iastore, 1) := by decide +kernel
theorem dX7_addLie_29 : decode cX7_addLie 29 = .ok (.aload_n 0, 1) := by decide +kernel
theorem dX7_addLie_30 : decode cX7_addLie 30 = .ok (.getfield 29, 3) := by decide +kernel
theorem dX7_addLie_33 : decode cX7_addLie 33 = .ok (.aload_n 0, 1) := by decide +kernel
theorem dX7_addLie_34 : decode cX7_addLie 34 = .ok (.getfield 16, 3) := by decide +kernel
theorem dX7_addLie_37 : decode cX7_addLie 37 = .ok (.iload_n 3, 1) := by decide +kernel
theorem dX7_addLie_38 : decode cX7_addLie 38 = .ok (.iastore, 1) := by decide +kernel
theorem dX7_addLie_39 : decode cX7_addLie 39 = .ok (.aload_n 0, 1) := by decide +kernel
theorem dX7_addLie_40 : decode cX7_addLie 40 = .ok (.dup, 1) := by decide +kernel
theorem dX7_addLie_41 : decode cX7_addLie 41 = .ok (.getfield 16, 3) := by decide +kernel
theorem dX7_addLie_44 : decode cX7_addLie 44 = .ok (.iconst 1, 1) := by decide +kernel
theorem dX7_addLie_45 : decode cX7_addLie 45 = .ok (.iadd, 1) := by decide +kernel
theorem dX7_addLie_46 : decode cX7_addLie 46 = .ok (.putfield 16, 3) := by decide +kernel
theorem dX7_addLie_49 : decode cX7_addLie 49 = .ok (.return_, 1) := by decide +kernel
theorem dX7_addStranger_0 : decode cX7_addStranger 0 = .ok (.aload_n 0, 1) := by decide +kernel
theorem dX7_addStranger_1 : decode cX7_addStranger 1 = .ok (.getfield 19, 3) := by decide +kernel
theorem dX7_addStranger_4 : decode cX7_addStranger 4 = .ok (.iconst 4, 1) := by decide +kernel
theorem dX7_addStranger_5 : decode cX7_addStranger 5 = .ok (.if_icmp .ge 53, 3) := by decide +kernel
theorem dX7_addStranger_8 : decode cX7_addStranger 8 = .ok (.aload_n 0, 1) := by decide +kernel
theorem dX7_addStranger_9 : decode cX7_addStranger 9 = .ok (.getfield 32, 3) := by decide +kernel
theorem dX7_addStranger_12 : decode cX7_addStranger 12 = .ok (.aload_n 0, 1) := by decide +kernel
theorem dX7_addStranger_13 : decode cX7_addStranger 13 = .ok (.getfield 19, 3) := by decide +kernel
theorem dX7_addStranger_16 : decode cX7_addStranger 16 = .ok (.iload_n 1, 1) := by decide +kernel
theorem dX7_addStranger_17 : decode cX7_addStranger 17 = .ok (.iastore, 1) := by decide +kernel
theorem dX7_addStranger_18 : decode cX7_addStranger 18 = .ok (.aload_n 0, 1) := by decide +kernel
theorem dX7_addStranger_19 : decode cX7_addStranger 19 = .ok (.getfield 35, 3) := by decide +kernel
theorem dX7_addStranger_22 : decode cX7_addStranger 22 = .ok (.aload_n 0, 1) := by decide +kernel
theorem dX7_addStranger_23 : decode cX7_addStranger 23 = .ok (.getfield 19, 3) := by decide +kernel
theorem dX7_addStranger_26 : decode cX7_addStranger 26 = .ok (.iload_n 2, 1) := by decide +kernel
theorem dX7_addStranger_27 : decode cX7_addStranger 27 = .ok (.iastore, 1) := by decide +kernel
theorem dX7_addStranger_28 : decode cX7_addStranger 28 = .ok (.aload_n 0, 1) := by decide +kernel
theorem dX7_addStranger_29 : decode cX7_addStranger 29 = .ok (.getfield 38, 3) := by decide +kernel
theorem dX7_addStranger_32 : decode cX7_addStranger 32 = .ok (.aload_n 0, 1) := by decide +kernel
theorem dX7_addStranger_33 : decode cX7_addStranger 33 = .ok (.getfield 19, 3) := by decide +kernel
theorem dX7_addStranger_36 : decode cX7_addStranger 36 = .ok (.iconst 0, 1) := by decide +kernel
theorem dX7_addStranger_37 : decode cX7_addStranger 37 = .ok (.iastore, 1) := by decide +kernel
theorem dX7_addStranger_38 : decode cX7_addStranger 38 = .ok (.aload_n 0, 1) := by decide +kernel
theorem dX7_addStranger_39 : decode cX7_addStranger 39 = .ok (.getfield 41, 3) := by decide +kernel
theorem dX7_addStranger_42 : decode cX7_addStranger 42 = .ok (.aload_n 0, 1) := by decide +kernel
theorem dX7_addStranger_43 : decode cX7_addStranger 43 = .ok (.getfield 19, 3) := by decide +kernel
theorem dX7_addStranger_46 : decode cX7_addStranger 46 = .ok (.iconst 0, 1) := by decide +kernel
theorem dX7_addStranger_47 : decode cX7_addStranger 47 = .ok (.iastore, 1) := by decide +kernel
theorem dX7_addStranger_48 : decode cX7_addStranger 48 = .ok (.aload_n 0, 1) := by decide +kernel
theorem dX7_addStranger_49 : decode cX7_addStranger 49 = .ok (.dup, 1) := by decide +kernel
theorem dX7_addStranger_50 : decode cX7_addStranger 50 = .ok (.getfield 19, 3) := by decide +kernel
theorem dX7_addStranger_53 : decode cX7_addStranger 53 = .ok (.iconst 1, 1) := by decide +kernel
theorem dX7_addStranger_54 : decode cX7_addStranger 54 = .ok (.iadd, 1) := by decide +kernel
theorem dX7_addStranger_55 : decode cX7_addStranger 55 = .ok (.putfield 19, 3) := by decide +kernel
theorem dX7_addStranger_58 : decode cX7_addStranger 58 = .ok (.return_, 1) := by decide +kernel
theorem dX7_become_0 : decode cX7_become 0 = .ok (.aload_n 0, 1) := by decide +kernel
theorem dX7_become_1 : decode cX7_become 1 = .ok (.aload_n 1, 1) := by decide +kernel
theorem dX7_become_2 : decode cX7_become 2 = .ok (.getfield 7, 3) := by decide +kernel
theorem dX7_become_5 : decode cX7_become 5 = .ok (.putfield 7, 3) := by decide +kernel
theorem dX7_become_8 : decode cX7_become 8 = .ok (.aload_n 0, 1) := by decide +kernel
theorem dX7_become_9 : decode cX7_become 9 = .ok (.aload_n 1, 1) := by decide +kernel
theorem dX7_become_10 : decode cX7_become 10 = .ok (.getfield 13, 3) := by decide +kernel
theorem dX7_become_13 : decode cX7_become 13 = .ok (.putfield 13, 3) := by decide +kernel
theorem dX7_become_16 : decode cX7_become 16 = .ok (.aload_n 0, 1) := by decide +kernel
theorem dX7_become_17 : decode cX7_become 17 = .ok (.aload_n 1, 1) := by decide +kernel
theorem dX7_become_18 : decode cX7_become 18 = .ok (.getfield 16, 3) := by decide +kernel
theorem dX7_become_21 : decode cX7_become 21 = .ok (.putfield 16, 3) := by decide +kernel
theorem dX7_become_24 : decode cX7_become 24 = .ok (.aload_n 0, 1) := by decide +kernel
theorem dX7_become_25 : decode cX7_become 25 = .ok (.aload_n 1, 1) := by decide +kernel
theorem dX7_become_26 : decode cX7_become 26 = .ok (.getfield 19, 3) := by decide +kernel
theorem dX7_become_29 : decode cX7_become 29 = .ok (.putfield 19, 3) := by decide +kernel
theorem dX7_become_32 : decode cX7_become 32 = .ok (.iconst 0, 1) := by decide +kernel
theorem dX7_become_33 : decode cX7_become 33 = .ok (.istore_n 2, 1) := by decide +kernel
theorem dX7_become_34 : decode cX7_become 34 = .ok (.iload_n 2, 1) := by decide +kernel
theorem dX7_become_35 : decode cX7_become 35 = .ok (.bipush 6, 2) := by decide +kernel
theorem dX7_become_37 : decode cX7_become 37 = .ok (.if_icmp .ge 45, 3) := by decide +kernel
theorem dX7_become_40 : decode cX7_become 40 = .ok (.aload_n 0, 1) := by decide +kernel
theorem dX7_become_41 : decode cX7_become 41 = .ok (.getfield 22, 3) := by decide +kernel
theorem dX7_become_44 : decode cX7_become 44 = .ok (.iload_n 2, 1) := by decide +kernel
theorem dX7_become_45 : decode cX7_become 45 = .ok (.aload_n 1, 1) := by decide +kernel
theorem dX7_become_46 : decode cX7_become 46 = .ok (.getfield 22, 3) := by decide +kernel
theorem dX7_become_49 : decode cX7_become 49 = .ok (.iload_n 2, 1) := by decide +kernel
theorem dX7_become_50 : decode cX7_become 50 = .ok (.iaload, 1) := by decide +kernel
theorem dX7_become_51 : decode cX7_become 51 = .ok (.iastore, 1) := by decide +kernel
theorem dX7_become_52 : decode cX7_become 52 = .ok (.aload_n 0, 1) := by decide +kernel
theorem dX7_become_53 : decode cX7_become 53 = .ok (.getfield 26, 3) := by decide +kernel
theorem dX7_become_56 : decode cX7_become 56 = .ok (.iload_n 2, 1) := by decide +kernel
theorem dX7_become_57 : decode cX7_become 57 = .ok (.aload_n 1, 1) := by decide +kernel
theorem dX7_become_58 : decode cX7_become 58 = .ok (.getfield 26, 3) := by decide +kernel
theorem dX7_become_61 : decode cX7_become 61 = .ok (.iload_n 2, 1) := by decide +kernel
theorem dX7_become_62 : decode cX7_become 62 = .ok (.iaload, 1) := by decide +kernel
theorem dX7_become_63 : decode cX7_become 63 = .ok (.iastore, 1) := by decide +kernel
theorem dX7_become_64 : decode cX7_become 64 = .ok (.aload_n 0, 1) := by decide +kernel
theorem dX7_become_65 : decode cX7_become 65 = .ok (.getfield 29, 3) := by decide +kernel
theorem dX7_become_68 : decode cX7_become 68 = .ok (.iload_n 2, 1) := by decide +kernel
theorem dX7_become_69 : decode cX7_become 69 = .ok (.aload_n 1, 1) := by decide +kernel
theorem dX7_become_70 : decode cX7_become 70 = .ok (.getfield 29, 3) := by decide +kernel
theorem dX7_become_73 : decode cX7_become 73 = .ok (.iload_n 2, 1) := by decide +kernel
theorem dX7_become_74 : decode cX7_become 74 = .ok (.iaload, 1) := by decide +kernel
theorem dX7_become_75 : decode cX7_become 75 = .ok (.iastore, 1) := by decide +kernel
theorem dX7_become_76 : decode cX7_become 76 = .ok (.iinc 2 1, 3) := by decide +kernel
theorem dX7_become_79 : decode cX7_become 79 = .ok (.goto (-45), 3) := by decide +kernel
theorem dX7_become_82 : decode cX7_become 82 = .ok (.iconst 0, 1) := by decide +kernel
theorem dX7_become_83 : decode cX7_become 83 = .ok (.istore_n 2, 1) := by decide +kernel
theorem dX7_become_84 : decode cX7_become 84 = .ok (.iload_n 2, 1) := by decide +kernel
theorem dX7_become_85 : decode cX7_become 85 = .ok (.iconst 4, 1) := by decide +kernel
theorem dX7_become_86 : decode cX7_become 86 = .ok (.if_icmp .ge 57, 3) := by decide +kernel
theorem dX7_become_89 : decode cX7_become 89 = .ok (.aload_n 0, 1) := by decide +kernel
theorem dX7_become_90 : decode cX7_become 90 = .ok (.getfield 32, 3) := by decide +kernel
theorem dX7_become_93 : decode cX7_become 93 = .ok (.iload_n 2, 1) := by decide +kernel
theorem dX7_become_94 : decode cX7_become 94 = .ok (.aload_n 1, 1) := by decide +kernel
theorem dX7_become_95 : decode cX7_become 95 = .ok (.getfield 32, 3) := by decide +kernel
theorem dX7_become_98 : decode cX7_become 98 = .ok (.iload_n 2, 1) := by decide +kernel
theorem dX7_become_99 : decode cX7_become 99 = .ok (.iaload, 1) := by decide +kernel
theorem dX7_become_100 : decode cX7_become 100 = .ok (.iastore, 1) := by decide +kernel
theorem dX7_become_101 : decode cX7_become 101 = .ok (.aload_n 0, 1) := by decide +kernel
theorem dX7_become_102 : decode cX7_become 102 = .ok (.getfield 35, 3) := by decide +kernel
theorem dX7_become_105 : decode cX7_become 105 = .ok (.iload_n 2, 1) := by decide +kernel
theorem dX7_become_106 : decode cX7_become 106 = .ok (.aload_n 1, 1) := by decide +kernel
theorem dX7_become_107 : decode cX7_become 107 = .ok (.getfield 35, 3) := by decide +kernel
theorem dX7_become_110 : decode cX7_become 110 = .ok (.iload_n 2, 1) := by decide +kernel
theorem dX7_become_111 : decode cX7_become 111 = .ok (.iaload, 1) := by decide +kernel
theorem dX7_become_112 : decode cX7_become 112 = .ok (.iastore, 1) := by decide +kernel
theorem dX7_become_113 : decode cX7_become 113 = .ok (.aload_n 0, 1) := by decide +kernel
theorem dX7_become_114 : decode cX7_become 114 = .ok (.getfield 38, 3) := by decide +kernel
theorem dX7_become_117 : decode cX7_become 117 = .ok (.iload_n 2, 1) := by decide +kernel
theorem dX7_become_118 : decode cX7_become 118 = .ok (.aload_n 1, 1) := by decide +kernel
theorem dX7_become_119 : decode cX7_become 119 = .ok (.getfield 38, 3) := by decide +kernel
theorem dX7_become_122 : decode cX7_become 122 = .ok (.iload_n 2, 1) := by decide +kernel
theorem dX7_become_123 : decode cX7_become 123 = .ok (.iaload, 1) := by decide +kernel
theorem dX7_become_124 : decode cX7_become 124 = .ok (.iastore, 1) := by decide +kernel
theorem dX7_become_125 : decode cX7_become 125 = .ok (.aload_n 0, 1) := by decide +kernel
theorem dX7_become_126 : decode cX7_become 126 = .ok (.getfield 41, 3) := by decide +kernel
theorem dX7_become_129 : decode cX7_become 129 = .ok (.iload_n 2, 1) := by decide +kernel
theorem dX7_become_130 : decode cX7_become 130 = .ok (.aload_n 1, 1) := by decide +kernel
theorem dX7_become_131 : decode cX7_become 131 = .ok (.getfield 41, 3) := by decide +kernel
theorem dX7_become_134 : decode cX7_become 134 = .ok (.iload_n 2, 1) := by decide +kernel
theorem dX7_become_135 : decode cX7_become 135 = .ok (.iaload, 1) := by decide +kernel
theorem dX7_become_136 : decode cX7_become 136 = .ok (.iastore, 1) := by decide +kernel
theorem dX7_become_137 : decode cX7_become 137 = .ok (.iinc 2 1, 3) := by decide +kernel
theorem dX7_become_140 : decode cX7_become 140 = .ok (.goto (-56), 3) := by decide +kernel
theorem dX7_become_143 : decode cX7_become 143 = .ok (.return_, 1) := by decide +kernel
theorem dX7_noteTold_0 : decode cX7_noteTold 0 = .ok (.aload_n 0, 1) := by decide +kernel
theorem dX7_noteTold_1 : decode cX7_noteTold 1 = .ok (.getfield 38, 3) := by decide +kernel
theorem dX7_noteTold_4 : decode cX7_noteTold 4 = .ok (.iload_n 1, 1) := by decide +kernel
theorem dX7_noteTold_5 : decode cX7_noteTold 5 = .ok (.dup2, 1) := by decide +kernel
theorem dX7_noteTold_6 : decode cX7_noteTold 6 = .ok (.iaload, 1) := by decide +kernel
theorem dX7_noteTold_7 : decode cX7_noteTold 7 = .ok (.iconst 1, 1) := by decide +kernel
theorem dX7_noteTold_8 : decode cX7_noteTold 8 = .ok (.iload_n 2, 1) := by decide +kernel
theorem dX7_noteTold_9 : decode cX7_noteTold 9 = .ok (.ishl, 1) := by decide +kernel
theorem dX7_noteTold_10 : decode cX7_noteTold 10 = .ok (.ior, 1) := by decide +kernel
theorem dX7_noteTold_11 : decode cX7_noteTold 11 = .ok (.iastore, 1) := by decide +kernel
theorem dX7_noteTold_12 : decode cX7_noteTold 12 = .ok (.iload_n 3, 1) := by decide +kernel
theorem dX7_noteTold_13 : decode cX7_noteTold 13 = .ok (.ifCond .eq 15, 3) := by decide +kernel
theorem dX7_noteTold_16 : decode cX7_noteTold 16 = .ok (.aload_n 0, 1) := by decide +kernel
theorem dX7_noteTold_17 : decode cX7_noteTold 17 = .ok (.getfield 41, 3) := by decide +kernel
theorem dX7_noteTold_20 : decode cX7_noteTold 20 = .ok (.iload_n 1, 1) := by decide +kernel
theorem dX7_noteTold_21 : decode cX7_noteTold 21 = .ok (.dup2, 1) := by decide +kernel
theorem dX7_noteTold_22 : decode cX7_noteTold 22 = .ok (.iaload, 1) := by decide +kernel
theorem dX7_noteTold_23 : decode cX7_noteTold 23 = .ok (.iconst 1, 1) := by decide +kernel
theorem dX7_noteTold_24 : decode cX7_noteTold 24 = .ok (.iload_n 2, 1) := by decide +kernel
theorem dX7_noteTold_25 : decode cX7_noteTold 25 = .ok (.ishl, 1) := by decide +kernel
theorem dX7_noteTold_26 : decode cX7_noteTold 26 = .ok (.ior, 1) := by decide +kernel
theorem dX7_noteTold_27 : decode cX7_noteTold 27 = .ok (.iastore, 1) := by decide +kernel
theorem dX7_noteTold_28 : decode cX7_noteTold 28 = .ok (.aload_n 0, 1) := by decide +kernel
theorem dX7_noteTold_29 : decode cX7_noteTold 29 = .ok (.dup, 1) := by decide +kernel
theorem dX7_noteTold_30 : decode cX7_noteTold 30 = .ok (.getfield 13, 3) := by decide +kernel
theorem dX7_noteTold_33 : decode cX7_noteTold 33 = .ok (.iload_n 3, 1) := by decide +kernel
theorem dX7_noteTold_34 : decode cX7_noteTold 34 = .ok (.ifCond .eq 10, 3) := by decide +kernel
theorem dX7_noteTold_37 : decode cX7_noteTold 37 = .ok (.aload_n 0, 1) := by decide +kernel
theorem dX7_noteTold_38 : decode cX7_noteTold 38 = .ok (.getfield 7, 3) := by decide +kernel
theorem dX7_noteTold_41 : decode cX7_noteTold 41 = .ok (.goto 8, 3) := by decide +kernel
theorem dX7_noteTold_44 : decode cX7_noteTold 44 = .ok (.aload_n 0, 1) := by decide +kernel
theorem dX7_noteTold_45 : decode cX7_noteTold 45 = .ok (.getfield 7, 3) := by decide +kernel
theorem dX7_noteTold_48 : decode cX7_noteTold 48 = .ok (.ineg, 1) := by decide +kernel
theorem dX7_noteTold_49 : decode cX7_noteTold 49 = .ok (.iadd, 1) := by decide +kernel
theorem dX7_noteTold_50 : decode cX7_noteTold 50 = .ok (.putfield 13, 3) := by decide +kernel
theorem dX7_noteTold_53 : decode cX7_noteTold 53 = .ok (.aload_n 0, 1) := by decide +kernel
theorem dX7_noteTold_54 : decode cX7_noteTold 54 = .ok (.getfield 32, 3) := by decide +kernel
theorem dX7_noteTold_57 : decode cX7_noteTold 57 = .ok (.iload_n 1, 1) := by decide +kernel
theorem dX7_noteTold_58 : decode cX7_noteTold 58 = .ok (.iload 4, 2) := by decide +kernel
theorem dX7_noteTold_60 : decode cX7_noteTold 60 = .ok (.iastore, 1) := by decide +kernel
theorem dX7_noteTold_61 : decode cX7_noteTold 61 = .ok (.return_, 1) := by decide +kernel
theorem dX7_noteSupper_0 : decode cX7_noteSupper 0 = .ok (.aload_n 0, 1) := by decide +kernel
theorem dX7_noteSupper_1 : decode cX7_noteSupper 1 = .ok (.dup, 1) := by decide +kernel
theorem dX7_noteSupper_2 : decode cX7_noteSupper 2 = .ok (.getfield 13, 3) := by decide +kernel
theorem dX7_noteSupper_5 : decode cX7_noteSupper 5 = .ok (.iconst 1, 1) := by decide +kernel
theorem dX7_noteSupper_6 : decode cX7_noteSupper 6 = .ok (.isub, 1) := by decide +kernel
theorem dX7_noteSupper_7 : decode cX7_noteSupper 7 = .ok (.putfield 13, 3) := by decide +kernel
theorem dX7_noteSupper_10 : decode cX7_noteSupper 10 = .ok (.aload_n 0, 1) := by decide +kernel
theorem dX7_noteSupper_11 : decode cX7_noteSupper 11 = .ok (.getfield 32, 3) := by decide +kernel
theorem dX7_noteSupper_14 : decode cX7_noteSupper 14 = .ok (.iload_n 1, 1) := by decide +kernel
theorem dX7_noteSupper_15 : decode cX7_noteSupper 15 = .ok (.iload_n 2, 1) := by decide +kernel
theorem dX7_noteSupper_16 : decode cX7_noteSupper 16 = .ok (.iastore, 1) := by decide +kernel
theorem dX7_noteSupper_17 : decode cX7_noteSupper 17 = .ok (.return_, 1) := by decide +kernel
theorem dX7_noteForgotten_0 : decode cX7_noteForgotten 0 = .ok (.aload_n 0, 1) := by decide +kernel
theorem dX7_noteForgotten_1 : decode cX7_noteForgotten 1 = .ok (.getfield 38, 3) := by decide +kernel
theorem dX7_noteForgotten_4 : decode cX7_noteForgotten 4 = .ok (.iload_n 1, 1) := by decide +kernel
theorem dX7_noteForgotten_5 : decode cX7_noteForgotten 5 = .ok (.dup2, 1) := by decide +kernel
theorem dX7_noteForgotten_6 : decode cX7_noteForgotten 6 = .ok (.iaload, 1) := by decide +kernel
theorem dX7_noteForgotten_7 : decode cX7_noteForgotten 7 = .ok (.iconst 1, 1) := by decide +kernel
theorem dX7_noteForgotten_8 : decode cX7_noteForgotten 8 = .ok (.iload_n 2, 1) := by decide +kernel
theorem dX7_noteForgotten_9 : decode cX7_noteForgotten 9 = .ok (.ishl, 1) := by decide +kernel
theorem dX7_noteForgotten_10 : decode cX7_noteForgotten 10 = .ok (.iconst (-1), 1) := by decide +kernel
theorem dX7_noteForgotten_11 : decode cX7_noteForgotten 11 = .ok (.ixor, 1) := by decide +kernel
theorem dX7_noteForgotten_12 : decode cX7_noteForgotten 12 = .ok (.iand, 1) := by decide +kernel
theorem dX7_noteForgotten_13 : decode cX7_noteForgotten 13 = .ok (.iastore, 1) := by decide +kernel
theorem dX7_noteForgotten_14 : decode cX7_noteForgotten 14 = .ok (.aload_n 0, 1) := by decide +kernel
theorem dX7_noteForgotten_15 : decode cX7_noteForgotten 15 = .ok (.getfield 41, 3) := by decide +kernel
theorem dX7_noteForgotten_18 : decode cX7_noteForgotten 18 = .ok (.iload_n 1, 1) := by decide +kernel
theorem dX7_noteForgotten_19 : decode cX7_noteForgotten 19 = .ok (.dup2, 1) := by decide +kernel
theorem dX7_noteForgotten_20 : decode cX7_noteForgotten 20 = .ok (.iaload, 1) := by decide +kernel
theorem dX7_noteForgotten_21 : decode cX7_noteForgotten 21 = .ok (.iconst 1, 1) := by decide +kernel
theorem dX7_noteForgotten_22 : decode cX7_noteForgotten 22 = .ok (.iload_n 2, 1) := by decide +kernel
theorem dX7_noteForgotten_23 : decode cX7_noteForgotten 23 = .ok (.ishl, 1) := by decide +kernel
theorem dX7_noteForgotten_24 : decode cX7_noteForgotten 24 = .ok (.iconst (-1), 1) := by decide +kernel
theorem dX7_noteForgotten_25 : decode cX7_noteForgotten 25 = .ok (.ixor, 1) := by decide +kernel
theorem dX7_noteForgotten_26 : decode cX7_noteForgotten 26 = .ok (.iand, 1) := by decide +kernel
theorem dX7_noteForgotten_27 : decode cX7_noteForgotten 27 = .ok (.iastore, 1) := by decide +kernel
theorem dX7_noteForgotten_28 : decode cX7_noteForgotten 28 = .ok (.return_, 1) := by decide +kernel
