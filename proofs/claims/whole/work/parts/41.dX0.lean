theorem dX0_init_0 : decode cX0_init 0 = .ok (.aload_n 0, 1) := by decide +kernel
theorem dX0_init_1 : decode cX0_init 1 = .ok (.invokespecial 1, 3) := by decide +kernel
theorem dX0_init_4 : decode cX0_init 4 = .ok (.aload_n 0, 1) := by decide +kernel
theorem dX0_init_5 : decode cX0_init 5 = .ok (.bipush 24, 2) := by decide +kernel
theorem dX0_init_7 : decode cX0_init 7 = .ok (.newarray .int, 2) := by decide +kernel
theorem dX0_init_9 : decode cX0_init 9 = .ok (.putfield 9, 3) := by decide +kernel
theorem dX0_init_12 : decode cX0_init 12 = .ok (.aload_n 0, 1) := by decide +kernel
theorem dX0_init_13 : decode cX0_init 13 = .ok (.bipush 24, 2) := by decide +kernel
theorem dX0_init_15 : decode cX0_init 15 = .ok (.newarray .int, 2) := by decide +kernel
theorem dX0_init_17 : decode cX0_init 17 = .ok (.putfield 13, 3) := by decide +kernel
theorem dX0_init_20 : decode cX0_init 20 = .ok (.aload_n 0, 1) := by decide +kernel
theorem dX0_init_21 : decode cX0_init 21 = .ok (.bipush 24, 2) := by decide +kernel
theorem dX0_init_23 : decode cX0_init 23 = .ok (.newarray .int, 2) := by decide +kernel
theorem dX0_init_25 : decode cX0_init 25 = .ok (.putfield 16, 3) := by decide +kernel
theorem dX0_init_28 : decode cX0_init 28 = .ok (.aload_n 0, 1) := by decide +kernel
theorem dX0_init_29 : decode cX0_init 29 = .ok (.bipush 24, 2) := by decide +kernel
theorem dX0_init_31 : decode cX0_init 31 = .ok (.newarray .int, 2) := by decide +kernel
theorem dX0_init_33 : decode cX0_init 33 = .ok (.putfield 19, 3) := by decide +kernel
theorem dX0_init_36 : decode cX0_init 36 = .ok (.aload_n 0, 1) := by decide +kernel
theorem dX0_init_37 : decode cX0_init 37 = .ok (.bipush 24, 2) := by decide +kernel
theorem dX0_init_39 : decode cX0_init 39 = .ok (.newarray .int, 2) := by decide +kernel
theorem dX0_init_41 : decode cX0_init 41 = .ok (.putfield 22, 3) := by decide +kernel
theorem dX0_init_44 : decode cX0_init 44 = .ok (.aload_n 0, 1) := by decide +kernel
theorem dX0_init_45 : decode cX0_init 45 = .ok (.iconst 0, 1) := by decide +kernel
theorem dX0_init_46 : decode cX0_init 46 = .ok (.putfield 25, 3) := by decide +kernel
theorem dX0_init_49 : decode cX0_init 49 = .ok (.aload_n 0, 1) := by decide +kernel
theorem dX0_init_50 : decode cX0_init 50 = .ok (.iconst 0, 1) := by decide +kernel
theorem dX0_init_51 : decode cX0_init 51 = .ok (.putfield 29, 3) := by decide +kernel
theorem dX0_init_54 : decode cX0_init 54 = .ok (.return_, 1) := by decide +kernel
theorem dX0_kept_0 : decode cX0_kept 0 = .ok (.aload_n 0, 1) := by decide +kernel
theorem dX0_kept_1 : decode cX0_kept 1 = .ok (.getfield 29, 3) := by decide +kernel
theorem dX0_kept_4 : decode cX0_kept 4 = .ok (.ireturn, 1) := by decide +kernel
theorem dX0_clear_0 : decode cX0_clear 0 = .ok (.aload_n 0, 1) := by decide +kernel
theorem dX0_clear_1 : decode cX0_clear 1 = .ok (.iconst 0, 1) := by decide +kernel
theorem dX0_clear_2 : decode cX0_clear 2 = .ok (.putfield 29, 3) := by decide +kernel
theorem dX0_clear_5 : decode cX0_clear 5 = .ok (.return_, 1) := by decide +kernel
theorem dX0_keepAhead_0 : decode cX0_keepAhead 0 = .ok (.aload_n 0, 1) := by decide +kernel
theorem dX0_keepAhead_1 : decode cX0_keepAhead 1 = .ok (.getfield 9, 3) := by decide +kernel
theorem dX0_keepAhead_4 : decode cX0_keepAhead 4 = .ok (.aload_n 0, 1) := by decide +kernel
theorem dX0_keepAhead_5 : decode cX0_keepAhead 5 = .ok (.getfield 25, 3) := by decide +kernel
theorem dX0_keepAhead_8 : decode cX0_keepAhead 8 = .ok (.iload_n 2, 1) := by decide +kernel
theorem dX0_keepAhead_9 : decode cX0_keepAhead 9 = .ok (.iastore, 1) := by decide +kernel
theorem dX0_keepAhead_10 : decode cX0_keepAhead 10 = .ok (.aload_n 0, 1) := by decide +kernel
theorem dX0_keepAhead_11 : decode cX0_keepAhead 11 = .ok (.getfield 13, 3) := by decide +kernel
theorem dX0_keepAhead_14 : decode cX0_keepAhead 14 = .ok (.aload_n 0, 1) := by decide +kernel
theorem dX0_keepAhead_15 : decode cX0_keepAhead 15 = .ok (.getfield 25, 3) := by decide +kernel
theorem dX0_keepAhead_18 : decode cX0_keepAhead 18 = .ok (.aload_n 1, 1) := by decide +kernel
theorem dX0_keepAhead_19 : decode cX0_keepAhead 19 = .ok (.getfield 32, 3) := by decide +kernel
theorem dX0_keepAhead_22 : decode cX0_keepAhead 22 = .ok (.iload_n 2, 1) := by decide +kernel
theorem dX0_keepAhead_23 : decode cX0_keepAhead 23 = .ok (.iaload, 1) := by decide +kernel
theorem dX0_keepAhead_24 : decode cX0_keepAhead 24 = .ok (.iastore, 1) := by decide +kernel
theorem dX0_keepAhead_25 : decode cX0_keepAhead 25 = .ok (.aload_n 0, 1) := by decide +kernel
theorem dX0_keepAhead_26 : decode cX0_keepAhead 26 = .ok (.getfield 16, 3) := by decide +kernel
theorem dX0_keepAhead_29 : decode cX0_keepAhead 29 = .ok (.aload_n 0, 1) := by decide +kernel
theorem dX0_keepAhead_30 : decode cX0_keepAhead 30 = .ok (.getfield 25, 3) := by decide +kernel
theorem dX0_keepAhead_33 : decode cX0_keepAhead 33 = .ok (.aload_n 1, 1) := by decide +kernel
theorem dX0_keepAhead_34 : decode cX0_keepAhead 34 = .ok (.getfield 35, 3) := by decide +kernel
theorem dX0_keepAhead_37 : decode cX0_keepAhead 37 = .ok (.iload_n 2, 1) := by decide +kernel
theorem dX0_keepAhead_38 : decode cX0_keepAhead 38 = .ok (.iaload, 1) := by decide +kernel
theorem dX0_keepAhead_39 : decode cX0_keepAhead 39 = .ok (.iastore, 1) := by decide +kernel
theorem dX0_keepAhead_40 : decode cX0_keepAhead 40 = .ok (.aload_n 0, 1) := by decide +kernel
theorem dX0_keepAhead_41 : decode cX0_keepAhead 41 = .ok (.getfield 19, 3) := by decide +kernel
theorem dX0_keepAhead_44 : decode cX0_keepAhead 44 = .ok (.aload_n 0, 1) := by decide +kernel
theorem dX0_keepAhead_45 : decode cX0_keepAhead 45 = .ok (.getfield 25, 3) := by decide +kernel
theorem dX0_keepAhead_48 : decode cX0_keepAhead 48 = .ok (.aload_n 1, 1) := by decide +kernel
theorem dX0_keepAhead_49 : decode cX0_keepAhead 49 = .ok (.getfield 36, 3) := by decide +kernel
theorem dX0_keepAhead_52 : decode cX0_keepAhead 52 = .ok (.iload_n 2, 1) := by decide +kernel
theorem dX0_keepAhead_53 : decode cX0_keepAhead 53 = .ok (.iaload, 1) := by decide +kernel
theorem dX0_keepAhead_54 : decode cX0_keepAhead 54 = .ok (.iastore, 1) := by decide +kernel
theorem dX0_keepAhead_55 : decode cX0_keepAhead 55 = .ok (.aload_n 0, 1) := by decide +kernel
theorem dX0_keepAhead_56 : decode cX0_keepAhead 56 = .ok (.getfield 22, 3) := by decide +kernel
theorem dX0_keepAhead_59 : decode cX0_keepAhead 59 = .ok (.aload_n 0, 1) := by decide +kernel
theorem dX0_keepAhead_60 : decode cX0_keepAhead 60 = .ok (.getfield 25, 3) := by decide +kernel
theorem dX0_keepAhead_63 : decode cX0_keepAhead 63 = .ok (.aload_n 1, 1) := by decide +kernel
theorem dX0_keepAhead_64 : decode cX0_keepAhead 64 = .ok (.getfield 37, 3) := by decide +kernel
theorem dX0_keepAhead_67 : decode cX0_keepAhead 67 = .ok (.iastore, 1) := by decide +kernel
theorem dX0_keepAhead_68 : decode cX0_keepAhead 68 = .ok (.aload_n 0, 1) := by decide +kernel
theorem dX0_keepAhead_69 : decode cX0_keepAhead 69 = .ok (.aload_n 0, 1) := by decide +kernel
theorem dX0_keepAhead_70 : decode cX0_keepAhead 70 = .ok (.getfield 25, 3) := by decide +kernel
theorem dX0_keepAhead_73 : decode cX0_keepAhead 73 = .ok (.iconst 1, 1) := by decide +kernel
theorem dX0_keepAhead_74 : decode cX0_keepAhead 74 = .ok (.iadd, 1) := by decide +kernel
theorem dX0_keepAhead_75 : decode cX0_keepAhead 75 = .ok (.bipush 24, 2) := by decide +kernel
theorem dX0_keepAhead_77 : decode cX0_keepAhead 77 = .ok (.if_icmp .ge 12, 3) := by decide +kernel
theorem dX0_keepAhead_80 : decode cX0_keepAhead 80 = .ok (.aload_n 0, 1) := by decide +kernel
theorem dX0_keepAhead_81 : decode cX0_keepAhead 81 = .ok (.getfield 25, 3) := by decide +kernel
theorem dX0_keepAhead_84 : decode cX0_keepAhead 84 = .ok (.iconst 1, 1) := by decide +kernel
theorem dX0_keepAhead_85 : decode cX0_keepAhead 85 = .ok (.iadd, 1) := by decide +kernel
theorem dX0_keepAhead_86 : decode cX0_keepAhead 86 = .ok (.goto 4, 3) := by decide +kernel
theorem dX0_keepAhead_89 : decode cX0_keepAhead 89 = .ok (.iconst 0, 1) := by decide +kernel
theorem dX0_keepAhead_90 : decode cX0_keepAhead 90 = .ok (.putfield 25, 3) := by decide +kernel
theorem dX0_keepAhead_93 : decode cX0_keepAhead 93 = .ok (.aload_n 0, 1) := by decide +kernel
theorem dX0_keepAhead_94 : decode cX0_keepAhead 94 = .ok (.aload_n 0, 1) := by decide +kernel
theorem dX0_keepAhead_95 : decode cX0_keepAhead 95 = .ok (.getfield 29, 3) := by decide +kernel
theorem dX0_keepAhead_98 : decode cX0_keepAhead 98 = .ok (.iconst 1, 1) := by decide +kernel
theorem dX0_keepAhead_99 : decode cX0_keepAhead 99 = .ok (.iadd, 1) := by decide +kernel
theorem dX0_keepAhead_100 : decode cX0_keepAhead 100 = .ok (.bipush 24, 2) := by decide +kernel
theorem dX0_keepAhead_102 : decode cX0_keepAhead 102 = .ok (.invokestatic 40, 3) := by decide +kernel
theorem dX0_keepAhead_105 : decode cX0_keepAhead 105 = .ok (.putfield 29, 3) := by decide +kernel
theorem dX0_keepAhead_108 : decode cX0_keepAhead 108 = .ok (.return_, 1) := by decide +kernel
theorem dX0_undoLatest_0 : decode cX0_undoLatest 0 = .ok (.aload_n 0, 1) := by decide +kernel
theorem dX0_undoLatest_1 : decode cX0_undoLatest 1 = .ok (.aload_n 0, 1) := by decide +kernel
theorem dX0_undoLatest_2 : decode cX0_undoLatest 2 = .ok (.getfield 25, 3) := by decide +kernel
theorem dX0_undoLatest_5 : decode cX0_undoLatest 5 = .ok (.ifCond .le 12, 3) := by decide +kernel
theorem dX0_undoLatest_8 : decode cX0_undoLatest 8 = .ok (.aload_n 0, 1) := by decide +kernel
theorem dX0_undoLatest_9 : decode cX0_undoLatest 9 = .ok (.getfield 25, 3) := by decide +kernel
theorem dX0_undoLatest_12 : decode cX0_undoLatest 12 = .ok (.iconst 1, 1) := by decide +kernel
theorem dX0_undoLatest_13 : decode cX0_undoLatest 13 = .ok (.isub, 1) := by decide +kernel
theorem dX0_undoLatest_14 : decode cX0_undoLatest 14 = .ok (.goto 5, 3) := by decide +kernel
theorem dX0_undoLatest_17 : decode cX0_undoLatest 17 = .ok (.bipush 23, 2) := by decide +kernel
theorem dX0_undoLatest_19 : decode cX0_undoLatest 19 = .ok (.putfield 25, 3) := by decide +kernel
theorem dX0_undoLatest_22 : decode cX0_undoLatest 22 = .ok (.aload_n 0, 1) := by decide +kernel
theorem dX0_undoLatest_23 : decode cX0_undoLatest 23 = .ok (.dup, 1) := by decide +kernel
theorem dX0_undoLatest_24 : decode cX0_undoLatest 24 = .ok (.getfield 29, 3) := by decide +kernel
theorem dX0_undoLatest_27 : decode cX0_undoLatest 27 = .ok (.iconst 1, 1) := by decide +kernel
theorem dX0_undoLatest_28 : decode cX0_undoLatest 28 = .ok (.isub, 1) := by decide +kernel
theorem dX0_undoLatest_29 : decode cX0_undoLatest 29 = .ok (.putfield 29, 3) := by decide +kernel
theorem dX0_undoLatest_32 : decode cX0_undoLatest 32 = .ok (.aload_n 0, 1) := by decide +kernel
theorem dX0_undoLatest_33 : decode cX0_undoLatest 33 = .ok (.getfield 9, 3) := by decide +kernel
theorem dX0_undoLatest_36 : decode cX0_undoLatest 36 = .ok (.aload_n 0, 1) := by decide +kernel
theorem dX0_undoLatest_37 : decode cX0_undoLatest 37 = .ok (.getfield 25, 3) := by decide +kernel
theorem dX0_undoLatest_40 : decode cX0_undoLatest 40 = .ok (.iaload, 1) := by decide +kernel
theorem dX0_undoLatest_41 : decode cX0_undoLatest 41 = .ok (.istore_n 2, 1) := by decide +kernel
theorem dX0_undoLatest_42 : decode cX0_undoLatest 42 = .ok (.aload_n 1, 1) := by decide +kernel
theorem dX0_undoLatest_43 : decode cX0_undoLatest 43 = .ok (.getfield 32, 3) := by decide +kernel
theorem dX0_undoLatest_46 : decode cX0_undoLatest 46 = .ok (.iload_n 2, 1) := by decide +kernel
theorem dX0_undoLatest_47 : decode cX0_undoLatest 47 = .ok (.aload_n 0, 1) := by decide +kernel
theorem dX0_undoLatest_48 : decode cX0_undoLatest 48 = .ok (.getfield 13, 3) := by decide +kernel
theorem dX0_undoLatest_51 : decode cX0_undoLatest 51 = .ok (.aload_n 0, 1) := by decide +kernel
theorem dX0_undoLatest_52 : decode cX0_undoLatest 52 = .ok (.getfield 25, 3) := by decide +kernel
theorem dX0_undoLatest_55 : decode cX0_undoLatest 55 = .ok (.iaload, 1) := by decide +kernel
theorem dX0_undoLatest_56 : decode cX0_undoLatest 56 = .ok (.iastore, 1) := by decide +kernel
theorem dX0_undoLatest_57 : decode cX0_undoLatest 57 = .ok (.aload_n 1, 1) := by decide +kernel
theorem dX0_undoLatest_58 : decode cX0_undoLatest 58 = .ok (.getfield 35, 3) := by decide +kernel
theorem dX0_undoLatest_61 : decode cX0_undoLatest 61 = .ok (.iload_n 2, 1) := by decide +kernel
theorem dX0_undoLatest_62 : decode cX0_undoLatest 62 = .ok (.aload_n 0, 1) := by decide +kernel
theorem dX0_undoLatest_63 : decode cX0_undoLatest 63 = .ok (.getfield 16, 3) := by decide +kernel
theorem dX0_undoLatest_66 : decode cX0_undoLatest 66 = .ok (.aload_n 0, 1) := by decide +kernel
theorem dX0_undoLatest_67 : decode cX0_undoLatest 67 = .ok (.getfield 25, 3) := by decide +kernel
theorem dX0_undoLatest_70 : decode cX0_undoLatest 70 = .ok (.iaload, 1) := by decide +kernel
theorem dX0_undoLatest_71 : decode cX0_undoLatest 71 = .ok (.iastore, 1) := by decide +kernel
theorem dX0_undoLatest_72 : decode cX0_undoLatest 72 = .ok (.aload_n 1, 1) := by decide +kernel
theorem dX0_undoLatest_73 : decode cX0_undoLatest 73 = .ok (.getfield 36, 3) := by decide +kernel
theorem dX0_undoLatest_76 : decode cX0_undoLatest 76 = .ok (.iload_n 2, 1) := by decide +kernel
theorem dX0_undoLatest_77 : decode cX0_undoLatest 77 = .ok (.aload_n 0, 1) := by decide +kernel
theorem dX0_undoLatest_78 : decode cX0_undoLatest 78 = .ok (.getfield 19, 3) := by decide +kernel
theorem dX0_undoLatest_81 : decode cX0_undoLatest 81 = .ok (.aload_n 0, 1) := by decide +kernel
theorem dX0_undoLatest_82 : decode cX0_undoLatest 82 = .ok (.getfield 25, 3) := by decide +kernel
theorem dX0_undoLatest_85 : decode cX0_undoLatest 85 = .ok (.iaload, 1) := by decide +kernel
theorem dX0_undoLatest_86 : decode cX0_undoLatest 86 = .ok (.iastore, 1) := by decide +kernel
theorem dX0_undoLatest_87 : decode cX0_undoLatest 87 = .ok (.aload_n 1, 1) := by decide +kernel
theorem dX0_undoLatest_88 : decode cX0_undoLatest 88 = .ok (.aload_n 0, 1) := by decide +kernel
theorem dX0_undoLatest_89 : decode cX0_undoLatest 89 = .ok (.getfield 22, 3) := by decide +kernel
theorem dX0_undoLatest_92 : decode cX0_undoLatest 92 = .ok (.aload_n 0, 1) := by decide +kernel
theorem dX0_undoLatest_93 : decode cX0_undoLatest 93 = .ok (.getfield 25, 3) := by decide +kernel
theorem dX0_undoLatest_96 : decode cX0_undoLatest 96 = .ok (.iaload, 1) := by decide +kernel
theorem dX0_undoLatest_97 : decode cX0_undoLatest 97 = .ok (.putfield 37, 3) := by decide +kernel
theorem dX0_undoLatest_100 : decode cX0_undoLatest 100 = .ok (.return_, 1) := by decide +kernel
