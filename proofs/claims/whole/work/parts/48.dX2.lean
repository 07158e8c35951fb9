theorem dX2_init_0 : decode cX2_init 0 = .ok (.aload_n 0, 1) := by decide +kernel
theorem dX2_init_1 : decode cX2_init 1 = .ok (.invokespecial 3, 3) := by decide +kernel
theorem dX2_init_4 : decode cX2_init 4 = .ok (.aload_n 0, 1) := by decide +kernel
theorem dX2_init_5 : decode cX2_init 5 = .ok (.bipush 7, 2) := by decide +kernel
theorem dX2_init_7 : decode cX2_init 7 = .ok (.anewarray 11, 3) := by decide +kernel
theorem dX2_init_10 : decode cX2_init 10 = .ok (.putfield 13, 3) := by decide +kernel
theorem dX2_init_13 : decode cX2_init 13 = .ok (.aload_n 0, 1) := by decide +kernel
theorem dX2_init_14 : decode cX2_init 14 = .ok (.bipush 6, 2) := by decide +kernel
theorem dX2_init_16 : decode cX2_init 16 = .ok (.newarray .int, 2) := by decide +kernel
theorem dX2_init_18 : decode cX2_init 18 = .ok (.putfield 17, 3) := by decide +kernel
theorem dX2_init_21 : decode cX2_init 21 = .ok (.aload_n 0, 1) := by decide +kernel
theorem dX2_init_22 : decode cX2_init 22 = .ok (.bipush 6, 2) := by decide +kernel
theorem dX2_init_24 : decode cX2_init 24 = .ok (.newarray .int, 2) := by decide +kernel
theorem dX2_init_26 : decode cX2_init 26 = .ok (.putfield 21, 3) := by decide +kernel
theorem dX2_init_29 : decode cX2_init 29 = .ok (.aload_n 0, 1) := by decide +kernel
theorem dX2_init_30 : decode cX2_init 30 = .ok (.iconst 0, 1) := by decide +kernel
theorem dX2_init_31 : decode cX2_init 31 = .ok (.putfield 24, 3) := by decide +kernel
theorem dX2_init_34 : decode cX2_init 34 = .ok (.aload_n 0, 1) := by decide +kernel
theorem dX2_init_35 : decode cX2_init 35 = .ok (.iconst 0, 1) := by decide +kernel
theorem dX2_init_36 : decode cX2_init 36 = .ok (.putfield 28, 3) := by decide +kernel
theorem dX2_init_39 : decode cX2_init 39 = .ok (.aload_n 0, 1) := by decide +kernel
theorem dX2_init_40 : decode cX2_init 40 = .ok (.bipush 6, 2) := by decide +kernel
theorem dX2_init_42 : decode cX2_init 42 = .ok (.newarray .int, 2) := by decide +kernel
theorem dX2_init_44 : decode cX2_init 44 = .ok (.putfield 31, 3) := by decide +kernel
theorem dX2_init_47 : decode cX2_init 47 = .ok (.aload_n 0, 1) := by decide +kernel
theorem dX2_init_48 : decode cX2_init 48 = .ok (.bipush 6, 2) := by decide +kernel
theorem dX2_init_50 : decode cX2_init 50 = .ok (.newarray .int, 2) := by decide +kernel
theorem dX2_init_52 : decode cX2_init 52 = .ok (.putfield 34, 3) := by decide +kernel
theorem dX2_init_55 : decode cX2_init 55 = .ok (.aload_n 0, 1) := by decide +kernel
theorem dX2_init_56 : decode cX2_init 56 = .ok (.iconst 0, 1) := by decide +kernel
theorem dX2_init_57 : decode cX2_init 57 = .ok (.putfield 37, 3) := by decide +kernel
theorem dX2_init_60 : decode cX2_init 60 = .ok (.iconst 0, 1) := by decide +kernel
theorem dX2_init_61 : decode cX2_init 61 = .ok (.istore_n 1, 1) := by decide +kernel
theorem dX2_init_62 : decode cX2_init 62 = .ok (.iload_n 1, 1) := by decide +kernel
theorem dX2_init_63 : decode cX2_init 63 = .ok (.bipush 6, 2) := by decide +kernel
theorem dX2_init_65 : decode cX2_init 65 = .ok (.if_icmp .gt 22, 3) := by decide +kernel
theorem dX2_init_68 : decode cX2_init 68 = .ok (.aload_n 0, 1) := by decide +kernel
theorem dX2_init_69 : decode cX2_init 69 = .ok (.getfield 13, 3) := by decide +kernel
theorem dX2_init_72 : decode cX2_init 72 = .ok (.iload_n 1, 1) := by decide +kernel
theorem dX2_init_73 : decode cX2_init 73 = .ok (.new 11, 3) := by decide +kernel
theorem dX2_init_76 : decode cX2_init 76 = .ok (.dup, 1) := by decide +kernel
theorem dX2_init_77 : decode cX2_init 77 = .ok (.invokespecial 40, 3) := by decide +kernel
theorem dX2_init_80 : decode cX2_init 80 = .ok (.aastore, 1) := by decide +kernel
theorem dX2_init_81 : decode cX2_init 81 = .ok (.iinc 1 1, 3) := by decide +kernel
theorem dX2_init_84 : decode cX2_init 84 = .ok (.goto (-22), 3) := by decide +kernel
theorem dX2_init_87 : decode cX2_init 87 = .ok (.return_, 1) := by decide +kernel
theorem dX2_mindOf_0 : decode cX2_mindOf 0 = .ok (.aload_n 0, 1) := by decide +kernel
theorem dX2_mindOf_1 : decode cX2_mindOf 1 = .ok (.getfield 13, 3) := by decide +kernel
theorem dX2_mindOf_4 : decode cX2_mindOf 4 = .ok (.iconst 0, 1) := by decide +kernel
theorem dX2_mindOf_5 : decode cX2_mindOf 5 = .ok (.aaload, 1) := by decide +kernel
theorem dX2_mindOf_6 : decode cX2_mindOf 6 = .ok (.aload_n 1, 1) := by decide +kernel
theorem dX2_mindOf_7 : decode cX2_mindOf 7 = .ok (.iload_n 2, 1) := by decide +kernel
theorem dX2_mindOf_8 : decode cX2_mindOf 8 = .ok (.invokevirtual 41, 3) := by decide +kernel
theorem dX2_mindOf_11 : decode cX2_mindOf 11 = .ok (.aload_n 0, 1) := by decide +kernel
theorem dX2_mindOf_12 : decode cX2_mindOf 12 = .ok (.getfield 13, 3) := by decide +kernel
theorem dX2_mindOf_15 : decode cX2_mindOf 15 = .ok (.iconst 0, 1) := by decide +kernel
theorem dX2_mindOf_16 : decode cX2_mindOf 16 = .ok (.aaload, 1) := by decide +kernel
theorem dX2_mindOf_17 : decode cX2_mindOf 17 = .ok (.areturn, 1) := by decide +kernel
theorem dX2_nodsNow_0 : decode cX2_nodsNow 0 = .ok (.aload_n 0, 1) := by decide +kernel
theorem dX2_nodsNow_1 : decode cX2_nodsNow 1 = .ok (.aload_n 1, 1) := by decide +kernel
theorem dX2_nodsNow_2 : decode cX2_nodsNow 2 = .ok (.iload_n 2, 1) := by decide +kernel
theorem dX2_nodsNow_3 : decode cX2_nodsNow 3 = .ok (.invokevirtual 45, 3) := by decide +kernel
theorem dX2_nodsNow_6 : decode cX2_nodsNow 6 = .ok (.astore_n 3, 1) := by decide +kernel
theorem dX2_nodsNow_7 : decode cX2_nodsNow 7 = .ok (.aload_n 1, 1) := by decide +kernel
theorem dX2_nodsNow_8 : decode cX2_nodsNow 8 = .ok (.iload_n 2, 1) := by decide +kernel
theorem dX2_nodsNow_9 : decode cX2_nodsNow 9 = .ok (.invokevirtual 49, 3) := by decide +kernel
theorem dX2_nodsNow_12 : decode cX2_nodsNow 12 = .ok (.istore 4, 2) := by decide +kernel
theorem dX2_nodsNow_14 : decode cX2_nodsNow 14 = .ok (.iconst 0, 1) := by decide +kernel
theorem dX2_nodsNow_15 : decode cX2_nodsNow 15 = .ok (.istore 5, 2) := by decide +kernel
theorem dX2_nodsNow_17 : decode cX2_nodsNow 17 = .ok (.iconst 0, 1) := by decide +kernel
theorem dX2_nodsNow_18 : decode cX2_nodsNow 18 = .ok (.istore 6, 2) := by decide +kernel
theorem dX2_nodsNow_20 : decode cX2_nodsNow 20 = .ok (.iload 6, 2) := by decide +kernel
theorem dX2_nodsNow_22 : decode cX2_nodsNow 22 = .ok (.aload_n 1, 1) := by decide +kernel
theorem dX2_nodsNow_23 : decode cX2_nodsNow 23 = .ok (.getfield 55, 3) := by decide +kernel
theorem dX2_nodsNow_26 : decode cX2_nodsNow 26 = .ok (.if_icmp .ge 38, 3) := by decide +kernel
theorem dX2_nodsNow_29 : decode cX2_nodsNow 29 = .ok (.iload 4, 2) := by decide +kernel
theorem dX2_nodsNow_31 : decode cX2_nodsNow 31 = .ok (.iload 6, 2) := by decide +kernel
theorem dX2_nodsNow_33 : decode cX2_nodsNow 33 = .ok (.ishr, 1) := by decide +kernel
theorem dX2_nodsNow_34 : decode cX2_nodsNow 34 = .ok (.iconst 1, 1) := by decide +kernel
theorem dX2_nodsNow_35 : decode cX2_nodsNow 35 = .ok (.iand, 1) := by decide +kernel
theorem dX2_nodsNow_36 : decode cX2_nodsNow 36 = .ok (.ifCond .eq 22, 3) := by decide +kernel
theorem dX2_nodsNow_39 : decode cX2_nodsNow 39 = .ok (.aload_n 3, 1) := by decide +kernel
theorem dX2_nodsNow_40 : decode cX2_nodsNow 40 = .ok (.aload_n 1, 1) := by decide +kernel
theorem dX2_nodsNow_41 : decode cX2_nodsNow 41 = .ok (.iload 6, 2) := by decide +kernel
theorem dX2_nodsNow_43 : decode cX2_nodsNow 43 = .ok (.invokevirtual 58, 3) := by decide +kernel
theorem dX2_nodsNow_46 : decode cX2_nodsNow 46 = .ok (.ifCond .eq 12, 3) := by decide +kernel
theorem dX2_nodsNow_49 : decode cX2_nodsNow 49 = .ok (.iload 5, 2) := by decide +kernel
theorem dX2_nodsNow_51 : decode cX2_nodsNow 51 = .ok (.iconst 1, 1) := by decide +kernel
theorem dX2_nodsNow_52 : decode cX2_nodsNow 52 = .ok (.iload 6, 2) := by decide +kernel
theorem dX2_nodsNow_54 : decode cX2_nodsNow 54 = .ok (.ishl, 1) := by decide +kernel
theorem dX2_nodsNow_55 : decode cX2_nodsNow 55 = .ok (.ior, 1) := by decide +kernel
theorem dX2_nodsNow_56 : decode cX2_nodsNow 56 = .ok (.istore 5, 2) := by decide +kernel
theorem dX2_nodsNow_58 : decode cX2_nodsNow 58 = .ok (.iinc 6 1, 3) := by decide +kernel
theorem dX2_nodsNow_61 : decode cX2_nodsNow 61 = .ok (.goto (-41), 3) := by decide +kernel
theorem dX2_nodsNow_64 : decode cX2_nodsNow 64 = .ok (.iload 5, 2) := by decide +kernel
theorem dX2_nodsNow_66 : decode cX2_nodsNow 66 = .ok (.ireturn, 1) := by decide +kernel
theorem dX2_seekOrder_0 : decode cX2_seekOrder 0 = .ok (.aload_n 0, 1) := by decide +kernel
theorem dX2_seekOrder_1 : decode cX2_seekOrder 1 = .ok (.aload_n 1, 1) := by decide +kernel
theorem dX2_seekOrder_2 : decode cX2_seekOrder 2 = .ok (.iload_n 2, 1) := by decide +kernel
theorem dX2_seekOrder_3 : decode cX2_seekOrder 3 = .ok (.invokevirtual 45, 3) := by decide +kernel
theorem dX2_seekOrder_6 : decode cX2_seekOrder 6 = .ok (.pop, 1) := by decide +kernel
theorem dX2_seekOrder_7 : decode cX2_seekOrder 7 = .ok (.aload_n 0, 1) := by decide +kernel
theorem dX2_seekOrder_8 : decode cX2_seekOrder 8 = .ok (.iconst 0, 1) := by decide +kernel
theorem dX2_seekOrder_9 : decode cX2_seekOrder 9 = .ok (.putfield 24, 3) := by decide +kernel
theorem dX2_seekOrder_12 : decode cX2_seekOrder 12 = .ok (.aload_n 0, 1) := by decide +kernel
theorem dX2_seekOrder_13 : decode cX2_seekOrder 13 = .ok (.iconst (-1), 1) := by decide +kernel
theorem dX2_seekOrder_14 : decode cX2_seekOrder 14 = .ok (.putfield 28, 3) := by decide +kernel
theorem dX2_seekOrder_17 : decode cX2_seekOrder 17 = .ok (.aload_n 0, 1) := by decide +kernel
theorem dX2_seekOrder_18 : decode cX2_seekOrder 18 = .ok (.aload_n 1, 1) := by decide +kernel
theorem dX2_seekOrder_19 : decode cX2_seekOrder 19 = .ok (.iconst 0, 1) := by decide +kernel
theorem dX2_seekOrder_20 : decode cX2_seekOrder 20 = .ok (.iload_n 3, 1) := by decide +kernel
theorem dX2_seekOrder_21 : decode cX2_seekOrder 21 = .ok (.iconst 0, 1) := by decide +kernel
theorem dX2_seekOrder_22 : decode cX2_seekOrder 22 = .ok (.invokevirtual 62, 3) := by decide +kernel
theorem dX2_seekOrder_25 : decode cX2_seekOrder 25 = .ok (.return_, 1) := by decide +kernel
theorem dX2_bestNods_0 : decode cX2_bestNods 0 = .ok (.aload_n 0, 1) := by decide +kernel
theorem dX2_bestNods_1 : decode cX2_bestNods 1 = .ok (.getfield 28, 3) := by decide +kernel
theorem dX2_bestNods_4 : decode cX2_bestNods 4 = .ok (.ireturn, 1) := by decide +kernel
theorem dX2_bestAt_0 : decode cX2_bestAt 0 = .ok (.iload_n 1, 1) := by decide +kernel
theorem dX2_bestAt_1 : decode cX2_bestAt 1 = .ok (.ifCond .lt 20, 3) := by decide +kernel
theorem dX2_bestAt_4 : decode cX2_bestAt 4 = .ok (.iload_n 1, 1) := by decide +kernel
theorem dX2_bestAt_5 : decode cX2_bestAt 5 = .ok (.aload_n 0, 1) := by decide +kernel
theorem dX2_bestAt_6 : decode cX2_bestAt 6 = .ok (.getfield 24, 3) := by decide +kernel
theorem dX2_bestAt_9 : decode cX2_bestAt 9 = .ok (.if_icmp .ge 12, 3) := by decide +kernel
theorem dX2_bestAt_12 : decode cX2_bestAt 12 = .ok (.aload_n 0, 1) := by decide +kernel
theorem dX2_bestAt_13 : decode cX2_bestAt 13 = .ok (.getfield 21, 3) := by decide +kernel
theorem dX2_bestAt_16 : decode cX2_bestAt 16 = .ok (.iload_n 1, 1) := by decide +kernel
theorem dX2_bestAt_17 : decode cX2_bestAt 17 = .ok (.iaload, 1) := by decide +kernel
theorem dX2_bestAt_18 : decode cX2_bestAt 18 = .ok (.goto 5, 3) := by decide +kernel
theorem dX2_bestAt_21 : decode cX2_bestAt 21 = .ok (.ldc 66, 2) := by decide +kernel
theorem dX2_bestAt_23 : decode cX2_bestAt 23 = .ok (.ireturn, 1) := by decide +kernel
theorem dX2_seekOrderFrom_0 : decode cX2_seekOrderFrom 0 = .ok (.iload 4, 2) := by decide +kernel
theorem dX2_seekOrderFrom_2 : decode cX2_seekOrderFrom 2 = .ok (.iload_n 3, 1) := by decide +kernel
theorem dX2_seekOrderFrom_3 : decode cX2_seekOrderFrom 3 = .ok (.invokestatic 67, 3) := by decide +kernel
theorem dX2_seekOrderFrom_6 : decode cX2_seekOrderFrom 6 = .ok (.iadd, 1) := by decide +kernel
theorem dX2_seekOrderFrom_7 : decode cX2_seekOrderFrom 7 = .ok (.aload_n 0, 1) := by decide +kernel
theorem dX2_seekOrderFrom_8 : decode cX2_seekOrderFrom 8 = .ok (.getfield 28, 3) := by decide +kernel
theorem dX2_seekOrderFrom_11 : decode cX2_seekOrderFrom 11 = .ok (.if_icmp .gt 4, 3) := by decide +kernel
theorem dX2_seekOrderFrom_14 : decode cX2_seekOrderFrom 14 = .ok (.return_, 1) := by decide +kernel
theorem dX2_seekOrderFrom_15 : decode cX2_seekOrderFrom 15 = .ok (.iload_n 3, 1) := by decide +kernel
theorem dX2_seekOrderFrom_16 : decode cX2_seekOrderFrom 16 = .ok (.ifCond .eq 9, 3) := by decide +kernel
theorem dX2_seekOrderFrom_19 : decode cX2_seekOrderFrom 19 = .ok (.iload_n 2, 1) := by decide +kernel
theorem dX2_seekOrderFrom_20 : decode cX2_seekOrderFrom 20 = .ok (.bipush 6, 2) := by decide +kernel
theorem dX2_seekOrderFrom_22 : decode cX2_seekOrderFrom 22 = .ok (.if_icmp .lt 11, 3) := by decide +kernel
theorem dX2_seekOrderFrom_25 : decode cX2_seekOrderFrom 25 = .ok (.aload_n 0, 1) := by decide +kernel
theorem dX2_seekOrderFrom_26 : decode cX2_seekOrderFrom 26 = .ok (.iload_n 2, 1) := by decide +kernel
theorem dX2_seekOrderFrom_27 : decode cX2_seekOrderFrom 27 = .ok (.iload 4, 2) := by decide +kernel
theorem dX2_seekOrderFrom_29 : decode cX2_seekOrderFrom 29 = .ok (.invokevirtual 72, 3) := by decide +kernel
theorem dX2_seekOrderFrom_32 : decode cX2_seekOrderFrom 32 = .ok (.return_, 1) := by decide +kernel
theorem dX2_seekOrderFrom_33 : decode cX2_seekOrderFrom 33 = .ok (.iconst 0, 1) := by decide +kernel
theorem dX2_seekOrderFrom_34 : decode cX2_seekOrderFrom 34 = .ok (.istore 5, 2) := by decide +kernel
theorem dX2_seekOrderFrom_36 : decode cX2_seekOrderFrom 36 = .ok (.iload 5, 2) := by decide +kernel
theorem dX2_seekOrderFrom_38 : decode cX2_seekOrderFrom 38 = .ok (.aload_n 1, 1) := by decide +kernel
theorem dX2_seekOrderFrom_39 : decode cX2_seekOrderFrom 39 = .ok (.getfield 55, 3) := by decide +kernel
theorem dX2_seekOrderFrom_42 : decode cX2_seekOrderFrom 42 = .ok (.if_icmp .ge 58, 3) := by decide +kernel
theorem dX2_seekOrderFrom_45 : decode cX2_seekOrderFrom 45 = .ok (.iload_n 3, 1) := by decide +kernel
theorem dX2_seekOrderFrom_46 : decode cX2_seekOrderFrom 46 = .ok (.iload 5, 2) := by decide +kernel
theorem dX2_seekOrderFrom_48 : decode cX2_seekOrderFrom 48 = .ok (.ishr, 1) := by decide +kernel
theorem dX2_seekOrderFrom_49 : decode cX2_seekOrderFrom 49 = .ok (.iconst 1, 1) := by decide +kernel
theorem dX2_seekOrderFrom_50 : decode cX2_seekOrderFrom 50 = .ok (.iand, 1) := by decide +kernel
theorem dX2_seekOrderFrom_51 : decode cX2_seekOrderFrom 51 = .ok (.ifCond .eq 43, 3) := by decide +kernel
theorem dX2_seekOrderFrom_54 : decode cX2_seekOrderFrom 54 = .ok (.aload_n 0, 1) := by decide +kernel
theorem dX2_seekOrderFrom_55 : decode cX2_seekOrderFrom 55 = .ok (.aload_n 1, 1) := by decide +kernel
theorem dX2_seekOrderFrom_56 : decode cX2_seekOrderFrom 56 = .ok (.iload_n 2, 1) := by decide +kernel
theorem dX2_seekOrderFrom_57 : decode cX2_seekOrderFrom 57 = .ok (.iload 5, 2) := by decide +kernel
theorem dX2_seekOrderFrom_59 : decode cX2_seekOrderFrom 59 = .ok (.invokevirtual 76, 3) := by decide +kernel
theorem dX2_seekOrderFrom_62 : decode cX2_seekOrderFrom 62 = .ok (.istore 6, 2) := by decide +kernel
theorem dX2_seekOrderFrom_64 : decode cX2_seekOrderFrom 64 = .ok (.aload_n 0, 1) := by decide +kernel
theorem dX2_seekOrderFrom_65 : decode cX2_seekOrderFrom 65 = .ok (.aload_n 1, 1) := by decide +kernel
theorem dX2_seekOrderFrom_66 : decode cX2_seekOrderFrom 66 = .ok (.iload_n 2, 1) := by decide +kernel
theorem dX2_seekOrderFrom_67 : decode cX2_seekOrderFrom 67 = .ok (.iconst 1, 1) := by decide +kernel
theorem dX2_seekOrderFrom_68 : decode cX2_seekOrderFrom 68 = .ok (.iadd, 1) := by decide +kernel
theorem dX2_seekOrderFrom_69 : decode cX2_seekOrderFrom 69 = .ok (.iload_n 3, 1) := by decide +kernel
theorem dX2_seekOrderFrom_70 : decode cX2_seekOrderFrom 70 = .ok (.iconst 1, 1) := by decide +kernel
theorem dX2_seekOrderFrom_71 : decode cX2_seekOrderFrom 71 = .ok (.iload 5, 2) := by decide +kernel
theorem dX2_seekOrderFrom_73 : decode cX2_seekOrderFrom 73 = .ok (.ishl, 1) := by decide +kernel
theorem dX2_seekOrderFrom_74 : decode cX2_seekOrderFrom 74 = .ok (.iconst (-1), 1) := by decide +kernel
theorem dX2_seekOrderFrom_75 : decode cX2_seekOrderFrom 75 = .ok (.ixor, 1) := by decide +kernel
theorem dX2_seekOrderFrom_76 : decode cX2_seekOrderFrom 76 = .ok (.iand, 1) := by decide +kernel
theorem dX2_seekOrderFrom_77 : decode cX2_seekOrderFrom 77 = .ok (.iload 6, 2) := by decide +kernel
theorem dX2_seekOrderFrom_79 : decode cX2_seekOrderFrom 79 = .ok (.ifCond .eq 10, 3) := by decide +kernel
theorem dX2_seekOrderFrom_82 : decode cX2_seekOrderFrom 82 = .ok (.iload 4, 2) := by decide +kernel
theorem dX2_seekOrderFrom_84 : decode cX2_seekOrderFrom 84 = .ok (.iconst 1, 1) := by decide +kernel
theorem dX2_seekOrderFrom_85 : decode cX2_seekOrderFrom 85 = .ok (.iadd, 1) := by decide +kernel
theorem dX2_seekOrderFrom_86 : decode cX2_seekOrderFrom 86 = .ok (.goto 5, 3) := by decide +kernel
theorem dX2_seekOrderFrom_89 : decode cX2_seekOrderFrom 89 = .ok (.iload 4, 2) := by decide +kernel
theorem dX2_seekOrderFrom_91 : decode cX2_seekOrderFrom 91 = .ok (.invokevirtual 62, 3) := by decide +kernel
theorem dX2_seekOrderFrom_94 : decode cX2_seekOrderFrom 94 = .ok (.iinc 5 1, 3) := by decide +kernel
theorem dX2_seekOrderFrom_97 : decode cX2_seekOrderFrom 97 = .ok (.goto (-61), 3) := by decide +kernel
theorem dX2_seekOrderFrom_100 : decode cX2_seekOrderFrom 100 = .ok (.return_, 1) := by decide +kernel
theorem dX2_keepBest_0 : decode cX2_keepBest 0 = .ok (.aload_n 0, 1) := by decide +kernel
theorem dX2_keepBest_1 : decode cX2_keepBest 1 = .ok (.iload_n 1, 1) := by decide +kernel
theorem dX2_keepBest_2 : decode cX2_keepBest 2 = .ok (.putfield 24, 3) := by decide +kernel
theorem dX2_keepBest_5 : decode cX2_keepBest 5 = .ok (.aload_n 0, 1) := by decide +kernel
theorem dX2_keepBest_6 : decode cX2_keepBest 6 = .ok (.iload_n 2, 1) := by decide +kernel
theorem dX2_keepBest_7 : decode cX2_keepBest 7 = .ok (.putfield 28, 3) := by decide +kernel
theorem dX2_keepBest_10 : decode cX2_keepBest 10 = .ok (.iconst 0, 1) := by decide +kernel
theorem dX2_keepBest_11 : decode cX2_keepBest 11 = .ok (.istore_n 3, 1) := by decide +kernel
theorem dX2_keepBest_12 : decode cX2_keepBest 12 = .ok (.iload_n 3, 1) := by decide +kernel
theorem dX2_keepBest_13 : decode cX2_keepBest 13 = .ok (.iload_n 1, 1) := by decide +kernel
theorem dX2_keepBest_14 : decode cX2_keepBest 14 = .ok (.if_icmp .ge 21, 3) := by decide +kernel
theorem dX2_keepBest_17 : decode cX2_keepBest 17 = .ok (.aload_n 0, 1) := by decide +kernel
theorem dX2_keepBest_18 : decode cX2_keepBest 18 = .ok (.getfield 21, 3) := by decide +kernel
theorem dX2_keepBest_21 : decode cX2_keepBest 21 = .ok (.iload_n 3, 1) := by decide +kernel
theorem dX2_keepBest_22 : decode cX2_keepBest 22 = .ok (.aload_n 0, 1) := by decide +kernel
theorem dX2_keepBest_23 : decode cX2_keepBest 23 = .ok (.getfield 17, 3) := by decide +kernel
theorem dX2_keepBest_26 : decode cX2_keepBest 26 = .ok (.iload_n 3, 1) := by decide +kernel
theorem dX2_keepBest_27 : decode cX2_keepBest 27 = .ok (.iaload, 1) := by decide +kernel
theorem dX2_keepBest_28 : decode cX2_keepBest 28 = .ok (.iastore, 1) := by decide +kernel
theorem dX2_keepBest_29 : decode cX2_keepBest 29 = .ok (.iinc 3 1, 3) := by decide +kernel
theorem dX2_keepBest_32 : decode cX2_keepBest 32 = .ok (.goto (-20), 3) := by decide +kernel
theorem dX2_keepBest_35 : decode cX2_keepBest 35 = .ok (.return_, 1) := by decide +kernel
theorem dX2_tryNext_0 : decode cX2_tryNext 0 = .ok (.aload_n 0, 1) := by decide +kernel
theorem dX2_tryNext_1 : decode cX2_tryNext 1 = .ok (.getfield 17, 3) := by decide +kernel
theorem dX2_tryNext_4 : decode cX2_tryNext 4 = .ok (.iload_n 2, 1) := by decide +kernel
theorem dX2_tryNext_5 : decode cX2_tryNext 5 = .ok (.iload_n 3, 1) := by decide +kernel
theorem dX2_tryNext_6 : decode cX2_tryNext 6 = .ok (.iastore, 1) := by decide +kernel
theorem dX2_tryNext_7 : decode cX2_tryNext 7 = .ok (.aload_n 0, 1) := by decide +kernel
theorem dX2_tryNext_8 : decode cX2_tryNext 8 = .ok (.getfield 13, 3) := by decide +kernel
theorem dX2_tryNext_11 : decode cX2_tryNext 11 = .ok (.iload_n 2, 1) := by decide +kernel
theorem dX2_tryNext_12 : decode cX2_tryNext 12 = .ok (.aaload, 1) := by decide +kernel
theorem dX2_tryNext_13 : decode cX2_tryNext 13 = .ok (.aload_n 1, 1) := by decide +kernel
theorem dX2_tryNext_14 : decode cX2_tryNext 14 = .ok (.iload_n 3, 1) := by decide +kernel
theorem dX2_tryNext_15 : decode cX2_tryNext 15 = .ok (.invokevirtual 58, 3) := by decide +kernel
theorem dX2_tryNext_18 : decode cX2_tryNext 18 = .ok (.istore 4, 2) := by decide +kernel
theorem dX2_tryNext_20 : decode cX2_tryNext 20 = .ok (.aload_n 0, 1) := by decide +kernel
theorem dX2_tryNext_21 : decode cX2_tryNext 21 = .ok (.getfield 13, 3) := by decide +kernel
theorem dX2_tryNext_24 : decode cX2_tryNext 24 = .ok (.iload_n 2, 1) := by decide +kernel
theorem dX2_tryNext_25 : decode cX2_tryNext 25 = .ok (.iconst 1, 1) := by decide +kernel
theorem dX2_tryNext_26 : decode cX2_tryNext 26 = .ok (.iadd, 1) := by decide +kernel
theorem dX2_tryNext_27 : decode cX2_tryNext 27 = .ok (.aaload, 1) := by decide +kernel
theorem dX2_tryNext_28 : decode cX2_tryNext 28 = .ok (.aload_n 0, 1) := by decide +kernel
theorem dX2_tryNext_29 : decode cX2_tryNext 29 = .ok (.getfield 13, 3) := by decide +kernel
theorem dX2_tryNext_32 : decode cX2_tryNext 32 = .ok (.iload_n 2, 1) := by decide +kernel
theorem dX2_tryNext_33 : decode cX2_tryNext 33 = .ok (.aaload, 1) := by decide +kernel
theorem dX2_tryNext_34 : decode cX2_tryNext 34 = .ok (.invokevirtual 80, 3) := by decide +kernel
theorem dX2_tryNext_37 : decode cX2_tryNext 37 = .ok (.aload_n 0, 1) := by decide +kernel
theorem dX2_tryNext_38 : decode cX2_tryNext 38 = .ok (.getfield 13, 3) := by decide +kernel
theorem dX2_tryNext_41 : decode cX2_tryNext 41 = .ok (.iload_n 2, 1) := by decide +kernel
theorem dX2_tryNext_42 : decode cX2_tryNext 42 = .ok (.iconst 1, 1) := by decide +kernel
theorem dX2_tryNext_43 : decode cX2_tryNext 43 = .ok (.iadd, 1) := by decide +kernel
theorem dX2_tryNext_44 : decode cX2_tryNext 44 = .ok (.aaload, 1) := by decide +kernel
theorem dX2_tryNext_45 : decode cX2_tryNext 45 = .ok (.aload_n 1, 1) := by decide +kernel
theorem dX2_tryNext_46 : decode cX2_tryNext 46 = .ok (.iload_n 3, 1) := by decide +kernel
theorem dX2_tryNext_47 : decode cX2_tryNext 47 = .ok (.iload 4, 2) := by decide +kernel
theorem dX2_tryNext_49 : decode cX2_tryNext 49 = .ok (.invokevirtual 84, 3) := by decide +kernel
theorem dX2_tryNext_52 : decode cX2_tryNext 52 = .ok (.iload 4, 2) := by decide +kernel
theorem dX2_tryNext_54 : decode cX2_tryNext 54 = .ok (.ireturn, 1) := by decide +kernel
theorem dX2_fewestAhead_0 : decode cX2_fewestAhead 0 = .ok (.aload_n 0, 1) := by decide +kernel
theorem dX2_fewestAhead_1 : decode cX2_fewestAhead 1 = .ok (.aload_n 1, 1) := by decide +kernel
theorem dX2_fewestAhead_2 : decode cX2_fewestAhead 2 = .ok (.iload_n 2, 1) := by decide +kernel
theorem dX2_fewestAhead_3 : decode cX2_fewestAhead 3 = .ok (.invokevirtual 45, 3) := by decide +kernel
theorem dX2_fewestAhead_6 : decode cX2_fewestAhead 6 = .ok (.pop, 1) := by decide +kernel
theorem dX2_fewestAhead_7 : decode cX2_fewestAhead 7 = .ok (.aload_n 1, 1) := by decide +kernel
theorem dX2_fewestAhead_8 : decode cX2_fewestAhead 8 = .ok (.iload_n 2, 1) := by decide +kernel
theorem dX2_fewestAhead_9 : decode cX2_fewestAhead 9 = .ok (.invokevirtual 49, 3) := by decide +kernel
theorem dX2_fewestAhead_12 : decode cX2_fewestAhead 12 = .ok (.iconst 1, 1) := by decide +kernel
theorem dX2_fewestAhead_13 : decode cX2_fewestAhead 13 = .ok (.iload_n 3, 1) := by decide +kernel
theorem dX2_fewestAhead_14 : decode cX2_fewestAhead 14 = .ok (.ishl, 1) := by decide +kernel
theorem dX2_fewestAhead_15 : decode cX2_fewestAhead 15 = .ok (.iconst (-1), 1) := by decide +kernel
theorem dX2_fewestAhead_16 : decode cX2_fewestAhead 16 = .ok (.ixor, 1) := by decide +kernel
theorem dX2_fewestAhead_17 : decode cX2_fewestAhead 17 = .ok (.iand, 1) := by decide +kernel
theorem dX2_fewestAhead_18 : decode cX2_fewestAhead 18 = .ok (.istore 4, 2) := by decide +kernel
theorem dX2_fewestAhead_20 : decode cX2_fewestAhead 20 = .ok (.iload 4, 2) := by decide +kernel
theorem dX2_fewestAhead_22 : decode cX2_fewestAhead 22 = .ok (.invokestatic 67, 3) := by decide +kernel
theorem dX2_fewestAhead_25 : decode cX2_fewestAhead 25 = .ok (.istore 5, 2) := by decide +kernel
theorem dX2_fewestAhead_27 : decode cX2_fewestAhead 27 = .ok (.iconst 0, 1) := by decide +kernel
theorem dX2_fewestAhead_28 : decode cX2_fewestAhead 28 = .ok (.istore 6, 2) := by decide +kernel
theorem dX2_fewestAhead_30 : decode cX2_fewestAhead 30 = .ok (.iload 6, 2) := by decide +kernel
theorem dX2_fewestAhead_32 : decode cX2_fewestAhead 32 = .ok (.iload 5, 2) := by decide +kernel
theorem dX2_fewestAhead_34 : decode cX2_fewestAhead 34 = .ok (.if_icmp .gt 26, 3) := by decide +kernel
theorem dX2_fewestAhead_37 : decode cX2_fewestAhead 37 = .ok (.aload_n 0, 1) := by decide +kernel
theorem dX2_fewestAhead_38 : decode cX2_fewestAhead 38 = .ok (.aload_n 1, 1) := by decide +kernel
theorem dX2_fewestAhead_39 : decode cX2_fewestAhead 39 = .ok (.iconst 0, 1) := by decide +kernel
theorem dX2_fewestAhead_40 : decode cX2_fewestAhead 40 = .ok (.iload 4, 2) := by decide +kernel
theorem dX2_fewestAhead_42 : decode cX2_fewestAhead 42 = .ok (.iload_n 3, 1) := by decide +kernel
theorem dX2_fewestAhead_43 : decode cX2_fewestAhead 43 = .ok (.iload 6, 2) := by decide +kernel
theorem dX2_fewestAhead_45 : decode cX2_fewestAhead 45 = .ok (.invokevirtual 88, 3) := by decide +kernel
theorem dX2_fewestAhead_48 : decode cX2_fewestAhead 48 = .ok (.ifCond .eq 6, 3) := by decide +kernel
theorem dX2_fewestAhead_51 : decode cX2_fewestAhead 51 = .ok (.iload 6, 2) := by decide +kernel
theorem dX2_fewestAhead_53 : decode cX2_fewestAhead 53 = .ok (.ireturn, 1) := by decide +kernel
theorem dX2_fewestAhead_54 : decode cX2_fewestAhead 54 = .ok (.iinc 6 1, 3) := by decide +kernel
theorem dX2_fewestAhead_57 : decode cX2_fewestAhead 57 = .ok (.goto (-27), 3) := by decide +kernel
theorem dX2_fewestAhead_60 : decode cX2_fewestAhead 60 = .ok (.ldc 66, 2) := by decide +kernel
theorem dX2_fewestAhead_62 : decode cX2_fewestAhead 62 = .ok (.ireturn, 1) := by decide +kernel
theorem dX2_firstAhead_0 : decode cX2_firstAhead 0 = .ok (.aload_n 0, 1) := by decide +kernel
theorem dX2_firstAhead_1 : decode cX2_firstAhead 1 = .ok (.getfield 17, 3) := by decide +kernel
theorem dX2_firstAhead_4 : decode cX2_firstAhead 4 = .ok (.iconst 0, 1) := by decide +kernel
theorem dX2_firstAhead_5 : decode cX2_firstAhead 5 = .ok (.iaload, 1) := by decide +kernel
theorem dX2_firstAhead_6 : decode cX2_firstAhead 6 = .ok (.ireturn, 1) := by decide +kernel
theorem dX2_comesInFrom_0 : decode cX2_comesInFrom 0 = .ok (.iload_n 2, 1) := by decide +kernel
theorem dX2_comesInFrom_1 : decode cX2_comesInFrom 1 = .ok (.iload 5, 2) := by decide +kernel
theorem dX2_comesInFrom_3 : decode cX2_comesInFrom 3 = .ok (.if_icmp .ge 9, 3) := by decide +kernel
theorem dX2_comesInFrom_6 : decode cX2_comesInFrom 6 = .ok (.iload_n 2, 1) := by decide +kernel
theorem dX2_comesInFrom_7 : decode cX2_comesInFrom 7 = .ok (.bipush 6, 2) := by decide +kernel
theorem dX2_comesInFrom_9 : decode cX2_comesInFrom 9 = .ok (.if_icmp .lt 16, 3) := by decide +kernel
theorem dX2_comesInFrom_12 : decode cX2_comesInFrom 12 = .ok (.aload_n 0, 1) := by decide +kernel
theorem dX2_comesInFrom_13 : decode cX2_comesInFrom 13 = .ok (.getfield 13, 3) := by decide +kernel
theorem dX2_comesInFrom_16 : decode cX2_comesInFrom 16 = .ok (.iload_n 2, 1) := by decide +kernel
theorem dX2_comesInFrom_17 : decode cX2_comesInFrom 17 = .ok (.aaload, 1) := by decide +kernel
theorem dX2_comesInFrom_18 : decode cX2_comesInFrom 18 = .ok (.aload_n 1, 1) := by decide +kernel
theorem dX2_comesInFrom_19 : decode cX2_comesInFrom 19 = .ok (.iload 4, 2) := by decide +kernel
theorem dX2_comesInFrom_21 : decode cX2_comesInFrom 21 = .ok (.invokevirtual 58, 3) := by decide +kernel
theorem dX2_comesInFrom_24 : decode cX2_comesInFrom 24 = .ok (.ireturn, 1) := by decide +kernel
theorem dX2_comesInFrom_25 : decode cX2_comesInFrom 25 = .ok (.iconst 0, 1) := by decide +kernel
theorem dX2_comesInFrom_26 : decode cX2_comesInFrom 26 = .ok (.istore 6, 2) := by decide +kernel
theorem dX2_comesInFrom_28 : decode cX2_comesInFrom 28 = .ok (.iload 6, 2) := by decide +kernel
theorem dX2_comesInFrom_30 : decode cX2_comesInFrom 30 = .ok (.aload_n 1, 1) := by decide +kernel
theorem dX2_comesInFrom_31 : decode cX2_comesInFrom 31 = .ok (.getfield 55, 3) := by decide +kernel
theorem dX2_comesInFrom_34 : decode cX2_comesInFrom 34 = .ok (.if_icmp .ge 52, 3) := by decide +kernel
theorem dX2_comesInFrom_37 : decode cX2_comesInFrom 37 = .ok (.iload_n 3, 1) := by decide +kernel
theorem dX2_comesInFrom_38 : decode cX2_comesInFrom 38 = .ok (.iload 6, 2) := by decide +kernel
theorem dX2_comesInFrom_40 : decode cX2_comesInFrom 40 = .ok (.ishr, 1) := by decide +kernel
theorem dX2_comesInFrom_41 : decode cX2_comesInFrom 41 = .ok (.iconst 1, 1) := by decide +kernel
theorem dX2_comesInFrom_42 : decode cX2_comesInFrom 42 = .ok (.iand, 1) := by decide +kernel
theorem dX2_comesInFrom_43 : decode cX2_comesInFrom 43 = .ok (.ifCond .eq 37, 3) := by decide +kernel
theorem dX2_comesInFrom_46 : decode cX2_comesInFrom 46 = .ok (.aload_n 0, 1) := by decide +kernel
theorem dX2_comesInFrom_47 : decode cX2_comesInFrom 47 = .ok (.aload_n 1, 1) := by decide +kernel
theorem dX2_comesInFrom_48 : decode cX2_comesInFrom 48 = .ok (.iload_n 2, 1) := by decide +kernel
theorem dX2_comesInFrom_49 : decode cX2_comesInFrom 49 = .ok (.iload 6, 2) := by decide +kernel
theorem dX2_comesInFrom_51 : decode cX2_comesInFrom 51 = .ok (.invokevirtual 76, 3) := by decide +kernel
theorem dX2_comesInFrom_54 : decode cX2_comesInFrom 54 = .ok (.pop, 1) := by decide +kernel
theorem dX2_comesInFrom_55 : decode cX2_comesInFrom 55 = .ok (.aload_n 0, 1) := by decide +kernel
theorem dX2_comesInFrom_56 : decode cX2_comesInFrom 56 = .ok (.aload_n 1, 1) := by decide +kernel
theorem dX2_comesInFrom_57 : decode cX2_comesInFrom 57 = .ok (.iload_n 2, 1) := by decide +kernel
theorem dX2_comesInFrom_58 : decode cX2_comesInFrom 58 = .ok (.iconst 1, 1) := by decide +kernel
theorem dX2_comesInFrom_59 : decode cX2_comesInFrom 59 = .ok (.iadd, 1) := by decide +kernel
theorem dX2_comesInFrom_60 : decode cX2_comesInFrom 60 = .ok (.iload_n 3, 1) := by decide +kernel
theorem dX2_comesInFrom_61 : decode cX2_comesInFrom 61 = .ok (.iconst 1, 1) := by decide +kernel
theorem dX2_comesInFrom_62 : decode cX2_comesInFrom 62 = .ok (.iload 6, 2) := by decide +kernel
theorem dX2_comesInFrom_64 : decode cX2_comesInFrom 64 = .ok (.ishl, 1) := by decide +kernel
theorem dX2_comesInFrom_65 : decode cX2_comesInFrom 65 = .ok (.iconst (-1), 1) := by decide +kernel
theorem dX2_comesInFrom_66 : decode cX2_comesInFrom 66 = .ok (.ixor, 1) := by decide +kernel
theorem dX2_comesInFrom_67 : decode cX2_comesInFrom 67 = .ok (.iand, 1) := by decide +kernel
theorem dX2_comesInFrom_68 : decode cX2_comesInFrom 68 = .ok (.iload 4, 2) := by decide +kernel
theorem dX2_comesInFrom_70 : decode cX2_comesInFrom 70 = .ok (.iload 5, 2) := by decide +kernel
theorem dX2_comesInFrom_72 : decode cX2_comesInFrom 72 = .ok (.invokevirtual 88, 3) := by decide +kernel
theorem dX2_comesInFrom_75 : decode cX2_comesInFrom 75 = .ok (.ifCond .eq 5, 3) := by decide +kernel
theorem dX2_comesInFrom_78 : decode cX2_comesInFrom 78 = .ok (.iconst 1, 1) := by decide +kernel
theorem dX2_comesInFrom_79 : decode cX2_comesInFrom 79 = .ok (.ireturn, 1) := by decide +kernel
theorem dX2_comesInFrom_80 : decode cX2_comesInFrom 80 = .ok (.iinc 6 1, 3) := by decide +kernel
theorem dX2_comesInFrom_83 : decode cX2_comesInFrom 83 = .ok (.goto (-55), 3) := by decide +kernel
theorem dX2_comesInFrom_86 : decode cX2_comesInFrom 86 = .ok (.iconst 0, 1) := by decide +kernel
theorem dX2_comesInFrom_87 : decode cX2_comesInFrom 87 = .ok (.ireturn, 1) := by decide +kernel
theorem dX2_deadLies_0 : decode cX2_deadLies 0 = .ok (.aload_n 0, 1) := by decide +kernel
theorem dX2_deadLies_1 : decode cX2_deadLies 1 = .ok (.aload_n 1, 1) := by decide +kernel
theorem dX2_deadLies_2 : decode cX2_deadLies 2 = .ok (.iload_n 2, 1) := by decide +kernel
theorem dX2_deadLies_3 : decode cX2_deadLies 3 = .ok (.invokevirtual 45, 3) := by decide +kernel
theorem dX2_deadLies_6 : decode cX2_deadLies 6 = .ok (.pop, 1) := by decide +kernel
theorem dX2_deadLies_7 : decode cX2_deadLies 7 = .ok (.aload_n 1, 1) := by decide +kernel
theorem dX2_deadLies_8 : decode cX2_deadLies 8 = .ok (.iload_n 2, 1) := by decide +kernel
theorem dX2_deadLies_9 : decode cX2_deadLies 9 = .ok (.invokevirtual 49, 3) := by decide +kernel
theorem dX2_deadLies_12 : decode cX2_deadLies 12 = .ok (.istore_n 3, 1) := by decide +kernel
theorem dX2_deadLies_13 : decode cX2_deadLies 13 = .ok (.aload_n 0, 1) := by decide +kernel
theorem dX2_deadLies_14 : decode cX2_deadLies 14 = .ok (.aload_n 1, 1) := by decide +kernel
theorem dX2_deadLies_15 : decode cX2_deadLies 15 = .ok (.iconst 0, 1) := by decide +kernel
theorem dX2_deadLies_16 : decode cX2_deadLies 16 = .ok (.iload_n 3, 1) := by decide +kernel
theorem dX2_deadLies_17 : decode cX2_deadLies 17 = .ok (.iload_n 3, 1) := by decide +kernel
theorem dX2_deadLies_18 : decode cX2_deadLies 18 = .ok (.invokevirtual 92, 3) := by decide +kernel
theorem dX2_deadLies_21 : decode cX2_deadLies 21 = .ok (.ireturn, 1) := by decide +kernel
theorem dX2_deadFrom_0 : decode cX2_deadFrom 0 = .ok (.iload 4, 2) := by decide +kernel
theorem dX2_deadFrom_2 : decode cX2_deadFrom 2 = .ok (.istore 5, 2) := by decide +kernel
theorem dX2_deadFrom_4 : decode cX2_deadFrom 4 = .ok (.iload_n 2, 1) := by decide +kernel
theorem dX2_deadFrom_5 : decode cX2_deadFrom 5 = .ok (.bipush 6, 2) := by decide +kernel
theorem dX2_deadFrom_7 : decode cX2_deadFrom 7 = .ok (.if_icmp .lt 6, 3) := by decide +kernel
theorem dX2_deadFrom_10 : decode cX2_deadFrom 10 = .ok (.iload 5, 2) := by decide +kernel
theorem dX2_deadFrom_12 : decode cX2_deadFrom 12 = .ok (.ireturn, 1) := by decide +kernel
theorem dX2_deadFrom_13 : decode cX2_deadFrom 13 = .ok (.iconst 0, 1) := by decide +kernel
theorem dX2_deadFrom_14 : decode cX2_deadFrom 14 = .ok (.istore 6, 2) := by decide +kernel
theorem dX2_deadFrom_16 : decode cX2_deadFrom 16 = .ok (.iload 6, 2) := by decide +kernel
theorem dX2_deadFrom_18 : decode cX2_deadFrom 18 = .ok (.aload_n 1, 1) := by decide +kernel
theorem dX2_deadFrom_19 : decode cX2_deadFrom 19 = .ok (.getfield 55, 3) := by decide +kernel
theorem dX2_deadFrom_22 : decode cX2_deadFrom 22 = .ok (.if_icmp .ge 65, 3) := by decide +kernel
theorem dX2_deadFrom_25 : decode cX2_deadFrom 25 = .ok (.iload 5, 2) := by decide +kernel
theorem dX2_deadFrom_27 : decode cX2_deadFrom 27 = .ok (.ifCond .eq 60, 3) := by decide +kernel
theorem dX2_deadFrom_30 : decode cX2_deadFrom 30 = .ok (.iload_n 3, 1) := by decide +kernel
theorem dX2_deadFrom_31 : decode cX2_deadFrom 31 = .ok (.iload 6, 2) := by decide +kernel
theorem dX2_deadFrom_33 : decode cX2_deadFrom 33 = .ok (.ishr, 1) := by decide +kernel
theorem dX2_deadFrom_34 : decode cX2_deadFrom 34 = .ok (.iconst 1, 1) := by decide +kernel
theorem dX2_deadFrom_35 : decode cX2_deadFrom 35 = .ok (.iand, 1) := by decide +kernel
theorem dX2_deadFrom_36 : decode cX2_deadFrom 36 = .ok (.ifCond .eq 45, 3) := by decide +kernel
theorem dX2_deadFrom_39 : decode cX2_deadFrom 39 = .ok (.aload_n 0, 1) := by decide +kernel
theorem dX2_deadFrom_40 : decode cX2_deadFrom 40 = .ok (.aload_n 1, 1) := by decide +kernel
theorem dX2_deadFrom_41 : decode cX2_deadFrom 41 = .ok (.iload_n 2, 1) := by decide +kernel
theorem dX2_deadFrom_42 : decode cX2_deadFrom 42 = .ok (.iload 6, 2) := by decide +kernel
theorem dX2_deadFrom_44 : decode cX2_deadFrom 44 = .ok (.invokevirtual 76, 3) := by decide +kernel
theorem dX2_deadFrom_47 : decode cX2_deadFrom 47 = .ok (.ifCond .eq 14, 3) := by decide +kernel
theorem dX2_deadFrom_50 : decode cX2_deadFrom 50 = .ok (.iload 5, 2) := by decide +kernel
theorem dX2_deadFrom_52 : decode cX2_deadFrom 52 = .ok (.iconst 1, 1) := by decide +kernel
theorem dX2_deadFrom_53 : decode cX2_deadFrom 53 = .ok (.iload 6, 2) := by decide +kernel
theorem dX2_deadFrom_55 : decode cX2_deadFrom 55 = .ok (.ishl, 1) := by decide +kernel
theorem dX2_deadFrom_56 : decode cX2_deadFrom 56 = .ok (.iconst (-1), 1) := by decide +kernel
theorem dX2_deadFrom_57 : decode cX2_deadFrom 57 = .ok (.ixor, 1) := by decide +kernel
theorem dX2_deadFrom_58 : decode cX2_deadFrom 58 = .ok (.iand, 1) := by decide +kernel
theorem dX2_deadFrom_59 : decode cX2_deadFrom 59 = .ok (.istore 5, 2) := by decide +kernel
theorem dX2_deadFrom_61 : decode cX2_deadFrom 61 = .ok (.aload_n 0, 1) := by decide +kernel
theorem dX2_deadFrom_62 : decode cX2_deadFrom 62 = .ok (.aload_n 1, 1) := by decide +kernel
theorem dX2_deadFrom_63 : decode cX2_deadFrom 63 = .ok (.iload_n 2, 1) := by decide +kernel
theorem dX2_deadFrom_64 : decode cX2_deadFrom 64 = .ok (.iconst 1, 1) := by decide +kernel
theorem dX2_deadFrom_65 : decode cX2_deadFrom 65 = .ok (.iadd, 1) := by decide +kernel
theorem dX2_deadFrom_66 : decode cX2_deadFrom 66 = .ok (.iload_n 3, 1) := by decide +kernel
theorem dX2_deadFrom_67 : decode cX2_deadFrom 67 = .ok (.iconst 1, 1) := by decide +kernel
theorem dX2_deadFrom_68 : decode cX2_deadFrom 68 = .ok (.iload 6, 2) := by decide +kernel
theorem dX2_deadFrom_70 : decode cX2_deadFrom 70 = .ok (.ishl, 1) := by decide +kernel
theorem dX2_deadFrom_71 : decode cX2_deadFrom 71 = .ok (.iconst (-1), 1) := by decide +kernel
theorem dX2_deadFrom_72 : decode cX2_deadFrom 72 = .ok (.ixor, 1) := by decide +kernel
theorem dX2_deadFrom_73 : decode cX2_deadFrom 73 = .ok (.iand, 1) := by decide +kernel
theorem dX2_deadFrom_74 : decode cX2_deadFrom 74 = .ok (.iload 5, 2) := by decide +kernel
theorem dX2_deadFrom_76 : decode cX2_deadFrom 76 = .ok (.invokevirtual 92, 3) := by decide +kernel
theorem dX2_deadFrom_79 : decode cX2_deadFrom 79 = .ok (.istore 5, 2) := by decide +kernel
theorem dX2_deadFrom_81 : decode cX2_deadFrom 81 = .ok (.iinc 6 1, 3) := by decide +kernel
theorem dX2_deadFrom_84 : decode cX2_deadFrom 84 = .ok (.goto (-68), 3) := by decide +kernel
theorem dX2_deadFrom_87 : decode cX2_deadFrom 87 = .ok (.iload 5, 2) := by decide +kernel
theorem dX2_deadFrom_89 : decode cX2_deadFrom 89 = .ok (.ireturn, 1) := by decide +kernel
theorem dX2_helpEachOther_0 : decode cX2_helpEachOther 0 = .ok (.aload_n 1, 1) := by decide +kernel
theorem dX2_helpEachOther_1 : decode cX2_helpEachOther 1 = .ok (.iload_n 2, 1) := by decide +kernel
theorem dX2_helpEachOther_2 : decode cX2_helpEachOther 2 = .ok (.iload_n 3, 1) := by decide +kernel
theorem dX2_helpEachOther_3 : decode cX2_helpEachOther 3 = .ok (.invokevirtual 96, 3) := by decide +kernel
theorem dX2_helpEachOther_6 : decode cX2_helpEachOther 6 = .ok (.ifCond .ne 13, 3) := by decide +kernel
theorem dX2_helpEachOther_9 : decode cX2_helpEachOther 9 = .ok (.aload_n 1, 1) := by decide +kernel
theorem dX2_helpEachOther_10 : decode cX2_helpEachOther 10 = .ok (.iload_n 2, 1) := by decide +kernel
theorem dX2_helpEachOther_11 : decode cX2_helpEachOther 11 = .ok (.iload 4, 2) := by decide +kernel
theorem dX2_helpEachOther_13 : decode cX2_helpEachOther 13 = .ok (.invokevirtual 96, 3) := by decide +kernel
theorem dX2_helpEachOther_16 : decode cX2_helpEachOther 16 = .ok (.ifCond .eq 5, 3) := by decide +kernel
theorem dX2_helpEachOther_19 : decode cX2_helpEachOther 19 = .ok (.iconst 0, 1) := by decide +kernel
theorem dX2_helpEachOther_20 : decode cX2_helpEachOther 20 = .ok (.ireturn, 1) := by decide +kernel
theorem dX2_helpEachOther_21 : decode cX2_helpEachOther 21 = .ok (.aload_n 0, 1) := by decide +kernel
theorem dX2_helpEachOther_22 : decode cX2_helpEachOther 22 = .ok (.aload_n 1, 1) := by decide +kernel
theorem dX2_helpEachOther_23 : decode cX2_helpEachOther 23 = .ok (.iload_n 2, 1) := by decide +kernel
theorem dX2_helpEachOther_24 : decode cX2_helpEachOther 24 = .ok (.invokevirtual 45, 3) := by decide +kernel
theorem dX2_helpEachOther_27 : decode cX2_helpEachOther 27 = .ok (.pop, 1) := by decide +kernel
theorem dX2_helpEachOther_28 : decode cX2_helpEachOther 28 = .ok (.aload_n 0, 1) := by decide +kernel
theorem dX2_helpEachOther_29 : decode cX2_helpEachOther 29 = .ok (.aload_n 1, 1) := by decide +kernel
theorem dX2_helpEachOther_30 : decode cX2_helpEachOther 30 = .ok (.iload_n 3, 1) := by decide +kernel
theorem dX2_helpEachOther_31 : decode cX2_helpEachOther 31 = .ok (.iload 4, 2) := by decide +kernel
theorem dX2_helpEachOther_33 : decode cX2_helpEachOther 33 = .ok (.invokevirtual 100, 3) := by decide +kernel
theorem dX2_helpEachOther_36 : decode cX2_helpEachOther 36 = .ok (.ifCond .ne 14, 3) := by decide +kernel
theorem dX2_helpEachOther_39 : decode cX2_helpEachOther 39 = .ok (.aload_n 0, 1) := by decide +kernel
theorem dX2_helpEachOther_40 : decode cX2_helpEachOther 40 = .ok (.aload_n 1, 1) := by decide +kernel
theorem dX2_helpEachOther_41 : decode cX2_helpEachOther 41 = .ok (.iload 4, 2) := by decide +kernel
theorem dX2_helpEachOther_43 : decode cX2_helpEachOther 43 = .ok (.iload_n 3, 1) := by decide +kernel
theorem dX2_helpEachOther_44 : decode cX2_helpEachOther 44 = .ok (.invokevirtual 100, 3) := by decide +kernel
theorem dX2_helpEachOther_47 : decode cX2_helpEachOther 47 = .ok (.ifCond .eq 7, 3) := by decide +kernel
theorem dX2_helpEachOther_50 : decode cX2_helpEachOther 50 = .ok (.iconst 1, 1) := by decide +kernel
theorem dX2_helpEachOther_51 : decode cX2_helpEachOther 51 = .ok (.goto 4, 3) := by decide +kernel
theorem dX2_helpEachOther_54 : decode cX2_helpEachOther 54 = .ok (.iconst 0, 1) := by decide +kernel
theorem dX2_helpEachOther_55 : decode cX2_helpEachOther 55 = .ok (.ireturn, 1) := by decide +kernel
theorem dX2_bringsIn_0 : decode cX2_bringsIn 0 = .ok (.aload_n 0, 1) := by decide +kernel
theorem dX2_bringsIn_1 : decode cX2_bringsIn 1 = .ok (.getfield 13, 3) := by decide +kernel
theorem dX2_bringsIn_4 : decode cX2_bringsIn 4 = .ok (.iconst 0, 1) := by decide +kernel
theorem dX2_bringsIn_5 : decode cX2_bringsIn 5 = .ok (.aaload, 1) := by decide +kernel
theorem dX2_bringsIn_6 : decode cX2_bringsIn 6 = .ok (.aload_n 1, 1) := by decide +kernel
theorem dX2_bringsIn_7 : decode cX2_bringsIn 7 = .ok (.iload_n 3, 1) := by decide +kernel
theorem dX2_bringsIn_8 : decode cX2_bringsIn 8 = .ok (.invokevirtual 58, 3) := by decide +kernel
theorem dX2_bringsIn_11 : decode cX2_bringsIn 11 = .ok (.ifCond .eq 5, 3) := by decide +kernel
theorem dX2_bringsIn_14 : decode cX2_bringsIn 14 = .ok (.iconst 0, 1) := by decide +kernel
theorem dX2_bringsIn_15 : decode cX2_bringsIn 15 = .ok (.ireturn, 1) := by decide +kernel
theorem dX2_bringsIn_16 : decode cX2_bringsIn 16 = .ok (.aload_n 0, 1) := by decide +kernel
theorem dX2_bringsIn_17 : decode cX2_bringsIn 17 = .ok (.aload_n 1, 1) := by decide +kernel
theorem dX2_bringsIn_18 : decode cX2_bringsIn 18 = .ok (.iconst 0, 1) := by decide +kernel
theorem dX2_bringsIn_19 : decode cX2_bringsIn 19 = .ok (.iload_n 2, 1) := by decide +kernel
theorem dX2_bringsIn_20 : decode cX2_bringsIn 20 = .ok (.invokevirtual 76, 3) := by decide +kernel
theorem dX2_bringsIn_23 : decode cX2_bringsIn 23 = .ok (.pop, 1) := by decide +kernel
theorem dX2_bringsIn_24 : decode cX2_bringsIn 24 = .ok (.aload_n 0, 1) := by decide +kernel
theorem dX2_bringsIn_25 : decode cX2_bringsIn 25 = .ok (.getfield 13, 3) := by decide +kernel
theorem dX2_bringsIn_28 : decode cX2_bringsIn 28 = .ok (.iconst 1, 1) := by decide +kernel
theorem dX2_bringsIn_29 : decode cX2_bringsIn 29 = .ok (.aaload, 1) := by decide +kernel
theorem dX2_bringsIn_30 : decode cX2_bringsIn 30 = .ok (.aload_n 1, 1) := by decide +kernel
theorem dX2_bringsIn_31 : decode cX2_bringsIn 31 = .ok (.iload_n 3, 1) := by decide +kernel
theorem dX2_bringsIn_32 : decode cX2_bringsIn 32 = .ok (.invokevirtual 58, 3) := by decide +kernel
theorem dX2_bringsIn_35 : decode cX2_bringsIn 35 = .ok (.ireturn, 1) := by decide +kernel
theorem dX2_takeTelling_0 : decode cX2_takeTelling 0 = .ok (.iconst 0, 1) := by decide +kernel
theorem dX2_takeTelling_1 : decode cX2_takeTelling 1 = .ok (.istore 6, 2) := by decide +kernel
theorem dX2_takeTelling_3 : decode cX2_takeTelling 3 = .ok (.iload 6, 2) := by decide +kernel
theorem dX2_takeTelling_5 : decode cX2_takeTelling 5 = .ok (.iload 5, 2) := by decide +kernel
theorem dX2_takeTelling_7 : decode cX2_takeTelling 7 = .ok (.if_icmp .ge 64, 3) := by decide +kernel
theorem dX2_takeTelling_10 : decode cX2_takeTelling 10 = .ok (.aload_n 2, 1) := by decide +kernel
theorem dX2_takeTelling_11 : decode cX2_takeTelling 11 = .ok (.iload_n 3, 1) := by decide +kernel
theorem dX2_takeTelling_12 : decode cX2_takeTelling 12 = .ok (.iload 4, 2) := by decide +kernel
theorem dX2_takeTelling_14 : decode cX2_takeTelling 14 = .ok (.iconst 2, 1) := by decide +kernel
theorem dX2_takeTelling_15 : decode cX2_takeTelling 15 = .ok (.iload 6, 2) := by decide +kernel
theorem dX2_takeTelling_17 : decode cX2_takeTelling 17 = .ok (.imul, 1) := by decide +kernel
theorem dX2_takeTelling_18 : decode cX2_takeTelling 18 = .ok (.iadd, 1) := by decide +kernel
theorem dX2_takeTelling_19 : decode cX2_takeTelling 19 = .ok (.invokevirtual 103, 3) := by decide +kernel
theorem dX2_takeTelling_22 : decode cX2_takeTelling 22 = .ok (.istore 7, 2) := by decide +kernel
theorem dX2_takeTelling_24 : decode cX2_takeTelling 24 = .ok (.aload_n 1, 1) := by decide +kernel
theorem dX2_takeTelling_25 : decode cX2_takeTelling 25 = .ok (.iload 7, 2) := by decide +kernel
theorem dX2_takeTelling_27 : decode cX2_takeTelling 27 = .ok (.invokevirtual 109, 3) := by decide +kernel
theorem dX2_takeTelling_30 : decode cX2_takeTelling 30 = .ok (.ifCond .ne 5, 3) := by decide +kernel
theorem dX2_takeTelling_33 : decode cX2_takeTelling 33 = .ok (.iconst 0, 1) := by decide +kernel
theorem dX2_takeTelling_34 : decode cX2_takeTelling 34 = .ok (.ireturn, 1) := by decide +kernel
theorem dX2_takeTelling_35 : decode cX2_takeTelling 35 = .ok (.aload_n 0, 1) := by decide +kernel
theorem dX2_takeTelling_36 : decode cX2_takeTelling 36 = .ok (.getfield 31, 3) := by decide +kernel
theorem dX2_takeTelling_39 : decode cX2_takeTelling 39 = .ok (.iload 6, 2) := by decide +kernel
theorem dX2_takeTelling_41 : decode cX2_takeTelling 41 = .ok (.iload 7, 2) := by decide +kernel
theorem dX2_takeTelling_43 : decode cX2_takeTelling 43 = .ok (.iastore, 1) := by decide +kernel
theorem dX2_takeTelling_44 : decode cX2_takeTelling 44 = .ok (.aload_n 0, 1) := by decide +kernel
theorem dX2_takeTelling_45 : decode cX2_takeTelling 45 = .ok (.getfield 34, 3) := by decide +kernel
theorem dX2_takeTelling_48 : decode cX2_takeTelling 48 = .ok (.iload 6, 2) := by decide +kernel
theorem dX2_takeTelling_50 : decode cX2_takeTelling 50 = .ok (.aload_n 2, 1) := by decide +kernel
theorem dX2_takeTelling_51 : decode cX2_takeTelling 51 = .ok (.iload_n 3, 1) := by decide +kernel
theorem dX2_takeTelling_52 : decode cX2_takeTelling 52 = .ok (.iload 4, 2) := by decide +kernel
theorem dX2_takeTelling_54 : decode cX2_takeTelling 54 = .ok (.iconst 2, 1) := by decide +kernel
theorem dX2_takeTelling_55 : decode cX2_takeTelling 55 = .ok (.iload 6, 2) := by decide +kernel
theorem dX2_takeTelling_57 : decode cX2_takeTelling 57 = .ok (.imul, 1) := by decide +kernel
theorem dX2_takeTelling_58 : decode cX2_takeTelling 58 = .ok (.iadd, 1) := by decide +kernel
theorem dX2_takeTelling_59 : decode cX2_takeTelling 59 = .ok (.iconst 1, 1) := by decide +kernel
theorem dX2_takeTelling_60 : decode cX2_takeTelling 60 = .ok (.iadd, 1) := by decide +kernel
theorem dX2_takeTelling_61 : decode cX2_takeTelling 61 = .ok (.invokevirtual 103, 3) := by decide +kernel
theorem dX2_takeTelling_64 : decode cX2_takeTelling 64 = .ok (.iastore, 1) := by decide +kernel
theorem dX2_takeTelling_65 : decode cX2_takeTelling 65 = .ok (.iinc 6 1, 3) := by decide +kernel
theorem dX2_takeTelling_68 : decode cX2_takeTelling 68 = .ok (.goto (-65), 3) := by decide +kernel
theorem dX2_takeTelling_71 : decode cX2_takeTelling 71 = .ok (.aload_n 0, 1) := by decide +kernel
theorem dX2_takeTelling_72 : decode cX2_takeTelling 72 = .ok (.iload 5, 2) := by decide +kernel
theorem dX2_takeTelling_74 : decode cX2_takeTelling 74 = .ok (.putfield 37, 3) := by decide +kernel
theorem dX2_takeTelling_77 : decode cX2_takeTelling 77 = .ok (.iconst 1, 1) := by decide +kernel
theorem dX2_takeTelling_78 : decode cX2_takeTelling 78 = .ok (.ireturn, 1) := by decide +kernel
theorem dX2_goesSo_0 : decode cX2_goesSo 0 = .ok (.aload_n 0, 1) := by decide +kernel
theorem dX2_goesSo_1 : decode cX2_goesSo 1 = .ok (.aload_n 1, 1) := by decide +kernel
theorem dX2_goesSo_2 : decode cX2_goesSo 2 = .ok (.iload_n 2, 1) := by decide +kernel
theorem dX2_goesSo_3 : decode cX2_goesSo 3 = .ok (.invokevirtual 45, 3) := by decide +kernel
theorem dX2_goesSo_6 : decode cX2_goesSo 6 = .ok (.astore 5, 2) := by decide +kernel
theorem dX2_goesSo_8 : decode cX2_goesSo 8 = .ok (.aload 5, 2) := by decide +kernel
theorem dX2_goesSo_10 : decode cX2_goesSo 10 = .ok (.iload_n 3, 1) := by decide +kernel
theorem dX2_goesSo_11 : decode cX2_goesSo 11 = .ok (.putfield 113, 3) := by decide +kernel
theorem dX2_goesSo_14 : decode cX2_goesSo 14 = .ok (.aload 5, 2) := by decide +kernel
theorem dX2_goesSo_16 : decode cX2_goesSo 16 = .ok (.iload 4, 2) := by decide +kernel
theorem dX2_goesSo_18 : decode cX2_goesSo 18 = .ok (.putfield 116, 3) := by decide +kernel
theorem dX2_goesSo_21 : decode cX2_goesSo 21 = .ok (.iconst 0, 1) := by decide +kernel
theorem dX2_goesSo_22 : decode cX2_goesSo 22 = .ok (.istore 6, 2) := by decide +kernel
theorem dX2_goesSo_24 : decode cX2_goesSo 24 = .ok (.iload 6, 2) := by decide +kernel
theorem dX2_goesSo_26 : decode cX2_goesSo 26 = .ok (.aload_n 0, 1) := by decide +kernel
theorem dX2_goesSo_27 : decode cX2_goesSo 27 = .ok (.getfield 37, 3) := by decide +kernel
theorem dX2_goesSo_30 : decode cX2_goesSo 30 = .ok (.if_icmp .ge 46, 3) := by decide +kernel
theorem dX2_goesSo_33 : decode cX2_goesSo 33 = .ok (.aload 5, 2) := by decide +kernel
theorem dX2_goesSo_35 : decode cX2_goesSo 35 = .ok (.aload_n 1, 1) := by decide +kernel
theorem dX2_goesSo_36 : decode cX2_goesSo 36 = .ok (.aload_n 0, 1) := by decide +kernel
theorem dX2_goesSo_37 : decode cX2_goesSo 37 = .ok (.getfield 31, 3) := by decide +kernel
theorem dX2_goesSo_40 : decode cX2_goesSo 40 = .ok (.iload 6, 2) := by decide +kernel
theorem dX2_goesSo_42 : decode cX2_goesSo 42 = .ok (.iaload, 1) := by decide +kernel
theorem dX2_goesSo_43 : decode cX2_goesSo 43 = .ok (.invokevirtual 119, 3) := by decide +kernel
theorem dX2_goesSo_46 : decode cX2_goesSo 46 = .ok (.ifCond .eq 7, 3) := by decide +kernel
theorem dX2_goesSo_49 : decode cX2_goesSo 49 = .ok (.iconst 1, 1) := by decide +kernel
theorem dX2_goesSo_50 : decode cX2_goesSo 50 = .ok (.goto 4, 3) := by decide +kernel
theorem dX2_goesSo_53 : decode cX2_goesSo 53 = .ok (.iconst 0, 1) := by decide +kernel
theorem dX2_goesSo_54 : decode cX2_goesSo 54 = .ok (.istore 7, 2) := by decide +kernel
theorem dX2_goesSo_56 : decode cX2_goesSo 56 = .ok (.iload 7, 2) := by decide +kernel
theorem dX2_goesSo_58 : decode cX2_goesSo 58 = .ok (.aload_n 0, 1) := by decide +kernel
theorem dX2_goesSo_59 : decode cX2_goesSo 59 = .ok (.getfield 34, 3) := by decide +kernel
theorem dX2_goesSo_62 : decode cX2_goesSo 62 = .ok (.iload 6, 2) := by decide +kernel
theorem dX2_goesSo_64 : decode cX2_goesSo 64 = .ok (.iaload, 1) := by decide +kernel
theorem dX2_goesSo_65 : decode cX2_goesSo 65 = .ok (.if_icmp .eq 5, 3) := by decide +kernel
theorem dX2_goesSo_68 : decode cX2_goesSo 68 = .ok (.iconst 0, 1) := by decide +kernel
theorem dX2_goesSo_69 : decode cX2_goesSo 69 = .ok (.ireturn, 1) := by decide +kernel
theorem dX2_goesSo_70 : decode cX2_goesSo 70 = .ok (.iinc 6 1, 3) := by decide +kernel
theorem dX2_goesSo_73 : decode cX2_goesSo 73 = .ok (.goto (-49), 3) := by decide +kernel
theorem dX2_goesSo_76 : decode cX2_goesSo 76 = .ok (.iconst 1, 1) := by decide +kernel
theorem dX2_goesSo_77 : decode cX2_goesSo 77 = .ok (.ireturn, 1) := by decide +kernel
theorem dX2_waysToNod_0 : decode cX2_waysToNod 0 = .ok (.aload_n 0, 1) := by decide +kernel
theorem dX2_waysToNod_1 : decode cX2_waysToNod 1 = .ok (.aload_n 1, 1) := by decide +kernel
theorem dX2_waysToNod_2 : decode cX2_waysToNod 2 = .ok (.iload_n 2, 1) := by decide +kernel
theorem dX2_waysToNod_3 : decode cX2_waysToNod 3 = .ok (.invokevirtual 45, 3) := by decide +kernel
theorem dX2_waysToNod_6 : decode cX2_waysToNod 6 = .ok (.pop, 1) := by decide +kernel
theorem dX2_waysToNod_7 : decode cX2_waysToNod 7 = .ok (.aload_n 0, 1) := by decide +kernel
theorem dX2_waysToNod_8 : decode cX2_waysToNod 8 = .ok (.aload_n 1, 1) := by decide +kernel
theorem dX2_waysToNod_9 : decode cX2_waysToNod 9 = .ok (.iconst 0, 1) := by decide +kernel
theorem dX2_waysToNod_10 : decode cX2_waysToNod 10 = .ok (.iload_n 3, 1) := by decide +kernel
theorem dX2_waysToNod_11 : decode cX2_waysToNod 11 = .ok (.iload 4, 2) := by decide +kernel
theorem dX2_waysToNod_13 : decode cX2_waysToNod 13 = .ok (.invokevirtual 122, 3) := by decide +kernel
theorem dX2_waysToNod_16 : decode cX2_waysToNod 16 = .ok (.ireturn, 1) := by decide +kernel
theorem dX2_waysInAll_0 : decode cX2_waysInAll 0 = .ok (.iconst 1, 1) := by decide +kernel
theorem dX2_waysInAll_1 : decode cX2_waysInAll 1 = .ok (.istore_n 1, 1) := by decide +kernel
theorem dX2_waysInAll_2 : decode cX2_waysInAll 2 = .ok (.iconst 0, 1) := by decide +kernel
theorem dX2_waysInAll_3 : decode cX2_waysInAll 3 = .ok (.istore_n 2, 1) := by decide +kernel
theorem dX2_waysInAll_4 : decode cX2_waysInAll 4 = .ok (.iload_n 2, 1) := by decide +kernel
theorem dX2_waysInAll_5 : decode cX2_waysInAll 5 = .ok (.aload_n 0, 1) := by decide +kernel
theorem dX2_waysInAll_6 : decode cX2_waysInAll 6 = .ok (.getfield 37, 3) := by decide +kernel
theorem dX2_waysInAll_9 : decode cX2_waysInAll 9 = .ok (.if_icmp .ge 14, 3) := by decide +kernel
theorem dX2_waysInAll_12 : decode cX2_waysInAll 12 = .ok (.iload_n 1, 1) := by decide +kernel
theorem dX2_waysInAll_13 : decode cX2_waysInAll 13 = .ok (.bipush 10, 2) := by decide +kernel
theorem dX2_waysInAll_15 : decode cX2_waysInAll 15 = .ok (.imul, 1) := by decide +kernel
theorem dX2_waysInAll_16 : decode cX2_waysInAll 16 = .ok (.istore_n 1, 1) := by decide +kernel
theorem dX2_waysInAll_17 : decode cX2_waysInAll 17 = .ok (.iinc 2 1, 3) := by decide +kernel
theorem dX2_waysInAll_20 : decode cX2_waysInAll 20 = .ok (.goto (-16), 3) := by decide +kernel
theorem dX2_waysInAll_23 : decode cX2_waysInAll 23 = .ok (.iload_n 1, 1) := by decide +kernel
theorem dX2_waysInAll_24 : decode cX2_waysInAll 24 = .ok (.ireturn, 1) := by decide +kernel
theorem dX2_waysFrom_0 : decode cX2_waysFrom 0 = .ok (.iload_n 2, 1) := by decide +kernel
theorem dX2_waysFrom_1 : decode cX2_waysFrom 1 = .ok (.aload_n 0, 1) := by decide +kernel
theorem dX2_waysFrom_2 : decode cX2_waysFrom 2 = .ok (.getfield 37, 3) := by decide +kernel
theorem dX2_waysFrom_5 : decode cX2_waysFrom 5 = .ok (.if_icmp .ge 9, 3) := by decide +kernel
theorem dX2_waysFrom_8 : decode cX2_waysFrom 8 = .ok (.iload_n 2, 1) := by decide +kernel
theorem dX2_waysFrom_9 : decode cX2_waysFrom 9 = .ok (.bipush 6, 2) := by decide +kernel
theorem dX2_waysFrom_11 : decode cX2_waysFrom 11 = .ok (.if_icmp .lt 13, 3) := by decide +kernel
theorem dX2_waysFrom_14 : decode cX2_waysFrom 14 = .ok (.iload_n 3, 1) := by decide +kernel
theorem dX2_waysFrom_15 : decode cX2_waysFrom 15 = .ok (.ifCond .gt 7, 3) := by decide +kernel
theorem dX2_waysFrom_18 : decode cX2_waysFrom 18 = .ok (.iconst 1, 1) := by decide +kernel
theorem dX2_waysFrom_19 : decode cX2_waysFrom 19 = .ok (.goto 4, 3) := by decide +kernel
theorem dX2_waysFrom_22 : decode cX2_waysFrom 22 = .ok (.iconst 0, 1) := by decide +kernel
theorem dX2_waysFrom_23 : decode cX2_waysFrom 23 = .ok (.ireturn, 1) := by decide +kernel
theorem dX2_waysFrom_24 : decode cX2_waysFrom 24 = .ok (.aload_n 0, 1) := by decide +kernel
theorem dX2_waysFrom_25 : decode cX2_waysFrom 25 = .ok (.getfield 31, 3) := by decide +kernel
theorem dX2_waysFrom_28 : decode cX2_waysFrom 28 = .ok (.iload_n 2, 1) := by decide +kernel
theorem dX2_waysFrom_29 : decode cX2_waysFrom 29 = .ok (.iaload, 1) := by decide +kernel
theorem dX2_waysFrom_30 : decode cX2_waysFrom 30 = .ok (.istore 5, 2) := by decide +kernel
theorem dX2_waysFrom_32 : decode cX2_waysFrom 32 = .ok (.aload_n 0, 1) := by decide +kernel
theorem dX2_waysFrom_33 : decode cX2_waysFrom 33 = .ok (.getfield 13, 3) := by decide +kernel
theorem dX2_waysFrom_36 : decode cX2_waysFrom 36 = .ok (.iload_n 2, 1) := by decide +kernel
theorem dX2_waysFrom_37 : decode cX2_waysFrom 37 = .ok (.aaload, 1) := by decide +kernel
theorem dX2_waysFrom_38 : decode cX2_waysFrom 38 = .ok (.aload_n 1, 1) := by decide +kernel
theorem dX2_waysFrom_39 : decode cX2_waysFrom 39 = .ok (.iload 5, 2) := by decide +kernel
theorem dX2_waysFrom_41 : decode cX2_waysFrom 41 = .ok (.invokevirtual 58, 3) := by decide +kernel
theorem dX2_waysFrom_44 : decode cX2_waysFrom 44 = .ok (.istore 6, 2) := by decide +kernel
theorem dX2_waysFrom_46 : decode cX2_waysFrom 46 = .ok (.aload_n 0, 1) := by decide +kernel
theorem dX2_waysFrom_47 : decode cX2_waysFrom 47 = .ok (.getfield 13, 3) := by decide +kernel
theorem dX2_waysFrom_50 : decode cX2_waysFrom 50 = .ok (.iload_n 2, 1) := by decide +kernel
theorem dX2_waysFrom_51 : decode cX2_waysFrom 51 = .ok (.iconst 1, 1) := by decide +kernel
theorem dX2_waysFrom_52 : decode cX2_waysFrom 52 = .ok (.iadd, 1) := by decide +kernel
theorem dX2_waysFrom_53 : decode cX2_waysFrom 53 = .ok (.aaload, 1) := by decide +kernel
theorem dX2_waysFrom_54 : decode cX2_waysFrom 54 = .ok (.aload_n 0, 1) := by decide +kernel
theorem dX2_waysFrom_55 : decode cX2_waysFrom 55 = .ok (.getfield 13, 3) := by decide +kernel
theorem dX2_waysFrom_58 : decode cX2_waysFrom 58 = .ok (.iload_n 2, 1) := by decide +kernel
theorem dX2_waysFrom_59 : decode cX2_waysFrom 59 = .ok (.aaload, 1) := by decide +kernel
theorem dX2_waysFrom_60 : decode cX2_waysFrom 60 = .ok (.invokevirtual 80, 3) := by decide +kernel
theorem dX2_waysFrom_63 : decode cX2_waysFrom 63 = .ok (.aload_n 0, 1) := by decide +kernel
theorem dX2_waysFrom_64 : decode cX2_waysFrom 64 = .ok (.getfield 13, 3) := by decide +kernel
theorem dX2_waysFrom_67 : decode cX2_waysFrom 67 = .ok (.iload_n 2, 1) := by decide +kernel
theorem dX2_waysFrom_68 : decode cX2_waysFrom 68 = .ok (.iconst 1, 1) := by decide +kernel
theorem dX2_waysFrom_69 : decode cX2_waysFrom 69 = .ok (.iadd, 1) := by decide +kernel
theorem dX2_waysFrom_70 : decode cX2_waysFrom 70 = .ok (.aaload, 1) := by decide +kernel
theorem dX2_waysFrom_71 : decode cX2_waysFrom 71 = .ok (.aload_n 1, 1) := by decide +kernel
theorem dX2_waysFrom_72 : decode cX2_waysFrom 72 = .ok (.iload 5, 2) := by decide +kernel
theorem dX2_waysFrom_74 : decode cX2_waysFrom 74 = .ok (.iconst 0, 1) := by decide +kernel
theorem dX2_waysFrom_75 : decode cX2_waysFrom 75 = .ok (.invokevirtual 84, 3) := by decide +kernel
theorem dX2_waysFrom_78 : decode cX2_waysFrom 78 = .ok (.aload_n 0, 1) := by decide +kernel
theorem dX2_waysFrom_79 : decode cX2_waysFrom 79 = .ok (.aload_n 1, 1) := by decide +kernel
theorem dX2_waysFrom_80 : decode cX2_waysFrom 80 = .ok (.iload_n 2, 1) := by decide +kernel
theorem dX2_waysFrom_81 : decode cX2_waysFrom 81 = .ok (.iconst 1, 1) := by decide +kernel
theorem dX2_waysFrom_82 : decode cX2_waysFrom 82 = .ok (.iadd, 1) := by decide +kernel
theorem dX2_waysFrom_83 : decode cX2_waysFrom 83 = .ok (.iload_n 3, 1) := by decide +kernel
theorem dX2_waysFrom_84 : decode cX2_waysFrom 84 = .ok (.iload 4, 2) := by decide +kernel
theorem dX2_waysFrom_86 : decode cX2_waysFrom 86 = .ok (.invokevirtual 122, 3) := by decide +kernel
theorem dX2_waysFrom_89 : decode cX2_waysFrom 89 = .ok (.istore 7, 2) := by decide +kernel
theorem dX2_waysFrom_91 : decode cX2_waysFrom 91 = .ok (.iload 6, 2) := by decide +kernel
theorem dX2_waysFrom_93 : decode cX2_waysFrom 93 = .ok (.ifCond .ne 9, 3) := by decide +kernel
theorem dX2_waysFrom_96 : decode cX2_waysFrom 96 = .ok (.bipush 10, 2) := by decide +kernel
theorem dX2_waysFrom_98 : decode cX2_waysFrom 98 = .ok (.iload 7, 2) := by decide +kernel
theorem dX2_waysFrom_100 : decode cX2_waysFrom 100 = .ok (.imul, 1) := by decide +kernel
theorem dX2_waysFrom_101 : decode cX2_waysFrom 101 = .ok (.ireturn, 1) := by decide +kernel
theorem dX2_waysFrom_102 : decode cX2_waysFrom 102 = .ok (.aload_n 0, 1) := by decide +kernel
theorem dX2_waysFrom_103 : decode cX2_waysFrom 103 = .ok (.getfield 13, 3) := by decide +kernel
theorem dX2_waysFrom_106 : decode cX2_waysFrom 106 = .ok (.iload_n 2, 1) := by decide +kernel
theorem dX2_waysFrom_107 : decode cX2_waysFrom 107 = .ok (.iconst 1, 1) := by decide +kernel
theorem dX2_waysFrom_108 : decode cX2_waysFrom 108 = .ok (.iadd, 1) := by decide +kernel
theorem dX2_waysFrom_109 : decode cX2_waysFrom 109 = .ok (.aaload, 1) := by decide +kernel
theorem dX2_waysFrom_110 : decode cX2_waysFrom 110 = .ok (.aload_n 0, 1) := by decide +kernel
theorem dX2_waysFrom_111 : decode cX2_waysFrom 111 = .ok (.getfield 13, 3) := by decide +kernel
theorem dX2_waysFrom_114 : decode cX2_waysFrom 114 = .ok (.iload_n 2, 1) := by decide +kernel
theorem dX2_waysFrom_115 : decode cX2_waysFrom 115 = .ok (.aaload, 1) := by decide +kernel
theorem dX2_waysFrom_116 : decode cX2_waysFrom 116 = .ok (.invokevirtual 80, 3) := by decide +kernel
theorem dX2_waysFrom_119 : decode cX2_waysFrom 119 = .ok (.aload_n 0, 1) := by decide +kernel
theorem dX2_waysFrom_120 : decode cX2_waysFrom 120 = .ok (.getfield 13, 3) := by decide +kernel
theorem dX2_waysFrom_123 : decode cX2_waysFrom 123 = .ok (.iload_n 2, 1) := by decide +kernel
theorem dX2_waysFrom_124 : decode cX2_waysFrom 124 = .ok (.iconst 1, 1) := by decide +kernel
theorem dX2_waysFrom_125 : decode cX2_waysFrom 125 = .ok (.iadd, 1) := by decide +kernel
theorem dX2_waysFrom_126 : decode cX2_waysFrom 126 = .ok (.aaload, 1) := by decide +kernel
theorem dX2_waysFrom_127 : decode cX2_waysFrom 127 = .ok (.aload_n 1, 1) := by decide +kernel
theorem dX2_waysFrom_128 : decode cX2_waysFrom 128 = .ok (.iload 5, 2) := by decide +kernel
theorem dX2_waysFrom_130 : decode cX2_waysFrom 130 = .ok (.iconst 1, 1) := by decide +kernel
theorem dX2_waysFrom_131 : decode cX2_waysFrom 131 = .ok (.invokevirtual 84, 3) := by decide +kernel
theorem dX2_waysFrom_134 : decode cX2_waysFrom 134 = .ok (.iload 4, 2) := by decide +kernel
theorem dX2_waysFrom_136 : decode cX2_waysFrom 136 = .ok (.iload 7, 2) := by decide +kernel
theorem dX2_waysFrom_138 : decode cX2_waysFrom 138 = .ok (.imul, 1) := by decide +kernel
theorem dX2_waysFrom_139 : decode cX2_waysFrom 139 = .ok (.bipush 10, 2) := by decide +kernel
theorem dX2_waysFrom_141 : decode cX2_waysFrom 141 = .ok (.iload 4, 2) := by decide +kernel
theorem dX2_waysFrom_143 : decode cX2_waysFrom 143 = .ok (.isub, 1) := by decide +kernel
theorem dX2_waysFrom_144 : decode cX2_waysFrom 144 = .ok (.aload_n 0, 1) := by decide +kernel
theorem dX2_waysFrom_145 : decode cX2_waysFrom 145 = .ok (.aload_n 1, 1) := by decide +kernel
theorem dX2_waysFrom_146 : decode cX2_waysFrom 146 = .ok (.iload_n 2, 1) := by decide +kernel
theorem dX2_waysFrom_147 : decode cX2_waysFrom 147 = .ok (.iconst 1, 1) := by decide +kernel
theorem dX2_waysFrom_148 : decode cX2_waysFrom 148 = .ok (.iadd, 1) := by decide +kernel
theorem dX2_waysFrom_149 : decode cX2_waysFrom 149 = .ok (.iload_n 3, 1) := by decide +kernel
theorem dX2_waysFrom_150 : decode cX2_waysFrom 150 = .ok (.iconst 1, 1) := by decide +kernel
theorem dX2_waysFrom_151 : decode cX2_waysFrom 151 = .ok (.isub, 1) := by decide +kernel
theorem dX2_waysFrom_152 : decode cX2_waysFrom 152 = .ok (.iload 4, 2) := by decide +kernel
theorem dX2_waysFrom_154 : decode cX2_waysFrom 154 = .ok (.invokevirtual 122, 3) := by decide +kernel
theorem dX2_waysFrom_157 : decode cX2_waysFrom 157 = .ok (.imul, 1) := by decide +kernel
theorem dX2_waysFrom_158 : decode cX2_waysFrom 158 = .ok (.iadd, 1) := by decide +kernel
theorem dX2_waysFrom_159 : decode cX2_waysFrom 159 = .ok (.ireturn, 1) := by decide +kernel
