theorem dX2_init_0 : decode cX2_init 0 = .ok (.aload_n 0, 1) := by decide +kernel
theorem dX2_init_1 : decode cX2_init 1 = .ok (.invokespecial 3, 3) := by decide +kernel
theorem dX2_init_4 : decode cX2_init 4 = .ok (.aload_n 0, 1) := by decide +kernel
theorem dX2_init_5 : decode cX2_init 5 = .ok (.bipush 7, 2) := by decide +kernel
theorem dX2_init_7 : decode cX2_init 7 = .ok (.anewarray 11, 3) := by decide +kernel
theorem dX2_init_10 : decode cX2_init 10 = .ok (.putfield 13, 3) := by decide +kernel
theorem dX2_init_13 : decode cX2_init 13 = .ok (.aload_n 0, 1) := by decide +kernel
theorem dX2_init_14 : decode cX2_init 14 = .ok (.bipush 6, 2) := by decide +kernel
theorem dX2_init_16 : decode cX2_init 16 = .ok (.newarray .int, 2) := by decide +kernel
theorem dX2_init_18 : decode cX2_init 18 = .ok (.putfield 17, 3) := by decide +kernel
theorem dX2_init_21 : decode cX2_init 21 = .ok (.aload_n 0, 1) := by decide +kernel
theorem dX2_init_22 : decode cX2_init 22 = .ok (.bipush 6, 2) := by decide +kernel
theorem dX2_init_24 : decode cX2_init 24 = .ok (.newarray .int, 2) := by decide +kernel
theorem dX2_init_26 : decode cX2_init 26 = .ok (.putfield 21, 3) := by decide +kernel
theorem dX2_init_29 : decode cX2_init 29 = .ok (.aload_n 0, 1) := by decide +kernel
theorem dX2_init_30 : decode cX2_init 30 = .ok (.iconst 0, 1) := by decide +kernel
theorem dX2_init_31 : decode cX2_init 31 = .ok (.putfield 24, 3) := by decide +kernel
theorem dX2_init_34 : decode cX2_init 34 = .ok (.aload_n 0, 1) := by decide +kernel
theorem dX2_init_35 : decode cX2_init 35 = .ok (.iconst 0, 1) := by decide +kernel
theorem dX2_init_36 : decode cX2_init 36 = .ok (.putfield 28, 3) := by decide +kernel
theorem dX2_init_39 : decode cX2_init 39 = .ok (.aload_n 0, 1) := by decide +kernel
theorem dX2_init_40 : decode cX2_init 40 = .ok (.bipush 6, 2) := by decide +kernel
theorem dX2_init_42 : decode cX2_init 42 = .ok (.newarray .int, 2) := by decide +kernel
theorem dX2_init_44 : decode cX2_init 44 = .ok (.putfield 31, 3) := by decide +kernel
theorem dX2_init_47 : decode cX2_init 47 = .ok (.aload_n 0, 1) := by decide +kernel
theorem dX2_init_48 : decode cX2_init 48 = .ok (.bipush 6, 2) := by decide +kernel
theorem dX2_init_50 : decode cX2_init 50 = .ok (.newarray .int, 2) := by decide +kernel
theorem dX2_init_52 : decode cX2_init 52 = .ok (.putfield 34, 3) := by decide +kernel
theorem dX2_init_55 : decode cX2_init 55 = .ok (.aload_n 0, 1) := by decide +kernel
theorem dX2_init_56 : decode cX2_init 56 = .ok (.iconst 0, 1) := by decide +kernel
theorem dX2_init_57 : decode cX2_init 57 = .ok (.putfield 37, 3) := by decide +kernel
theorem dX2_init_60 : decode cX2_init 60 = .ok (.aload_n 0, 1) := by decide +kernel
theorem dX2_init_61 : decode cX2_init 61 = .ok (.aload_n 1, 1) := by decide +kernel
theorem dX2_init_62 : decode cX2_init 62 = .ok (.putfield 40, 3) := by decide +kernel
theorem dX2_init_65 : decode cX2_init 65 = .ok (.iconst 0, 1) := by decide +kernel
theorem dX2_init_66 : decode cX2_init 66 = .ok (.istore_n 2, 1) := by decide +kernel
theorem dX2_init_67 : decode cX2_init 67 = .ok (.iload_n 2, 1) := by decide +kernel
theorem dX2_init_68 : decode cX2_init 68 = .ok (.bipush 6, 2) := by decide +kernel
theorem dX2_init_70 : decode cX2_init 70 = .ok (.if_icmp .gt 22, 3) := by decide +kernel
theorem dX2_init_73 : decode cX2_init 73 = .ok (.aload_n 0, 1) := by decide +kernel
theorem dX2_init_74 : decode cX2_init 74 = .ok (.getfield 13, 3) := by decide +kernel
theorem dX2_init_77 : decode cX2_init 77 = .ok (.iload_n 2, 1) := by decide +kernel
theorem dX2_init_78 : decode cX2_init 78 = .ok (.new 11, 3) := by decide +kernel
theorem dX2_init_81 : decode cX2_init 81 = .ok (.dup, 1) := by decide +kernel
theorem dX2_init_82 : decode cX2_init 82 = .ok (.invokespecial 44, 3) := by decide +kernel
theorem dX2_init_85 : decode cX2_init 85 = .ok (.aastore, 1) := by decide +kernel
theorem dX2_init_86 : decode cX2_init 86 = .ok (.iinc 2 1, 3) := by decide +kernel
theorem dX2_init_89 : decode cX2_init 89 = .ok (.goto (-22), 3) := by decide +kernel
theorem dX2_init_92 : decode cX2_init 92 = .ok (.return_, 1) := by decide +kernel
theorem dX2_mindOf_0 : decode cX2_mindOf 0 = .ok (.aload_n 0, 1) := by decide +kernel
theorem dX2_mindOf_1 : decode cX2_mindOf 1 = .ok (.getfield 13, 3) := by decide +kernel
theorem dX2_mindOf_4 : decode cX2_mindOf 4 = .ok (.iconst 0, 1) := by decide +kernel
theorem dX2_mindOf_5 : decode cX2_mindOf 5 = .ok (.aaload, 1) := by decide +kernel
theorem dX2_mindOf_6 : decode cX2_mindOf 6 = .ok (.aload_n 0, 1) := by decide +kernel
theorem dX2_mindOf_7 : decode cX2_mindOf 7 = .ok (.getfield 40, 3) := by decide +kernel
theorem dX2_mindOf_10 : decode cX2_mindOf 10 = .ok (.iload_n 1, 1) := by decide +kernel
theorem dX2_mindOf_11 : decode cX2_mindOf 11 = .ok (.invokevirtual 45, 3) := by decide +kernel
theorem dX2_mindOf_14 : decode cX2_mindOf 14 = .ok (.aload_n 0, 1) := by decide +kernel
theorem dX2_mindOf_15 : decode cX2_mindOf 15 = .ok (.getfield 13, 3) := by decide +kernel
theorem dX2_mindOf_18 : decode cX2_mindOf 18 = .ok (.iconst 0, 1) := by decide +kernel
theorem dX2_mindOf_19 : decode cX2_mindOf 19 = .ok (.aaload, 1) := by decide +kernel
theorem dX2_mindOf_20 : decode cX2_mindOf 20 = .ok (.areturn, 1) := by decide +kernel
theorem dX2_nodsNow_0 : decode cX2_nodsNow 0 = .ok (.aload_n 0, 1) := by decide +kernel
theorem dX2_nodsNow_1 : decode cX2_nodsNow 1 = .ok (.iload_n 1, 1) := by decide +kernel
theorem dX2_nodsNow_2 : decode cX2_nodsNow 2 = .ok (.invokevirtual 49, 3) := by decide +kernel
theorem dX2_nodsNow_5 : decode cX2_nodsNow 5 = .ok (.astore_n 2, 1) := by decide +kernel
theorem dX2_nodsNow_6 : decode cX2_nodsNow 6 = .ok (.aload_n 0, 1) := by decide +kernel
theorem dX2_nodsNow_7 : decode cX2_nodsNow 7 = .ok (.getfield 40, 3) := by decide +kernel
theorem dX2_nodsNow_10 : decode cX2_nodsNow 10 = .ok (.iload_n 1, 1) := by decide +kernel
theorem dX2_nodsNow_11 : decode cX2_nodsNow 11 = .ok (.invokevirtual 53, 3) := by decide +kernel
theorem dX2_nodsNow_14 : decode cX2_nodsNow 14 = .ok (.istore_n 3, 1) := by decide +kernel
theorem dX2_nodsNow_15 : decode cX2_nodsNow 15 = .ok (.iconst 0, 1) := by decide +kernel
theorem dX2_nodsNow_16 : decode cX2_nodsNow 16 = .ok (.istore 4, 2) := by decide +kernel
theorem dX2_nodsNow_18 : decode cX2_nodsNow 18 = .ok (.iconst 0, 1) := by decide +kernel
theorem dX2_nodsNow_19 : decode cX2_nodsNow 19 = .ok (.istore 5, 2) := by decide +kernel
theorem dX2_nodsNow_21 : decode cX2_nodsNow 21 = .ok (.iload 5, 2) := by decide +kernel
theorem dX2_nodsNow_23 : decode cX2_nodsNow 23 = .ok (.aload_n 0, 1) := by decide +kernel
theorem dX2_nodsNow_24 : decode cX2_nodsNow 24 = .ok (.getfield 40, 3) := by decide +kernel
theorem dX2_nodsNow_27 : decode cX2_nodsNow 27 = .ok (.getfield 59, 3) := by decide +kernel
theorem dX2_nodsNow_30 : decode cX2_nodsNow 30 = .ok (.if_icmp .ge 40, 3) := by decide +kernel
theorem dX2_nodsNow_33 : decode cX2_nodsNow 33 = .ok (.iload_n 3, 1) := by decide +kernel
theorem dX2_nodsNow_34 : decode cX2_nodsNow 34 = .ok (.iload 5, 2) := by decide +kernel
theorem dX2_nodsNow_36 : decode cX2_nodsNow 36 = .ok (.ishr, 1) := by decide +kernel
theorem dX2_nodsNow_37 : decode cX2_nodsNow 37 = .ok (.iconst 1, 1) := by decide +kernel
theorem dX2_nodsNow_38 : decode cX2_nodsNow 38 = .ok (.iand, 1) := by decide +kernel
theorem dX2_nodsNow_39 : decode cX2_nodsNow 39 = .ok (.ifCond .eq 25, 3) := by decide +kernel
theorem dX2_nodsNow_42 : decode cX2_nodsNow 42 = .ok (.aload_n 2, 1) := by decide +kernel
theorem dX2_nodsNow_43 : decode cX2_nodsNow 43 = .ok (.aload_n 0, 1) := by decide +kernel
theorem dX2_nodsNow_44 : decode cX2_nodsNow 44 = .ok (.getfield 40, 3) := by decide +kernel
theorem dX2_nodsNow_47 : decode cX2_nodsNow 47 = .ok (.iload 5, 2) := by decide +kernel
theorem dX2_nodsNow_49 : decode cX2_nodsNow 49 = .ok (.invokevirtual 62, 3) := by decide +kernel
theorem dX2_nodsNow_52 : decode cX2_nodsNow 52 = .ok (.ifCond .eq 12, 3) := by decide +kernel
theorem dX2_nodsNow_55 : decode cX2_nodsNow 55 = .ok (.iload 4, 2) := by decide +kernel
theorem dX2_nodsNow_57 : decode cX2_nodsNow 57 = .ok (.iconst 1, 1) := by decide +kernel
theorem dX2_nodsNow_58 : decode cX2_nodsNow 58 = .ok (.iload 5, 2) := by decide +kernel
theorem dX2_nodsNow_60 : decode cX2_nodsNow 60 = .ok (.ishl, 1) := by decide +kernel
theorem dX2_nodsNow_61 : decode cX2_nodsNow 61 = .ok (.ior, 1) := by decide +kernel
theorem dX2_nodsNow_62 : decode cX2_nodsNow 62 = .ok (.istore 4, 2) := by decide +kernel
theorem dX2_nodsNow_64 : decode cX2_nodsNow 64 = .ok (.iinc 5 1, 3) := by decide +kernel
theorem dX2_nodsNow_67 : decode cX2_nodsNow 67 = .ok (.goto (-46), 3) := by decide +kernel
theorem dX2_nodsNow_70 : decode cX2_nodsNow 70 = .ok (.iload 4, 2) := by decide +kernel
theorem dX2_nodsNow_72 : decode cX2_nodsNow 72 = .ok (.ireturn, 1) := by decide +kernel
theorem dX2_seekOrder_0 : decode cX2_seekOrder 0 = .ok (.aload_n 0, 1) := by decide +kernel
theorem dX2_seekOrder_1 : decode cX2_seekOrder 1 = .ok (.iload_n 1, 1) := by decide +kernel
theorem dX2_seekOrder_2 : decode cX2_seekOrder 2 = .ok (.invokevirtual 49, 3) := by decide +kernel
theorem dX2_seekOrder_5 : decode cX2_seekOrder 5 = .ok (.pop, 1) := by decide +kernel
theorem dX2_seekOrder_6 : decode cX2_seekOrder 6 = .ok (.aload_n 0, 1) := by decide +kernel
theorem dX2_seekOrder_7 : decode cX2_seekOrder 7 = .ok (.iconst 0, 1) := by decide +kernel
theorem dX2_seekOrder_8 : decode cX2_seekOrder 8 = .ok (.putfield 24, 3) := by decide +kernel
theorem dX2_seekOrder_11 : decode cX2_seekOrder 11 = .ok (.aload_n 0, 1) := by decide +kernel
theorem dX2_seekOrder_12 : decode cX2_seekOrder 12 = .ok (.iconst (-1), 1) := by decide +kernel
theorem dX2_seekOrder_13 : decode cX2_seekOrder 13 = .ok (.putfield 28, 3) := by decide +kernel
theorem dX2_seekOrder_16 : decode cX2_seekOrder 16 = .ok (.aload_n 0, 1) := by decide +kernel
theorem dX2_seekOrder_17 : decode cX2_seekOrder 17 = .ok (.iconst 0, 1) := by decide +kernel
theorem dX2_seekOrder_18 : decode cX2_seekOrder 18 = .ok (.iload_n 2, 1) := by decide +kernel
theorem dX2_seekOrder_19 : decode cX2_seekOrder 19 = .ok (.iconst 0, 1) := by decide +kernel
theorem dX2_seekOrder_20 : decode cX2_seekOrder 20 = .ok (.invokevirtual 66, 3) := by decide +kernel
theorem dX2_seekOrder_23 : decode cX2_seekOrder 23 = .ok (.return_, 1) := by decide +kernel
theorem dX2_bestNods_0 : decode cX2_bestNods 0 = .ok (.aload_n 0, 1) := by decide +kernel
theorem dX2_bestNods_1 : decode cX2_bestNods 1 = .ok (.getfield 28, 3) := by decide +kernel
theorem dX2_bestNods_4 : decode cX2_bestNods 4 = .ok (.ireturn, 1) := by decide +kernel
theorem dX2_bestAt_0 : decode cX2_bestAt 0 = .ok (.iload_n 1, 1) := by decide +kernel
theorem dX2_bestAt_1 : decode cX2_bestAt 1 = .ok (.ifCond .lt 20, 3) := by decide +kernel
theorem dX2_bestAt_4 : decode cX2_bestAt 4 = .ok (.iload_n 1, 1) := by decide +kernel
theorem dX2_bestAt_5 : decode cX2_bestAt 5 = .ok (.aload_n 0, 1) := by decide +kernel
theorem dX2_bestAt_6 : decode cX2_bestAt 6 = .ok (.getfield 24, 3) := by decide +kernel
theorem dX2_bestAt_9 : decode cX2_bestAt 9 = .ok (.if_icmp .ge 12, 3) := by decide +kernel
theorem dX2_bestAt_12 : decode cX2_bestAt 12 = .ok (.aload_n 0, 1) := by decide +kernel
theorem dX2_bestAt_13 : decode cX2_bestAt 13 = .ok (.getfield 21, 3) := by decide +kernel
theorem dX2_bestAt_16 : decode cX2_bestAt 16 = .ok (.iload_n 1, 1) := by decide +kernel
theorem dX2_bestAt_17 : decode cX2_bestAt 17 = .ok (.iaload, 1) := by decide +kernel
theorem dX2_bestAt_18 : decode cX2_bestAt 18 = .ok (.goto 5, 3) := by decide +kernel
theorem dX2_bestAt_21 : decode cX2_bestAt 21 = .ok (.ldc 70, 2) := by decide +kernel
theorem dX2_bestAt_23 : decode cX2_bestAt 23 = .ok (.ireturn, 1) := by decide +kernel
theorem dX2_seekOrderFrom_0 : decode cX2_seekOrderFrom 0 = .ok (.iload_n 3, 1) := by decide +kernel
theorem dX2_seekOrderFrom_1 : decode cX2_seekOrderFrom 1 = .ok (.iload_n 2, 1) := by decide +kernel
theorem dX2_seekOrderFrom_2 : decode cX2_seekOrderFrom 2 = .ok (.invokestatic 71, 3) := by decide +kernel
theorem dX2_seekOrderFrom_5 : decode cX2_seekOrderFrom 5 = .ok (.iadd, 1) := by decide +kernel
theorem dX2_seekOrderFrom_6 : decode cX2_seekOrderFrom 6 = .ok (.aload_n 0, 1) := by decide +kernel
theorem dX2_seekOrderFrom_7 : decode cX2_seekOrderFrom 7 = .ok (.getfield 28, 3) := by decide +kernel
theorem dX2_seekOrderFrom_10 : decode cX2_seekOrderFrom 10 = .ok (.if_icmp .gt 4, 3) := by decide +kernel
theorem dX2_seekOrderFrom_13 : decode cX2_seekOrderFrom 13 = .ok (.return_, 1) := by decide +kernel
theorem dX2_seekOrderFrom_14 : decode cX2_seekOrderFrom 14 = .ok (.iload_n 2, 1) := by decide +kernel
theorem dX2_seekOrderFrom_15 : decode cX2_seekOrderFrom 15 = .ok (.ifCond .eq 9, 3) := by decide +kernel
theorem dX2_seekOrderFrom_18 : decode cX2_seekOrderFrom 18 = .ok (.iload_n 1, 1) := by decide +kernel
theorem dX2_seekOrderFrom_19 : decode cX2_seekOrderFrom 19 = .ok (.bipush 6, 2) := by decide +kernel
theorem dX2_seekOrderFrom_21 : decode cX2_seekOrderFrom 21 = .ok (.if_icmp .lt 10, 3) := by decide +kernel
theorem dX2_seekOrderFrom_24 : decode cX2_seekOrderFrom 24 = .ok (.aload_n 0, 1) := by decide +kernel
theorem dX2_seekOrderFrom_25 : decode cX2_seekOrderFrom 25 = .ok (.iload_n 1, 1) := by decide +kernel
theorem dX2_seekOrderFrom_26 : decode cX2_seekOrderFrom 26 = .ok (.iload_n 3, 1) := by decide +kernel
theorem dX2_seekOrderFrom_27 : decode cX2_seekOrderFrom 27 = .ok (.invokevirtual 76, 3) := by decide +kernel
theorem dX2_seekOrderFrom_30 : decode cX2_seekOrderFrom 30 = .ok (.return_, 1) := by decide +kernel
theorem dX2_seekOrderFrom_31 : decode cX2_seekOrderFrom 31 = .ok (.iconst 0, 1) := by decide +kernel
theorem dX2_seekOrderFrom_32 : decode cX2_seekOrderFrom 32 = .ok (.istore 4, 2) := by decide +kernel
theorem dX2_seekOrderFrom_34 : decode cX2_seekOrderFrom 34 = .ok (.iload 4, 2) := by decide +kernel
theorem dX2_seekOrderFrom_36 : decode cX2_seekOrderFrom 36 = .ok (.aload_n 0, 1) := by decide +kernel
theorem dX2_seekOrderFrom_37 : decode cX2_seekOrderFrom 37 = .ok (.getfield 40, 3) := by decide +kernel
theorem dX2_seekOrderFrom_40 : decode cX2_seekOrderFrom 40 = .ok (.getfield 59, 3) := by decide +kernel
theorem dX2_seekOrderFrom_43 : decode cX2_seekOrderFrom 43 = .ok (.if_icmp .ge 54, 3) := by decide +kernel
theorem dX2_seekOrderFrom_46 : decode cX2_seekOrderFrom 46 = .ok (.iload_n 2, 1) := by decide +kernel
theorem dX2_seekOrderFrom_47 : decode cX2_seekOrderFrom 47 = .ok (.iload 4, 2) := by decide +kernel
theorem dX2_seekOrderFrom_49 : decode cX2_seekOrderFrom 49 = .ok (.ishr, 1) := by decide +kernel
theorem dX2_seekOrderFrom_50 : decode cX2_seekOrderFrom 50 = .ok (.iconst 1, 1) := by decide +kernel
theorem dX2_seekOrderFrom_51 : decode cX2_seekOrderFrom 51 = .ok (.iand, 1) := by decide +kernel
theorem dX2_seekOrderFrom_52 : decode cX2_seekOrderFrom 52 = .ok (.ifCond .eq 39, 3) := by decide +kernel
theorem dX2_seekOrderFrom_55 : decode cX2_seekOrderFrom 55 = .ok (.aload_n 0, 1) := by decide +kernel
theorem dX2_seekOrderFrom_56 : decode cX2_seekOrderFrom 56 = .ok (.iload_n 1, 1) := by decide +kernel
theorem dX2_seekOrderFrom_57 : decode cX2_seekOrderFrom 57 = .ok (.iload 4, 2) := by decide +kernel
theorem dX2_seekOrderFrom_59 : decode cX2_seekOrderFrom 59 = .ok (.invokevirtual 80, 3) := by decide +kernel
theorem dX2_seekOrderFrom_62 : decode cX2_seekOrderFrom 62 = .ok (.istore 5, 2) := by decide +kernel
theorem dX2_seekOrderFrom_64 : decode cX2_seekOrderFrom 64 = .ok (.aload_n 0, 1) := by decide +kernel
theorem dX2_seekOrderFrom_65 : decode cX2_seekOrderFrom 65 = .ok (.iload_n 1, 1) := by decide +kernel
theorem dX2_seekOrderFrom_66 : decode cX2_seekOrderFrom 66 = .ok (.iconst 1, 1) := by decide +kernel
theorem dX2_seekOrderFrom_67 : decode cX2_seekOrderFrom 67 = .ok (.iadd, 1) := by decide +kernel
theorem dX2_seekOrderFrom_68 : decode cX2_seekOrderFrom 68 = .ok (.iload_n 2, 1) := by decide +kernel
theorem dX2_seekOrderFrom_69 : decode cX2_seekOrderFrom 69 = .ok (.iconst 1, 1) := by decide +kernel
theorem dX2_seekOrderFrom_70 : decode cX2_seekOrderFrom 70 = .ok (.iload 4, 2) := by decide +kernel
theorem dX2_seekOrderFrom_72 : decode cX2_seekOrderFrom 72 = .ok (.ishl, 1) := by decide +kernel
theorem dX2_seekOrderFrom_73 : decode cX2_seekOrderFrom 73 = .ok (.iconst (-1), 1) := by decide +kernel
theorem dX2_seekOrderFrom_74 : decode cX2_seekOrderFrom 74 = .ok (.ixor, 1) := by decide +kernel
theorem dX2_seekOrderFrom_75 : decode cX2_seekOrderFrom 75 = .ok (.iand, 1) := by decide +kernel
theorem dX2_seekOrderFrom_76 : decode cX2_seekOrderFrom 76 = .ok (.iload 5, 2) := by decide +kernel
theorem dX2_seekOrderFrom_78 : decode cX2_seekOrderFrom 78 = .ok (.ifCond .eq 9, 3) := by decide +kernel
theorem dX2_seekOrderFrom_81 : decode cX2_seekOrderFrom 81 = .ok (.iload_n 3, 1) := by decide +kernel
theorem dX2_seekOrderFrom_82 : decode cX2_seekOrderFrom 82 = .ok (.iconst 1, 1) := by decide +kernel
theorem dX2_seekOrderFrom_83 : decode cX2_seekOrderFrom 83 = .ok (.iadd, 1) := by decide +kernel
theorem dX2_seekOrderFrom_84 : decode cX2_seekOrderFrom 84 = .ok (.goto 4, 3) := by decide +kernel
theorem dX2_seekOrderFrom_87 : decode cX2_seekOrderFrom 87 = .ok (.iload_n 3, 1) := by decide +kernel
theorem dX2_seekOrderFrom_88 : decode cX2_seekOrderFrom 88 = .ok (.invokevirtual 66, 3) := by decide +kernel
theorem dX2_seekOrderFrom_91 : decode cX2_seekOrderFrom 91 = .ok (.iinc 4 1, 3) := by decide +kernel
theorem dX2_seekOrderFrom_94 : decode cX2_seekOrderFrom 94 = .ok (.goto (-60), 3) := by decide +kernel
theorem dX2_seekOrderFrom_97 : decode cX2_seekOrderFrom 97 = .ok (.return_, 1) := by decide +kernel
theorem dX2_keepBest_0 : decode cX2_keepBest 0 = .ok (.aload_n 0, 1) := by decide +kernel
theorem dX2_keepBest_1 : decode cX2_keepBest 1 = .ok (.iload_n 1, 1) := by decide +kernel
theorem dX2_keepBest_2 : decode cX2_keepBest 2 = .ok (.putfield 24, 3) := by decide +kernel
theorem dX2_keepBest_5 : decode cX2_keepBest 5 = .ok (.aload_n 0, 1) := by decide +kernel
theorem dX2_keepBest_6 : decode cX2_keepBest 6 = .ok (.iload_n 2, 1) := by decide +kernel
theorem dX2_keepBest_7 : decode cX2_keepBest 7 = .ok (.putfield 28, 3) := by decide +kernel
theorem dX2_keepBest_10 : decode cX2_keepBest 10 = .ok (.iconst 0, 1) := by decide +kernel
theorem dX2_keepBest_11 : decode cX2_keepBest 11 = .ok (.istore_n 3, 1) := by decide +kernel
theorem dX2_keepBest_12 : decode cX2_keepBest 12 = .ok (.iload_n 3, 1) := by decide +kernel
theorem dX2_keepBest_13 : decode cX2_keepBest 13 = .ok (.iload_n 1, 1) := by decide +kernel
theorem dX2_keepBest_14 : decode cX2_keepBest 14 = .ok (.if_icmp .ge 21, 3) := by decide +kernel
theorem dX2_keepBest_17 : decode cX2_keepBest 17 = .ok (.aload_n 0, 1) := by decide +kernel
theorem dX2_keepBest_18 : decode cX2_keepBest 18 = .ok (.getfield 21, 3) := by decide +kernel
theorem dX2_keepBest_21 : decode cX2_keepBest 21 = .ok (.iload_n 3, 1) := by decide +kernel
theorem dX2_keepBest_22 : decode cX2_keepBest 22 = .ok (.aload_n 0, 1) := by decide +kernel
theorem dX2_keepBest_23 : decode cX2_keepBest 23 = .ok (.getfield 17, 3) := by decide +kernel
theorem dX2_keepBest_26 : decode cX2_keepBest 26 = .ok (.iload_n 3, 1) := by decide +kernel
theorem dX2_keepBest_27 : decode cX2_keepBest 27 = .ok (.iaload, 1) := by decide +kernel
theorem dX2_keepBest_28 : decode cX2_keepBest 28 = .ok (.iastore, 1) := by decide +kernel
theorem dX2_keepBest_29 : decode cX2_keepBest 29 = .ok (.iinc 3 1, 3) := by decide +kernel
theorem dX2_keepBest_32 : decode cX2_keepBest 32 = .ok (.goto (-20), 3) := by decide +kernel
theorem dX2_keepBest_35 : decode cX2_keepBest 35 = .ok (.return_, 1) := by decide +kernel
theorem dX2_tryNext_0 : decode cX2_tryNext 0 = .ok (.aload_n 0, 1) := by decide +kernel
theorem dX2_tryNext_1 : decode cX2_tryNext 1 = .ok (.getfield 17, 3) := by decide +kernel
theorem dX2_tryNext_4 : decode cX2_tryNext 4 = .ok (.iload_n 1, 1) := by decide +kernel
theorem dX2_tryNext_5 : decode cX2_tryNext 5 = .ok (.iload_n 2, 1) := by decide +kernel
theorem dX2_tryNext_6 : decode cX2_tryNext 6 = .ok (.iastore, 1) := by decide +kernel
theorem dX2_tryNext_7 : decode cX2_tryNext 7 = .ok (.aload_n 0, 1) := by decide +kernel
theorem dX2_tryNext_8 : decode cX2_tryNext 8 = .ok (.getfield 13, 3) := by decide +kernel
theorem dX2_tryNext_11 : decode cX2_tryNext 11 = .ok (.iload_n 1, 1) := by decide +kernel
theorem dX2_tryNext_12 : decode cX2_tryNext 12 = .ok (.iconst 1, 1) := by decide +kernel
theorem dX2_tryNext_13 : decode cX2_tryNext 13 = .ok (.iadd, 1) := by decide +kernel
theorem dX2_tryNext_14 : decode cX2_tryNext 14 = .ok (.aaload, 1) := by decide +kernel
theorem dX2_tryNext_15 : decode cX2_tryNext 15 = .ok (.aload_n 0, 1) := by decide +kernel
theorem dX2_tryNext_16 : decode cX2_tryNext 16 = .ok (.getfield 13, 3) := by decide +kernel
theorem dX2_tryNext_19 : decode cX2_tryNext 19 = .ok (.iload_n 1, 1) := by decide +kernel
theorem dX2_tryNext_20 : decode cX2_tryNext 20 = .ok (.aaload, 1) := by decide +kernel
theorem dX2_tryNext_21 : decode cX2_tryNext 21 = .ok (.invokevirtual 84, 3) := by decide +kernel
theorem dX2_tryNext_24 : decode cX2_tryNext 24 = .ok (.aload_n 0, 1) := by decide +kernel
theorem dX2_tryNext_25 : decode cX2_tryNext 25 = .ok (.getfield 13, 3) := by decide +kernel
theorem dX2_tryNext_28 : decode cX2_tryNext 28 = .ok (.iload_n 1, 1) := by decide +kernel
theorem dX2_tryNext_29 : decode cX2_tryNext 29 = .ok (.iconst 1, 1) := by decide +kernel
theorem dX2_tryNext_30 : decode cX2_tryNext 30 = .ok (.iadd, 1) := by decide +kernel
theorem dX2_tryNext_31 : decode cX2_tryNext 31 = .ok (.aaload, 1) := by decide +kernel
theorem dX2_tryNext_32 : decode cX2_tryNext 32 = .ok (.aload_n 0, 1) := by decide +kernel
theorem dX2_tryNext_33 : decode cX2_tryNext 33 = .ok (.getfield 40, 3) := by decide +kernel
theorem dX2_tryNext_36 : decode cX2_tryNext 36 = .ok (.iload_n 2, 1) := by decide +kernel
theorem dX2_tryNext_37 : decode cX2_tryNext 37 = .ok (.invokevirtual 88, 3) := by decide +kernel
theorem dX2_tryNext_40 : decode cX2_tryNext 40 = .ok (.ireturn, 1) := by decide +kernel
theorem dX2_fewestAhead_0 : decode cX2_fewestAhead 0 = .ok (.aload_n 0, 1) := by decide +kernel
theorem dX2_fewestAhead_1 : decode cX2_fewestAhead 1 = .ok (.iload_n 1, 1) := by decide +kernel
theorem dX2_fewestAhead_2 : decode cX2_fewestAhead 2 = .ok (.invokevirtual 49, 3) := by decide +kernel
theorem dX2_fewestAhead_5 : decode cX2_fewestAhead 5 = .ok (.pop, 1) := by decide +kernel
theorem dX2_fewestAhead_6 : decode cX2_fewestAhead 6 = .ok (.aload_n 0, 1) := by decide +kernel
theorem dX2_fewestAhead_7 : decode cX2_fewestAhead 7 = .ok (.getfield 40, 3) := by decide +kernel
theorem dX2_fewestAhead_10 : decode cX2_fewestAhead 10 = .ok (.iload_n 1, 1) := by decide +kernel
theorem dX2_fewestAhead_11 : decode cX2_fewestAhead 11 = .ok (.invokevirtual 53, 3) := by decide +kernel
theorem dX2_fewestAhead_14 : decode cX2_fewestAhead 14 = .ok (.iconst 1, 1) := by decide +kernel
theorem dX2_fewestAhead_15 : decode cX2_fewestAhead 15 = .ok (.iload_n 2, 1) := by decide +kernel
theorem dX2_fewestAhead_16 : decode cX2_fewestAhead 16 = .ok (.ishl, 1) := by decide +kernel
theorem dX2_fewestAhead_17 : decode cX2_fewestAhead 17 = .ok (.iconst (-1), 1) := by decide +kernel
theorem dX2_fewestAhead_18 : decode cX2_fewestAhead 18 = .ok (.ixor, 1) := by decide +kernel
theorem dX2_fewestAhead_19 : decode cX2_fewestAhead 19 = .ok (.iand, 1) := by decide +kernel
theorem dX2_fewestAhead_20 : decode cX2_fewestAhead 20 = .ok (.istore_n 3, 1) := by decide +kernel
theorem dX2_fewestAhead_21 : decode cX2_fewestAhead 21 = .ok (.iload_n 3, 1) := by decide +kernel
theorem dX2_fewestAhead_22 : decode cX2_fewestAhead 22 = .ok (.invokestatic 71, 3) := by decide +kernel
theorem dX2_fewestAhead_25 : decode cX2_fewestAhead 25 = .ok (.istore 4, 2) := by decide +kernel
theorem dX2_fewestAhead_27 : decode cX2_fewestAhead 27 = .ok (.iconst 0, 1) := by decide +kernel
theorem dX2_fewestAhead_28 : decode cX2_fewestAhead 28 = .ok (.istore 5, 2) := by decide +kernel
theorem dX2_fewestAhead_30 : decode cX2_fewestAhead 30 = .ok (.iload 5, 2) := by decide +kernel
theorem dX2_fewestAhead_32 : decode cX2_fewestAhead 32 = .ok (.iload 4, 2) := by decide +kernel
theorem dX2_fewestAhead_34 : decode cX2_fewestAhead 34 = .ok (.if_icmp .gt 24, 3) := by decide +kernel
theorem dX2_fewestAhead_37 : decode cX2_fewestAhead 37 = .ok (.aload_n 0, 1) := by decide +kernel
theorem dX2_fewestAhead_38 : decode cX2_fewestAhead 38 = .ok (.iconst 0, 1) := by decide +kernel
theorem dX2_fewestAhead_39 : decode cX2_fewestAhead 39 = .ok (.iload_n 3, 1) := by decide +kernel
theorem dX2_fewestAhead_40 : decode cX2_fewestAhead 40 = .ok (.iload_n 2, 1) := by decide +kernel
theorem dX2_fewestAhead_41 : decode cX2_fewestAhead 41 = .ok (.iload 5, 2) := by decide +kernel
theorem dX2_fewestAhead_43 : decode cX2_fewestAhead 43 = .ok (.invokevirtual 91, 3) := by decide +kernel
theorem dX2_fewestAhead_46 : decode cX2_fewestAhead 46 = .ok (.ifCond .eq 6, 3) := by decide +kernel
theorem dX2_fewestAhead_49 : decode cX2_fewestAhead 49 = .ok (.iload 5, 2) := by decide +kernel
theorem dX2_fewestAhead_51 : decode cX2_fewestAhead 51 = .ok (.ireturn, 1) := by decide +kernel
theorem dX2_fewestAhead_52 : decode cX2_fewestAhead 52 = .ok (.iinc 5 1, 3) := by decide +kernel
theorem dX2_fewestAhead_55 : decode cX2_fewestAhead 55 = .ok (.goto (-25), 3) := by decide +kernel
theorem dX2_fewestAhead_58 : decode cX2_fewestAhead 58 = .ok (.ldc 70, 2) := by decide +kernel
theorem dX2_fewestAhead_60 : decode cX2_fewestAhead 60 = .ok (.ireturn, 1) := by decide +kernel
theorem dX2_firstAhead_0 : decode cX2_firstAhead 0 = .ok (.aload_n 0, 1) := by decide +kernel
theorem dX2_firstAhead_1 : decode cX2_firstAhead 1 = .ok (.getfield 17, 3) := by decide +kernel
theorem dX2_firstAhead_4 : decode cX2_firstAhead 4 = .ok (.iconst 0, 1) := by decide +kernel
theorem dX2_firstAhead_5 : decode cX2_firstAhead 5 = .ok (.iaload, 1) := by decide +kernel
theorem dX2_firstAhead_6 : decode cX2_firstAhead 6 = .ok (.ireturn, 1) := by decide +kernel
theorem dX2_comesInFrom_0 : decode cX2_comesInFrom 0 = .ok (.iload_n 1, 1) := by decide +kernel
theorem dX2_comesInFrom_1 : decode cX2_comesInFrom 1 = .ok (.iload 4, 2) := by decide +kernel
theorem dX2_comesInFrom_3 : decode cX2_comesInFrom 3 = .ok (.if_icmp .ge 9, 3) := by decide +kernel
theorem dX2_comesInFrom_6 : decode cX2_comesInFrom 6 = .ok (.iload_n 1, 1) := by decide +kernel
theorem dX2_comesInFrom_7 : decode cX2_comesInFrom 7 = .ok (.bipush 6, 2) := by decide +kernel
theorem dX2_comesInFrom_9 : decode cX2_comesInFrom 9 = .ok (.if_icmp .lt 18, 3) := by decide +kernel
theorem dX2_comesInFrom_12 : decode cX2_comesInFrom 12 = .ok (.aload_n 0, 1) := by decide +kernel
theorem dX2_comesInFrom_13 : decode cX2_comesInFrom 13 = .ok (.getfield 13, 3) := by decide +kernel
theorem dX2_comesInFrom_16 : decode cX2_comesInFrom 16 = .ok (.iload_n 1, 1) := by decide +kernel
theorem dX2_comesInFrom_17 : decode cX2_comesInFrom 17 = .ok (.aaload, 1) := by decide +kernel
theorem dX2_comesInFrom_18 : decode cX2_comesInFrom 18 = .ok (.aload_n 0, 1) := by decide +kernel
theorem dX2_comesInFrom_19 : decode cX2_comesInFrom 19 = .ok (.getfield 40, 3) := by decide +kernel
theorem dX2_comesInFrom_22 : decode cX2_comesInFrom 22 = .ok (.iload_n 3, 1) := by decide +kernel
theorem dX2_comesInFrom_23 : decode cX2_comesInFrom 23 = .ok (.invokevirtual 62, 3) := by decide +kernel
theorem dX2_comesInFrom_26 : decode cX2_comesInFrom 26 = .ok (.ireturn, 1) := by decide +kernel
theorem dX2_comesInFrom_27 : decode cX2_comesInFrom 27 = .ok (.iconst 0, 1) := by decide +kernel
theorem dX2_comesInFrom_28 : decode cX2_comesInFrom 28 = .ok (.istore 5, 2) := by decide +kernel
theorem dX2_comesInFrom_30 : decode cX2_comesInFrom 30 = .ok (.iload 5, 2) := by decide +kernel
theorem dX2_comesInFrom_32 : decode cX2_comesInFrom 32 = .ok (.aload_n 0, 1) := by decide +kernel
theorem dX2_comesInFrom_33 : decode cX2_comesInFrom 33 = .ok (.getfield 40, 3) := by decide +kernel
theorem dX2_comesInFrom_36 : decode cX2_comesInFrom 36 = .ok (.getfield 59, 3) := by decide +kernel
theorem dX2_comesInFrom_39 : decode cX2_comesInFrom 39 = .ok (.if_icmp .ge 49, 3) := by decide +kernel
theorem dX2_comesInFrom_42 : decode cX2_comesInFrom 42 = .ok (.iload_n 2, 1) := by decide +kernel
theorem dX2_comesInFrom_43 : decode cX2_comesInFrom 43 = .ok (.iload 5, 2) := by decide +kernel
theorem dX2_comesInFrom_45 : decode cX2_comesInFrom 45 = .ok (.ishr, 1) := by decide +kernel
theorem dX2_comesInFrom_46 : decode cX2_comesInFrom 46 = .ok (.iconst 1, 1) := by decide +kernel
theorem dX2_comesInFrom_47 : decode cX2_comesInFrom 47 = .ok (.iand, 1) := by decide +kernel
theorem dX2_comesInFrom_48 : decode cX2_comesInFrom 48 = .ok (.ifCond .eq 34, 3) := by decide +kernel
theorem dX2_comesInFrom_51 : decode cX2_comesInFrom 51 = .ok (.aload_n 0, 1) := by decide +kernel
theorem dX2_comesInFrom_52 : decode cX2_comesInFrom 52 = .ok (.iload_n 1, 1) := by decide +kernel
theorem dX2_comesInFrom_53 : decode cX2_comesInFrom 53 = .ok (.iload 5, 2) := by decide +kernel
theorem dX2_comesInFrom_55 : decode cX2_comesInFrom 55 = .ok (.invokevirtual 80, 3) := by decide +kernel
theorem dX2_comesInFrom_58 : decode cX2_comesInFrom 58 = .ok (.pop, 1) := by decide +kernel
theorem dX2_comesInFrom_59 : decode cX2_comesInFrom 59 = .ok (.aload_n 0, 1) := by decide +kernel
theorem dX2_comesInFrom_60 : decode cX2_comesInFrom 60 = .ok (.iload_n 1, 1) := by decide +kernel
theorem dX2_comesInFrom_61 : decode cX2_comesInFrom 61 = .ok (.iconst 1, 1) := by decide +kernel
theorem dX2_comesInFrom_62 : decode cX2_comesInFrom 62 = .ok (.iadd, 1) := by decide +kernel
theorem dX2_comesInFrom_63 : decode cX2_comesInFrom 63 = .ok (.iload_n 2, 1) := by decide +kernel
theorem dX2_comesInFrom_64 : decode cX2_comesInFrom 64 = .ok (.iconst 1, 1) := by decide +kernel
theorem dX2_comesInFrom_65 : decode cX2_comesInFrom 65 = .ok (.iload 5, 2) := by decide +kernel
theorem dX2_comesInFrom_67 : decode cX2_comesInFrom 67 = .ok (.ishl, 1) := by decide +kernel
theorem dX2_comesInFrom_68 : decode cX2_comesInFrom 68 = .ok (.iconst (-1), 1) := by decide +kernel
theorem dX2_comesInFrom_69 : decode cX2_comesInFrom 69 = .ok (.ixor, 1) := by decide +kernel
theorem dX2_comesInFrom_70 : decode cX2_comesInFrom 70 = .ok (.iand, 1) := by decide +kernel
theorem dX2_comesInFrom_71 : decode cX2_comesInFrom 71 = .ok (.iload_n 3, 1) := by decide +kernel
theorem dX2_comesInFrom_72 : decode cX2_comesInFrom 72 = .ok (.iload 4, 2) := by decide +kernel
theorem dX2_comesInFrom_74 : decode cX2_comesInFrom 74 = .ok (.invokevirtual 91, 3) := by decide +kernel
theorem dX2_comesInFrom_77 : decode cX2_comesInFrom 77 = .ok (.ifCond .eq 5, 3) := by decide +kernel
theorem dX2_comesInFrom_80 : decode cX2_comesInFrom 80 = .ok (.iconst 1, 1) := by decide +kernel
theorem dX2_comesInFrom_81 : decode cX2_comesInFrom 81 = .ok (.ireturn, 1) := by decide +kernel
theorem dX2_comesInFrom_82 : decode cX2_comesInFrom 82 = .ok (.iinc 5 1, 3) := by decide +kernel
theorem dX2_comesInFrom_85 : decode cX2_comesInFrom 85 = .ok (.goto (-55), 3) := by decide +kernel
theorem dX2_comesInFrom_88 : decode cX2_comesInFrom 88 = .ok (.iconst 0, 1) := by decide +kernel
theorem dX2_comesInFrom_89 : decode cX2_comesInFrom 89 = .ok (.ireturn, 1) := by decide +kernel
theorem dX2_deadLies_0 : decode cX2_deadLies 0 = .ok (.aload_n 0, 1) := by decide +kernel
theorem dX2_deadLies_1 : decode cX2_deadLies 1 = .ok (.iload_n 1, 1) := by decide +kernel
theorem dX2_deadLies_2 : decode cX2_deadLies 2 = .ok (.invokevirtual 49, 3) := by decide +kernel
theorem dX2_deadLies_5 : decode cX2_deadLies 5 = .ok (.pop, 1) := by decide +kernel
theorem dX2_deadLies_6 : decode cX2_deadLies 6 = .ok (.aload_n 0, 1) := by decide +kernel
theorem dX2_deadLies_7 : decode cX2_deadLies 7 = .ok (.getfield 40, 3) := by decide +kernel
theorem dX2_deadLies_10 : decode cX2_deadLies 10 = .ok (.iload_n 1, 1) := by decide +kernel
theorem dX2_deadLies_11 : decode cX2_deadLies 11 = .ok (.invokevirtual 53, 3) := by decide +kernel
theorem dX2_deadLies_14 : decode cX2_deadLies 14 = .ok (.istore_n 2, 1) := by decide +kernel
theorem dX2_deadLies_15 : decode cX2_deadLies 15 = .ok (.aload_n 0, 1) := by decide +kernel
theorem dX2_deadLies_16 : decode cX2_deadLies 16 = .ok (.iconst 0, 1) := by decide +kernel
theorem dX2_deadLies_17 : decode cX2_deadLies 17 = .ok (.iload_n 2, 1) := by decide +kernel
theorem dX2_deadLies_18 : decode cX2_deadLies 18 = .ok (.iload_n 2, 1) := by decide +kernel
theorem dX2_deadLies_19 : decode cX2_deadLies 19 = .ok (.invokevirtual 95, 3) := by decide +kernel
theorem dX2_deadLies_22 : decode cX2_deadLies 22 = .ok (.ireturn, 1) := by decide +kernel
theorem dX2_deadFrom_0 : decode cX2_deadFrom 0 = .ok (.iload_n 3, 1) := by decide +kernel
theorem dX2_deadFrom_1 : decode cX2_deadFrom 1 = .ok (.istore 4, 2) := by decide +kernel
theorem dX2_deadFrom_3 : decode cX2_deadFrom 3 = .ok (.iload_n 1, 1) := by decide +kernel
theorem dX2_deadFrom_4 : decode cX2_deadFrom 4 = .ok (.bipush 6, 2) := by decide +kernel
theorem dX2_deadFrom_6 : decode cX2_deadFrom 6 = .ok (.if_icmp .lt 6, 3) := by decide +kernel
theorem dX2_deadFrom_9 : decode cX2_deadFrom 9 = .ok (.iload 4, 2) := by decide +kernel
theorem dX2_deadFrom_11 : decode cX2_deadFrom 11 = .ok (.ireturn, 1) := by decide +kernel
theorem dX2_deadFrom_12 : decode cX2_deadFrom 12 = .ok (.iconst 0, 1) := by decide +kernel
theorem dX2_deadFrom_13 : decode cX2_deadFrom 13 = .ok (.istore 5, 2) := by decide +kernel
theorem dX2_deadFrom_15 : decode cX2_deadFrom 15 = .ok (.iload 5, 2) := by decide +kernel
theorem dX2_deadFrom_17 : decode cX2_deadFrom 17 = .ok (.aload_n 0, 1) := by decide +kernel
theorem dX2_deadFrom_18 : decode cX2_deadFrom 18 = .ok (.getfield 40, 3) := by decide +kernel
theorem dX2_deadFrom_21 : decode cX2_deadFrom 21 = .ok (.getfield 59, 3) := by decide +kernel
theorem dX2_deadFrom_24 : decode cX2_deadFrom 24 = .ok (.if_icmp .ge 63, 3) := by decide +kernel
theorem dX2_deadFrom_27 : decode cX2_deadFrom 27 = .ok (.iload 4, 2) := by decide +kernel
theorem dX2_deadFrom_29 : decode cX2_deadFrom 29 = .ok (.ifCond .eq 58, 3) := by decide +kernel
theorem dX2_deadFrom_32 : decode cX2_deadFrom 32 = .ok (.iload_n 2, 1) := by decide +kernel
theorem dX2_deadFrom_33 : decode cX2_deadFrom 33 = .ok (.iload 5, 2) := by decide +kernel
theorem dX2_deadFrom_35 : decode cX2_deadFrom 35 = .ok (.ishr, 1) := by decide +kernel
theorem dX2_deadFrom_36 : decode cX2_deadFrom 36 = .ok (.iconst 1, 1) := by decide +kernel
theorem dX2_deadFrom_37 : decode cX2_deadFrom 37 = .ok (.iand, 1) := by decide +kernel
theorem dX2_deadFrom_38 : decode cX2_deadFrom 38 = .ok (.ifCond .eq 43, 3) := by decide +kernel
theorem dX2_deadFrom_41 : decode cX2_deadFrom 41 = .ok (.aload_n 0, 1) := by decide +kernel
theorem dX2_deadFrom_42 : decode cX2_deadFrom 42 = .ok (.iload_n 1, 1) := by decide +kernel
theorem dX2_deadFrom_43 : decode cX2_deadFrom 43 = .ok (.iload 5, 2) := by decide +kernel
theorem dX2_deadFrom_45 : decode cX2_deadFrom 45 = .ok (.invokevirtual 80, 3) := by decide +kernel
theorem dX2_deadFrom_48 : decode cX2_deadFrom 48 = .ok (.ifCond .eq 14, 3) := by decide +kernel
theorem dX2_deadFrom_51 : decode cX2_deadFrom 51 = .ok (.iload 4, 2) := by decide +kernel
theorem dX2_deadFrom_53 : decode cX2_deadFrom 53 = .ok (.iconst 1, 1) := by decide +kernel
theorem dX2_deadFrom_54 : decode cX2_deadFrom 54 = .ok (.iload 5, 2) := by decide +kernel
theorem dX2_deadFrom_56 : decode cX2_deadFrom 56 = .ok (.ishl, 1) := by decide +kernel
theorem dX2_deadFrom_57 : decode cX2_deadFrom 57 = .ok (.iconst (-1), 1) := by decide +kernel
theorem dX2_deadFrom_58 : decode cX2_deadFrom 58 = .ok (.ixor, 1) := by decide +kernel
theorem dX2_deadFrom_59 : decode cX2_deadFrom 59 = .ok (.iand, 1) := by decide +kernel
theorem dX2_deadFrom_60 : decode cX2_deadFrom 60 = .ok (.istore 4, 2) := by decide +kernel
theorem dX2_deadFrom_62 : decode cX2_deadFrom 62 = .ok (.aload_n 0, 1) := by decide +kernel
theorem dX2_deadFrom_63 : decode cX2_deadFrom 63 = .ok (.iload_n 1, 1) := by decide +kernel
theorem dX2_deadFrom_64 : decode cX2_deadFrom 64 = .ok (.iconst 1, 1) := by decide +kernel
theorem dX2_deadFrom_65 : decode cX2_deadFrom 65 = .ok (.iadd, 1) := by decide +kernel
theorem dX2_deadFrom_66 : decode cX2_deadFrom 66 = .ok (.iload_n 2, 1) := by decide +kernel
theorem dX2_deadFrom_67 : decode cX2_deadFrom 67 = .ok (.iconst 1, 1) := by decide +kernel
theorem dX2_deadFrom_68 : decode cX2_deadFrom 68 = .ok (.iload 5, 2) := by decide +kernel
theorem dX2_deadFrom_70 : decode cX2_deadFrom 70 = .ok (.ishl, 1) := by decide +kernel
theorem dX2_deadFrom_71 : decode cX2_deadFrom 71 = .ok (.iconst (-1), 1) := by decide +kernel
theorem dX2_deadFrom_72 : decode cX2_deadFrom 72 = .ok (.ixor, 1) := by decide +kernel
theorem dX2_deadFrom_73 : decode cX2_deadFrom 73 = .ok (.iand, 1) := by decide +kernel
theorem dX2_deadFrom_74 : decode cX2_deadFrom 74 = .ok (.iload 4, 2) := by decide +kernel
theorem dX2_deadFrom_76 : decode cX2_deadFrom 76 = .ok (.invokevirtual 95, 3) := by decide +kernel
theorem dX2_deadFrom_79 : decode cX2_deadFrom 79 = .ok (.istore 4, 2) := by decide +kernel
theorem dX2_deadFrom_81 : decode cX2_deadFrom 81 = .ok (.iinc 5 1, 3) := by decide +kernel
theorem dX2_deadFrom_84 : decode cX2_deadFrom 84 = .ok (.goto (-69), 3) := by decide +kernel
theorem dX2_deadFrom_87 : decode cX2_deadFrom 87 = .ok (.iload 4, 2) := by decide +kernel
theorem dX2_deadFrom_89 : decode cX2_deadFrom 89 = .ok (.ireturn, 1) := by decide +kernel
theorem dX2_helpEachOther_0 : decode cX2_helpEachOther 0 = .ok (.aload_n 0, 1) := by decide +kernel
theorem dX2_helpEachOther_1 : decode cX2_helpEachOther 1 = .ok (.getfield 40, 3) := by decide +kernel
theorem dX2_helpEachOther_4 : decode cX2_helpEachOther 4 = .ok (.iload_n 1, 1) := by decide +kernel
theorem dX2_helpEachOther_5 : decode cX2_helpEachOther 5 = .ok (.iload_n 2, 1) := by decide +kernel
theorem dX2_helpEachOther_6 : decode cX2_helpEachOther 6 = .ok (.invokevirtual 99, 3) := by decide +kernel
theorem dX2_helpEachOther_9 : decode cX2_helpEachOther 9 = .ok (.ifCond .ne 15, 3) := by decide +kernel
theorem dX2_helpEachOther_12 : decode cX2_helpEachOther 12 = .ok (.aload_n 0, 1) := by decide +kernel
theorem dX2_helpEachOther_13 : decode cX2_helpEachOther 13 = .ok (.getfield 40, 3) := by decide +kernel
theorem dX2_helpEachOther_16 : decode cX2_helpEachOther 16 = .ok (.iload_n 1, 1) := by decide +kernel
theorem dX2_helpEachOther_17 : decode cX2_helpEachOther 17 = .ok (.iload_n 3, 1) := by decide +kernel
theorem dX2_helpEachOther_18 : decode cX2_helpEachOther 18 = .ok (.invokevirtual 99, 3) := by decide +kernel
theorem dX2_helpEachOther_21 : decode cX2_helpEachOther 21 = .ok (.ifCond .eq 5, 3) := by decide +kernel
theorem dX2_helpEachOther_24 : decode cX2_helpEachOther 24 = .ok (.iconst 0, 1) := by decide +kernel
theorem dX2_helpEachOther_25 : decode cX2_helpEachOther 25 = .ok (.ireturn, 1) := by decide +kernel
theorem dX2_helpEachOther_26 : decode cX2_helpEachOther 26 = .ok (.aload_n 0, 1) := by decide +kernel
theorem dX2_helpEachOther_27 : decode cX2_helpEachOther 27 = .ok (.iload_n 1, 1) := by decide +kernel
theorem dX2_helpEachOther_28 : decode cX2_helpEachOther 28 = .ok (.invokevirtual 49, 3) := by decide +kernel
theorem dX2_helpEachOther_31 : decode cX2_helpEachOther 31 = .ok (.pop, 1) := by decide +kernel
theorem dX2_helpEachOther_32 : decode cX2_helpEachOther 32 = .ok (.aload_n 0, 1) := by decide +kernel
theorem dX2_helpEachOther_33 : decode cX2_helpEachOther 33 = .ok (.iload_n 2, 1) := by decide +kernel
theorem dX2_helpEachOther_34 : decode cX2_helpEachOther 34 = .ok (.iload_n 3, 1) := by decide +kernel
theorem dX2_helpEachOther_35 : decode cX2_helpEachOther 35 = .ok (.invokevirtual 102, 3) := by decide +kernel
theorem dX2_helpEachOther_38 : decode cX2_helpEachOther 38 = .ok (.ifCond .ne 12, 3) := by decide +kernel
theorem dX2_helpEachOther_41 : decode cX2_helpEachOther 41 = .ok (.aload_n 0, 1) := by decide +kernel
theorem dX2_helpEachOther_42 : decode cX2_helpEachOther 42 = .ok (.iload_n 3, 1) := by decide +kernel
theorem dX2_helpEachOther_43 : decode cX2_helpEachOther 43 = .ok (.iload_n 2, 1) := by decide +kernel
theorem dX2_helpEachOther_44 : decode cX2_helpEachOther 44 = .ok (.invokevirtual 102, 3) := by decide +kernel
theorem dX2_helpEachOther_47 : decode cX2_helpEachOther 47 = .ok (.ifCond .eq 7, 3) := by decide +kernel
theorem dX2_helpEachOther_50 : decode cX2_helpEachOther 50 = .ok (.iconst 1, 1) := by decide +kernel
theorem dX2_helpEachOther_51 : decode cX2_helpEachOther 51 = .ok (.goto 4, 3) := by decide +kernel
theorem dX2_helpEachOther_54 : decode cX2_helpEachOther 54 = .ok (.iconst 0, 1) := by decide +kernel
theorem dX2_helpEachOther_55 : decode cX2_helpEachOther 55 = .ok (.ireturn, 1) := by decide +kernel
theorem dX2_bringsIn_0 : decode cX2_bringsIn 0 = .ok (.aload_n 0, 1) := by decide +kernel
theorem dX2_bringsIn_1 : decode cX2_bringsIn 1 = .ok (.getfield 13, 3) := by decide +kernel
theorem dX2_bringsIn_4 : decode cX2_bringsIn 4 = .ok (.iconst 0, 1) := by decide +kernel
theorem dX2_bringsIn_5 : decode cX2_bringsIn 5 = .ok (.aaload, 1) := by decide +kernel
theorem dX2_bringsIn_6 : decode cX2_bringsIn 6 = .ok (.aload_n 0, 1) := by decide +kernel
theorem dX2_bringsIn_7 : decode cX2_bringsIn 7 = .ok (.getfield 40, 3) := by decide +kernel
theorem dX2_bringsIn_10 : decode cX2_bringsIn 10 = .ok (.iload_n 2, 1) := by decide +kernel
theorem dX2_bringsIn_11 : decode cX2_bringsIn 11 = .ok (.invokevirtual 62, 3) := by decide +kernel
theorem dX2_bringsIn_14 : decode cX2_bringsIn 14 = .ok (.ifCond .eq 5, 3) := by decide +kernel
theorem dX2_bringsIn_17 : decode cX2_bringsIn 17 = .ok (.iconst 0, 1) := by decide +kernel
theorem dX2_bringsIn_18 : decode cX2_bringsIn 18 = .ok (.ireturn, 1) := by decide +kernel
theorem dX2_bringsIn_19 : decode cX2_bringsIn 19 = .ok (.aload_n 0, 1) := by decide +kernel
theorem dX2_bringsIn_20 : decode cX2_bringsIn 20 = .ok (.iconst 0, 1) := by decide +kernel
theorem dX2_bringsIn_21 : decode cX2_bringsIn 21 = .ok (.iload_n 1, 1) := by decide +kernel
theorem dX2_bringsIn_22 : decode cX2_bringsIn 22 = .ok (.invokevirtual 80, 3) := by decide +kernel
theorem dX2_bringsIn_25 : decode cX2_bringsIn 25 = .ok (.pop, 1) := by decide +kernel
theorem dX2_bringsIn_26 : decode cX2_bringsIn 26 = .ok (.aload_n 0, 1) := by decide +kernel
theorem dX2_bringsIn_27 : decode cX2_bringsIn 27 = .ok (.getfield 13, 3) := by decide +kernel
theorem dX2_bringsIn_30 : decode cX2_bringsIn 30 = .ok (.iconst 1, 1) := by decide +kernel
theorem dX2_bringsIn_31 : decode cX2_bringsIn 31 = .ok (.aaload, 1) := by decide +kernel
theorem dX2_bringsIn_32 : decode cX2_bringsIn 32 = .ok (.aload_n 0, 1) := by decide +kernel
theorem dX2_bringsIn_33 : decode cX2_bringsIn 33 = .ok (.getfield 40, 3) := by decide +kernel
theorem dX2_bringsIn_36 : decode cX2_bringsIn 36 = .ok (.iload_n 2, 1) := by decide +kernel
theorem dX2_bringsIn_37 : decode cX2_bringsIn 37 = .ok (.invokevirtual 62, 3) := by decide +kernel
theorem dX2_bringsIn_40 : decode cX2_bringsIn 40 = .ok (.ireturn, 1) := by decide +kernel
theorem dX2_takeTelling_0 : decode cX2_takeTelling 0 = .ok (.iconst 0, 1) := by decide +kernel
theorem dX2_takeTelling_1 : decode cX2_takeTelling 1 = .ok (.istore 5, 2) := by decide +kernel
theorem dX2_takeTelling_3 : decode cX2_takeTelling 3 = .ok (.iload 5, 2) := by decide +kernel
theorem dX2_takeTelling_5 : decode cX2_takeTelling 5 = .ok (.iload 4, 2) := by decide +kernel
theorem dX2_takeTelling_7 : decode cX2_takeTelling 7 = .ok (.if_icmp .ge 65, 3) := by decide +kernel
theorem dX2_takeTelling_10 : decode cX2_takeTelling 10 = .ok (.aload_n 1, 1) := by decide +kernel
theorem dX2_takeTelling_11 : decode cX2_takeTelling 11 = .ok (.iload_n 2, 1) := by decide +kernel
theorem dX2_takeTelling_12 : decode cX2_takeTelling 12 = .ok (.iload_n 3, 1) := by decide +kernel
theorem dX2_takeTelling_13 : decode cX2_takeTelling 13 = .ok (.iconst 2, 1) := by decide +kernel
theorem dX2_takeTelling_14 : decode cX2_takeTelling 14 = .ok (.iload 5, 2) := by decide +kernel
theorem dX2_takeTelling_16 : decode cX2_takeTelling 16 = .ok (.imul, 1) := by decide +kernel
theorem dX2_takeTelling_17 : decode cX2_takeTelling 17 = .ok (.iadd, 1) := by decide +kernel
theorem dX2_takeTelling_18 : decode cX2_takeTelling 18 = .ok (.invokevirtual 105, 3) := by decide +kernel
theorem dX2_takeTelling_21 : decode cX2_takeTelling 21 = .ok (.istore 6, 2) := by decide +kernel
theorem dX2_takeTelling_23 : decode cX2_takeTelling 23 = .ok (.aload_n 0, 1) := by decide +kernel
theorem dX2_takeTelling_24 : decode cX2_takeTelling 24 = .ok (.getfield 40, 3) := by decide +kernel
theorem dX2_takeTelling_27 : decode cX2_takeTelling 27 = .ok (.iload 6, 2) := by decide +kernel
theorem dX2_takeTelling_29 : decode cX2_takeTelling 29 = .ok (.invokevirtual 111, 3) := by decide +kernel
theorem dX2_takeTelling_32 : decode cX2_takeTelling 32 = .ok (.ifCond .ne 5, 3) := by decide +kernel
theorem dX2_takeTelling_35 : decode cX2_takeTelling 35 = .ok (.iconst 0, 1) := by decide +kernel
theorem dX2_takeTelling_36 : decode cX2_takeTelling 36 = .ok (.ireturn, 1) := by decide +kernel
theorem dX2_takeTelling_37 : decode cX2_takeTelling 37 = .ok (.aload_n 0, 1) := by decide +kernel
theorem dX2_takeTelling_38 : decode cX2_takeTelling 38 = .ok (.getfield 31, 3) := by decide +kernel
theorem dX2_takeTelling_41 : decode cX2_takeTelling 41 = .ok (.iload 5, 2) := by decide +kernel
theorem dX2_takeTelling_43 : decode cX2_takeTelling 43 = .ok (.iload 6, 2) := by decide +kernel
theorem dX2_takeTelling_45 : decode cX2_takeTelling 45 = .ok (.iastore, 1) := by decide +kernel
theorem dX2_takeTelling_46 : decode cX2_takeTelling 46 = .ok (.aload_n 0, 1) := by decide +kernel
theorem dX2_takeTelling_47 : decode cX2_takeTelling 47 = .ok (.getfield 34, 3) := by decide +kernel
theorem dX2_takeTelling_50 : decode cX2_takeTelling 50 = .ok (.iload 5, 2) := by decide +kernel
theorem dX2_takeTelling_52 : decode cX2_takeTelling 52 = .ok (.aload_n 1, 1) := by decide +kernel
theorem dX2_takeTelling_53 : decode cX2_takeTelling 53 = .ok (.iload_n 2, 1) := by decide +kernel
theorem dX2_takeTelling_54 : decode cX2_takeTelling 54 = .ok (.iload_n 3, 1) := by decide +kernel
theorem dX2_takeTelling_55 : decode cX2_takeTelling 55 = .ok (.iconst 2, 1) := by decide +kernel
theorem dX2_takeTelling_56 : decode cX2_takeTelling 56 = .ok (.iload 5, 2) := by decide +kernel
theorem dX2_takeTelling_58 : decode cX2_takeTelling 58 = .ok (.imul, 1) := by decide +kernel
theorem dX2_takeTelling_59 : decode cX2_takeTelling 59 = .ok (.iadd, 1) := by decide +kernel
theorem dX2_takeTelling_60 : decode cX2_takeTelling 60 = .ok (.iconst 1, 1) := by decide +kernel
theorem dX2_takeTelling_61 : decode cX2_takeTelling 61 = .ok (.iadd, 1) := by decide +kernel
theorem dX2_takeTelling_62 : decode cX2_takeTelling 62 = .ok (.invokevirtual 105, 3) := by decide +kernel
theorem dX2_takeTelling_65 : decode cX2_takeTelling 65 = .ok (.iastore, 1) := by decide +kernel
theorem dX2_takeTelling_66 : decode cX2_takeTelling 66 = .ok (.iinc 5 1, 3) := by decide +kernel
theorem dX2_takeTelling_69 : decode cX2_takeTelling 69 = .ok (.goto (-66), 3) := by decide +kernel
theorem dX2_takeTelling_72 : decode cX2_takeTelling 72 = .ok (.aload_n 0, 1) := by decide +kernel
theorem dX2_takeTelling_73 : decode cX2_takeTelling 73 = .ok (.iload 4, 2) := by decide +kernel
theorem dX2_takeTelling_75 : decode cX2_takeTelling 75 = .ok (.putfield 37, 3) := by decide +kernel
theorem dX2_takeTelling_78 : decode cX2_takeTelling 78 = .ok (.iconst 1, 1) := by decide +kernel
theorem dX2_takeTelling_79 : decode cX2_takeTelling 79 = .ok (.ireturn, 1) := by decide +kernel
theorem dX2_goesSo_0 : decode cX2_goesSo 0 = .ok (.aload_n 0, 1) := by decide +kernel
theorem dX2_goesSo_1 : decode cX2_goesSo 1 = .ok (.iload_n 1, 1) := by decide +kernel
theorem dX2_goesSo_2 : decode cX2_goesSo 2 = .ok (.invokevirtual 49, 3) := by decide +kernel
theorem dX2_goesSo_5 : decode cX2_goesSo 5 = .ok (.astore 4, 2) := by decide +kernel
theorem dX2_goesSo_7 : decode cX2_goesSo 7 = .ok (.aload 4, 2) := by decide +kernel
theorem dX2_goesSo_9 : decode cX2_goesSo 9 = .ok (.iload_n 2, 1) := by decide +kernel
theorem dX2_goesSo_10 : decode cX2_goesSo 10 = .ok (.putfield 115, 3) := by decide +kernel
theorem dX2_goesSo_13 : decode cX2_goesSo 13 = .ok (.aload 4, 2) := by decide +kernel
theorem dX2_goesSo_15 : decode cX2_goesSo 15 = .ok (.iload_n 3, 1) := by decide +kernel
theorem dX2_goesSo_16 : decode cX2_goesSo 16 = .ok (.putfield 118, 3) := by decide +kernel
theorem dX2_goesSo_19 : decode cX2_goesSo 19 = .ok (.iconst 0, 1) := by decide +kernel
theorem dX2_goesSo_20 : decode cX2_goesSo 20 = .ok (.istore 5, 2) := by decide +kernel
theorem dX2_goesSo_22 : decode cX2_goesSo 22 = .ok (.iload 5, 2) := by decide +kernel
theorem dX2_goesSo_24 : decode cX2_goesSo 24 = .ok (.aload_n 0, 1) := by decide +kernel
theorem dX2_goesSo_25 : decode cX2_goesSo 25 = .ok (.getfield 37, 3) := by decide +kernel
theorem dX2_goesSo_28 : decode cX2_goesSo 28 = .ok (.if_icmp .ge 49, 3) := by decide +kernel
theorem dX2_goesSo_31 : decode cX2_goesSo 31 = .ok (.aload 4, 2) := by decide +kernel
theorem dX2_goesSo_33 : decode cX2_goesSo 33 = .ok (.aload_n 0, 1) := by decide +kernel
theorem dX2_goesSo_34 : decode cX2_goesSo 34 = .ok (.getfield 40, 3) := by decide +kernel
theorem dX2_goesSo_37 : decode cX2_goesSo 37 = .ok (.aload_n 0, 1) := by decide +kernel
theorem dX2_goesSo_38 : decode cX2_goesSo 38 = .ok (.getfield 31, 3) := by decide +kernel
theorem dX2_goesSo_41 : decode cX2_goesSo 41 = .ok (.iload 5, 2) := by decide +kernel
theorem dX2_goesSo_43 : decode cX2_goesSo 43 = .ok (.iaload, 1) := by decide +kernel
theorem dX2_goesSo_44 : decode cX2_goesSo 44 = .ok (.invokevirtual 88, 3) := by decide +kernel
theorem dX2_goesSo_47 : decode cX2_goesSo 47 = .ok (.ifCond .eq 7, 3) := by decide +kernel
theorem dX2_goesSo_50 : decode cX2_goesSo 50 = .ok (.iconst 1, 1) := by decide +kernel
theorem dX2_goesSo_51 : decode cX2_goesSo 51 = .ok (.goto 4, 3) := by decide +kernel
theorem dX2_goesSo_54 : decode cX2_goesSo 54 = .ok (.iconst 0, 1) := by decide +kernel
theorem dX2_goesSo_55 : decode cX2_goesSo 55 = .ok (.istore 6, 2) := by decide +kernel
theorem dX2_goesSo_57 : decode cX2_goesSo 57 = .ok (.iload 6, 2) := by decide +kernel
theorem dX2_goesSo_59 : decode cX2_goesSo 59 = .ok (.aload_n 0, 1) := by decide +kernel
theorem dX2_goesSo_60 : decode cX2_goesSo 60 = .ok (.getfield 34, 3) := by decide +kernel
theorem dX2_goesSo_63 : decode cX2_goesSo 63 = .ok (.iload 5, 2) := by decide +kernel
theorem dX2_goesSo_65 : decode cX2_goesSo 65 = .ok (.iaload, 1) := by decide +kernel
theorem dX2_goesSo_66 : decode cX2_goesSo 66 = .ok (.if_icmp .eq 5, 3) := by decide +kernel
theorem dX2_goesSo_69 : decode cX2_goesSo 69 = .ok (.iconst 0, 1) := by decide +kernel
theorem dX2_goesSo_70 : decode cX2_goesSo 70 = .ok (.ireturn, 1) := by decide +kernel
theorem dX2_goesSo_71 : decode cX2_goesSo 71 = .ok (.iinc 5 1, 3) := by decide +kernel
theorem dX2_goesSo_74 : decode cX2_goesSo 74 = .ok (.goto (-52), 3) := by decide +kernel
theorem dX2_goesSo_77 : decode cX2_goesSo 77 = .ok (.iconst 1, 1) := by decide +kernel
theorem dX2_goesSo_78 : decode cX2_goesSo 78 = .ok (.ireturn, 1) := by decide +kernel
theorem dX2_waysToNod_0 : decode cX2_waysToNod 0 = .ok (.aload_n 0, 1) := by decide +kernel
theorem dX2_waysToNod_1 : decode cX2_waysToNod 1 = .ok (.iload_n 1, 1) := by decide +kernel
theorem dX2_waysToNod_2 : decode cX2_waysToNod 2 = .ok (.invokevirtual 49, 3) := by decide +kernel
theorem dX2_waysToNod_5 : decode cX2_waysToNod 5 = .ok (.pop, 1) := by decide +kernel
theorem dX2_waysToNod_6 : decode cX2_waysToNod 6 = .ok (.aload_n 0, 1) := by decide +kernel
theorem dX2_waysToNod_7 : decode cX2_waysToNod 7 = .ok (.iconst 0, 1) := by decide +kernel
theorem dX2_waysToNod_8 : decode cX2_waysToNod 8 = .ok (.iload_n 2, 1) := by decide +kernel
theorem dX2_waysToNod_9 : decode cX2_waysToNod 9 = .ok (.iload_n 3, 1) := by decide +kernel
theorem dX2_waysToNod_10 : decode cX2_waysToNod 10 = .ok (.invokevirtual 121, 3) := by decide +kernel
theorem dX2_waysToNod_13 : decode cX2_waysToNod 13 = .ok (.ireturn, 1) := by decide +kernel
theorem dX2_waysInAll_0 : decode cX2_waysInAll 0 = .ok (.iconst 1, 1) := by decide +kernel
theorem dX2_waysInAll_1 : decode cX2_waysInAll 1 = .ok (.istore_n 1, 1) := by decide +kernel
theorem dX2_waysInAll_2 : decode cX2_waysInAll 2 = .ok (.iconst 0, 1) := by decide +kernel
theorem dX2_waysInAll_3 : decode cX2_waysInAll 3 = .ok (.istore_n 2, 1) := by decide +kernel
theorem dX2_waysInAll_4 : decode cX2_waysInAll 4 = .ok (.iload_n 2, 1) := by decide +kernel
theorem dX2_waysInAll_5 : decode cX2_waysInAll 5 = .ok (.aload_n 0, 1) := by decide +kernel
theorem dX2_waysInAll_6 : decode cX2_waysInAll 6 = .ok (.getfield 37, 3) := by decide +kernel
theorem dX2_waysInAll_9 : decode cX2_waysInAll 9 = .ok (.if_icmp .ge 14, 3) := by decide +kernel
theorem dX2_waysInAll_12 : decode cX2_waysInAll 12 = .ok (.iload_n 1, 1) := by decide +kernel
theorem dX2_waysInAll_13 : decode cX2_waysInAll 13 = .ok (.bipush 10, 2) := by decide +kernel
theorem dX2_waysInAll_15 : decode cX2_waysInAll 15 = .ok (.imul, 1) := by decide +kernel
theorem dX2_waysInAll_16 : decode cX2_waysInAll 16 = .ok (.istore_n 1, 1) := by decide +kernel
theorem dX2_waysInAll_17 : decode cX2_waysInAll 17 = .ok (.iinc 2 1, 3) := by decide +kernel
theorem dX2_waysInAll_20 : decode cX2_waysInAll 20 = .ok (.goto (-16), 3) := by decide +kernel
theorem dX2_waysInAll_23 : decode cX2_waysInAll 23 = .ok (.iload_n 1, 1) := by decide +kernel
theorem dX2_waysInAll_24 : decode cX2_waysInAll 24 = .ok (.ireturn, 1) := by decide +kernel
theorem dX2_waysFrom_0 : decode cX2_waysFrom 0 = .ok (.iload_n 1, 1) := by decide +kernel
theorem dX2_waysFrom_1 : decode cX2_waysFrom 1 = .ok (.aload_n 0, 1) := by decide +kernel
theorem dX2_waysFrom_2 : decode cX2_waysFrom 2 = .ok (.getfield 37, 3) := by decide +kernel
theorem dX2_waysFrom_5 : decode cX2_waysFrom 5 = .ok (.if_icmp .ge 9, 3) := by decide +kernel
theorem dX2_waysFrom_8 : decode cX2_waysFrom 8 = .ok (.iload_n 1, 1) := by decide +kernel
theorem dX2_waysFrom_9 : decode cX2_waysFrom 9 = .ok (.bipush 6, 2) := by decide +kernel
theorem dX2_waysFrom_11 : decode cX2_waysFrom 11 = .ok (.if_icmp .lt 13, 3) := by decide +kernel
theorem dX2_waysFrom_14 : decode cX2_waysFrom 14 = .ok (.iload_n 2, 1) := by decide +kernel
theorem dX2_waysFrom_15 : decode cX2_waysFrom 15 = .ok (.ifCond .gt 7, 3) := by decide +kernel
theorem dX2_waysFrom_18 : decode cX2_waysFrom 18 = .ok (.iconst 1, 1) := by decide +kernel
theorem dX2_waysFrom_19 : decode cX2_waysFrom 19 = .ok (.goto 4, 3) := by decide +kernel
theorem dX2_waysFrom_22 : decode cX2_waysFrom 22 = .ok (.iconst 0, 1) := by decide +kernel
theorem dX2_waysFrom_23 : decode cX2_waysFrom 23 = .ok (.ireturn, 1) := by decide +kernel
theorem dX2_waysFrom_24 : decode cX2_waysFrom 24 = .ok (.aload_n 0, 1) := by decide +kernel
theorem dX2_waysFrom_25 : decode cX2_waysFrom 25 = .ok (.getfield 31, 3) := by decide +kernel
theorem dX2_waysFrom_28 : decode cX2_waysFrom 28 = .ok (.iload_n 1, 1) := by decide +kernel
theorem dX2_waysFrom_29 : decode cX2_waysFrom 29 = .ok (.iaload, 1) := by decide +kernel
theorem dX2_waysFrom_30 : decode cX2_waysFrom 30 = .ok (.istore 4, 2) := by decide +kernel
theorem dX2_waysFrom_32 : decode cX2_waysFrom 32 = .ok (.aload_n 0, 1) := by decide +kernel
theorem dX2_waysFrom_33 : decode cX2_waysFrom 33 = .ok (.getfield 13, 3) := by decide +kernel
theorem dX2_waysFrom_36 : decode cX2_waysFrom 36 = .ok (.iload_n 1, 1) := by decide +kernel
theorem dX2_waysFrom_37 : decode cX2_waysFrom 37 = .ok (.aaload, 1) := by decide +kernel
theorem dX2_waysFrom_38 : decode cX2_waysFrom 38 = .ok (.aload_n 0, 1) := by decide +kernel
theorem dX2_waysFrom_39 : decode cX2_waysFrom 39 = .ok (.getfield 40, 3) := by decide +kernel
theorem dX2_waysFrom_42 : decode cX2_waysFrom 42 = .ok (.iload 4, 2) := by decide +kernel
theorem dX2_waysFrom_44 : decode cX2_waysFrom 44 = .ok (.invokevirtual 62, 3) := by decide +kernel
theorem dX2_waysFrom_47 : decode cX2_waysFrom 47 = .ok (.istore 5, 2) := by decide +kernel
theorem dX2_waysFrom_49 : decode cX2_waysFrom 49 = .ok (.aload_n 0, 1) := by decide +kernel
theorem dX2_waysFrom_50 : decode cX2_waysFrom 50 = .ok (.getfield 13, 3) := by decide +kernel
theorem dX2_waysFrom_53 : decode cX2_waysFrom 53 = .ok (.iload_n 1, 1) := by decide +kernel
theorem dX2_waysFrom_54 : decode cX2_waysFrom 54 = .ok (.iconst 1, 1) := by decide +kernel
theorem dX2_waysFrom_55 : decode cX2_waysFrom 55 = .ok (.iadd, 1) := by decide +kernel
theorem dX2_waysFrom_56 : decode cX2_waysFrom 56 = .ok (.aaload, 1) := by decide +kernel
theorem dX2_waysFrom_57 : decode cX2_waysFrom 57 = .ok (.aload_n 0, 1) := by decide +kernel
theorem dX2_waysFrom_58 : decode cX2_waysFrom 58 = .ok (.getfield 13, 3) := by decide +kernel
theorem dX2_waysFrom_61 : decode cX2_waysFrom 61 = .ok (.iload_n 1, 1) := by decide +kernel
theorem dX2_waysFrom_62 : decode cX2_waysFrom 62 = .ok (.aaload, 1) := by decide +kernel
theorem dX2_waysFrom_63 : decode cX2_waysFrom 63 = .ok (.invokevirtual 84, 3) := by decide +kernel
theorem dX2_waysFrom_66 : decode cX2_waysFrom 66 = .ok (.aload_n 0, 1) := by decide +kernel
theorem dX2_waysFrom_67 : decode cX2_waysFrom 67 = .ok (.getfield 13, 3) := by decide +kernel
theorem dX2_waysFrom_70 : decode cX2_waysFrom 70 = .ok (.iload_n 1, 1) := by decide +kernel
theorem dX2_waysFrom_71 : decode cX2_waysFrom 71 = .ok (.iconst 1, 1) := by decide +kernel
theorem dX2_waysFrom_72 : decode cX2_waysFrom 72 = .ok (.iadd, 1) := by decide +kernel
theorem dX2_waysFrom_73 : decode cX2_waysFrom 73 = .ok (.aaload, 1) := by decide +kernel
theorem dX2_waysFrom_74 : decode cX2_waysFrom 74 = .ok (.aload_n 0, 1) := by decide +kernel
theorem dX2_waysFrom_75 : decode cX2_waysFrom 75 = .ok (.getfield 40, 3) := by decide +kernel
theorem dX2_waysFrom_78 : decode cX2_waysFrom 78 = .ok (.iload 4, 2) := by decide +kernel
theorem dX2_waysFrom_80 : decode cX2_waysFrom 80 = .ok (.iconst 0, 1) := by decide +kernel
theorem dX2_waysFrom_81 : decode cX2_waysFrom 81 = .ok (.invokevirtual 124, 3) := by decide +kernel
theorem dX2_waysFrom_84 : decode cX2_waysFrom 84 = .ok (.aload_n 0, 1) := by decide +kernel
theorem dX2_waysFrom_85 : decode cX2_waysFrom 85 = .ok (.iload_n 1, 1) := by decide +kernel
theorem dX2_waysFrom_86 : decode cX2_waysFrom 86 = .ok (.iconst 1, 1) := by decide +kernel
theorem dX2_waysFrom_87 : decode cX2_waysFrom 87 = .ok (.iadd, 1) := by decide +kernel
theorem dX2_waysFrom_88 : decode cX2_waysFrom 88 = .ok (.iload_n 2, 1) := by decide +kernel
theorem dX2_waysFrom_89 : decode cX2_waysFrom 89 = .ok (.iload_n 3, 1) := by decide +kernel
theorem dX2_waysFrom_90 : decode cX2_waysFrom 90 = .ok (.invokevirtual 121, 3) := by decide +kernel
theorem dX2_waysFrom_93 : decode cX2_waysFrom 93 = .ok (.istore 6, 2) := by decide +kernel
theorem dX2_waysFrom_95 : decode cX2_waysFrom 95 = .ok (.iload 5, 2) := by decide +kernel
theorem dX2_waysFrom_97 : decode cX2_waysFrom 97 = .ok (.ifCond .ne 9, 3) := by decide +kernel
theorem dX2_waysFrom_100 : decode cX2_waysFrom 100 = .ok (.bipush 10, 2) := by decide +kernel
theorem dX2_waysFrom_102 : decode cX2_waysFrom 102 = .ok (.iload 6, 2) := by decide +kernel
theorem dX2_waysFrom_104 : decode cX2_waysFrom 104 = .ok (.imul, 1) := by decide +kernel
theorem dX2_waysFrom_105 : decode cX2_waysFrom 105 = .ok (.ireturn, 1) := by decide +kernel
theorem dX2_waysFrom_106 : decode cX2_waysFrom 106 = .ok (.aload_n 0, 1) := by decide +kernel
theorem dX2_waysFrom_107 : decode cX2_waysFrom 107 = .ok (.getfield 13, 3) := by decide +kernel
theorem dX2_waysFrom_110 : decode cX2_waysFrom 110 = .ok (.iload_n 1, 1) := by decide +kernel
theorem dX2_waysFrom_111 : decode cX2_waysFrom 111 = .ok (.iconst 1, 1) := by decide +kernel
theorem dX2_waysFrom_112 : decode cX2_waysFrom 112 = .ok (.iadd, 1) := by decide +kernel
theorem dX2_waysFrom_113 : decode cX2_waysFrom 113 = .ok (.aaload, 1) := by decide +kernel
theorem dX2_waysFrom_114 : decode cX2_waysFrom 114 = .ok (.aload_n 0, 1) := by decide +kernel
theorem dX2_waysFrom_115 : decode cX2_waysFrom 115 = .ok (.getfield 13, 3) := by decide +kernel
theorem dX2_waysFrom_118 : decode cX2_waysFrom 118 = .ok (.iload_n 1, 1) := by decide +kernel
theorem dX2_waysFrom_119 : decode cX2_waysFrom 119 = .ok (.aaload, 1) := by decide +kernel
theorem dX2_waysFrom_120 : decode cX2_waysFrom 120 = .ok (.invokevirtual 84, 3) := by decide +kernel
theorem dX2_waysFrom_123 : decode cX2_waysFrom 123 = .ok (.aload_n 0, 1) := by decide +kernel
theorem dX2_waysFrom_124 : decode cX2_waysFrom 124 = .ok (.getfield 13, 3) := by decide +kernel
theorem dX2_waysFrom_127 : decode cX2_waysFrom 127 = .ok (.iload_n 1, 1) := by decide +kernel
theorem dX2_waysFrom_128 : decode cX2_waysFrom 128 = .ok (.iconst 1, 1) := by decide +kernel
theorem dX2_waysFrom_129 : decode cX2_waysFrom 129 = .ok (.iadd, 1) := by decide +kernel
theorem dX2_waysFrom_130 : decode cX2_waysFrom 130 = .ok (.aaload, 1) := by decide +kernel
theorem dX2_waysFrom_131 : decode cX2_waysFrom 131 = .ok (.aload_n 0, 1) := by decide +kernel
theorem dX2_waysFrom_132 : decode cX2_waysFrom 132 = .ok (.getfield 40, 3) := by decide +kernel
theorem dX2_waysFrom_135 : decode cX2_waysFrom 135 = .ok (.iload 4, 2) := by decide +kernel
theorem dX2_waysFrom_137 : decode cX2_waysFrom 137 = .ok (.iconst 1, 1) := by decide +kernel
theorem dX2_waysFrom_138 : decode cX2_waysFrom 138 = .ok (.invokevirtual 124, 3) := by decide +kernel
theorem dX2_waysFrom_141 : decode cX2_waysFrom 141 = .ok (.iload_n 3, 1) := by decide +kernel
theorem dX2_waysFrom_142 : decode cX2_waysFrom 142 = .ok (.iload 6, 2) := by decide +kernel
theorem dX2_waysFrom_144 : decode cX2_waysFrom 144 = .ok (.imul, 1) := by decide +kernel
theorem dX2_waysFrom_145 : decode cX2_waysFrom 145 = .ok (.bipush 10, 2) := by decide +kernel
theorem dX2_waysFrom_147 : decode cX2_waysFrom 147 = .ok (.iload_n 3, 1) := by decide +kernel
theorem dX2_waysFrom_148 : decode cX2_waysFrom 148 = .ok (.isub, 1) := by decide +kernel
theorem dX2_waysFrom_149 : decode cX2_waysFrom 149 = .ok (.aload_n 0, 1) := by decide +kernel
theorem dX2_waysFrom_150 : decode cX2_waysFrom 150 = .ok (.iload_n 1, 1) := by decide +kernel
theorem dX2_waysFrom_151 : decode cX2_waysFrom 151 = .ok (.iconst 1, 1) := by decide +kernel
theorem dX2_waysFrom_152 : decode cX2_waysFrom 152 = .ok (.iadd, 1) := by decide +kernel
theorem dX2_waysFrom_153 : decode cX2_waysFrom 153 = .ok (.iload_n 2, 1) := by decide +kernel
theorem dX2_waysFrom_154 : decode cX2_waysFrom 154 = .ok (.iconst 1, 1) := by decide +kernel
theorem dX2_waysFrom_155 : decode cX2_waysFrom 155 = .ok (.isub, 1) := by decide +kernel
theorem dX2_waysFrom_156 : decode cX2_waysFrom 156 = .ok (.iload_n 3, 1) := by decide +kernel
theorem dX2_waysFrom_157 : decode cX2_waysFrom 157 = .ok (.invokevirtual 121, 3) := by decide +kernel
theorem dX2_waysFrom_160 : decode cX2_waysFrom 160 = .ok (.imul, 1) := by decide +kernel
theorem dX2_waysFrom_161 : decode cX2_waysFrom 161 = .ok (.iadd, 1) := by decide +kernel
theorem dX2_waysFrom_162 : decode cX2_waysFrom 162 = .ok (.ireturn, 1) := by decide +kernel
