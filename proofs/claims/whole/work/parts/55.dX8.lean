theorem dX8_init_0 : decode cX8_init 0 = .ok (.aload_n 0, 1) := by decide +kernel
theorem dX8_init_1 : decode cX8_init 1 = .ok (.invokespecial 1, 3) := by decide +kernel
theorem dX8_init_4 : decode cX8_init 4 = .ok (.aload_n 0, 1) := by decide +kernel
theorem dX8_init_5 : decode cX8_init 5 = .ok (.new 7, 3) := by decide +kernel
theorem dX8_init_8 : decode cX8_init 8 = .ok (.dup, 1) := by decide +kernel
theorem dX8_init_9 : decode cX8_init 9 = .ok (.invokespecial 9, 3) := by decide +kernel
theorem dX8_init_12 : decode cX8_init 12 = .ok (.putfield 10, 3) := by decide +kernel
theorem dX8_init_15 : decode cX8_init 15 = .ok (.aload_n 0, 1) := by decide +kernel
theorem dX8_init_16 : decode cX8_init 16 = .ok (.new 16, 3) := by decide +kernel
theorem dX8_init_19 : decode cX8_init 19 = .ok (.dup, 1) := by decide +kernel
theorem dX8_init_20 : decode cX8_init 20 = .ok (.invokespecial 18, 3) := by decide +kernel
theorem dX8_init_23 : decode cX8_init 23 = .ok (.putfield 19, 3) := by decide +kernel
theorem dX8_init_26 : decode cX8_init 26 = .ok (.aload_n 0, 1) := by decide +kernel
theorem dX8_init_27 : decode cX8_init 27 = .ok (.new 23, 3) := by decide +kernel
theorem dX8_init_30 : decode cX8_init 30 = .ok (.dup, 1) := by decide +kernel
theorem dX8_init_31 : decode cX8_init 31 = .ok (.invokespecial 25, 3) := by decide +kernel
theorem dX8_init_34 : decode cX8_init 34 = .ok (.putfield 26, 3) := by decide +kernel
theorem dX8_init_37 : decode cX8_init 37 = .ok (.aload_n 0, 1) := by decide +kernel
theorem dX8_init_38 : decode cX8_init 38 = .ok (.new 23, 3) := by decide +kernel
theorem dX8_init_41 : decode cX8_init 41 = .ok (.dup, 1) := by decide +kernel
theorem dX8_init_42 : decode cX8_init 42 = .ok (.invokespecial 25, 3) := by decide +kernel
theorem dX8_init_45 : decode cX8_init 45 = .ok (.putfield 30, 3) := by decide +kernel
theorem dX8_init_48 : decode cX8_init 48 = .ok (.aload_n 0, 1) := by decide +kernel
theorem dX8_init_49 : decode cX8_init 49 = .ok (.iconst 2, 1) := by decide +kernel
theorem dX8_init_50 : decode cX8_init 50 = .ok (.anewarray 23, 3) := by decide +kernel
theorem dX8_init_53 : decode cX8_init 53 = .ok (.putfield 33, 3) := by decide +kernel
theorem dX8_init_56 : decode cX8_init 56 = .ok (.aload_n 0, 1) := by decide +kernel
theorem dX8_init_57 : decode cX8_init 57 = .ok (.new 37, 3) := by decide +kernel
theorem dX8_init_60 : decode cX8_init 60 = .ok (.dup, 1) := by decide +kernel
theorem dX8_init_61 : decode cX8_init 61 = .ok (.invokespecial 39, 3) := by decide +kernel
theorem dX8_init_64 : decode cX8_init 64 = .ok (.putfield 40, 3) := by decide +kernel
theorem dX8_init_67 : decode cX8_init 67 = .ok (.aload_n 0, 1) := by decide +kernel
theorem dX8_init_68 : decode cX8_init 68 = .ok (.new 44, 3) := by decide +kernel
theorem dX8_init_71 : decode cX8_init 71 = .ok (.dup, 1) := by decide +kernel
theorem dX8_init_72 : decode cX8_init 72 = .ok (.invokespecial 46, 3) := by decide +kernel
theorem dX8_init_75 : decode cX8_init 75 = .ok (.putfield 47, 3) := by decide +kernel
theorem dX8_init_78 : decode cX8_init 78 = .ok (.aload_n 0, 1) := by decide +kernel
theorem dX8_init_79 : decode cX8_init 79 = .ok (.new 51, 3) := by decide +kernel
theorem dX8_init_82 : decode cX8_init 82 = .ok (.dup, 1) := by decide +kernel
theorem dX8_init_83 : decode cX8_init 83 = .ok (.invokespecial 53, 3) := by decide +kernel
theorem dX8_init_86 : decode cX8_init 86 = .ok (.putfield 54, 3) := by decide +kernel
theorem dX8_init_89 : decode cX8_init 89 = .ok (.aload_n 0, 1) := by decide +kernel
theorem dX8_init_90 : decode cX8_init 90 = .ok (.iconst 0, 1) := by decide +kernel
theorem dX8_init_91 : decode cX8_init 91 = .ok (.putfield 58, 3) := by decide +kernel
theorem dX8_init_94 : decode cX8_init 94 = .ok (.iconst 0, 1) := by decide +kernel
theorem dX8_init_95 : decode cX8_init 95 = .ok (.istore_n 1, 1) := by decide +kernel
theorem dX8_init_96 : decode cX8_init 96 = .ok (.iload_n 1, 1) := by decide +kernel
theorem dX8_init_97 : decode cX8_init 97 = .ok (.iconst 2, 1) := by decide +kernel
theorem dX8_init_98 : decode cX8_init 98 = .ok (.if_icmp .ge 22, 3) := by decide +kernel
theorem dX8_init_101 : decode cX8_init 101 = .ok (.aload_n 0, 1) := by decide +kernel
theorem dX8_init_102 : decode cX8_init 102 = .ok (.getfield 33, 3) := by decide +kernel
theorem dX8_init_105 : decode cX8_init 105 = .ok (.iload_n 1, 1) := by decide +kernel
theorem dX8_init_106 : decode cX8_init 106 = .ok (.new 23, 3) := by decide +kernel
theorem dX8_init_109 : decode cX8_init 109 = .ok (.dup, 1) := by decide +kernel
theorem dX8_init_110 : decode cX8_init 110 = .ok (.invokespecial 25, 3) := by decide +kernel
theorem dX8_init_113 : decode cX8_init 113 = .ok (.aastore, 1) := by decide +kernel
theorem dX8_init_114 : decode cX8_init 114 = .ok (.iinc 1 1, 3) := by decide +kernel
theorem dX8_init_117 : decode cX8_init 117 = .ok (.goto (-21), 3) := by decide +kernel
theorem dX8_init_120 : decode cX8_init 120 = .ok (.return_, 1) := by decide +kernel
theorem dX8_row_0 : decode cX8_row 0 = .ok (.iload_n 1, 1) := by decide +kernel
theorem dX8_row_1 : decode cX8_row 1 = .ok (.invokestatic 62, 3) := by decide +kernel
theorem dX8_row_4 : decode cX8_row 4 = .ok (.ifCond .eq 16, 3) := by decide +kernel
theorem dX8_row_7 : decode cX8_row 7 = .ok (.iload_n 2, 1) := by decide +kernel
theorem dX8_row_8 : decode cX8_row 8 = .ok (.invokestatic 66, 3) := by decide +kernel
theorem dX8_row_11 : decode cX8_row 11 = .ok (.ifCond .eq 9, 3) := by decide +kernel
theorem dX8_row_14 : decode cX8_row 14 = .ok (.iload_n 3, 1) := by decide +kernel
theorem dX8_row_15 : decode cX8_row 15 = .ok (.bipush 40, 2) := by decide +kernel
theorem dX8_row_17 : decode cX8_row 17 = .ok (.if_icmp .le 6, 3) := by decide +kernel
theorem dX8_row_20 : decode cX8_row 20 = .ok (.ldc 69, 2) := by decide +kernel
theorem dX8_row_22 : decode cX8_row 22 = .ok (.ireturn, 1) := by decide +kernel
theorem dX8_row_23 : decode cX8_row 23 = .ok (.iload_n 3, 1) := by decide +kernel
theorem dX8_row_24 : decode cX8_row 24 = .ok (.ifCond .ge 9, 3) := by decide +kernel
theorem dX8_row_27 : decode cX8_row 27 = .ok (.aload_n 0, 1) := by decide +kernel
theorem dX8_row_28 : decode cX8_row 28 = .ok (.iconst 4, 1) := by decide +kernel
theorem dX8_row_29 : decode cX8_row 29 = .ok (.invokevirtual 70, 3) := by decide +kernel
theorem dX8_row_32 : decode cX8_row 32 = .ok (.ireturn, 1) := by decide +kernel
theorem dX8_row_33 : decode cX8_row 33 = .ok (.aload_n 0, 1) := by decide +kernel
theorem dX8_row_34 : decode cX8_row 34 = .ok (.getfield 10, 3) := by decide +kernel
theorem dX8_row_37 : decode cX8_row 37 = .ok (.iload_n 1, 1) := by decide +kernel
theorem dX8_row_38 : decode cX8_row 38 = .ok (.iload_n 2, 1) := by decide +kernel
theorem dX8_row_39 : decode cX8_row 39 = .ok (.iload_n 3, 1) := by decide +kernel
theorem dX8_row_40 : decode cX8_row 40 = .ok (.invokevirtual 74, 3) := by decide +kernel
theorem dX8_row_43 : decode cX8_row 43 = .ok (.aload_n 0, 1) := by decide +kernel
theorem dX8_row_44 : decode cX8_row 44 = .ok (.iload_n 3, 1) := by decide +kernel
theorem dX8_row_45 : decode cX8_row 45 = .ok (.invokevirtual 78, 3) := by decide +kernel
theorem dX8_row_48 : decode cX8_row 48 = .ok (.ireturn, 1) := by decide +kernel
theorem dX8_set_0 : decode cX8_set 0 = .ok (.iload_n 1, 1) := by decide +kernel
theorem dX8_set_1 : decode cX8_set 1 = .ok (.invokestatic 62, 3) := by decide +kernel
theorem dX8_set_4 : decode cX8_set 4 = .ok (.ifCond .ne 6, 3) := by decide +kernel
theorem dX8_set_7 : decode cX8_set 7 = .ok (.ldc 69, 2) := by decide +kernel
theorem dX8_set_9 : decode cX8_set 9 = .ok (.ireturn, 1) := by decide +kernel
theorem dX8_set_10 : decode cX8_set 10 = .ok (.aload_n 0, 1) := by decide +kernel
theorem dX8_set_11 : decode cX8_set 11 = .ok (.getfield 10, 3) := by decide +kernel
theorem dX8_set_14 : decode cX8_set 14 = .ok (.iload_n 1, 1) := by decide +kernel
theorem dX8_set_15 : decode cX8_set 15 = .ok (.invokevirtual 81, 3) := by decide +kernel
theorem dX8_set_18 : decode cX8_set 18 = .ok (.ifCond .eq 9, 3) := by decide +kernel
theorem dX8_set_21 : decode cX8_set 21 = .ok (.aload_n 0, 1) := by decide +kernel
theorem dX8_set_22 : decode cX8_set 22 = .ok (.iconst 1, 1) := by decide +kernel
theorem dX8_set_23 : decode cX8_set 23 = .ok (.invokevirtual 70, 3) := by decide +kernel
theorem dX8_set_26 : decode cX8_set 26 = .ok (.ireturn, 1) := by decide +kernel
theorem dX8_set_27 : decode cX8_set 27 = .ok (.aload_n 0, 1) := by decide +kernel
theorem dX8_set_28 : decode cX8_set 28 = .ok (.getfield 10, 3) := by decide +kernel
theorem dX8_set_31 : decode cX8_set 31 = .ok (.iload_n 1, 1) := by decide +kernel
theorem dX8_set_32 : decode cX8_set 32 = .ok (.iload_n 2, 1) := by decide +kernel
theorem dX8_set_33 : decode cX8_set 33 = .ok (.iconst 1, 1) := by decide +kernel
theorem dX8_set_34 : decode cX8_set 34 = .ok (.invokevirtual 84, 3) := by decide +kernel
theorem dX8_set_37 : decode cX8_set 37 = .ok (.ifCond .ne 9, 3) := by decide +kernel
theorem dX8_set_40 : decode cX8_set 40 = .ok (.aload_n 0, 1) := by decide +kernel
theorem dX8_set_41 : decode cX8_set 41 = .ok (.iconst 2, 1) := by decide +kernel
theorem dX8_set_42 : decode cX8_set 42 = .ok (.invokevirtual 70, 3) := by decide +kernel
theorem dX8_set_45 : decode cX8_set 45 = .ok (.ireturn, 1) := by decide +kernel
theorem dX8_set_46 : decode cX8_set 46 = .ok (.aload_n 0, 1) := by decide +kernel
theorem dX8_set_47 : decode cX8_set 47 = .ok (.aload_n 0, 1) := by decide +kernel
theorem dX8_set_48 : decode cX8_set 48 = .ok (.getfield 10, 3) := by decide +kernel
theorem dX8_set_51 : decode cX8_set 51 = .ok (.iload_n 1, 1) := by decide +kernel
theorem dX8_set_52 : decode cX8_set 52 = .ok (.iload_n 2, 1) := by decide +kernel
theorem dX8_set_53 : decode cX8_set 53 = .ok (.iload_n 3, 1) := by decide +kernel
theorem dX8_set_54 : decode cX8_set 54 = .ok (.invokevirtual 88, 3) := by decide +kernel
theorem dX8_set_57 : decode cX8_set 57 = .ok (.invokevirtual 78, 3) := by decide +kernel
theorem dX8_set_60 : decode cX8_set 60 = .ok (.ireturn, 1) := by decide +kernel
theorem dX8_copy_0 : decode cX8_copy 0 = .ok (.iload_n 1, 1) := by decide +kernel
theorem dX8_copy_1 : decode cX8_copy 1 = .ok (.invokestatic 62, 3) := by decide +kernel
theorem dX8_copy_4 : decode cX8_copy 4 = .ok (.ifCond .eq 10, 3) := by decide +kernel
theorem dX8_copy_7 : decode cX8_copy 7 = .ok (.iload_n 3, 1) := by decide +kernel
theorem dX8_copy_8 : decode cX8_copy 8 = .ok (.invokestatic 62, 3) := by decide +kernel
theorem dX8_copy_11 : decode cX8_copy 11 = .ok (.ifCond .ne 6, 3) := by decide +kernel
theorem dX8_copy_14 : decode cX8_copy 14 = .ok (.ldc 69, 2) := by decide +kernel
theorem dX8_copy_16 : decode cX8_copy 16 = .ok (.ireturn, 1) := by decide +kernel
theorem dX8_copy_17 : decode cX8_copy 17 = .ok (.aload_n 0, 1) := by decide +kernel
theorem dX8_copy_18 : decode cX8_copy 18 = .ok (.getfield 10, 3) := by decide +kernel
theorem dX8_copy_21 : decode cX8_copy 21 = .ok (.iload_n 1, 1) := by decide +kernel
theorem dX8_copy_22 : decode cX8_copy 22 = .ok (.invokevirtual 81, 3) := by decide +kernel
theorem dX8_copy_25 : decode cX8_copy 25 = .ok (.ifCond .ne 14, 3) := by decide +kernel
theorem dX8_copy_28 : decode cX8_copy 28 = .ok (.aload_n 0, 1) := by decide +kernel
theorem dX8_copy_29 : decode cX8_copy 29 = .ok (.getfield 10, 3) := by decide +kernel
theorem dX8_copy_32 : decode cX8_copy 32 = .ok (.iload_n 3, 1) := by decide +kernel
theorem dX8_copy_33 : decode cX8_copy 33 = .ok (.invokevirtual 81, 3) := by decide +kernel
theorem dX8_copy_36 : decode cX8_copy 36 = .ok (.ifCond .eq 9, 3) := by decide +kernel
theorem dX8_copy_39 : decode cX8_copy 39 = .ok (.aload_n 0, 1) := by decide +kernel
theorem dX8_copy_40 : decode cX8_copy 40 = .ok (.iconst 1, 1) := by decide +kernel
theorem dX8_copy_41 : decode cX8_copy 41 = .ok (.invokevirtual 70, 3) := by decide +kernel
theorem dX8_copy_44 : decode cX8_copy 44 = .ok (.ireturn, 1) := by decide +kernel
theorem dX8_copy_45 : decode cX8_copy 45 = .ok (.aload_n 0, 1) := by decide +kernel
theorem dX8_copy_46 : decode cX8_copy 46 = .ok (.getfield 10, 3) := by decide +kernel
theorem dX8_copy_49 : decode cX8_copy 49 = .ok (.iload_n 1, 1) := by decide +kernel
theorem dX8_copy_50 : decode cX8_copy 50 = .ok (.invokevirtual 92, 3) := by decide +kernel
theorem dX8_copy_53 : decode cX8_copy 53 = .ok (.aload_n 0, 1) := by decide +kernel
theorem dX8_copy_54 : decode cX8_copy 54 = .ok (.getfield 10, 3) := by decide +kernel
theorem dX8_copy_57 : decode cX8_copy 57 = .ok (.iload_n 3, 1) := by decide +kernel
theorem dX8_copy_58 : decode cX8_copy 58 = .ok (.invokevirtual 92, 3) := by decide +kernel
theorem dX8_copy_61 : decode cX8_copy 61 = .ok (.if_icmp .eq 9, 3) := by decide +kernel
theorem dX8_copy_64 : decode cX8_copy 64 = .ok (.aload_n 0, 1) := by decide +kernel
theorem dX8_copy_65 : decode cX8_copy 65 = .ok (.iconst 5, 1) := by decide +kernel
theorem dX8_copy_66 : decode cX8_copy 66 = .ok (.invokevirtual 70, 3) := by decide +kernel
theorem dX8_copy_69 : decode cX8_copy 69 = .ok (.ireturn, 1) := by decide +kernel
theorem dX8_copy_70 : decode cX8_copy 70 = .ok (.aload_n 0, 1) := by decide +kernel
theorem dX8_copy_71 : decode cX8_copy 71 = .ok (.getfield 10, 3) := by decide +kernel
theorem dX8_copy_74 : decode cX8_copy 74 = .ok (.iload_n 1, 1) := by decide +kernel
theorem dX8_copy_75 : decode cX8_copy 75 = .ok (.iload_n 2, 1) := by decide +kernel
theorem dX8_copy_76 : decode cX8_copy 76 = .ok (.iload 5, 2) := by decide +kernel
theorem dX8_copy_78 : decode cX8_copy 78 = .ok (.invokevirtual 84, 3) := by decide +kernel
theorem dX8_copy_81 : decode cX8_copy 81 = .ok (.ifCond .eq 18, 3) := by decide +kernel
theorem dX8_copy_84 : decode cX8_copy 84 = .ok (.aload_n 0, 1) := by decide +kernel
theorem dX8_copy_85 : decode cX8_copy 85 = .ok (.getfield 10, 3) := by decide +kernel
theorem dX8_copy_88 : decode cX8_copy 88 = .ok (.iload_n 3, 1) := by decide +kernel
theorem dX8_copy_89 : decode cX8_copy 89 = .ok (.iload 4, 2) := by decide +kernel
theorem dX8_copy_91 : decode cX8_copy 91 = .ok (.iload 5, 2) := by decide +kernel
theorem dX8_copy_93 : decode cX8_copy 93 = .ok (.invokevirtual 84, 3) := by decide +kernel
theorem dX8_copy_96 : decode cX8_copy 96 = .ok (.ifCond .ne 9, 3) := by decide +kernel
theorem dX8_copy_99 : decode cX8_copy 99 = .ok (.aload_n 0, 1) := by decide +kernel
theorem dX8_copy_100 : decode cX8_copy 100 = .ok (.iconst 2, 1) := by decide +kernel
theorem dX8_copy_101 : decode cX8_copy 101 = .ok (.invokevirtual 70, 3) := by decide +kernel
theorem dX8_copy_104 : decode cX8_copy 104 = .ok (.ireturn, 1) := by decide +kernel
theorem dX8_copy_105 : decode cX8_copy 105 = .ok (.aload_n 0, 1) := by decide +kernel
theorem dX8_copy_106 : decode cX8_copy 106 = .ok (.getfield 10, 3) := by decide +kernel
theorem dX8_copy_109 : decode cX8_copy 109 = .ok (.iload_n 1, 1) := by decide +kernel
theorem dX8_copy_110 : decode cX8_copy 110 = .ok (.iload_n 2, 1) := by decide +kernel
theorem dX8_copy_111 : decode cX8_copy 111 = .ok (.iload_n 3, 1) := by decide +kernel
theorem dX8_copy_112 : decode cX8_copy 112 = .ok (.iload 4, 2) := by decide +kernel
theorem dX8_copy_114 : decode cX8_copy 114 = .ok (.iload 5, 2) := by decide +kernel
theorem dX8_copy_116 : decode cX8_copy 116 = .ok (.invokevirtual 95, 3) := by decide +kernel
theorem dX8_copy_119 : decode cX8_copy 119 = .ok (.aload_n 0, 1) := by decide +kernel
theorem dX8_copy_120 : decode cX8_copy 120 = .ok (.iload 5, 2) := by decide +kernel
theorem dX8_copy_122 : decode cX8_copy 122 = .ok (.invokevirtual 78, 3) := by decide +kernel
theorem dX8_copy_125 : decode cX8_copy 125 = .ok (.ireturn, 1) := by decide +kernel
theorem dX8_drop_0 : decode cX8_drop 0 = .ok (.iload_n 1, 1) := by decide +kernel
theorem dX8_drop_1 : decode cX8_drop 1 = .ok (.invokestatic 62, 3) := by decide +kernel
theorem dX8_drop_4 : decode cX8_drop 4 = .ok (.ifCond .ne 6, 3) := by decide +kernel
theorem dX8_drop_7 : decode cX8_drop 7 = .ok (.ldc 69, 2) := by decide +kernel
theorem dX8_drop_9 : decode cX8_drop 9 = .ok (.ireturn, 1) := by decide +kernel
theorem dX8_drop_10 : decode cX8_drop 10 = .ok (.aload_n 0, 1) := by decide +kernel
theorem dX8_drop_11 : decode cX8_drop 11 = .ok (.getfield 10, 3) := by decide +kernel
theorem dX8_drop_14 : decode cX8_drop 14 = .ok (.iload_n 1, 1) := by decide +kernel
theorem dX8_drop_15 : decode cX8_drop 15 = .ok (.invokevirtual 81, 3) := by decide +kernel
theorem dX8_drop_18 : decode cX8_drop 18 = .ok (.ifCond .eq 9, 3) := by decide +kernel
theorem dX8_drop_21 : decode cX8_drop 21 = .ok (.aload_n 0, 1) := by decide +kernel
theorem dX8_drop_22 : decode cX8_drop 22 = .ok (.iconst 1, 1) := by decide +kernel
theorem dX8_drop_23 : decode cX8_drop 23 = .ok (.invokevirtual 70, 3) := by decide +kernel
theorem dX8_drop_26 : decode cX8_drop 26 = .ok (.ireturn, 1) := by decide +kernel
theorem dX8_drop_27 : decode cX8_drop 27 = .ok (.aload_n 0, 1) := by decide +kernel
theorem dX8_drop_28 : decode cX8_drop 28 = .ok (.aload_n 0, 1) := by decide +kernel
theorem dX8_drop_29 : decode cX8_drop 29 = .ok (.getfield 10, 3) := by decide +kernel
theorem dX8_drop_32 : decode cX8_drop 32 = .ok (.iload_n 1, 1) := by decide +kernel
theorem dX8_drop_33 : decode cX8_drop 33 = .ok (.invokevirtual 99, 3) := by decide +kernel
theorem dX8_drop_36 : decode cX8_drop 36 = .ok (.invokevirtual 78, 3) := by decide +kernel
theorem dX8_drop_39 : decode cX8_drop 39 = .ok (.ireturn, 1) := by decide +kernel
theorem dX8_feed_0 : decode cX8_feed 0 = .ok (.iload_n 1, 1) := by decide +kernel
theorem dX8_feed_1 : decode cX8_feed 1 = .ok (.ifCond .lt 10, 3) := by decide +kernel
theorem dX8_feed_4 : decode cX8_feed 4 = .ok (.iload_n 1, 1) := by decide +kernel
theorem dX8_feed_5 : decode cX8_feed 5 = .ok (.sipush 255, 3) := by decide +kernel
theorem dX8_feed_8 : decode cX8_feed 8 = .ok (.if_icmp .le 6, 3) := by decide +kernel
theorem dX8_feed_11 : decode cX8_feed 11 = .ok (.ldc 69, 2) := by decide +kernel
theorem dX8_feed_13 : decode cX8_feed 13 = .ok (.ireturn, 1) := by decide +kernel
theorem dX8_feed_14 : decode cX8_feed 14 = .ok (.aload_n 0, 1) := by decide +kernel
theorem dX8_feed_15 : decode cX8_feed 15 = .ok (.getfield 19, 3) := by decide +kernel
theorem dX8_feed_18 : decode cX8_feed 18 = .ok (.invokevirtual 102, 3) := by decide +kernel
theorem dX8_feed_21 : decode cX8_feed 21 = .ok (.ifCond .eq 6, 3) := by decide +kernel
theorem dX8_feed_24 : decode cX8_feed 24 = .ok (.ldc 106, 2) := by decide +kernel
theorem dX8_feed_26 : decode cX8_feed 26 = .ok (.ireturn, 1) := by decide +kernel
theorem dX8_feed_27 : decode cX8_feed 27 = .ok (.aload_n 0, 1) := by decide +kernel
theorem dX8_feed_28 : decode cX8_feed 28 = .ok (.getfield 19, 3) := by decide +kernel
theorem dX8_feed_31 : decode cX8_feed 31 = .ok (.iload_n 1, 1) := by decide +kernel
theorem dX8_feed_32 : decode cX8_feed 32 = .ok (.invokevirtual 107, 3) := by decide +kernel
theorem dX8_feed_35 : decode cX8_feed 35 = .ok (.ireturn, 1) := by decide +kernel
theorem dX8_town_0 : decode cX8_town 0 = .ok (.aload_n 0, 1) := by decide +kernel
theorem dX8_town_1 : decode cX8_town 1 = .ok (.getfield 19, 3) := by decide +kernel
theorem dX8_town_4 : decode cX8_town 4 = .ok (.aload_n 0, 1) := by decide +kernel
theorem dX8_town_5 : decode cX8_town 5 = .ok (.getfield 30, 3) := by decide +kernel
theorem dX8_town_8 : decode cX8_town 8 = .ok (.invokevirtual 110, 3) := by decide +kernel
theorem dX8_town_11 : decode cX8_town 11 = .ok (.ifCond .ne 14, 3) := by decide +kernel
theorem dX8_town_14 : decode cX8_town 14 = .ok (.ldc 114, 2) := by decide +kernel
theorem dX8_town_16 : decode cX8_town 16 = .ok (.aload_n 0, 1) := by decide +kernel
theorem dX8_town_17 : decode cX8_town 17 = .ok (.getfield 19, 3) := by decide +kernel
theorem dX8_town_20 : decode cX8_town 20 = .ok (.invokevirtual 115, 3) := by decide +kernel
theorem dX8_town_23 : decode cX8_town 23 = .ok (.isub, 1) := by decide +kernel
theorem dX8_town_24 : decode cX8_town 24 = .ok (.ireturn, 1) := by decide +kernel
theorem dX8_town_25 : decode cX8_town 25 = .ok (.aload_n 0, 1) := by decide +kernel
theorem dX8_town_26 : decode cX8_town 26 = .ok (.getfield 26, 3) := by decide +kernel
theorem dX8_town_29 : decode cX8_town 29 = .ok (.aload_n 0, 1) := by decide +kernel
theorem dX8_town_30 : decode cX8_town 30 = .ok (.getfield 30, 3) := by decide +kernel
theorem dX8_town_33 : decode cX8_town 33 = .ok (.invokevirtual 119, 3) := by decide +kernel
theorem dX8_town_36 : decode cX8_town 36 = .ok (.aload_n 0, 1) := by decide +kernel
theorem dX8_town_37 : decode cX8_town 37 = .ok (.getfield 40, 3) := by decide +kernel
theorem dX8_town_40 : decode cX8_town 40 = .ok (.invokevirtual 123, 3) := by decide +kernel
theorem dX8_town_43 : decode cX8_town 43 = .ok (.aload_n 0, 1) := by decide +kernel
theorem dX8_town_44 : decode cX8_town 44 = .ok (.getfield 26, 3) := by decide +kernel
theorem dX8_town_47 : decode cX8_town 47 = .ok (.getfield 126, 3) := by decide +kernel
theorem dX8_town_50 : decode cX8_town 50 = .ok (.ireturn, 1) := by decide +kernel
theorem dX8_fault_0 : decode cX8_fault 0 = .ok (.aload_n 0, 1) := by decide +kernel
theorem dX8_fault_1 : decode cX8_fault 1 = .ok (.getfield 19, 3) := by decide +kernel
theorem dX8_fault_4 : decode cX8_fault 4 = .ok (.invokevirtual 129, 3) := by decide +kernel
theorem dX8_fault_7 : decode cX8_fault 7 = .ok (.ireturn, 1) := by decide +kernel
theorem dX8_tell_0 : decode cX8_tell 0 = .ok (.aload_n 0, 1) := by decide +kernel
theorem dX8_tell_1 : decode cX8_tell 1 = .ok (.getfield 26, 3) := by decide +kernel
theorem dX8_tell_4 : decode cX8_tell 4 = .ok (.iload_n 1, 1) := by decide +kernel
theorem dX8_tell_5 : decode cX8_tell 5 = .ok (.invokevirtual 132, 3) := by decide +kernel
theorem dX8_tell_8 : decode cX8_tell 8 = .ok (.ifCond .eq 14, 3) := by decide +kernel
theorem dX8_tell_11 : decode cX8_tell 11 = .ok (.aload_n 0, 1) := by decide +kernel
theorem dX8_tell_12 : decode cX8_tell 12 = .ok (.getfield 26, 3) := by decide +kernel
theorem dX8_tell_15 : decode cX8_tell 15 = .ok (.iload_n 2, 1) := by decide +kernel
theorem dX8_tell_16 : decode cX8_tell 16 = .ok (.invokevirtual 135, 3) := by decide +kernel
theorem dX8_tell_19 : decode cX8_tell 19 = .ok (.ifCond .ne 6, 3) := by decide +kernel
theorem dX8_tell_22 : decode cX8_tell 22 = .ok (.ldc 69, 2) := by decide +kernel
theorem dX8_tell_24 : decode cX8_tell 24 = .ok (.ireturn, 1) := by decide +kernel
theorem dX8_tell_25 : decode cX8_tell 25 = .ok (.aload_n 0, 1) := by decide +kernel
theorem dX8_tell_26 : decode cX8_tell 26 = .ok (.getfield 26, 3) := by decide +kernel
theorem dX8_tell_29 : decode cX8_tell 29 = .ok (.iload_n 1, 1) := by decide +kernel
theorem dX8_tell_30 : decode cX8_tell 30 = .ok (.iload_n 2, 1) := by decide +kernel
theorem dX8_tell_31 : decode cX8_tell 31 = .ok (.invokevirtual 138, 3) := by decide +kernel
theorem dX8_tell_34 : decode cX8_tell 34 = .ok (.ifCond .eq 6, 3) := by decide +kernel
theorem dX8_tell_37 : decode cX8_tell 37 = .ok (.ldc 142, 2) := by decide +kernel
theorem dX8_tell_39 : decode cX8_tell 39 = .ok (.ireturn, 1) := by decide +kernel
theorem dX8_tell_40 : decode cX8_tell 40 = .ok (.aload_n 0, 1) := by decide +kernel
theorem dX8_tell_41 : decode cX8_tell 41 = .ok (.getfield 40, 3) := by decide +kernel
theorem dX8_tell_44 : decode cX8_tell 44 = .ok (.aload_n 0, 1) := by decide +kernel
theorem dX8_tell_45 : decode cX8_tell 45 = .ok (.getfield 26, 3) := by decide +kernel
theorem dX8_tell_48 : decode cX8_tell 48 = .ok (.iload_n 1, 1) := by decide +kernel
theorem dX8_tell_49 : decode cX8_tell 49 = .ok (.invokevirtual 143, 3) := by decide +kernel
theorem dX8_tell_52 : decode cX8_tell 52 = .ok (.aload_n 0, 1) := by decide +kernel
theorem dX8_tell_53 : decode cX8_tell 53 = .ok (.getfield 47, 3) := by decide +kernel
theorem dX8_tell_56 : decode cX8_tell 56 = .ok (.aload_n 0, 1) := by decide +kernel
theorem dX8_tell_57 : decode cX8_tell 57 = .ok (.getfield 26, 3) := by decide +kernel
theorem dX8_tell_60 : decode cX8_tell 60 = .ok (.iload_n 1, 1) := by decide +kernel
theorem dX8_tell_61 : decode cX8_tell 61 = .ok (.invokevirtual 147, 3) := by decide +kernel
theorem dX8_tell_64 : decode cX8_tell 64 = .ok (.astore_n 3, 1) := by decide +kernel
theorem dX8_tell_65 : decode cX8_tell 65 = .ok (.aload_n 3, 1) := by decide +kernel
theorem dX8_tell_66 : decode cX8_tell 66 = .ok (.aload_n 0, 1) := by decide +kernel
theorem dX8_tell_67 : decode cX8_tell 67 = .ok (.getfield 26, 3) := by decide +kernel
theorem dX8_tell_70 : decode cX8_tell 70 = .ok (.iload_n 2, 1) := by decide +kernel
theorem dX8_tell_71 : decode cX8_tell 71 = .ok (.invokevirtual 151, 3) := by decide +kernel
theorem dX8_tell_74 : decode cX8_tell 74 = .ok (.istore 4, 2) := by decide +kernel
theorem dX8_tell_76 : decode cX8_tell 76 = .ok (.aload_n 0, 1) := by decide +kernel
theorem dX8_tell_77 : decode cX8_tell 77 = .ok (.getfield 26, 3) := by decide +kernel
theorem dX8_tell_80 : decode cX8_tell 80 = .ok (.iload_n 1, 1) := by decide +kernel
theorem dX8_tell_81 : decode cX8_tell 81 = .ok (.iload_n 2, 1) := by decide +kernel
theorem dX8_tell_82 : decode cX8_tell 82 = .ok (.iload 4, 2) := by decide +kernel
theorem dX8_tell_84 : decode cX8_tell 84 = .ok (.aload_n 3, 1) := by decide +kernel
theorem dX8_tell_85 : decode cX8_tell 85 = .ok (.getfield 157, 3) := by decide +kernel
theorem dX8_tell_88 : decode cX8_tell 88 = .ok (.invokevirtual 160, 3) := by decide +kernel
theorem dX8_tell_91 : decode cX8_tell 91 = .ok (.iload 4, 2) := by decide +kernel
theorem dX8_tell_93 : decode cX8_tell 93 = .ok (.ifCond .eq 7, 3) := by decide +kernel
theorem dX8_tell_96 : decode cX8_tell 96 = .ok (.iconst 1, 1) := by decide +kernel
theorem dX8_tell_97 : decode cX8_tell 97 = .ok (.goto 4, 3) := by decide +kernel
theorem dX8_tell_100 : decode cX8_tell 100 = .ok (.iconst 0, 1) := by decide +kernel
theorem dX8_tell_101 : decode cX8_tell 101 = .ok (.ireturn, 1) := by decide +kernel
theorem dX8_supper_0 : decode cX8_supper 0 = .ok (.aload_n 0, 1) := by decide +kernel
theorem dX8_supper_1 : decode cX8_supper 1 = .ok (.getfield 26, 3) := by decide +kernel
theorem dX8_supper_4 : decode cX8_supper 4 = .ok (.iload_n 1, 1) := by decide +kernel
theorem dX8_supper_5 : decode cX8_supper 5 = .ok (.invokevirtual 132, 3) := by decide +kernel
theorem dX8_supper_8 : decode cX8_supper 8 = .ok (.ifCond .ne 6, 3) := by decide +kernel
theorem dX8_supper_11 : decode cX8_supper 11 = .ok (.ldc 69, 2) := by decide +kernel
theorem dX8_supper_13 : decode cX8_supper 13 = .ok (.ireturn, 1) := by decide +kernel
theorem dX8_supper_14 : decode cX8_supper 14 = .ok (.aload_n 0, 1) := by decide +kernel
theorem dX8_supper_15 : decode cX8_supper 15 = .ok (.getfield 40, 3) := by decide +kernel
theorem dX8_supper_18 : decode cX8_supper 18 = .ok (.aload_n 0, 1) := by decide +kernel
theorem dX8_supper_19 : decode cX8_supper 19 = .ok (.getfield 26, 3) := by decide +kernel
theorem dX8_supper_22 : decode cX8_supper 22 = .ok (.iload_n 1, 1) := by decide +kernel
theorem dX8_supper_23 : decode cX8_supper 23 = .ok (.invokevirtual 143, 3) := by decide +kernel
theorem dX8_supper_26 : decode cX8_supper 26 = .ok (.aload_n 0, 1) := by decide +kernel
theorem dX8_supper_27 : decode cX8_supper 27 = .ok (.getfield 47, 3) := by decide +kernel
theorem dX8_supper_30 : decode cX8_supper 30 = .ok (.aload_n 0, 1) := by decide +kernel
theorem dX8_supper_31 : decode cX8_supper 31 = .ok (.getfield 26, 3) := by decide +kernel
theorem dX8_supper_34 : decode cX8_supper 34 = .ok (.iload_n 1, 1) := by decide +kernel
theorem dX8_supper_35 : decode cX8_supper 35 = .ok (.invokevirtual 147, 3) := by decide +kernel
theorem dX8_supper_38 : decode cX8_supper 38 = .ok (.astore_n 2, 1) := by decide +kernel
theorem dX8_supper_39 : decode cX8_supper 39 = .ok (.aload_n 2, 1) := by decide +kernel
theorem dX8_supper_40 : decode cX8_supper 40 = .ok (.invokevirtual 164, 3) := by decide +kernel
theorem dX8_supper_43 : decode cX8_supper 43 = .ok (.aload_n 0, 1) := by decide +kernel
theorem dX8_supper_44 : decode cX8_supper 44 = .ok (.getfield 26, 3) := by decide +kernel
theorem dX8_supper_47 : decode cX8_supper 47 = .ok (.iload_n 1, 1) := by decide +kernel
theorem dX8_supper_48 : decode cX8_supper 48 = .ok (.aload_n 2, 1) := by decide +kernel
theorem dX8_supper_49 : decode cX8_supper 49 = .ok (.getfield 157, 3) := by decide +kernel
theorem dX8_supper_52 : decode cX8_supper 52 = .ok (.invokevirtual 167, 3) := by decide +kernel
theorem dX8_supper_55 : decode cX8_supper 55 = .ok (.aload_n 2, 1) := by decide +kernel
theorem dX8_supper_56 : decode cX8_supper 56 = .ok (.getfield 157, 3) := by decide +kernel
theorem dX8_supper_59 : decode cX8_supper 59 = .ok (.ireturn, 1) := by decide +kernel
theorem dX8_forget_0 : decode cX8_forget 0 = .ok (.aload_n 0, 1) := by decide +kernel
theorem dX8_forget_1 : decode cX8_forget 1 = .ok (.getfield 26, 3) := by decide +kernel
theorem dX8_forget_4 : decode cX8_forget 4 = .ok (.iload_n 1, 1) := by decide +kernel
theorem dX8_forget_5 : decode cX8_forget 5 = .ok (.invokevirtual 132, 3) := by decide +kernel
theorem dX8_forget_8 : decode cX8_forget 8 = .ok (.ifCond .eq 14, 3) := by decide +kernel
theorem dX8_forget_11 : decode cX8_forget 11 = .ok (.aload_n 0, 1) := by decide +kernel
theorem dX8_forget_12 : decode cX8_forget 12 = .ok (.getfield 26, 3) := by decide +kernel
theorem dX8_forget_15 : decode cX8_forget 15 = .ok (.iload_n 2, 1) := by decide +kernel
theorem dX8_forget_16 : decode cX8_forget 16 = .ok (.invokevirtual 135, 3) := by decide +kernel
theorem dX8_forget_19 : decode cX8_forget 19 = .ok (.ifCond .ne 6, 3) := by decide +kernel
theorem dX8_forget_22 : decode cX8_forget 22 = .ok (.ldc 69, 2) := by decide +kernel
theorem dX8_forget_24 : decode cX8_forget 24 = .ok (.ireturn, 1) := by decide +kernel
theorem dX8_forget_25 : decode cX8_forget 25 = .ok (.aload_n 0, 1) := by decide +kernel
theorem dX8_forget_26 : decode cX8_forget 26 = .ok (.getfield 26, 3) := by decide +kernel
theorem dX8_forget_29 : decode cX8_forget 29 = .ok (.iload_n 1, 1) := by decide +kernel
theorem dX8_forget_30 : decode cX8_forget 30 = .ok (.iload_n 2, 1) := by decide +kernel
theorem dX8_forget_31 : decode cX8_forget 31 = .ok (.invokevirtual 138, 3) := by decide +kernel
theorem dX8_forget_34 : decode cX8_forget 34 = .ok (.ifCond .ne 6, 3) := by decide +kernel
theorem dX8_forget_37 : decode cX8_forget 37 = .ok (.ldc 142, 2) := by decide +kernel
theorem dX8_forget_39 : decode cX8_forget 39 = .ok (.ireturn, 1) := by decide +kernel
theorem dX8_forget_40 : decode cX8_forget 40 = .ok (.aload_n 0, 1) := by decide +kernel
theorem dX8_forget_41 : decode cX8_forget 41 = .ok (.getfield 40, 3) := by decide +kernel
theorem dX8_forget_44 : decode cX8_forget 44 = .ok (.aload_n 0, 1) := by decide +kernel
theorem dX8_forget_45 : decode cX8_forget 45 = .ok (.getfield 26, 3) := by decide +kernel
theorem dX8_forget_48 : decode cX8_forget 48 = .ok (.iload_n 1, 1) := by decide +kernel
theorem dX8_forget_49 : decode cX8_forget 49 = .ok (.invokevirtual 143, 3) := by decide +kernel
theorem dX8_forget_52 : decode cX8_forget 52 = .ok (.aload_n 0, 1) := by decide +kernel
theorem dX8_forget_53 : decode cX8_forget 53 = .ok (.getfield 26, 3) := by decide +kernel
theorem dX8_forget_56 : decode cX8_forget 56 = .ok (.iload_n 1, 1) := by decide +kernel
theorem dX8_forget_57 : decode cX8_forget 57 = .ok (.iload_n 2, 1) := by decide +kernel
theorem dX8_forget_58 : decode cX8_forget 58 = .ok (.invokevirtual 171, 3) := by decide +kernel
theorem dX8_forget_61 : decode cX8_forget 61 = .ok (.aload_n 0, 1) := by decide +kernel
theorem dX8_forget_62 : decode cX8_forget 62 = .ok (.getfield 26, 3) := by decide +kernel
theorem dX8_forget_65 : decode cX8_forget 65 = .ok (.getfield 174, 3) := by decide +kernel
theorem dX8_forget_68 : decode cX8_forget 68 = .ok (.iload_n 1, 1) := by decide +kernel
theorem dX8_forget_69 : decode cX8_forget 69 = .ok (.iaload, 1) := by decide +kernel
theorem dX8_forget_70 : decode cX8_forget 70 = .ok (.invokestatic 178, 3) := by decide +kernel
theorem dX8_forget_73 : decode cX8_forget 73 = .ok (.ireturn, 1) := by decide +kernel
theorem dX8_undo_0 : decode cX8_undo 0 = .ok (.aload_n 0, 1) := by decide +kernel
theorem dX8_undo_1 : decode cX8_undo 1 = .ok (.getfield 40, 3) := by decide +kernel
theorem dX8_undo_4 : decode cX8_undo 4 = .ok (.invokevirtual 183, 3) := by decide +kernel
theorem dX8_undo_7 : decode cX8_undo 7 = .ok (.ifCond .ne 6, 3) := by decide +kernel
theorem dX8_undo_10 : decode cX8_undo 10 = .ok (.ldc 142, 2) := by decide +kernel
theorem dX8_undo_12 : decode cX8_undo 12 = .ok (.ireturn, 1) := by decide +kernel
theorem dX8_undo_13 : decode cX8_undo 13 = .ok (.aload_n 0, 1) := by decide +kernel
theorem dX8_undo_14 : decode cX8_undo 14 = .ok (.getfield 40, 3) := by decide +kernel
theorem dX8_undo_17 : decode cX8_undo 17 = .ok (.aload_n 0, 1) := by decide +kernel
theorem dX8_undo_18 : decode cX8_undo 18 = .ok (.getfield 26, 3) := by decide +kernel
theorem dX8_undo_21 : decode cX8_undo 21 = .ok (.invokevirtual 186, 3) := by decide +kernel
theorem dX8_undo_24 : decode cX8_undo 24 = .ok (.aload_n 0, 1) := by decide +kernel
theorem dX8_undo_25 : decode cX8_undo 25 = .ok (.getfield 40, 3) := by decide +kernel
theorem dX8_undo_28 : decode cX8_undo 28 = .ok (.invokevirtual 183, 3) := by decide +kernel
theorem dX8_undo_31 : decode cX8_undo 31 = .ok (.ireturn, 1) := by decide +kernel
theorem dX8_lie_0 : decode cX8_lie 0 = .ok (.aload_n 0, 1) := by decide +kernel
theorem dX8_lie_1 : decode cX8_lie 1 = .ok (.getfield 26, 3) := by decide +kernel
theorem dX8_lie_4 : decode cX8_lie 4 = .ok (.iload_n 1, 1) := by decide +kernel
theorem dX8_lie_5 : decode cX8_lie 5 = .ok (.invokevirtual 135, 3) := by decide +kernel
theorem dX8_lie_8 : decode cX8_lie 8 = .ok (.ifCond .ne 6, 3) := by decide +kernel
theorem dX8_lie_11 : decode cX8_lie 11 = .ok (.ldc 69, 2) := by decide +kernel
theorem dX8_lie_13 : decode cX8_lie 13 = .ok (.ireturn, 1) := by decide +kernel
theorem dX8_lie_14 : decode cX8_lie 14 = .ok (.iload_n 2, 1) := by decide +kernel
theorem dX8_lie_15 : decode cX8_lie 15 = .ok (.tableswitch 81 0 3 #[29, 39, 49, 65], 29) := by decide +kernel
theorem dX8_lie_44 : decode cX8_lie 44 = .ok (.aload_n 0, 1) := by decide +kernel
theorem dX8_lie_45 : decode cX8_lie 45 = .ok (.getfield 26, 3) := by decide +kernel
theorem dX8_lie_48 : decode cX8_lie 48 = .ok (.getfield 189, 3) := by decide +kernel
theorem dX8_lie_51 : decode cX8_lie 51 = .ok (.iload_n 1, 1) := by decide +kernel
theorem dX8_lie_52 : decode cX8_lie 52 = .ok (.iaload, 1) := by decide +kernel
theorem dX8_lie_53 : decode cX8_lie 53 = .ok (.ireturn, 1) := by decide +kernel
theorem dX8_lie_54 : decode cX8_lie 54 = .ok (.aload_n 0, 1) := by decide +kernel
theorem dX8_lie_55 : decode cX8_lie 55 = .ok (.getfield 26, 3) := by decide +kernel
theorem dX8_lie_58 : decode cX8_lie 58 = .ok (.getfield 192, 3) := by decide +kernel
theorem dX8_lie_61 : decode cX8_lie 61 = .ok (.iload_n 1, 1) := by decide +kernel
theorem dX8_lie_62 : decode cX8_lie 62 = .ok (.iaload, 1) := by decide +kernel
theorem dX8_lie_63 : decode cX8_lie 63 = .ok (.ireturn, 1) := by decide +kernel
theorem dX8_lie_64 : decode cX8_lie 64 = .ok (.aload_n 0, 1) := by decide +kernel
theorem dX8_lie_65 : decode cX8_lie 65 = .ok (.getfield 26, 3) := by decide +kernel
theorem dX8_lie_68 : decode cX8_lie 68 = .ok (.aload_n 0, 1) := by decide +kernel
theorem dX8_lie_69 : decode cX8_lie 69 = .ok (.getfield 26, 3) := by decide +kernel
theorem dX8_lie_72 : decode cX8_lie 72 = .ok (.getfield 174, 3) := by decide +kernel
theorem dX8_lie_75 : decode cX8_lie 75 = .ok (.iload_n 1, 1) := by decide +kernel
theorem dX8_lie_76 : decode cX8_lie 76 = .ok (.invokevirtual 195, 3) := by decide +kernel
theorem dX8_lie_79 : decode cX8_lie 79 = .ok (.ireturn, 1) := by decide +kernel
theorem dX8_lie_80 : decode cX8_lie 80 = .ok (.aload_n 0, 1) := by decide +kernel
theorem dX8_lie_81 : decode cX8_lie 81 = .ok (.getfield 26, 3) := by decide +kernel
theorem dX8_lie_84 : decode cX8_lie 84 = .ok (.aload_n 0, 1) := by decide +kernel
theorem dX8_lie_85 : decode cX8_lie 85 = .ok (.getfield 26, 3) := by decide +kernel
theorem dX8_lie_88 : decode cX8_lie 88 = .ok (.getfield 199, 3) := by decide +kernel
theorem dX8_lie_91 : decode cX8_lie 91 = .ok (.iload_n 1, 1) := by decide +kernel
theorem dX8_lie_92 : decode cX8_lie 92 = .ok (.invokevirtual 195, 3) := by decide +kernel
theorem dX8_lie_95 : decode cX8_lie 95 = .ok (.ireturn, 1) := by decide +kernel
theorem dX8_lie_96 : decode cX8_lie 96 = .ok (.ldc 69, 2) := by decide +kernel
theorem dX8_lie_98 : decode cX8_lie 98 = .ok (.ireturn, 1) := by decide +kernel
theorem dX8_stranger_0 : decode cX8_stranger 0 = .ok (.aload_n 0, 1) := by decide +kernel
theorem dX8_stranger_1 : decode cX8_stranger 1 = .ok (.getfield 26, 3) := by decide +kernel
theorem dX8_stranger_4 : decode cX8_stranger 4 = .ok (.iload_n 1, 1) := by decide +kernel
theorem dX8_stranger_5 : decode cX8_stranger 5 = .ok (.invokevirtual 132, 3) := by decide +kernel
theorem dX8_stranger_8 : decode cX8_stranger 8 = .ok (.ifCond .ne 6, 3) := by decide +kernel
theorem dX8_stranger_11 : decode cX8_stranger 11 = .ok (.ldc 69, 2) := by decide +kernel
theorem dX8_stranger_13 : decode cX8_stranger 13 = .ok (.ireturn, 1) := by decide +kernel
theorem dX8_stranger_14 : decode cX8_stranger 14 = .ok (.iload_n 2, 1) := by decide +kernel
theorem dX8_stranger_15 : decode cX8_stranger 15 = .ok (.tableswitch 69 0 3 #[29, 39, 49, 59], 29) := by decide +kernel
theorem dX8_stranger_44 : decode cX8_stranger 44 = .ok (.aload_n 0, 1) := by decide +kernel
theorem dX8_stranger_45 : decode cX8_stranger 45 = .ok (.getfield 26, 3) := by decide +kernel
theorem dX8_stranger_48 : decode cX8_stranger 48 = .ok (.getfield 202, 3) := by decide +kernel
theorem dX8_stranger_51 : decode cX8_stranger 51 = .ok (.iload_n 1, 1) := by decide +kernel
theorem dX8_stranger_52 : decode cX8_stranger 52 = .ok (.iaload, 1) := by decide +kernel
theorem dX8_stranger_53 : decode cX8_stranger 53 = .ok (.ireturn, 1) := by decide +kernel
theorem dX8_stranger_54 : decode cX8_stranger 54 = .ok (.aload_n 0, 1) := by decide +kernel
theorem dX8_stranger_55 : decode cX8_stranger 55 = .ok (.getfield 26, 3) := by decide +kernel
theorem dX8_stranger_58 : decode cX8_stranger 58 = .ok (.getfield 205, 3) := by decide +kernel
theorem dX8_stranger_61 : decode cX8_stranger 61 = .ok (.iload_n 1, 1) := by decide +kernel
theorem dX8_stranger_62 : decode cX8_stranger 62 = .ok (.iaload, 1) := by decide +kernel
theorem dX8_stranger_63 : decode cX8_stranger 63 = .ok (.ireturn, 1) := by decide +kernel
theorem dX8_stranger_64 : decode cX8_stranger 64 = .ok (.aload_n 0, 1) := by decide +kernel
theorem dX8_stranger_65 : decode cX8_stranger 65 = .ok (.getfield 26, 3) := by decide +kernel
theorem dX8_stranger_68 : decode cX8_stranger 68 = .ok (.getfield 174, 3) := by decide +kernel
theorem dX8_stranger_71 : decode cX8_stranger 71 = .ok (.iload_n 1, 1) := by decide +kernel
theorem dX8_stranger_72 : decode cX8_stranger 72 = .ok (.iaload, 1) := by decide +kernel
theorem dX8_stranger_73 : decode cX8_stranger 73 = .ok (.ireturn, 1) := by decide +kernel
theorem dX8_stranger_74 : decode cX8_stranger 74 = .ok (.aload_n 0, 1) := by decide +kernel
theorem dX8_stranger_75 : decode cX8_stranger 75 = .ok (.getfield 26, 3) := by decide +kernel
theorem dX8_stranger_78 : decode cX8_stranger 78 = .ok (.getfield 199, 3) := by decide +kernel
theorem dX8_stranger_81 : decode cX8_stranger 81 = .ok (.iload_n 1, 1) := by decide +kernel
theorem dX8_stranger_82 : decode cX8_stranger 82 = .ok (.iaload, 1) := by decide +kernel
theorem dX8_stranger_83 : decode cX8_stranger 83 = .ok (.ireturn, 1) := by decide +kernel
theorem dX8_stranger_84 : decode cX8_stranger 84 = .ok (.ldc 69, 2) := by decide +kernel
theorem dX8_stranger_86 : decode cX8_stranger 86 = .ok (.ireturn, 1) := by decide +kernel
theorem dX8_need_0 : decode cX8_need 0 = .ok (.aload_n 0, 1) := by decide +kernel
theorem dX8_need_1 : decode cX8_need 1 = .ok (.getfield 26, 3) := by decide +kernel
theorem dX8_need_4 : decode cX8_need 4 = .ok (.iload_n 1, 1) := by decide +kernel
theorem dX8_need_5 : decode cX8_need 5 = .ok (.invokevirtual 132, 3) := by decide +kernel
theorem dX8_need_8 : decode cX8_need 8 = .ok (.ifCond .eq 14, 3) := by decide +kernel
theorem dX8_need_11 : decode cX8_need 11 = .ok (.aload_n 0, 1) := by decide +kernel
theorem dX8_need_12 : decode cX8_need 12 = .ok (.getfield 26, 3) := by decide +kernel
theorem dX8_need_15 : decode cX8_need 15 = .ok (.iload_n 2, 1) := by decide +kernel
theorem dX8_need_16 : decode cX8_need 16 = .ok (.invokevirtual 135, 3) := by decide +kernel
theorem dX8_need_19 : decode cX8_need 19 = .ok (.ifCond .ne 6, 3) := by decide +kernel
theorem dX8_need_22 : decode cX8_need 22 = .ok (.ldc 69, 2) := by decide +kernel
theorem dX8_need_24 : decode cX8_need 24 = .ok (.ireturn, 1) := by decide +kernel
theorem dX8_need_25 : decode cX8_need 25 = .ok (.aload_n 0, 1) := by decide +kernel
theorem dX8_need_26 : decode cX8_need 26 = .ok (.getfield 47, 3) := by decide +kernel
theorem dX8_need_29 : decode cX8_need 29 = .ok (.aload_n 0, 1) := by decide +kernel
theorem dX8_need_30 : decode cX8_need 30 = .ok (.getfield 26, 3) := by decide +kernel
theorem dX8_need_33 : decode cX8_need 33 = .ok (.iload_n 1, 1) := by decide +kernel
theorem dX8_need_34 : decode cX8_need 34 = .ok (.invokevirtual 147, 3) := by decide +kernel
theorem dX8_need_37 : decode cX8_need 37 = .ok (.aload_n 0, 1) := by decide +kernel
theorem dX8_need_38 : decode cX8_need 38 = .ok (.getfield 26, 3) := by decide +kernel
theorem dX8_need_41 : decode cX8_need 41 = .ok (.iload_n 2, 1) := by decide +kernel
theorem dX8_need_42 : decode cX8_need 42 = .ok (.invokevirtual 208, 3) := by decide +kernel
theorem dX8_need_45 : decode cX8_need 45 = .ok (.ireturn, 1) := by decide +kernel
theorem dX8_nods_0 : decode cX8_nods 0 = .ok (.aload_n 0, 1) := by decide +kernel
theorem dX8_nods_1 : decode cX8_nods 1 = .ok (.getfield 26, 3) := by decide +kernel
theorem dX8_nods_4 : decode cX8_nods 4 = .ok (.iload_n 1, 1) := by decide +kernel
theorem dX8_nods_5 : decode cX8_nods 5 = .ok (.invokevirtual 132, 3) := by decide +kernel
theorem dX8_nods_8 : decode cX8_nods 8 = .ok (.ifCond .ne 6, 3) := by decide +kernel
theorem dX8_nods_11 : decode cX8_nods 11 = .ok (.ldc 69, 2) := by decide +kernel
theorem dX8_nods_13 : decode cX8_nods 13 = .ok (.ireturn, 1) := by decide +kernel
theorem dX8_nods_14 : decode cX8_nods 14 = .ok (.aload_n 0, 1) := by decide +kernel
theorem dX8_nods_15 : decode cX8_nods 15 = .ok (.getfield 47, 3) := by decide +kernel
theorem dX8_nods_18 : decode cX8_nods 18 = .ok (.aload_n 0, 1) := by decide +kernel
theorem dX8_nods_19 : decode cX8_nods 19 = .ok (.getfield 26, 3) := by decide +kernel
theorem dX8_nods_22 : decode cX8_nods 22 = .ok (.iload_n 1, 1) := by decide +kernel
theorem dX8_nods_23 : decode cX8_nods 23 = .ok (.invokevirtual 212, 3) := by decide +kernel
theorem dX8_nods_26 : decode cX8_nods 26 = .ok (.ireturn, 1) := by decide +kernel
theorem dX8_order_0 : decode cX8_order 0 = .ok (.aload_n 0, 1) := by decide +kernel
theorem dX8_order_1 : decode cX8_order 1 = .ok (.getfield 26, 3) := by decide +kernel
theorem dX8_order_4 : decode cX8_order 4 = .ok (.iload_n 1, 1) := by decide +kernel
theorem dX8_order_5 : decode cX8_order 5 = .ok (.invokevirtual 132, 3) := by decide +kernel
theorem dX8_order_8 : decode cX8_order 8 = .ok (.ifCond .eq 25, 3) := by decide +kernel
theorem dX8_order_11 : decode cX8_order 11 = .ok (.aload_n 0, 1) := by decide +kernel
theorem dX8_order_12 : decode cX8_order 12 = .ok (.getfield 26, 3) := by decide +kernel
theorem dX8_order_15 : decode cX8_order 15 = .ok (.iload_n 2, 1) := by decide +kernel
theorem dX8_order_16 : decode cX8_order 16 = .ok (.invokevirtual 215, 3) := by decide +kernel
theorem dX8_order_19 : decode cX8_order 19 = .ok (.ifCond .eq 14, 3) := by decide +kernel
theorem dX8_order_22 : decode cX8_order 22 = .ok (.iload_n 3, 1) := by decide +kernel
theorem dX8_order_23 : decode cX8_order 23 = .ok (.iconst (-1), 1) := by decide +kernel
theorem dX8_order_24 : decode cX8_order 24 = .ok (.if_icmp .lt 9, 3) := by decide +kernel
theorem dX8_order_27 : decode cX8_order 27 = .ok (.iload_n 3, 1) := by decide +kernel
theorem dX8_order_28 : decode cX8_order 28 = .ok (.bipush 6, 2) := by decide +kernel
theorem dX8_order_30 : decode cX8_order 30 = .ok (.if_icmp .lt 6, 3) := by decide +kernel
theorem dX8_order_33 : decode cX8_order 33 = .ok (.ldc 69, 2) := by decide +kernel
theorem dX8_order_35 : decode cX8_order 35 = .ok (.ireturn, 1) := by decide +kernel
theorem dX8_order_36 : decode cX8_order 36 = .ok (.aload_n 0, 1) := by decide +kernel
theorem dX8_order_37 : decode cX8_order 37 = .ok (.getfield 26, 3) := by decide +kernel
theorem dX8_order_40 : decode cX8_order 40 = .ok (.getfield 174, 3) := by decide +kernel
theorem dX8_order_43 : decode cX8_order 43 = .ok (.iload_n 1, 1) := by decide +kernel
theorem dX8_order_44 : decode cX8_order 44 = .ok (.iaload, 1) := by decide +kernel
theorem dX8_order_45 : decode cX8_order 45 = .ok (.iload_n 2, 1) := by decide +kernel
theorem dX8_order_46 : decode cX8_order 46 = .ok (.iand, 1) := by decide +kernel
theorem dX8_order_47 : decode cX8_order 47 = .ok (.ifCond .eq 6, 3) := by decide +kernel
theorem dX8_order_50 : decode cX8_order 50 = .ok (.ldc 142, 2) := by decide +kernel
theorem dX8_order_52 : decode cX8_order 52 = .ok (.ireturn, 1) := by decide +kernel
theorem dX8_order_53 : decode cX8_order 53 = .ok (.aload_n 0, 1) := by decide +kernel
theorem dX8_order_54 : decode cX8_order 54 = .ok (.getfield 47, 3) := by decide +kernel
theorem dX8_order_57 : decode cX8_order 57 = .ok (.aload_n 0, 1) := by decide +kernel
theorem dX8_order_58 : decode cX8_order 58 = .ok (.getfield 26, 3) := by decide +kernel
theorem dX8_order_61 : decode cX8_order 61 = .ok (.iload_n 1, 1) := by decide +kernel
theorem dX8_order_62 : decode cX8_order 62 = .ok (.iload_n 2, 1) := by decide +kernel
theorem dX8_order_63 : decode cX8_order 63 = .ok (.invokevirtual 218, 3) := by decide +kernel
theorem dX8_order_66 : decode cX8_order 66 = .ok (.iload_n 3, 1) := by decide +kernel
theorem dX8_order_67 : decode cX8_order 67 = .ok (.ifCond .ge 13, 3) := by decide +kernel
theorem dX8_order_70 : decode cX8_order 70 = .ok (.aload_n 0, 1) := by decide +kernel
theorem dX8_order_71 : decode cX8_order 71 = .ok (.getfield 47, 3) := by decide +kernel
theorem dX8_order_74 : decode cX8_order 74 = .ok (.invokevirtual 222, 3) := by decide +kernel
theorem dX8_order_77 : decode cX8_order 77 = .ok (.goto 11, 3) := by decide +kernel
theorem dX8_order_80 : decode cX8_order 80 = .ok (.aload_n 0, 1) := by decide +kernel
theorem dX8_order_81 : decode cX8_order 81 = .ok (.getfield 47, 3) := by decide +kernel
theorem dX8_order_84 : decode cX8_order 84 = .ok (.iload_n 3, 1) := by decide +kernel
theorem dX8_order_85 : decode cX8_order 85 = .ok (.invokevirtual 225, 3) := by decide +kernel
theorem dX8_order_88 : decode cX8_order 88 = .ok (.ireturn, 1) := by decide +kernel
theorem dX8_comesIn_0 : decode cX8_comesIn 0 = .ok (.aload_n 0, 1) := by decide +kernel
theorem dX8_comesIn_1 : decode cX8_comesIn 1 = .ok (.getfield 26, 3) := by decide +kernel
theorem dX8_comesIn_4 : decode cX8_comesIn 4 = .ok (.iload_n 1, 1) := by decide +kernel
theorem dX8_comesIn_5 : decode cX8_comesIn 5 = .ok (.invokevirtual 132, 3) := by decide +kernel
theorem dX8_comesIn_8 : decode cX8_comesIn 8 = .ok (.ifCond .eq 23, 3) := by decide +kernel
theorem dX8_comesIn_11 : decode cX8_comesIn 11 = .ok (.aload_n 0, 1) := by decide +kernel
theorem dX8_comesIn_12 : decode cX8_comesIn 12 = .ok (.getfield 26, 3) := by decide +kernel
theorem dX8_comesIn_15 : decode cX8_comesIn 15 = .ok (.iload_n 2, 1) := by decide +kernel
theorem dX8_comesIn_16 : decode cX8_comesIn 16 = .ok (.invokevirtual 135, 3) := by decide +kernel
theorem dX8_comesIn_19 : decode cX8_comesIn 19 = .ok (.ifCond .eq 12, 3) := by decide +kernel
theorem dX8_comesIn_22 : decode cX8_comesIn 22 = .ok (.iload_n 3, 1) := by decide +kernel
theorem dX8_comesIn_23 : decode cX8_comesIn 23 = .ok (.ifCond .lt 8, 3) := by decide +kernel
theorem dX8_comesIn_26 : decode cX8_comesIn 26 = .ok (.iload_n 3, 1) := by decide +kernel
theorem dX8_comesIn_27 : decode cX8_comesIn 27 = .ok (.iconst 1, 1) := by decide +kernel
theorem dX8_comesIn_28 : decode cX8_comesIn 28 = .ok (.if_icmp .le 6, 3) := by decide +kernel
theorem dX8_comesIn_31 : decode cX8_comesIn 31 = .ok (.ldc 69, 2) := by decide +kernel
theorem dX8_comesIn_33 : decode cX8_comesIn 33 = .ok (.ireturn, 1) := by decide +kernel
theorem dX8_comesIn_34 : decode cX8_comesIn 34 = .ok (.aload_n 0, 1) := by decide +kernel
theorem dX8_comesIn_35 : decode cX8_comesIn 35 = .ok (.getfield 26, 3) := by decide +kernel
theorem dX8_comesIn_38 : decode cX8_comesIn 38 = .ok (.iload_n 1, 1) := by decide +kernel
theorem dX8_comesIn_39 : decode cX8_comesIn 39 = .ok (.iload_n 2, 1) := by decide +kernel
theorem dX8_comesIn_40 : decode cX8_comesIn 40 = .ok (.invokevirtual 138, 3) := by decide +kernel
theorem dX8_comesIn_43 : decode cX8_comesIn 43 = .ok (.ifCond .eq 6, 3) := by decide +kernel
theorem dX8_comesIn_46 : decode cX8_comesIn 46 = .ok (.ldc 142, 2) := by decide +kernel
theorem dX8_comesIn_48 : decode cX8_comesIn 48 = .ok (.ireturn, 1) := by decide +kernel
theorem dX8_comesIn_49 : decode cX8_comesIn 49 = .ok (.aload_n 0, 1) := by decide +kernel
theorem dX8_comesIn_50 : decode cX8_comesIn 50 = .ok (.getfield 47, 3) := by decide +kernel
theorem dX8_comesIn_53 : decode cX8_comesIn 53 = .ok (.aload_n 0, 1) := by decide +kernel
theorem dX8_comesIn_54 : decode cX8_comesIn 54 = .ok (.getfield 26, 3) := by decide +kernel
theorem dX8_comesIn_57 : decode cX8_comesIn 57 = .ok (.iload_n 1, 1) := by decide +kernel
theorem dX8_comesIn_58 : decode cX8_comesIn 58 = .ok (.iload_n 2, 1) := by decide +kernel
theorem dX8_comesIn_59 : decode cX8_comesIn 59 = .ok (.invokevirtual 228, 3) := by decide +kernel
theorem dX8_comesIn_62 : decode cX8_comesIn 62 = .ok (.istore 4, 2) := by decide +kernel
theorem dX8_comesIn_64 : decode cX8_comesIn 64 = .ok (.iload_n 3, 1) := by decide +kernel
theorem dX8_comesIn_65 : decode cX8_comesIn 65 = .ok (.ifCond .ne 6, 3) := by decide +kernel
theorem dX8_comesIn_68 : decode cX8_comesIn 68 = .ok (.iload 4, 2) := by decide +kernel
theorem dX8_comesIn_70 : decode cX8_comesIn 70 = .ok (.ireturn, 1) := by decide +kernel
theorem dX8_comesIn_71 : decode cX8_comesIn 71 = .ok (.iload 4, 2) := by decide +kernel
theorem dX8_comesIn_73 : decode cX8_comesIn 73 = .ok (.ifCond .le 13, 3) := by decide +kernel
theorem dX8_comesIn_76 : decode cX8_comesIn 76 = .ok (.aload_n 0, 1) := by decide +kernel
theorem dX8_comesIn_77 : decode cX8_comesIn 77 = .ok (.getfield 47, 3) := by decide +kernel
theorem dX8_comesIn_80 : decode cX8_comesIn 80 = .ok (.invokevirtual 232, 3) := by decide +kernel
theorem dX8_comesIn_83 : decode cX8_comesIn 83 = .ok (.goto 5, 3) := by decide +kernel
theorem dX8_comesIn_86 : decode cX8_comesIn 86 = .ok (.ldc 235, 2) := by decide +kernel
theorem dX8_comesIn_88 : decode cX8_comesIn 88 = .ok (.ireturn, 1) := by decide +kernel
theorem dX8_dead_0 : decode cX8_dead 0 = .ok (.aload_n 0, 1) := by decide +kernel
theorem dX8_dead_1 : decode cX8_dead 1 = .ok (.getfield 26, 3) := by decide +kernel
theorem dX8_dead_4 : decode cX8_dead 4 = .ok (.iload_n 1, 1) := by decide +kernel
theorem dX8_dead_5 : decode cX8_dead 5 = .ok (.invokevirtual 132, 3) := by decide +kernel
theorem dX8_dead_8 : decode cX8_dead 8 = .ok (.ifCond .ne 6, 3) := by decide +kernel
theorem dX8_dead_11 : decode cX8_dead 11 = .ok (.ldc 69, 2) := by decide +kernel
theorem dX8_dead_13 : decode cX8_dead 13 = .ok (.ireturn, 1) := by decide +kernel
theorem dX8_dead_14 : decode cX8_dead 14 = .ok (.aload_n 0, 1) := by decide +kernel
theorem dX8_dead_15 : decode cX8_dead 15 = .ok (.getfield 47, 3) := by decide +kernel
theorem dX8_dead_18 : decode cX8_dead 18 = .ok (.aload_n 0, 1) := by decide +kernel
theorem dX8_dead_19 : decode cX8_dead 19 = .ok (.getfield 26, 3) := by decide +kernel
theorem dX8_dead_22 : decode cX8_dead 22 = .ok (.iload_n 1, 1) := by decide +kernel
theorem dX8_dead_23 : decode cX8_dead 23 = .ok (.invokevirtual 236, 3) := by decide +kernel
theorem dX8_dead_26 : decode cX8_dead 26 = .ok (.ireturn, 1) := by decide +kernel
theorem dX8_help_0 : decode cX8_help 0 = .ok (.aload_n 0, 1) := by decide +kernel
theorem dX8_help_1 : decode cX8_help 1 = .ok (.getfield 26, 3) := by decide +kernel
theorem dX8_help_4 : decode cX8_help 4 = .ok (.iload_n 1, 1) := by decide +kernel
theorem dX8_help_5 : decode cX8_help 5 = .ok (.invokevirtual 132, 3) := by decide +kernel
theorem dX8_help_8 : decode cX8_help 8 = .ok (.ifCond .eq 12, 3) := by decide +kernel
theorem dX8_help_11 : decode cX8_help 11 = .ok (.iload_n 2, 1) := by decide +kernel
theorem dX8_help_12 : decode cX8_help 12 = .ok (.ifCond .lt 8, 3) := by decide +kernel
theorem dX8_help_15 : decode cX8_help 15 = .ok (.iload_n 2, 1) := by decide +kernel
theorem dX8_help_16 : decode cX8_help 16 = .ok (.iconst 1, 1) := by decide +kernel
theorem dX8_help_17 : decode cX8_help 17 = .ok (.if_icmp .le 6, 3) := by decide +kernel
theorem dX8_help_20 : decode cX8_help 20 = .ok (.ldc 69, 2) := by decide +kernel
theorem dX8_help_22 : decode cX8_help 22 = .ok (.ireturn, 1) := by decide +kernel
theorem dX8_help_23 : decode cX8_help 23 = .ok (.iconst 0, 1) := by decide +kernel
theorem dX8_help_24 : decode cX8_help 24 = .ok (.istore_n 3, 1) := by decide +kernel
theorem dX8_help_25 : decode cX8_help 25 = .ok (.ldc 235, 2) := by decide +kernel
theorem dX8_help_27 : decode cX8_help 27 = .ok (.istore 4, 2) := by decide +kernel
theorem dX8_help_29 : decode cX8_help 29 = .ok (.iconst 0, 1) := by decide +kernel
theorem dX8_help_30 : decode cX8_help 30 = .ok (.istore 5, 2) := by decide +kernel
theorem dX8_help_32 : decode cX8_help 32 = .ok (.iload 5, 2) := by decide +kernel
theorem dX8_help_34 : decode cX8_help 34 = .ok (.aload_n 0, 1) := by decide +kernel
theorem dX8_help_35 : decode cX8_help 35 = .ok (.getfield 26, 3) := by decide +kernel
theorem dX8_help_38 : decode cX8_help 38 = .ok (.getfield 239, 3) := by decide +kernel
theorem dX8_help_41 : decode cX8_help 41 = .ok (.if_icmp .ge 77, 3) := by decide +kernel
theorem dX8_help_44 : decode cX8_help 44 = .ok (.iload 5, 2) := by decide +kernel
theorem dX8_help_46 : decode cX8_help 46 = .ok (.iconst 1, 1) := by decide +kernel
theorem dX8_help_47 : decode cX8_help 47 = .ok (.iadd, 1) := by decide +kernel
theorem dX8_help_48 : decode cX8_help 48 = .ok (.istore 6, 2) := by decide +kernel
theorem dX8_help_50 : decode cX8_help 50 = .ok (.iload 6, 2) := by decide +kernel
theorem dX8_help_52 : decode cX8_help 52 = .ok (.aload_n 0, 1) := by decide +kernel
theorem dX8_help_53 : decode cX8_help 53 = .ok (.getfield 26, 3) := by decide +kernel
theorem dX8_help_56 : decode cX8_help 56 = .ok (.getfield 239, 3) := by decide +kernel
theorem dX8_help_59 : decode cX8_help 59 = .ok (.if_icmp .ge 53, 3) := by decide +kernel
theorem dX8_help_62 : decode cX8_help 62 = .ok (.aload_n 0, 1) := by decide +kernel
theorem dX8_help_63 : decode cX8_help 63 = .ok (.getfield 47, 3) := by decide +kernel
theorem dX8_help_66 : decode cX8_help 66 = .ok (.aload_n 0, 1) := by decide +kernel
theorem dX8_help_67 : decode cX8_help 67 = .ok (.getfield 26, 3) := by decide +kernel
theorem dX8_help_70 : decode cX8_help 70 = .ok (.iload_n 1, 1) := by decide +kernel
theorem dX8_help_71 : decode cX8_help 71 = .ok (.iload 5, 2) := by decide +kernel
theorem dX8_help_73 : decode cX8_help 73 = .ok (.iload 6, 2) := by decide +kernel
theorem dX8_help_75 : decode cX8_help 75 = .ok (.invokevirtual 242, 3) := by decide +kernel
theorem dX8_help_78 : decode cX8_help 78 = .ok (.ifCond .eq 28, 3) := by decide +kernel
theorem dX8_help_81 : decode cX8_help 81 = .ok (.iinc 3 1, 3) := by decide +kernel
theorem dX8_help_84 : decode cX8_help 84 = .ok (.iload 4, 2) := by decide +kernel
theorem dX8_help_86 : decode cX8_help 86 = .ok (.ldc 235, 2) := by decide +kernel
theorem dX8_help_88 : decode cX8_help 88 = .ok (.if_icmp .ne 14, 3) := by decide +kernel
theorem dX8_help_91 : decode cX8_help 91 = .ok (.bipush 10, 2) := by decide +kernel
theorem dX8_help_93 : decode cX8_help 93 = .ok (.iload 5, 2) := by decide +kernel
theorem dX8_help_95 : decode cX8_help 95 = .ok (.imul, 1) := by decide +kernel
theorem dX8_help_96 : decode cX8_help 96 = .ok (.iload 6, 2) := by decide +kernel
theorem dX8_help_98 : decode cX8_help 98 = .ok (.iadd, 1) := by decide +kernel
theorem dX8_help_99 : decode cX8_help 99 = .ok (.goto 5, 3) := by decide +kernel
theorem dX8_help_102 : decode cX8_help 102 = .ok (.iload 4, 2) := by decide +kernel
theorem dX8_help_104 : decode cX8_help 104 = .ok (.istore 4, 2) := by decide +kernel
theorem dX8_help_106 : decode cX8_help 106 = .ok (.iinc 6 1, 3) := by decide +kernel
theorem dX8_help_109 : decode cX8_help 109 = .ok (.goto (-59), 3) := by decide +kernel
theorem dX8_help_112 : decode cX8_help 112 = .ok (.iinc 5 1, 3) := by decide +kernel
theorem dX8_help_115 : decode cX8_help 115 = .ok (.goto (-83), 3) := by decide +kernel
theorem dX8_help_118 : decode cX8_help 118 = .ok (.iload_n 2, 1) := by decide +kernel
theorem dX8_help_119 : decode cX8_help 119 = .ok (.ifCond .ne 7, 3) := by decide +kernel
theorem dX8_help_122 : decode cX8_help 122 = .ok (.iload_n 3, 1) := by decide +kernel
theorem dX8_help_123 : decode cX8_help 123 = .ok (.goto 5, 3) := by decide +kernel
theorem dX8_help_126 : decode cX8_help 126 = .ok (.iload 4, 2) := by decide +kernel
theorem dX8_help_128 : decode cX8_help 128 = .ok (.ireturn, 1) := by decide +kernel
theorem dX8_suppers_0 : decode cX8_suppers 0 = .ok (.aload_n 0, 1) := by decide +kernel
theorem dX8_suppers_1 : decode cX8_suppers 1 = .ok (.getfield 26, 3) := by decide +kernel
theorem dX8_suppers_4 : decode cX8_suppers 4 = .ok (.iload_n 1, 1) := by decide +kernel
theorem dX8_suppers_5 : decode cX8_suppers 5 = .ok (.invokevirtual 132, 3) := by decide +kernel
theorem dX8_suppers_8 : decode cX8_suppers 8 = .ok (.ifCond .eq 14, 3) := by decide +kernel
theorem dX8_suppers_11 : decode cX8_suppers 11 = .ok (.aload_n 0, 1) := by decide +kernel
theorem dX8_suppers_12 : decode cX8_suppers 12 = .ok (.getfield 26, 3) := by decide +kernel
theorem dX8_suppers_15 : decode cX8_suppers 15 = .ok (.iload_n 2, 1) := by decide +kernel
theorem dX8_suppers_16 : decode cX8_suppers 16 = .ok (.invokevirtual 135, 3) := by decide +kernel
theorem dX8_suppers_19 : decode cX8_suppers 19 = .ok (.ifCond .ne 6, 3) := by decide +kernel
theorem dX8_suppers_22 : decode cX8_suppers 22 = .ok (.ldc 69, 2) := by decide +kernel
theorem dX8_suppers_24 : decode cX8_suppers 24 = .ok (.ireturn, 1) := by decide +kernel
theorem dX8_suppers_25 : decode cX8_suppers 25 = .ok (.aload_n 0, 1) := by decide +kernel
theorem dX8_suppers_26 : decode cX8_suppers 26 = .ok (.getfield 26, 3) := by decide +kernel
theorem dX8_suppers_29 : decode cX8_suppers 29 = .ok (.iload_n 1, 1) := by decide +kernel
theorem dX8_suppers_30 : decode cX8_suppers 30 = .ok (.iload_n 2, 1) := by decide +kernel
theorem dX8_suppers_31 : decode cX8_suppers 31 = .ok (.invokevirtual 138, 3) := by decide +kernel
theorem dX8_suppers_34 : decode cX8_suppers 34 = .ok (.ifCond .eq 6, 3) := by decide +kernel
theorem dX8_suppers_37 : decode cX8_suppers 37 = .ok (.ldc 142, 2) := by decide +kernel
theorem dX8_suppers_39 : decode cX8_suppers 39 = .ok (.ireturn, 1) := by decide +kernel
theorem dX8_suppers_40 : decode cX8_suppers 40 = .ok (.aload_n 0, 1) := by decide +kernel
theorem dX8_suppers_41 : decode cX8_suppers 41 = .ok (.getfield 47, 3) := by decide +kernel
theorem dX8_suppers_44 : decode cX8_suppers 44 = .ok (.aload_n 0, 1) := by decide +kernel
theorem dX8_suppers_45 : decode cX8_suppers 45 = .ok (.getfield 26, 3) := by decide +kernel
theorem dX8_suppers_48 : decode cX8_suppers 48 = .ok (.iload_n 1, 1) := by decide +kernel
theorem dX8_suppers_49 : decode cX8_suppers 49 = .ok (.invokevirtual 147, 3) := by decide +kernel
theorem dX8_suppers_52 : decode cX8_suppers 52 = .ok (.astore_n 3, 1) := by decide +kernel
theorem dX8_suppers_53 : decode cX8_suppers 53 = .ok (.iconst 0, 1) := by decide +kernel
theorem dX8_suppers_54 : decode cX8_suppers 54 = .ok (.istore 4, 2) := by decide +kernel
theorem dX8_suppers_56 : decode cX8_suppers 56 = .ok (.iload 4, 2) := by decide +kernel
theorem dX8_suppers_58 : decode cX8_suppers 58 = .ok (.bipush 10, 2) := by decide +kernel
theorem dX8_suppers_60 : decode cX8_suppers 60 = .ok (.if_icmp .gt 28, 3) := by decide +kernel
theorem dX8_suppers_63 : decode cX8_suppers 63 = .ok (.aload_n 3, 1) := by decide +kernel
theorem dX8_suppers_64 : decode cX8_suppers 64 = .ok (.aload_n 0, 1) := by decide +kernel
theorem dX8_suppers_65 : decode cX8_suppers 65 = .ok (.getfield 26, 3) := by decide +kernel
theorem dX8_suppers_68 : decode cX8_suppers 68 = .ok (.iload_n 2, 1) := by decide +kernel
theorem dX8_suppers_69 : decode cX8_suppers 69 = .ok (.invokevirtual 246, 3) := by decide +kernel
theorem dX8_suppers_72 : decode cX8_suppers 72 = .ok (.ifCond .eq 6, 3) := by decide +kernel
theorem dX8_suppers_75 : decode cX8_suppers 75 = .ok (.iload 4, 2) := by decide +kernel
theorem dX8_suppers_77 : decode cX8_suppers 77 = .ok (.ireturn, 1) := by decide +kernel
theorem dX8_suppers_78 : decode cX8_suppers 78 = .ok (.aload_n 3, 1) := by decide +kernel
theorem dX8_suppers_79 : decode cX8_suppers 79 = .ok (.invokevirtual 164, 3) := by decide +kernel
theorem dX8_suppers_82 : decode cX8_suppers 82 = .ok (.iinc 4 1, 3) := by decide +kernel
theorem dX8_suppers_85 : decode cX8_suppers 85 = .ok (.goto (-29), 3) := by decide +kernel
theorem dX8_suppers_88 : decode cX8_suppers 88 = .ok (.ldc 235, 2) := by decide +kernel
theorem dX8_suppers_90 : decode cX8_suppers 90 = .ok (.ireturn, 1) := by decide +kernel
theorem dX8_doubted_0 : decode cX8_doubted 0 = .ok (.aload_n 0, 1) := by decide +kernel
theorem dX8_doubted_1 : decode cX8_doubted 1 = .ok (.getfield 26, 3) := by decide +kernel
theorem dX8_doubted_4 : decode cX8_doubted 4 = .ok (.iload_n 1, 1) := by decide +kernel
theorem dX8_doubted_5 : decode cX8_doubted 5 = .ok (.invokevirtual 132, 3) := by decide +kernel
theorem dX8_doubted_8 : decode cX8_doubted 8 = .ok (.ifCond .eq 23, 3) := by decide +kernel
theorem dX8_doubted_11 : decode cX8_doubted 11 = .ok (.iload_n 2, 1) := by decide +kernel
theorem dX8_doubted_12 : decode cX8_doubted 12 = .ok (.iload 4, 2) := by decide +kernel
theorem dX8_doubted_14 : decode cX8_doubted 14 = .ok (.invokestatic 249, 3) := by decide +kernel
theorem dX8_doubted_17 : decode cX8_doubted 17 = .ok (.ifCond .eq 14, 3) := by decide +kernel
theorem dX8_doubted_20 : decode cX8_doubted 20 = .ok (.iload 5, 2) := by decide +kernel
theorem dX8_doubted_22 : decode cX8_doubted 22 = .ok (.ifCond .lt 9, 3) := by decide +kernel
theorem dX8_doubted_25 : decode cX8_doubted 25 = .ok (.iload 5, 2) := by decide +kernel
theorem dX8_doubted_27 : decode cX8_doubted 27 = .ok (.iconst 1, 1) := by decide +kernel
theorem dX8_doubted_28 : decode cX8_doubted 28 = .ok (.if_icmp .le 6, 3) := by decide +kernel
theorem dX8_doubted_31 : decode cX8_doubted 31 = .ok (.ldc 69, 2) := by decide +kernel
theorem dX8_doubted_33 : decode cX8_doubted 33 = .ok (.ireturn, 1) := by decide +kernel
theorem dX8_doubted_34 : decode cX8_doubted 34 = .ok (.aload_n 0, 1) := by decide +kernel
theorem dX8_doubted_35 : decode cX8_doubted 35 = .ok (.iload_n 2, 1) := by decide +kernel
theorem dX8_doubted_36 : decode cX8_doubted 36 = .ok (.iload_n 3, 1) := by decide +kernel
theorem dX8_doubted_37 : decode cX8_doubted 37 = .ok (.iload 4, 2) := by decide +kernel
theorem dX8_doubted_39 : decode cX8_doubted 39 = .ok (.invokevirtual 252, 3) := by decide +kernel
theorem dX8_doubted_42 : decode cX8_doubted 42 = .ok (.istore 6, 2) := by decide +kernel
theorem dX8_doubted_44 : decode cX8_doubted 44 = .ok (.iload 6, 2) := by decide +kernel
theorem dX8_doubted_46 : decode cX8_doubted 46 = .ok (.ifCond .eq 6, 3) := by decide +kernel
theorem dX8_doubted_49 : decode cX8_doubted 49 = .ok (.iload 6, 2) := by decide +kernel
theorem dX8_doubted_51 : decode cX8_doubted 51 = .ok (.ireturn, 1) := by decide +kernel
theorem dX8_doubted_52 : decode cX8_doubted 52 = .ok (.iconst 0, 1) := by decide +kernel
theorem dX8_doubted_53 : decode cX8_doubted 53 = .ok (.istore 7, 2) := by decide +kernel
theorem dX8_doubted_55 : decode cX8_doubted 55 = .ok (.ldc 235, 2) := by decide +kernel
theorem dX8_doubted_57 : decode cX8_doubted 57 = .ok (.istore 8, 2) := by decide +kernel
theorem dX8_doubted_59 : decode cX8_doubted 59 = .ok (.iconst 0, 1) := by decide +kernel
theorem dX8_doubted_60 : decode cX8_doubted 60 = .ok (.istore 9, 2) := by decide +kernel
theorem dX8_doubted_62 : decode cX8_doubted 62 = .ok (.iload 9, 2) := by decide +kernel
theorem dX8_doubted_64 : decode cX8_doubted 64 = .ok (.bipush 16, 2) := by decide +kernel
theorem dX8_doubted_66 : decode cX8_doubted 66 = .ok (.if_icmp .ge 54, 3) := by decide +kernel
theorem dX8_doubted_69 : decode cX8_doubted 69 = .ok (.aload_n 0, 1) := by decide +kernel
theorem dX8_doubted_70 : decode cX8_doubted 70 = .ok (.getfield 47, 3) := by decide +kernel
theorem dX8_doubted_73 : decode cX8_doubted 73 = .ok (.aload_n 0, 1) := by decide +kernel
theorem dX8_doubted_74 : decode cX8_doubted 74 = .ok (.getfield 26, 3) := by decide +kernel
theorem dX8_doubted_77 : decode cX8_doubted 77 = .ok (.iload_n 1, 1) := by decide +kernel
theorem dX8_doubted_78 : decode cX8_doubted 78 = .ok (.aload_n 0, 1) := by decide +kernel
theorem dX8_doubted_79 : decode cX8_doubted 79 = .ok (.getfield 26, 3) := by decide +kernel
theorem dX8_doubted_82 : decode cX8_doubted 82 = .ok (.getfield 202, 3) := by decide +kernel
theorem dX8_doubted_85 : decode cX8_doubted 85 = .ok (.iload_n 1, 1) := by decide +kernel
theorem dX8_doubted_86 : decode cX8_doubted 86 = .ok (.iaload, 1) := by decide +kernel
theorem dX8_doubted_87 : decode cX8_doubted 87 = .ok (.iload 9, 2) := by decide +kernel
theorem dX8_doubted_89 : decode cX8_doubted 89 = .ok (.invokevirtual 255, 3) := by decide +kernel
theorem dX8_doubted_92 : decode cX8_doubted 92 = .ok (.ifCond .eq 22, 3) := by decide +kernel
theorem dX8_doubted_95 : decode cX8_doubted 95 = .ok (.iinc 7 1, 3) := by decide +kernel
theorem dX8_doubted_98 : decode cX8_doubted 98 = .ok (.iload 8, 2) := by decide +kernel
theorem dX8_doubted_100 : decode cX8_doubted 100 = .ok (.ldc 235, 2) := by decide +kernel
theorem dX8_doubted_102 : decode cX8_doubted 102 = .ok (.if_icmp .ne 8, 3) := by decide +kernel
theorem dX8_doubted_105 : decode cX8_doubted 105 = .ok (.iload 9, 2) := by decide +kernel
theorem dX8_doubted_107 : decode cX8_doubted 107 = .ok (.goto 5, 3) := by decide +kernel
theorem dX8_doubted_110 : decode cX8_doubted 110 = .ok (.iload 8, 2) := by decide +kernel
theorem dX8_doubted_112 : decode cX8_doubted 112 = .ok (.istore 8, 2) := by decide +kernel
theorem dX8_doubted_114 : decode cX8_doubted 114 = .ok (.iinc 9 1, 3) := by decide +kernel
theorem dX8_doubted_117 : decode cX8_doubted 117 = .ok (.goto (-55), 3) := by decide +kernel
theorem dX8_doubted_120 : decode cX8_doubted 120 = .ok (.aload_n 0, 1) := by decide +kernel
theorem dX8_doubted_121 : decode cX8_doubted 121 = .ok (.iload 5, 2) := by decide +kernel
theorem dX8_doubted_123 : decode cX8_doubted 123 = .ok (.ifCond .ne 8, 3) := by decide +kernel
theorem dX8_doubted_126 : decode cX8_doubted 126 = .ok (.iload 7, 2) := by decide +kernel
theorem dX8_doubted_128 : decode cX8_doubted 128 = .ok (.goto 5, 3) := by decide +kernel
theorem dX8_doubted_131 : decode cX8_doubted 131 = .ok (.iload 8, 2) := by decide +kernel
theorem dX8_doubted_133 : decode cX8_doubted 133 = .ok (.invokevirtual 78, 3) := by decide +kernel
theorem dX8_doubted_136 : decode cX8_doubted 136 = .ok (.ireturn, 1) := by decide +kernel
theorem dX8_trusted_0 : decode cX8_trusted 0 = .ok (.aload_n 0, 1) := by decide +kernel
theorem dX8_trusted_1 : decode cX8_trusted 1 = .ok (.getfield 26, 3) := by decide +kernel
theorem dX8_trusted_4 : decode cX8_trusted 4 = .ok (.iload_n 1, 1) := by decide +kernel
theorem dX8_trusted_5 : decode cX8_trusted 5 = .ok (.invokevirtual 132, 3) := by decide +kernel
theorem dX8_trusted_8 : decode cX8_trusted 8 = .ok (.ifCond .eq 12, 3) := by decide +kernel
theorem dX8_trusted_11 : decode cX8_trusted 11 = .ok (.iload_n 2, 1) := by decide +kernel
theorem dX8_trusted_12 : decode cX8_trusted 12 = .ok (.iload 4, 2) := by decide +kernel
theorem dX8_trusted_14 : decode cX8_trusted 14 = .ok (.invokestatic 249, 3) := by decide +kernel
theorem dX8_trusted_17 : decode cX8_trusted 17 = .ok (.ifCond .ne 6, 3) := by decide +kernel
theorem dX8_trusted_20 : decode cX8_trusted 20 = .ok (.ldc 69, 2) := by decide +kernel
theorem dX8_trusted_22 : decode cX8_trusted 22 = .ok (.ireturn, 1) := by decide +kernel
theorem dX8_trusted_23 : decode cX8_trusted 23 = .ok (.aload_n 0, 1) := by decide +kernel
theorem dX8_trusted_24 : decode cX8_trusted 24 = .ok (.iload_n 2, 1) := by decide +kernel
theorem dX8_trusted_25 : decode cX8_trusted 25 = .ok (.iload_n 3, 1) := by decide +kernel
theorem dX8_trusted_26 : decode cX8_trusted 26 = .ok (.iload 4, 2) := by decide +kernel
theorem dX8_trusted_28 : decode cX8_trusted 28 = .ok (.invokevirtual 252, 3) := by decide +kernel
theorem dX8_trusted_31 : decode cX8_trusted 31 = .ok (.istore 5, 2) := by decide +kernel
theorem dX8_trusted_33 : decode cX8_trusted 33 = .ok (.iload 5, 2) := by decide +kernel
theorem dX8_trusted_35 : decode cX8_trusted 35 = .ok (.ifCond .eq 6, 3) := by decide +kernel
theorem dX8_trusted_38 : decode cX8_trusted 38 = .ok (.iload 5, 2) := by decide +kernel
theorem dX8_trusted_40 : decode cX8_trusted 40 = .ok (.ireturn, 1) := by decide +kernel
theorem dX8_trusted_41 : decode cX8_trusted 41 = .ok (.iconst 0, 1) := by decide +kernel
theorem dX8_trusted_42 : decode cX8_trusted 42 = .ok (.istore 6, 2) := by decide +kernel
theorem dX8_trusted_44 : decode cX8_trusted 44 = .ok (.iconst 0, 1) := by decide +kernel
theorem dX8_trusted_45 : decode cX8_trusted 45 = .ok (.istore 7, 2) := by decide +kernel
theorem dX8_trusted_47 : decode cX8_trusted 47 = .ok (.iload 7, 2) := by decide +kernel
theorem dX8_trusted_49 : decode cX8_trusted 49 = .ok (.bipush 20, 2) := by decide +kernel
theorem dX8_trusted_51 : decode cX8_trusted 51 = .ok (.if_icmp .gt 44, 3) := by decide +kernel
theorem dX8_trusted_54 : decode cX8_trusted 54 = .ok (.aload_n 0, 1) := by decide +kernel
theorem dX8_trusted_55 : decode cX8_trusted 55 = .ok (.getfield 47, 3) := by decide +kernel
theorem dX8_trusted_58 : decode cX8_trusted 58 = .ok (.aload_n 0, 1) := by decide +kernel
theorem dX8_trusted_59 : decode cX8_trusted 59 = .ok (.getfield 26, 3) := by decide +kernel
theorem dX8_trusted_62 : decode cX8_trusted 62 = .ok (.iload_n 1, 1) := by decide +kernel
theorem dX8_trusted_63 : decode cX8_trusted 63 = .ok (.iload 7, 2) := by decide +kernel
theorem dX8_trusted_65 : decode cX8_trusted 65 = .ok (.aload_n 0, 1) := by decide +kernel
theorem dX8_trusted_66 : decode cX8_trusted 66 = .ok (.getfield 26, 3) := by decide +kernel
theorem dX8_trusted_69 : decode cX8_trusted 69 = .ok (.getfield 205, 3) := by decide +kernel
theorem dX8_trusted_72 : decode cX8_trusted 72 = .ok (.iload_n 1, 1) := by decide +kernel
theorem dX8_trusted_73 : decode cX8_trusted 73 = .ok (.iaload, 1) := by decide +kernel
theorem dX8_trusted_74 : decode cX8_trusted 74 = .ok (.invokevirtual 255, 3) := by decide +kernel
theorem dX8_trusted_77 : decode cX8_trusted 77 = .ok (.ifCond .eq 12, 3) := by decide +kernel
theorem dX8_trusted_80 : decode cX8_trusted 80 = .ok (.iload 6, 2) := by decide +kernel
theorem dX8_trusted_82 : decode cX8_trusted 82 = .ok (.iconst 1, 1) := by decide +kernel
theorem dX8_trusted_83 : decode cX8_trusted 83 = .ok (.iload 7, 2) := by decide +kernel
theorem dX8_trusted_85 : decode cX8_trusted 85 = .ok (.ishl, 1) := by decide +kernel
theorem dX8_trusted_86 : decode cX8_trusted 86 = .ok (.ior, 1) := by decide +kernel
theorem dX8_trusted_87 : decode cX8_trusted 87 = .ok (.istore 6, 2) := by decide +kernel
theorem dX8_trusted_89 : decode cX8_trusted 89 = .ok (.iinc 7 1, 3) := by decide +kernel
theorem dX8_trusted_92 : decode cX8_trusted 92 = .ok (.goto (-45), 3) := by decide +kernel
theorem dX8_trusted_95 : decode cX8_trusted 95 = .ok (.aload_n 0, 1) := by decide +kernel
theorem dX8_trusted_96 : decode cX8_trusted 96 = .ok (.iload 6, 2) := by decide +kernel
theorem dX8_trusted_98 : decode cX8_trusted 98 = .ok (.invokevirtual 78, 3) := by decide +kernel
theorem dX8_trusted_101 : decode cX8_trusted 101 = .ok (.ireturn, 1) := by decide +kernel
theorem dX8_who_0 : decode cX8_who 0 = .ok (.aload_n 0, 1) := by decide +kernel
theorem dX8_who_1 : decode cX8_who 1 = .ok (.getfield 26, 3) := by decide +kernel
theorem dX8_who_4 : decode cX8_who 4 = .ok (.invokevirtual 258, 3) := by decide +kernel
theorem dX8_who_7 : decode cX8_who 7 = .ok (.ifCond .ne 6, 3) := by decide +kernel
theorem dX8_who_10 : decode cX8_who 10 = .ok (.ldc 142, 2) := by decide +kernel
theorem dX8_who_12 : decode cX8_who 12 = .ok (.ireturn, 1) := by decide +kernel
theorem dX8_who_13 : decode cX8_who 13 = .ok (.iload_n 1, 1) := by decide +kernel
theorem dX8_who_14 : decode cX8_who 14 = .ok (.iload_n 3, 1) := by decide +kernel
theorem dX8_who_15 : decode cX8_who 15 = .ok (.invokestatic 249, 3) := by decide +kernel
theorem dX8_who_18 : decode cX8_who 18 = .ok (.ifCond .ne 6, 3) := by decide +kernel
theorem dX8_who_21 : decode cX8_who 21 = .ok (.ldc 69, 2) := by decide +kernel
theorem dX8_who_23 : decode cX8_who 23 = .ok (.ireturn, 1) := by decide +kernel
theorem dX8_who_24 : decode cX8_who 24 = .ok (.aload_n 0, 1) := by decide +kernel
theorem dX8_who_25 : decode cX8_who 25 = .ok (.iload_n 1, 1) := by decide +kernel
theorem dX8_who_26 : decode cX8_who 26 = .ok (.iload_n 2, 1) := by decide +kernel
theorem dX8_who_27 : decode cX8_who 27 = .ok (.iload_n 3, 1) := by decide +kernel
theorem dX8_who_28 : decode cX8_who 28 = .ok (.invokevirtual 252, 3) := by decide +kernel
theorem dX8_who_31 : decode cX8_who 31 = .ok (.istore 4, 2) := by decide +kernel
theorem dX8_who_33 : decode cX8_who 33 = .ok (.iload 4, 2) := by decide +kernel
theorem dX8_who_35 : decode cX8_who 35 = .ok (.ifCond .eq 6, 3) := by decide +kernel
theorem dX8_who_38 : decode cX8_who 38 = .ok (.iload 4, 2) := by decide +kernel
theorem dX8_who_40 : decode cX8_who 40 = .ok (.ireturn, 1) := by decide +kernel
theorem dX8_who_41 : decode cX8_who 41 = .ok (.iconst 0, 1) := by decide +kernel
theorem dX8_who_42 : decode cX8_who 42 = .ok (.istore 5, 2) := by decide +kernel
theorem dX8_who_44 : decode cX8_who 44 = .ok (.iconst 0, 1) := by decide +kernel
theorem dX8_who_45 : decode cX8_who 45 = .ok (.istore 6, 2) := by decide +kernel
theorem dX8_who_47 : decode cX8_who 47 = .ok (.iload 6, 2) := by decide +kernel
theorem dX8_who_49 : decode cX8_who 49 = .ok (.aload_n 0, 1) := by decide +kernel
theorem dX8_who_50 : decode cX8_who 50 = .ok (.getfield 26, 3) := by decide +kernel
theorem dX8_who_53 : decode cX8_who 53 = .ok (.getfield 126, 3) := by decide +kernel
theorem dX8_who_56 : decode cX8_who 56 = .ok (.if_icmp .ge 54, 3) := by decide +kernel
theorem dX8_who_59 : decode cX8_who 59 = .ok (.aload_n 0, 1) := by decide +kernel
theorem dX8_who_60 : decode cX8_who 60 = .ok (.getfield 47, 3) := by decide +kernel
theorem dX8_who_63 : decode cX8_who 63 = .ok (.aload_n 0, 1) := by decide +kernel
theorem dX8_who_64 : decode cX8_who 64 = .ok (.getfield 26, 3) := by decide +kernel
theorem dX8_who_67 : decode cX8_who 67 = .ok (.iload 6, 2) := by decide +kernel
theorem dX8_who_69 : decode cX8_who 69 = .ok (.aload_n 0, 1) := by decide +kernel
theorem dX8_who_70 : decode cX8_who 70 = .ok (.getfield 26, 3) := by decide +kernel
theorem dX8_who_73 : decode cX8_who 73 = .ok (.getfield 202, 3) := by decide +kernel
theorem dX8_who_76 : decode cX8_who 76 = .ok (.iload 6, 2) := by decide +kernel
theorem dX8_who_78 : decode cX8_who 78 = .ok (.iaload, 1) := by decide +kernel
theorem dX8_who_79 : decode cX8_who 79 = .ok (.aload_n 0, 1) := by decide +kernel
theorem dX8_who_80 : decode cX8_who 80 = .ok (.getfield 26, 3) := by decide +kernel
theorem dX8_who_83 : decode cX8_who 83 = .ok (.getfield 205, 3) := by decide +kernel
theorem dX8_who_86 : decode cX8_who 86 = .ok (.iload 6, 2) := by decide +kernel
theorem dX8_who_88 : decode cX8_who 88 = .ok (.iaload, 1) := by decide +kernel
theorem dX8_who_89 : decode cX8_who 89 = .ok (.invokevirtual 255, 3) := by decide +kernel
theorem dX8_who_92 : decode cX8_who 92 = .ok (.ifCond .eq 12, 3) := by decide +kernel
theorem dX8_who_95 : decode cX8_who 95 = .ok (.iload 5, 2) := by decide +kernel
theorem dX8_who_97 : decode cX8_who 97 = .ok (.iconst 1, 1) := by decide +kernel
theorem dX8_who_98 : decode cX8_who 98 = .ok (.iload 6, 2) := by decide +kernel
theorem dX8_who_100 : decode cX8_who 100 = .ok (.ishl, 1) := by decide +kernel
theorem dX8_who_101 : decode cX8_who 101 = .ok (.ior, 1) := by decide +kernel
theorem dX8_who_102 : decode cX8_who 102 = .ok (.istore 5, 2) := by decide +kernel
theorem dX8_who_104 : decode cX8_who 104 = .ok (.iinc 6 1, 3) := by decide +kernel
theorem dX8_who_107 : decode cX8_who 107 = .ok (.goto (-60), 3) := by decide +kernel
theorem dX8_who_110 : decode cX8_who 110 = .ok (.aload_n 0, 1) := by decide +kernel
theorem dX8_who_111 : decode cX8_who 111 = .ok (.iload 5, 2) := by decide +kernel
theorem dX8_who_113 : decode cX8_who 113 = .ok (.invokevirtual 78, 3) := by decide +kernel
theorem dX8_who_116 : decode cX8_who 116 = .ok (.ireturn, 1) := by decide +kernel
theorem dX8_odds_0 : decode cX8_odds 0 = .ok (.aload_n 0, 1) := by decide +kernel
theorem dX8_odds_1 : decode cX8_odds 1 = .ok (.getfield 26, 3) := by decide +kernel
theorem dX8_odds_4 : decode cX8_odds 4 = .ok (.iload_n 1, 1) := by decide +kernel
theorem dX8_odds_5 : decode cX8_odds 5 = .ok (.invokevirtual 132, 3) := by decide +kernel
theorem dX8_odds_8 : decode cX8_odds 8 = .ok (.ifCond .eq 12, 3) := by decide +kernel
theorem dX8_odds_11 : decode cX8_odds 11 = .ok (.iload_n 2, 1) := by decide +kernel
theorem dX8_odds_12 : decode cX8_odds 12 = .ok (.iload 4, 2) := by decide +kernel
theorem dX8_odds_14 : decode cX8_odds 14 = .ok (.invokestatic 249, 3) := by decide +kernel
theorem dX8_odds_17 : decode cX8_odds 17 = .ok (.ifCond .ne 6, 3) := by decide +kernel
theorem dX8_odds_20 : decode cX8_odds 20 = .ok (.ldc 69, 2) := by decide +kernel
theorem dX8_odds_22 : decode cX8_odds 22 = .ok (.ireturn, 1) := by decide +kernel
theorem dX8_odds_23 : decode cX8_odds 23 = .ok (.iload 5, 2) := by decide +kernel
theorem dX8_odds_25 : decode cX8_odds 25 = .ok (.ifCond .lt 33, 3) := by decide +kernel
theorem dX8_odds_28 : decode cX8_odds 28 = .ok (.iload 5, 2) := by decide +kernel
theorem dX8_odds_30 : decode cX8_odds 30 = .ok (.bipush 6, 2) := by decide +kernel
theorem dX8_odds_32 : decode cX8_odds 32 = .ok (.if_icmp .gt 26, 3) := by decide +kernel
theorem dX8_odds_35 : decode cX8_odds 35 = .ok (.iload 6, 2) := by decide +kernel
theorem dX8_odds_37 : decode cX8_odds 37 = .ok (.ifCond .lt 21, 3) := by decide +kernel
theorem dX8_odds_40 : decode cX8_odds 40 = .ok (.iload 6, 2) := by decide +kernel
theorem dX8_odds_42 : decode cX8_odds 42 = .ok (.bipush 10, 2) := by decide +kernel
theorem dX8_odds_44 : decode cX8_odds 44 = .ok (.if_icmp .gt 14, 3) := by decide +kernel
theorem dX8_odds_47 : decode cX8_odds 47 = .ok (.iload 7, 2) := by decide +kernel
theorem dX8_odds_49 : decode cX8_odds 49 = .ok (.ifCond .lt 9, 3) := by decide +kernel
theorem dX8_odds_52 : decode cX8_odds 52 = .ok (.iload 7, 2) := by decide +kernel
theorem dX8_odds_54 : decode cX8_odds 54 = .ok (.iconst 1, 1) := by decide +kernel
theorem dX8_odds_55 : decode cX8_odds 55 = .ok (.if_icmp .le 6, 3) := by decide +kernel
theorem dX8_odds_58 : decode cX8_odds 58 = .ok (.ldc 69, 2) := by decide +kernel
theorem dX8_odds_60 : decode cX8_odds 60 = .ok (.ireturn, 1) := by decide +kernel
theorem dX8_odds_61 : decode cX8_odds 61 = .ok (.aload_n 0, 1) := by decide +kernel
theorem dX8_odds_62 : decode cX8_odds 62 = .ok (.iload_n 2, 1) := by decide +kernel
theorem dX8_odds_63 : decode cX8_odds 63 = .ok (.iload_n 3, 1) := by decide +kernel
theorem dX8_odds_64 : decode cX8_odds 64 = .ok (.iload 4, 2) := by decide +kernel
theorem dX8_odds_66 : decode cX8_odds 66 = .ok (.invokevirtual 252, 3) := by decide +kernel
theorem dX8_odds_69 : decode cX8_odds 69 = .ok (.istore 8, 2) := by decide +kernel
theorem dX8_odds_71 : decode cX8_odds 71 = .ok (.iload 8, 2) := by decide +kernel
theorem dX8_odds_73 : decode cX8_odds 73 = .ok (.ifCond .eq 6, 3) := by decide +kernel
theorem dX8_odds_76 : decode cX8_odds 76 = .ok (.iload 8, 2) := by decide +kernel
theorem dX8_odds_78 : decode cX8_odds 78 = .ok (.ireturn, 1) := by decide +kernel
theorem dX8_odds_79 : decode cX8_odds 79 = .ok (.aload_n 0, 1) := by decide +kernel
theorem dX8_odds_80 : decode cX8_odds 80 = .ok (.getfield 47, 3) := by decide +kernel
theorem dX8_odds_83 : decode cX8_odds 83 = .ok (.aload_n 0, 1) := by decide +kernel
theorem dX8_odds_84 : decode cX8_odds 84 = .ok (.getfield 26, 3) := by decide +kernel
theorem dX8_odds_87 : decode cX8_odds 87 = .ok (.iload_n 1, 1) := by decide +kernel
theorem dX8_odds_88 : decode cX8_odds 88 = .ok (.iload 5, 2) := by decide +kernel
theorem dX8_odds_90 : decode cX8_odds 90 = .ok (.iload 6, 2) := by decide +kernel
theorem dX8_odds_92 : decode cX8_odds 92 = .ok (.invokevirtual 261, 3) := by decide +kernel
theorem dX8_odds_95 : decode cX8_odds 95 = .ok (.istore 9, 2) := by decide +kernel
theorem dX8_odds_97 : decode cX8_odds 97 = .ok (.aload_n 0, 1) := by decide +kernel
theorem dX8_odds_98 : decode cX8_odds 98 = .ok (.getfield 47, 3) := by decide +kernel
theorem dX8_odds_101 : decode cX8_odds 101 = .ok (.invokevirtual 265, 3) := by decide +kernel
theorem dX8_odds_104 : decode cX8_odds 104 = .ok (.istore 10, 2) := by decide +kernel
theorem dX8_odds_106 : decode cX8_odds 106 = .ok (.iload 9, 2) := by decide +kernel
theorem dX8_odds_108 : decode cX8_odds 108 = .ok (.iload 10, 2) := by decide +kernel
theorem dX8_odds_110 : decode cX8_odds 110 = .ok (.invokestatic 268, 3) := by decide +kernel
theorem dX8_odds_113 : decode cX8_odds 113 = .ok (.istore 11, 2) := by decide +kernel
theorem dX8_odds_115 : decode cX8_odds 115 = .ok (.aload_n 0, 1) := by decide +kernel
theorem dX8_odds_116 : decode cX8_odds 116 = .ok (.iload 7, 2) := by decide +kernel
theorem dX8_odds_118 : decode cX8_odds 118 = .ok (.ifCond .ne 8, 3) := by decide +kernel
theorem dX8_odds_121 : decode cX8_odds 121 = .ok (.iload 9, 2) := by decide +kernel
theorem dX8_odds_123 : decode cX8_odds 123 = .ok (.goto 5, 3) := by decide +kernel
theorem dX8_odds_126 : decode cX8_odds 126 = .ok (.iload 10, 2) := by decide +kernel
theorem dX8_odds_128 : decode cX8_odds 128 = .ok (.iload 11, 2) := by decide +kernel
theorem dX8_odds_130 : decode cX8_odds 130 = .ok (.idiv, 1) := by decide +kernel
theorem dX8_odds_131 : decode cX8_odds 131 = .ok (.invokevirtual 78, 3) := by decide +kernel
theorem dX8_odds_134 : decode cX8_odds 134 = .ok (.ireturn, 1) := by decide +kernel
theorem dX8_image_0 : decode cX8_image 0 = .ok (.iload_n 1, 1) := by decide +kernel
theorem dX8_image_1 : decode cX8_image 1 = .ok (.ifCond .lt 8, 3) := by decide +kernel
theorem dX8_image_4 : decode cX8_image 4 = .ok (.iload_n 1, 1) := by decide +kernel
theorem dX8_image_5 : decode cX8_image 5 = .ok (.iconst 2, 1) := by decide +kernel
theorem dX8_image_6 : decode cX8_image 6 = .ok (.if_icmp .lt 6, 3) := by decide +kernel
theorem dX8_image_9 : decode cX8_image 9 = .ok (.ldc 69, 2) := by decide +kernel
theorem dX8_image_11 : decode cX8_image 11 = .ok (.ireturn, 1) := by decide +kernel
theorem dX8_image_12 : decode cX8_image 12 = .ok (.aload_n 0, 1) := by decide +kernel
theorem dX8_image_13 : decode cX8_image 13 = .ok (.getfield 26, 3) := by decide +kernel
theorem dX8_image_16 : decode cX8_image 16 = .ok (.invokevirtual 258, 3) := by decide +kernel
theorem dX8_image_19 : decode cX8_image 19 = .ok (.ifCond .ne 6, 3) := by decide +kernel
theorem dX8_image_22 : decode cX8_image 22 = .ok (.ldc 142, 2) := by decide +kernel
theorem dX8_image_24 : decode cX8_image 24 = .ok (.ireturn, 1) := by decide +kernel
theorem dX8_image_25 : decode cX8_image 25 = .ok (.aload_n 0, 1) := by decide +kernel
theorem dX8_image_26 : decode cX8_image 26 = .ok (.getfield 33, 3) := by decide +kernel
theorem dX8_image_29 : decode cX8_image 29 = .ok (.iload_n 1, 1) := by decide +kernel
theorem dX8_image_30 : decode cX8_image 30 = .ok (.aaload, 1) := by decide +kernel
theorem dX8_image_31 : decode cX8_image 31 = .ok (.aload_n 0, 1) := by decide +kernel
theorem dX8_image_32 : decode cX8_image 32 = .ok (.getfield 26, 3) := by decide +kernel
theorem dX8_image_35 : decode cX8_image 35 = .ok (.invokevirtual 119, 3) := by decide +kernel
theorem dX8_image_38 : decode cX8_image 38 = .ok (.iconst 1, 1) := by decide +kernel
theorem dX8_image_39 : decode cX8_image 39 = .ok (.ireturn, 1) := by decide +kernel
theorem dX8_restore_0 : decode cX8_restore 0 = .ok (.iload_n 1, 1) := by decide +kernel
theorem dX8_restore_1 : decode cX8_restore 1 = .ok (.ifCond .lt 8, 3) := by decide +kernel
theorem dX8_restore_4 : decode cX8_restore 4 = .ok (.iload_n 1, 1) := by decide +kernel
theorem dX8_restore_5 : decode cX8_restore 5 = .ok (.iconst 2, 1) := by decide +kernel
theorem dX8_restore_6 : decode cX8_restore 6 = .ok (.if_icmp .lt 6, 3) := by decide +kernel
theorem dX8_restore_9 : decode cX8_restore 9 = .ok (.ldc 69, 2) := by decide +kernel
theorem dX8_restore_11 : decode cX8_restore 11 = .ok (.ireturn, 1) := by decide +kernel
theorem dX8_restore_12 : decode cX8_restore 12 = .ok (.aload_n 0, 1) := by decide +kernel
theorem dX8_restore_13 : decode cX8_restore 13 = .ok (.getfield 33, 3) := by decide +kernel
theorem dX8_restore_16 : decode cX8_restore 16 = .ok (.iload_n 1, 1) := by decide +kernel
theorem dX8_restore_17 : decode cX8_restore 17 = .ok (.aaload, 1) := by decide +kernel
theorem dX8_restore_18 : decode cX8_restore 18 = .ok (.invokevirtual 258, 3) := by decide +kernel
theorem dX8_restore_21 : decode cX8_restore 21 = .ok (.ifCond .ne 6, 3) := by decide +kernel
theorem dX8_restore_24 : decode cX8_restore 24 = .ok (.ldc 142, 2) := by decide +kernel
theorem dX8_restore_26 : decode cX8_restore 26 = .ok (.ireturn, 1) := by decide +kernel
theorem dX8_restore_27 : decode cX8_restore 27 = .ok (.aload_n 0, 1) := by decide +kernel
theorem dX8_restore_28 : decode cX8_restore 28 = .ok (.getfield 26, 3) := by decide +kernel
theorem dX8_restore_31 : decode cX8_restore 31 = .ok (.aload_n 0, 1) := by decide +kernel
theorem dX8_restore_32 : decode cX8_restore 32 = .ok (.getfield 33, 3) := by decide +kernel
theorem dX8_restore_35 : decode cX8_restore 35 = .ok (.iload_n 1, 1) := by decide +kernel
theorem dX8_restore_36 : decode cX8_restore 36 = .ok (.aaload, 1) := by decide +kernel
theorem dX8_restore_37 : decode cX8_restore 37 = .ok (.invokevirtual 119, 3) := by decide +kernel
theorem dX8_restore_40 : decode cX8_restore 40 = .ok (.aload_n 0, 1) := by decide +kernel
theorem dX8_restore_41 : decode cX8_restore 41 = .ok (.getfield 40, 3) := by decide +kernel
theorem dX8_restore_44 : decode cX8_restore 44 = .ok (.invokevirtual 123, 3) := by decide +kernel
theorem dX8_restore_47 : decode cX8_restore 47 = .ok (.iconst 1, 1) := by decide +kernel
theorem dX8_restore_48 : decode cX8_restore 48 = .ok (.ireturn, 1) := by decide +kernel
theorem dX8_kind_0 : decode cX8_kind 0 = .ok (.aload_n 0, 1) := by decide +kernel
theorem dX8_kind_1 : decode cX8_kind 1 = .ok (.getfield 26, 3) := by decide +kernel
theorem dX8_kind_4 : decode cX8_kind 4 = .ok (.iload_n 1, 1) := by decide +kernel
theorem dX8_kind_5 : decode cX8_kind 5 = .ok (.invokevirtual 135, 3) := by decide +kernel
theorem dX8_kind_8 : decode cX8_kind 8 = .ok (.ifCond .eq 15, 3) := by decide +kernel
theorem dX8_kind_11 : decode cX8_kind 11 = .ok (.aload_n 0, 1) := by decide +kernel
theorem dX8_kind_12 : decode cX8_kind 12 = .ok (.getfield 26, 3) := by decide +kernel
theorem dX8_kind_15 : decode cX8_kind 15 = .ok (.getfield 272, 3) := by decide +kernel
theorem dX8_kind_18 : decode cX8_kind 18 = .ok (.iload_n 1, 1) := by decide +kernel
theorem dX8_kind_19 : decode cX8_kind 19 = .ok (.iaload, 1) := by decide +kernel
theorem dX8_kind_20 : decode cX8_kind 20 = .ok (.goto 5, 3) := by decide +kernel
theorem dX8_kind_23 : decode cX8_kind 23 = .ok (.ldc 69, 2) := by decide +kernel
theorem dX8_kind_25 : decode cX8_kind 25 = .ok (.ireturn, 1) := by decide +kernel
theorem dX8_as_0 : decode cX8_as 0 = .ok (.aload_n 0, 1) := by decide +kernel
theorem dX8_as_1 : decode cX8_as 1 = .ok (.getfield 26, 3) := by decide +kernel
theorem dX8_as_4 : decode cX8_as 4 = .ok (.iload_n 1, 1) := by decide +kernel
theorem dX8_as_5 : decode cX8_as 5 = .ok (.invokevirtual 135, 3) := by decide +kernel
theorem dX8_as_8 : decode cX8_as 8 = .ok (.ifCond .eq 10, 3) := by decide +kernel
theorem dX8_as_11 : decode cX8_as 11 = .ok (.iload_n 2, 1) := by decide +kernel
theorem dX8_as_12 : decode cX8_as 12 = .ok (.invokestatic 275, 3) := by decide +kernel
theorem dX8_as_15 : decode cX8_as 15 = .ok (.ifCond .ne 6, 3) := by decide +kernel
theorem dX8_as_18 : decode cX8_as 18 = .ok (.ldc 69, 2) := by decide +kernel
theorem dX8_as_20 : decode cX8_as 20 = .ok (.ireturn, 1) := by decide +kernel
theorem dX8_as_21 : decode cX8_as 21 = .ok (.aload_n 0, 1) := by decide +kernel
theorem dX8_as_22 : decode cX8_as 22 = .ok (.getfield 26, 3) := by decide +kernel
theorem dX8_as_25 : decode cX8_as 25 = .ok (.getfield 272, 3) := by decide +kernel
theorem dX8_as_28 : decode cX8_as 28 = .ok (.iload_n 1, 1) := by decide +kernel
theorem dX8_as_29 : decode cX8_as 29 = .ok (.iaload, 1) := by decide +kernel
theorem dX8_as_30 : decode cX8_as 30 = .ok (.iload_n 2, 1) := by decide +kernel
theorem dX8_as_31 : decode cX8_as 31 = .ok (.invokestatic 280, 3) := by decide +kernel
theorem dX8_as_34 : decode cX8_as 34 = .ok (.ifCond .ne 9, 3) := by decide +kernel
theorem dX8_as_37 : decode cX8_as 37 = .ok (.aload_n 0, 1) := by decide +kernel
theorem dX8_as_38 : decode cX8_as 38 = .ok (.iconst 3, 1) := by decide +kernel
theorem dX8_as_39 : decode cX8_as 39 = .ok (.invokevirtual 70, 3) := by decide +kernel
theorem dX8_as_42 : decode cX8_as 42 = .ok (.ireturn, 1) := by decide +kernel
theorem dX8_as_43 : decode cX8_as 43 = .ok (.aload_n 0, 1) := by decide +kernel
theorem dX8_as_44 : decode cX8_as 44 = .ok (.iload_n 1, 1) := by decide +kernel
theorem dX8_as_45 : decode cX8_as 45 = .ok (.invokevirtual 78, 3) := by decide +kernel
theorem dX8_as_48 : decode cX8_as 48 = .ok (.ireturn, 1) := by decide +kernel
theorem dX8_ask_0 : decode cX8_ask 0 = .ok (.aload_n 0, 1) := by decide +kernel
theorem dX8_ask_1 : decode cX8_ask 1 = .ok (.getfield 26, 3) := by decide +kernel
theorem dX8_ask_4 : decode cX8_ask 4 = .ok (.iload_n 1, 1) := by decide +kernel
theorem dX8_ask_5 : decode cX8_ask 5 = .ok (.invokevirtual 135, 3) := by decide +kernel
theorem dX8_ask_8 : decode cX8_ask 8 = .ok (.ifCond .eq 12, 3) := by decide +kernel
theorem dX8_ask_11 : decode cX8_ask 11 = .ok (.iload_n 2, 1) := by decide +kernel
theorem dX8_ask_12 : decode cX8_ask 12 = .ok (.ifCond .lt 8, 3) := by decide +kernel
theorem dX8_ask_15 : decode cX8_ask 15 = .ok (.iload_n 2, 1) := by decide +kernel
theorem dX8_ask_16 : decode cX8_ask 16 = .ok (.iconst 1, 1) := by decide +kernel
theorem dX8_ask_17 : decode cX8_ask 17 = .ok (.if_icmp .le 6, 3) := by decide +kernel
theorem dX8_ask_20 : decode cX8_ask 20 = .ok (.ldc 69, 2) := by decide +kernel
theorem dX8_ask_22 : decode cX8_ask 22 = .ok (.ireturn, 1) := by decide +kernel
theorem dX8_ask_23 : decode cX8_ask 23 = .ok (.aload_n 0, 1) := by decide +kernel
theorem dX8_ask_24 : decode cX8_ask 24 = .ok (.getfield 54, 3) := by decide +kernel
theorem dX8_ask_27 : decode cX8_ask 27 = .ok (.aload_n 0, 1) := by decide +kernel
theorem dX8_ask_28 : decode cX8_ask 28 = .ok (.getfield 26, 3) := by decide +kernel
theorem dX8_ask_31 : decode cX8_ask 31 = .ok (.iload_n 1, 1) := by decide +kernel
theorem dX8_ask_32 : decode cX8_ask 32 = .ok (.iload_n 2, 1) := by decide +kernel
theorem dX8_ask_33 : decode cX8_ask 33 = .ok (.invokevirtual 283, 3) := by decide +kernel
theorem dX8_ask_36 : decode cX8_ask 36 = .ok (.ireturn, 1) := by decide +kernel
theorem dX8_trace_0 : decode cX8_trace 0 = .ok (.aload_n 0, 1) := by decide +kernel
theorem dX8_trace_1 : decode cX8_trace 1 = .ok (.getfield 54, 3) := by decide +kernel
theorem dX8_trace_4 : decode cX8_trace 4 = .ok (.iload_n 1, 1) := by decide +kernel
theorem dX8_trace_5 : decode cX8_trace 5 = .ok (.invokevirtual 286, 3) := by decide +kernel
theorem dX8_trace_8 : decode cX8_trace 8 = .ok (.ireturn, 1) := by decide +kernel
theorem dX8_count_0 : decode cX8_count 0 = .ok (.iload_n 1, 1) := by decide +kernel
theorem dX8_count_1 : decode cX8_count 1 = .ok (.tableswitch 99 0 6 #[43, 51, 59, 67, 75, 83, 91], 43) := by decide +kernel
theorem dX8_count_44 : decode cX8_count 44 = .ok (.aload_n 0, 1) := by decide +kernel
theorem dX8_count_45 : decode cX8_count 45 = .ok (.getfield 10, 3) := by decide +kernel
theorem dX8_count_48 : decode cX8_count 48 = .ok (.invokevirtual 289, 3) := by decide +kernel
theorem dX8_count_51 : decode cX8_count 51 = .ok (.ireturn, 1) := by decide +kernel
theorem dX8_count_52 : decode cX8_count 52 = .ok (.aload_n 0, 1) := by decide +kernel
theorem dX8_count_53 : decode cX8_count 53 = .ok (.getfield 26, 3) := by decide +kernel
theorem dX8_count_56 : decode cX8_count 56 = .ok (.getfield 239, 3) := by decide +kernel
theorem dX8_count_59 : decode cX8_count 59 = .ok (.ireturn, 1) := by decide +kernel
theorem dX8_count_60 : decode cX8_count 60 = .ok (.aload_n 0, 1) := by decide +kernel
theorem dX8_count_61 : decode cX8_count 61 = .ok (.getfield 26, 3) := by decide +kernel
theorem dX8_count_64 : decode cX8_count 64 = .ok (.getfield 126, 3) := by decide +kernel
theorem dX8_count_67 : decode cX8_count 67 = .ok (.ireturn, 1) := by decide +kernel
theorem dX8_count_68 : decode cX8_count 68 = .ok (.aload_n 0, 1) := by decide +kernel
theorem dX8_count_69 : decode cX8_count 69 = .ok (.getfield 26, 3) := by decide +kernel
theorem dX8_count_72 : decode cX8_count 72 = .ok (.getfield 292, 3) := by decide +kernel
theorem dX8_count_75 : decode cX8_count 75 = .ok (.ireturn, 1) := by decide +kernel
theorem dX8_count_76 : decode cX8_count 76 = .ok (.aload_n 0, 1) := by decide +kernel
theorem dX8_count_77 : decode cX8_count 77 = .ok (.getfield 26, 3) := by decide +kernel
theorem dX8_count_80 : decode cX8_count 80 = .ok (.getfield 295, 3) := by decide +kernel
theorem dX8_count_83 : decode cX8_count 83 = .ok (.ireturn, 1) := by decide +kernel
theorem dX8_count_84 : decode cX8_count 84 = .ok (.aload_n 0, 1) := by decide +kernel
theorem dX8_count_85 : decode cX8_count 85 = .ok (.getfield 40, 3) := by decide +kernel
theorem dX8_count_88 : decode cX8_count 88 = .ok (.invokevirtual 183, 3) := by decide +kernel
theorem dX8_count_91 : decode cX8_count 91 = .ok (.ireturn, 1) := by decide +kernel
theorem dX8_count_92 : decode cX8_count 92 = .ok (.aload_n 0, 1) := by decide +kernel
theorem dX8_count_93 : decode cX8_count 93 = .ok (.getfield 19, 3) := by decide +kernel
theorem dX8_count_96 : decode cX8_count 96 = .ok (.invokevirtual 298, 3) := by decide +kernel
theorem dX8_count_99 : decode cX8_count 99 = .ok (.ireturn, 1) := by decide +kernel
theorem dX8_count_100 : decode cX8_count 100 = .ok (.ldc 69, 2) := by decide +kernel
theorem dX8_count_102 : decode cX8_count 102 = .ok (.ireturn, 1) := by decide +kernel
theorem dX8_status_0 : decode cX8_status 0 = .ok (.aload_n 0, 1) := by decide +kernel
theorem dX8_status_1 : decode cX8_status 1 = .ok (.getfield 58, 3) := by decide +kernel
theorem dX8_status_4 : decode cX8_status 4 = .ok (.ireturn, 1) := by decide +kernel
theorem dX8_found_0 : decode cX8_found 0 = .ok (.aload_n 0, 1) := by decide +kernel
theorem dX8_found_1 : decode cX8_found 1 = .ok (.iload_n 1, 1) := by decide +kernel
theorem dX8_found_2 : decode cX8_found 2 = .ok (.putfield 58, 3) := by decide +kernel
theorem dX8_found_5 : decode cX8_found 5 = .ok (.ldc_w 301, 3) := by decide +kernel
theorem dX8_found_8 : decode cX8_found 8 = .ok (.iload_n 1, 1) := by decide +kernel
theorem dX8_found_9 : decode cX8_found 9 = .ok (.isub, 1) := by decide +kernel
theorem dX8_found_10 : decode cX8_found 10 = .ok (.ireturn, 1) := by decide +kernel
theorem dX8_unfound_0 : decode cX8_unfound 0 = .ok (.aload_n 0, 1) := by decide +kernel
theorem dX8_unfound_1 : decode cX8_unfound 1 = .ok (.iconst 0, 1) := by decide +kernel
theorem dX8_unfound_2 : decode cX8_unfound 2 = .ok (.putfield 58, 3) := by decide +kernel
theorem dX8_unfound_5 : decode cX8_unfound 5 = .ok (.iload_n 1, 1) := by decide +kernel
theorem dX8_unfound_6 : decode cX8_unfound 6 = .ok (.ireturn, 1) := by decide +kernel
theorem dX8_isTelling_0 : decode cX8_isTelling 0 = .ok (.iload_n 0, 1) := by decide +kernel
theorem dX8_isTelling_1 : decode cX8_isTelling 1 = .ok (.invokestatic 62, 3) := by decide +kernel
theorem dX8_isTelling_4 : decode cX8_isTelling 4 = .ok (.ifCond .eq 17, 3) := by decide +kernel
theorem dX8_isTelling_7 : decode cX8_isTelling 7 = .ok (.iload_n 1, 1) := by decide +kernel
theorem dX8_isTelling_8 : decode cX8_isTelling 8 = .ok (.ifCond .lt 13, 3) := by decide +kernel
theorem dX8_isTelling_11 : decode cX8_isTelling 11 = .ok (.iload_n 1, 1) := by decide +kernel
theorem dX8_isTelling_12 : decode cX8_isTelling 12 = .ok (.bipush 6, 2) := by decide +kernel
theorem dX8_isTelling_14 : decode cX8_isTelling 14 = .ok (.if_icmp .gt 7, 3) := by decide +kernel
theorem dX8_isTelling_17 : decode cX8_isTelling 17 = .ok (.iconst 1, 1) := by decide +kernel
theorem dX8_isTelling_18 : decode cX8_isTelling 18 = .ok (.goto 4, 3) := by decide +kernel
theorem dX8_isTelling_21 : decode cX8_isTelling 21 = .ok (.iconst 0, 1) := by decide +kernel
theorem dX8_isTelling_22 : decode cX8_isTelling 22 = .ok (.ireturn, 1) := by decide +kernel
theorem dX8_takeTelling_0 : decode cX8_takeTelling 0 = .ok (.aload_n 0, 1) := by decide +kernel
theorem dX8_takeTelling_1 : decode cX8_takeTelling 1 = .ok (.getfield 10, 3) := by decide +kernel
theorem dX8_takeTelling_4 : decode cX8_takeTelling 4 = .ok (.iload_n 1, 1) := by decide +kernel
theorem dX8_takeTelling_5 : decode cX8_takeTelling 5 = .ok (.invokevirtual 81, 3) := by decide +kernel
theorem dX8_takeTelling_8 : decode cX8_takeTelling 8 = .ok (.ifCond .eq 9, 3) := by decide +kernel
theorem dX8_takeTelling_11 : decode cX8_takeTelling 11 = .ok (.aload_n 0, 1) := by decide +kernel
theorem dX8_takeTelling_12 : decode cX8_takeTelling 12 = .ok (.iconst 1, 1) := by decide +kernel
theorem dX8_takeTelling_13 : decode cX8_takeTelling 13 = .ok (.invokevirtual 70, 3) := by decide +kernel
theorem dX8_takeTelling_16 : decode cX8_takeTelling 16 = .ok (.ireturn, 1) := by decide +kernel
theorem dX8_takeTelling_17 : decode cX8_takeTelling 17 = .ok (.aload_n 0, 1) := by decide +kernel
theorem dX8_takeTelling_18 : decode cX8_takeTelling 18 = .ok (.getfield 10, 3) := by decide +kernel
theorem dX8_takeTelling_21 : decode cX8_takeTelling 21 = .ok (.iload_n 1, 1) := by decide +kernel
theorem dX8_takeTelling_22 : decode cX8_takeTelling 22 = .ok (.iload_n 2, 1) := by decide +kernel
theorem dX8_takeTelling_23 : decode cX8_takeTelling 23 = .ok (.iconst 2, 1) := by decide +kernel
theorem dX8_takeTelling_24 : decode cX8_takeTelling 24 = .ok (.iload_n 3, 1) := by decide +kernel
theorem dX8_takeTelling_25 : decode cX8_takeTelling 25 = .ok (.imul, 1) := by decide +kernel
theorem dX8_takeTelling_26 : decode cX8_takeTelling 26 = .ok (.invokevirtual 84, 3) := by decide +kernel
theorem dX8_takeTelling_29 : decode cX8_takeTelling 29 = .ok (.ifCond .ne 9, 3) := by decide +kernel
theorem dX8_takeTelling_32 : decode cX8_takeTelling 32 = .ok (.aload_n 0, 1) := by decide +kernel
theorem dX8_takeTelling_33 : decode cX8_takeTelling 33 = .ok (.iconst 2, 1) := by decide +kernel
theorem dX8_takeTelling_34 : decode cX8_takeTelling 34 = .ok (.invokevirtual 70, 3) := by decide +kernel
theorem dX8_takeTelling_37 : decode cX8_takeTelling 37 = .ok (.ireturn, 1) := by decide +kernel
theorem dX8_takeTelling_38 : decode cX8_takeTelling 38 = .ok (.aload_n 0, 1) := by decide +kernel
theorem dX8_takeTelling_39 : decode cX8_takeTelling 39 = .ok (.getfield 47, 3) := by decide +kernel
theorem dX8_takeTelling_42 : decode cX8_takeTelling 42 = .ok (.aload_n 0, 1) := by decide +kernel
theorem dX8_takeTelling_43 : decode cX8_takeTelling 43 = .ok (.getfield 26, 3) := by decide +kernel
theorem dX8_takeTelling_46 : decode cX8_takeTelling 46 = .ok (.aload_n 0, 1) := by decide +kernel
theorem dX8_takeTelling_47 : decode cX8_takeTelling 47 = .ok (.getfield 10, 3) := by decide +kernel
theorem dX8_takeTelling_50 : decode cX8_takeTelling 50 = .ok (.iload_n 1, 1) := by decide +kernel
theorem dX8_takeTelling_51 : decode cX8_takeTelling 51 = .ok (.iload_n 2, 1) := by decide +kernel
theorem dX8_takeTelling_52 : decode cX8_takeTelling 52 = .ok (.iload_n 3, 1) := by decide +kernel
theorem dX8_takeTelling_53 : decode cX8_takeTelling 53 = .ok (.invokevirtual 302, 3) := by decide +kernel
theorem dX8_takeTelling_56 : decode cX8_takeTelling 56 = .ok (.ifCond .eq 7, 3) := by decide +kernel
theorem dX8_takeTelling_59 : decode cX8_takeTelling 59 = .ok (.iconst 0, 1) := by decide +kernel
theorem dX8_takeTelling_60 : decode cX8_takeTelling 60 = .ok (.goto 5, 3) := by decide +kernel
theorem dX8_takeTelling_63 : decode cX8_takeTelling 63 = .ok (.ldc 69, 2) := by decide +kernel
theorem dX8_takeTelling_65 : decode cX8_takeTelling 65 = .ok (.ireturn, 1) := by decide +kernel
theorem dX8_commonDivisor_0 : decode cX8_commonDivisor 0 = .ok (.iload_n 0, 1) := by decide +kernel
theorem dX8_commonDivisor_1 : decode cX8_commonDivisor 1 = .ok (.iload_n 1, 1) := by decide +kernel
theorem dX8_commonDivisor_2 : decode cX8_commonDivisor 2 = .ok (.invokestatic 305, 3) := by decide +kernel
theorem dX8_commonDivisor_5 : decode cX8_commonDivisor 5 = .ok (.istore_n 2, 1) := by decide +kernel
theorem dX8_commonDivisor_6 : decode cX8_commonDivisor 6 = .ok (.iload_n 0, 1) := by decide +kernel
theorem dX8_commonDivisor_7 : decode cX8_commonDivisor 7 = .ok (.iload_n 1, 1) := by decide +kernel
theorem dX8_commonDivisor_8 : decode cX8_commonDivisor 8 = .ok (.invokestatic 310, 3) := by decide +kernel
theorem dX8_commonDivisor_11 : decode cX8_commonDivisor 11 = .ok (.istore_n 3, 1) := by decide +kernel
theorem dX8_commonDivisor_12 : decode cX8_commonDivisor 12 = .ok (.iconst 0, 1) := by decide +kernel
theorem dX8_commonDivisor_13 : decode cX8_commonDivisor 13 = .ok (.istore 4, 2) := by decide +kernel
theorem dX8_commonDivisor_15 : decode cX8_commonDivisor 15 = .ok (.iload 4, 2) := by decide +kernel
theorem dX8_commonDivisor_17 : decode cX8_commonDivisor 17 = .ok (.bipush 64, 2) := by decide +kernel
theorem dX8_commonDivisor_19 : decode cX8_commonDivisor 19 = .ok (.if_icmp .ge 23, 3) := by decide +kernel
theorem dX8_commonDivisor_22 : decode cX8_commonDivisor 22 = .ok (.iload_n 3, 1) := by decide +kernel
theorem dX8_commonDivisor_23 : decode cX8_commonDivisor 23 = .ok (.ifCond .le 19, 3) := by decide +kernel
theorem dX8_commonDivisor_26 : decode cX8_commonDivisor 26 = .ok (.iload_n 2, 1) := by decide +kernel
theorem dX8_commonDivisor_27 : decode cX8_commonDivisor 27 = .ok (.iload_n 3, 1) := by decide +kernel
theorem dX8_commonDivisor_28 : decode cX8_commonDivisor 28 = .ok (.irem, 1) := by decide +kernel
theorem dX8_commonDivisor_29 : decode cX8_commonDivisor 29 = .ok (.istore 5, 2) := by decide +kernel
theorem dX8_commonDivisor_31 : decode cX8_commonDivisor 31 = .ok (.iload_n 3, 1) := by decide +kernel
theorem dX8_commonDivisor_32 : decode cX8_commonDivisor 32 = .ok (.istore_n 2, 1) := by decide +kernel
theorem dX8_commonDivisor_33 : decode cX8_commonDivisor 33 = .ok (.iload 5, 2) := by decide +kernel
theorem dX8_commonDivisor_35 : decode cX8_commonDivisor 35 = .ok (.istore_n 3, 1) := by decide +kernel
theorem dX8_commonDivisor_36 : decode cX8_commonDivisor 36 = .ok (.iinc 4 1, 3) := by decide +kernel
theorem dX8_commonDivisor_39 : decode cX8_commonDivisor 39 = .ok (.goto (-24), 3) := by decide +kernel
theorem dX8_commonDivisor_42 : decode cX8_commonDivisor 42 = .ok (.iload_n 2, 1) := by decide +kernel
theorem dX8_commonDivisor_43 : decode cX8_commonDivisor 43 = .ok (.iconst 1, 1) := by decide +kernel
theorem dX8_commonDivisor_44 : decode cX8_commonDivisor 44 = .ok (.invokestatic 305, 3) := by decide +kernel
theorem dX8_commonDivisor_47 : decode cX8_commonDivisor 47 = .ok (.ireturn, 1) := by decide +kernel
