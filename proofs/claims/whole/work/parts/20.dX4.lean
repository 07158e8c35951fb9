theorem dX4_init_0 : decode cX4_init 0 = .ok (.aload_n 0, 1) := by decide +kernel
theorem dX4_init_1 : decode cX4_init 1 = .ok (.invokespecial 1, 3) := by decide +kernel
theorem dX4_init_4 : decode cX4_init 4 = .ok (.aload_n 0, 1) := by decide +kernel
theorem dX4_init_5 : decode cX4_init 5 = .ok (.iconst 0, 1) := by decide +kernel
theorem dX4_init_6 : decode cX4_init 6 = .ok (.putfield 7, 3) := by decide +kernel
theorem dX4_init_9 : decode cX4_init 9 = .ok (.aload_n 0, 1) := by decide +kernel
theorem dX4_init_10 : decode cX4_init 10 = .ok (.iconst 0, 1) := by decide +kernel
theorem dX4_init_11 : decode cX4_init 11 = .ok (.putfield 13, 3) := by decide +kernel
theorem dX4_init_14 : decode cX4_init 14 = .ok (.aload_n 0, 1) := by decide +kernel
theorem dX4_init_15 : decode cX4_init 15 = .ok (.iconst 0, 1) := by decide +kernel
theorem dX4_init_16 : decode cX4_init 16 = .ok (.putfield 16, 3) := by decide +kernel
theorem dX4_init_19 : decode cX4_init 19 = .ok (.aload_n 0, 1) := by decide +kernel
theorem dX4_init_20 : decode cX4_init 20 = .ok (.iconst 4, 1) := by decide +kernel
theorem dX4_init_21 : decode cX4_init 21 = .ok (.newarray .int, 2) := by decide +kernel
theorem dX4_init_23 : decode cX4_init 23 = .ok (.putfield 21, 3) := by decide +kernel
theorem dX4_init_26 : decode cX4_init 26 = .ok (.return_, 1) := by decide +kernel
theorem dX4_enter_0 : decode cX4_enter 0 = .ok (.aload_n 0, 1) := by decide +kernel
theorem dX4_enter_1 : decode cX4_enter 1 = .ok (.aload_n 1, 1) := by decide +kernel
theorem dX4_enter_2 : decode cX4_enter 2 = .ok (.getfield 25, 3) := by decide +kernel
theorem dX4_enter_5 : decode cX4_enter 5 = .ok (.iload_n 2, 1) := by decide +kernel
theorem dX4_enter_6 : decode cX4_enter 6 = .ok (.iaload, 1) := by decide +kernel
theorem dX4_enter_7 : decode cX4_enter 7 = .ok (.putfield 7, 3) := by decide +kernel
theorem dX4_enter_10 : decode cX4_enter 10 = .ok (.aload_n 0, 1) := by decide +kernel
theorem dX4_enter_11 : decode cX4_enter 11 = .ok (.aload_n 1, 1) := by decide +kernel
theorem dX4_enter_12 : decode cX4_enter 12 = .ok (.getfield 28, 3) := by decide +kernel
theorem dX4_enter_15 : decode cX4_enter 15 = .ok (.iload_n 2, 1) := by decide +kernel
theorem dX4_enter_16 : decode cX4_enter 16 = .ok (.iaload, 1) := by decide +kernel
theorem dX4_enter_17 : decode cX4_enter 17 = .ok (.putfield 13, 3) := by decide +kernel
theorem dX4_enter_20 : decode cX4_enter 20 = .ok (.aload_n 0, 1) := by decide +kernel
theorem dX4_enter_21 : decode cX4_enter 21 = .ok (.aload_n 1, 1) := by decide +kernel
theorem dX4_enter_22 : decode cX4_enter 22 = .ok (.getfield 30, 3) := by decide +kernel
theorem dX4_enter_25 : decode cX4_enter 25 = .ok (.iload_n 2, 1) := by decide +kernel
theorem dX4_enter_26 : decode cX4_enter 26 = .ok (.iaload, 1) := by decide +kernel
theorem dX4_enter_27 : decode cX4_enter 27 = .ok (.invokestatic 33, 3) := by decide +kernel
theorem dX4_enter_30 : decode cX4_enter 30 = .ok (.putfield 16, 3) := by decide +kernel
theorem dX4_enter_33 : decode cX4_enter 33 = .ok (.iconst 0, 1) := by decide +kernel
theorem dX4_enter_34 : decode cX4_enter 34 = .ok (.istore_n 3, 1) := by decide +kernel
theorem dX4_enter_35 : decode cX4_enter 35 = .ok (.iload_n 3, 1) := by decide +kernel
theorem dX4_enter_36 : decode cX4_enter 36 = .ok (.iconst 4, 1) := by decide +kernel
theorem dX4_enter_37 : decode cX4_enter 37 = .ok (.if_icmp .ge 16, 3) := by decide +kernel
theorem dX4_enter_40 : decode cX4_enter 40 = .ok (.aload_n 0, 1) := by decide +kernel
theorem dX4_enter_41 : decode cX4_enter 41 = .ok (.getfield 21, 3) := by decide +kernel
theorem dX4_enter_44 : decode cX4_enter 44 = .ok (.iload_n 3, 1) := by decide +kernel
theorem dX4_enter_45 : decode cX4_enter 45 = .ok (.iconst 0, 1) := by decide +kernel
theorem dX4_enter_46 : decode cX4_enter 46 = .ok (.iastore, 1) := by decide +kernel
theorem dX4_enter_47 : decode cX4_enter 47 = .ok (.iinc 3 1, 3) := by decide +kernel
theorem dX4_enter_50 : decode cX4_enter 50 = .ok (.goto (-15), 3) := by decide +kernel
theorem dX4_enter_53 : decode cX4_enter 53 = .ok (.iconst 0, 1) := by decide +kernel
theorem dX4_enter_54 : decode cX4_enter 54 = .ok (.istore_n 3, 1) := by decide +kernel
theorem dX4_enter_55 : decode cX4_enter 55 = .ok (.iload_n 3, 1) := by decide +kernel
theorem dX4_enter_56 : decode cX4_enter 56 = .ok (.aload_n 1, 1) := by decide +kernel
theorem dX4_enter_57 : decode cX4_enter 57 = .ok (.getfield 39, 3) := by decide +kernel
theorem dX4_enter_60 : decode cX4_enter 60 = .ok (.if_icmp .ge 33, 3) := by decide +kernel
theorem dX4_enter_63 : decode cX4_enter 63 = .ok (.aload_n 0, 1) := by decide +kernel
theorem dX4_enter_64 : decode cX4_enter 64 = .ok (.getfield 21, 3) := by decide +kernel
theorem dX4_enter_67 : decode cX4_enter 67 = .ok (.aload_n 1, 1) := by decide +kernel
theorem dX4_enter_68 : decode cX4_enter 68 = .ok (.getfield 42, 3) := by decide +kernel
theorem dX4_enter_71 : decode cX4_enter 71 = .ok (.iload_n 3, 1) := by decide +kernel
theorem dX4_enter_72 : decode cX4_enter 72 = .ok (.iaload, 1) := by decide +kernel
theorem dX4_enter_73 : decode cX4_enter 73 = .ok (.dup2, 1) := by decide +kernel
theorem dX4_enter_74 : decode cX4_enter 74 = .ok (.iaload, 1) := by decide +kernel
theorem dX4_enter_75 : decode cX4_enter 75 = .ok (.aload_n 1, 1) := by decide +kernel
theorem dX4_enter_76 : decode cX4_enter 76 = .ok (.getfield 45, 3) := by decide +kernel
theorem dX4_enter_79 : decode cX4_enter 79 = .ok (.iload_n 2, 1) := by decide +kernel
theorem dX4_enter_80 : decode cX4_enter 80 = .ok (.iaload, 1) := by decide +kernel
theorem dX4_enter_81 : decode cX4_enter 81 = .ok (.iload_n 3, 1) := by decide +kernel
theorem dX4_enter_82 : decode cX4_enter 82 = .ok (.ishr, 1) := by decide +kernel
theorem dX4_enter_83 : decode cX4_enter 83 = .ok (.iconst 1, 1) := by decide +kernel
theorem dX4_enter_84 : decode cX4_enter 84 = .ok (.iand, 1) := by decide +kernel
theorem dX4_enter_85 : decode cX4_enter 85 = .ok (.iadd, 1) := by decide +kernel
theorem dX4_enter_86 : decode cX4_enter 86 = .ok (.iastore, 1) := by decide +kernel
theorem dX4_enter_87 : decode cX4_enter 87 = .ok (.iinc 3 1, 3) := by decide +kernel
theorem dX4_enter_90 : decode cX4_enter 90 = .ok (.goto (-35), 3) := by decide +kernel
theorem dX4_enter_93 : decode cX4_enter 93 = .ok (.return_, 1) := by decide +kernel
theorem dX4_become_0 : decode cX4_become 0 = .ok (.aload_n 0, 1) := by decide +kernel
theorem dX4_become_1 : decode cX4_become 1 = .ok (.aload_n 1, 1) := by decide +kernel
theorem dX4_become_2 : decode cX4_become 2 = .ok (.getfield 7, 3) := by decide +kernel
theorem dX4_become_5 : decode cX4_become 5 = .ok (.putfield 7, 3) := by decide +kernel
theorem dX4_become_8 : decode cX4_become 8 = .ok (.aload_n 0, 1) := by decide +kernel
theorem dX4_become_9 : decode cX4_become 9 = .ok (.aload_n 1, 1) := by decide +kernel
theorem dX4_become_10 : decode cX4_become 10 = .ok (.getfield 13, 3) := by decide +kernel
theorem dX4_become_13 : decode cX4_become 13 = .ok (.putfield 13, 3) := by decide +kernel
theorem dX4_become_16 : decode cX4_become 16 = .ok (.aload_n 0, 1) := by decide +kernel
theorem dX4_become_17 : decode cX4_become 17 = .ok (.aload_n 1, 1) := by decide +kernel
theorem dX4_become_18 : decode cX4_become 18 = .ok (.getfield 16, 3) := by decide +kernel
theorem dX4_become_21 : decode cX4_become 21 = .ok (.putfield 16, 3) := by decide +kernel
theorem dX4_become_24 : decode cX4_become 24 = .ok (.iconst 0, 1) := by decide +kernel
theorem dX4_become_25 : decode cX4_become 25 = .ok (.istore_n 2, 1) := by decide +kernel
theorem dX4_become_26 : decode cX4_become 26 = .ok (.iload_n 2, 1) := by decide +kernel
theorem dX4_become_27 : decode cX4_become 27 = .ok (.iconst 4, 1) := by decide +kernel
theorem dX4_become_28 : decode cX4_become 28 = .ok (.if_icmp .ge 21, 3) := by decide +kernel
theorem dX4_become_31 : decode cX4_become 31 = .ok (.aload_n 0, 1) := by decide +kernel
theorem dX4_become_32 : decode cX4_become 32 = .ok (.getfield 21, 3) := by decide +kernel
theorem dX4_become_35 : decode cX4_become 35 = .ok (.iload_n 2, 1) := by decide +kernel
theorem dX4_become_36 : decode cX4_become 36 = .ok (.aload_n 1, 1) := by decide +kernel
theorem dX4_become_37 : decode cX4_become 37 = .ok (.getfield 21, 3) := by decide +kernel
theorem dX4_become_40 : decode cX4_become 40 = .ok (.iload_n 2, 1) := by decide +kernel
theorem dX4_become_41 : decode cX4_become 41 = .ok (.iaload, 1) := by decide +kernel
theorem dX4_become_42 : decode cX4_become 42 = .ok (.iastore, 1) := by decide +kernel
theorem dX4_become_43 : decode cX4_become 43 = .ok (.iinc 2 1, 3) := by decide +kernel
theorem dX4_become_46 : decode cX4_become 46 = .ok (.goto (-20), 3) := by decide +kernel
theorem dX4_become_49 : decode cX4_become 49 = .ok (.return_, 1) := by decide +kernel
theorem dX4_needOf_0 : decode cX4_needOf 0 = .ok (.aload_n 1, 1) := by decide +kernel
theorem dX4_needOf_1 : decode cX4_needOf 1 = .ok (.getfield 42, 3) := by decide +kernel
theorem dX4_needOf_4 : decode cX4_needOf 4 = .ok (.iload_n 2, 1) := by decide +kernel
theorem dX4_needOf_5 : decode cX4_needOf 5 = .ok (.iaload, 1) := by decide +kernel
theorem dX4_needOf_6 : decode cX4_needOf 6 = .ok (.istore_n 3, 1) := by decide +kernel
theorem dX4_needOf_7 : decode cX4_needOf 7 = .ok (.aload_n 0, 1) := by decide +kernel
theorem dX4_needOf_8 : decode cX4_needOf 8 = .ok (.getfield 13, 3) := by decide +kernel
theorem dX4_needOf_11 : decode cX4_needOf 11 = .ok (.iload_n 3, 1) := by decide +kernel
theorem dX4_needOf_12 : decode cX4_needOf 12 = .ok (.ishr, 1) := by decide +kernel
theorem dX4_needOf_13 : decode cX4_needOf 13 = .ok (.iconst 1, 1) := by decide +kernel
theorem dX4_needOf_14 : decode cX4_needOf 14 = .ok (.iand, 1) := by decide +kernel
theorem dX4_needOf_15 : decode cX4_needOf 15 = .ok (.ifCond .eq 7, 3) := by decide +kernel
theorem dX4_needOf_18 : decode cX4_needOf 18 = .ok (.iconst 3, 1) := by decide +kernel
theorem dX4_needOf_19 : decode cX4_needOf 19 = .ok (.goto 4, 3) := by decide +kernel
theorem dX4_needOf_22 : decode cX4_needOf 22 = .ok (.iconst 0, 1) := by decide +kernel
theorem dX4_needOf_23 : decode cX4_needOf 23 = .ok (.istore 4, 2) := by decide +kernel
theorem dX4_needOf_25 : decode cX4_needOf 25 = .ok (.iload 4, 2) := by decide +kernel
theorem dX4_needOf_27 : decode cX4_needOf 27 = .ok (.aload_n 0, 1) := by decide +kernel
theorem dX4_needOf_28 : decode cX4_needOf 28 = .ok (.aload_n 1, 1) := by decide +kernel
theorem dX4_needOf_29 : decode cX4_needOf 29 = .ok (.getfield 48, 3) := by decide +kernel
theorem dX4_needOf_32 : decode cX4_needOf 32 = .ok (.iload_n 2, 1) := by decide +kernel
theorem dX4_needOf_33 : decode cX4_needOf 33 = .ok (.iaload, 1) := by decide +kernel
theorem dX4_needOf_34 : decode cX4_needOf 34 = .ok (.aload_n 1, 1) := by decide +kernel
theorem dX4_needOf_35 : decode cX4_needOf 35 = .ok (.getfield 51, 3) := by decide +kernel
theorem dX4_needOf_38 : decode cX4_needOf 38 = .ok (.iload_n 2, 1) := by decide +kernel
theorem dX4_needOf_39 : decode cX4_needOf 39 = .ok (.iaload, 1) := by decide +kernel
theorem dX4_needOf_40 : decode cX4_needOf 40 = .ok (.aload_n 0, 1) := by decide +kernel
theorem dX4_needOf_41 : decode cX4_needOf 41 = .ok (.getfield 21, 3) := by decide +kernel
theorem dX4_needOf_44 : decode cX4_needOf 44 = .ok (.iload_n 3, 1) := by decide +kernel
theorem dX4_needOf_45 : decode cX4_needOf 45 = .ok (.iaload, 1) := by decide +kernel
theorem dX4_needOf_46 : decode cX4_needOf 46 = .ok (.invokevirtual 54, 3) := by decide +kernel
theorem dX4_needOf_49 : decode cX4_needOf 49 = .ok (.iadd, 1) := by decide +kernel
theorem dX4_needOf_50 : decode cX4_needOf 50 = .ok (.ireturn, 1) := by decide +kernel
theorem dX4_wouldNod_0 : decode cX4_wouldNod 0 = .ok (.aload_n 0, 1) := by decide +kernel
theorem dX4_wouldNod_1 : decode cX4_wouldNod 1 = .ok (.getfield 7, 3) := by decide +kernel
theorem dX4_wouldNod_4 : decode cX4_wouldNod 4 = .ok (.aload_n 0, 1) := by decide +kernel
theorem dX4_wouldNod_5 : decode cX4_wouldNod 5 = .ok (.aload_n 1, 1) := by decide +kernel
theorem dX4_wouldNod_6 : decode cX4_wouldNod 6 = .ok (.iload_n 2, 1) := by decide +kernel
theorem dX4_wouldNod_7 : decode cX4_wouldNod 7 = .ok (.invokevirtual 58, 3) := by decide +kernel
theorem dX4_wouldNod_10 : decode cX4_wouldNod 10 = .ok (.if_icmp .lt 7, 3) := by decide +kernel
theorem dX4_wouldNod_13 : decode cX4_wouldNod 13 = .ok (.iconst 1, 1) := by decide +kernel
theorem dX4_wouldNod_14 : decode cX4_wouldNod 14 = .ok (.goto 4, 3) := by decide +kernel
theorem dX4_wouldNod_17 : decode cX4_wouldNod 17 = .ok (.iconst 0, 1) := by decide +kernel
theorem dX4_wouldNod_18 : decode cX4_wouldNod 18 = .ok (.ireturn, 1) := by decide +kernel
theorem dX4_hear_0 : decode cX4_hear 0 = .ok (.aload_n 0, 1) := by decide +kernel
theorem dX4_hear_1 : decode cX4_hear 1 = .ok (.aload_n 1, 1) := by decide +kernel
theorem dX4_hear_2 : decode cX4_hear 2 = .ok (.iload_n 2, 1) := by decide +kernel
theorem dX4_hear_3 : decode cX4_hear 3 = .ok (.invokevirtual 62, 3) := by decide +kernel
theorem dX4_hear_6 : decode cX4_hear 6 = .ok (.istore_n 3, 1) := by decide +kernel
theorem dX4_hear_7 : decode cX4_hear 7 = .ok (.aload_n 0, 1) := by decide +kernel
theorem dX4_hear_8 : decode cX4_hear 8 = .ok (.aload_n 1, 1) := by decide +kernel
theorem dX4_hear_9 : decode cX4_hear 9 = .ok (.iload_n 2, 1) := by decide +kernel
theorem dX4_hear_10 : decode cX4_hear 10 = .ok (.iload_n 3, 1) := by decide +kernel
theorem dX4_hear_11 : decode cX4_hear 11 = .ok (.invokevirtual 66, 3) := by decide +kernel
theorem dX4_hear_14 : decode cX4_hear 14 = .ok (.iload_n 3, 1) := by decide +kernel
theorem dX4_hear_15 : decode cX4_hear 15 = .ok (.ireturn, 1) := by decide +kernel
theorem dX4_hearAs_0 : decode cX4_hearAs 0 = .ok (.aload_n 0, 1) := by decide +kernel
theorem dX4_hearAs_1 : decode cX4_hearAs 1 = .ok (.dup, 1) := by decide +kernel
theorem dX4_hearAs_2 : decode cX4_hearAs 2 = .ok (.getfield 16, 3) := by decide +kernel
theorem dX4_hearAs_5 : decode cX4_hearAs 5 = .ok (.iconst 1, 1) := by decide +kernel
theorem dX4_hearAs_6 : decode cX4_hearAs 6 = .ok (.iadd, 1) := by decide +kernel
theorem dX4_hearAs_7 : decode cX4_hearAs 7 = .ok (.putfield 16, 3) := by decide +kernel
theorem dX4_hearAs_10 : decode cX4_hearAs 10 = .ok (.iload_n 3, 1) := by decide +kernel
theorem dX4_hearAs_11 : decode cX4_hearAs 11 = .ok (.ifCond .eq 36, 3) := by decide +kernel
theorem dX4_hearAs_14 : decode cX4_hearAs 14 = .ok (.aload_n 0, 1) := by decide +kernel
theorem dX4_hearAs_15 : decode cX4_hearAs 15 = .ok (.getfield 21, 3) := by decide +kernel
theorem dX4_hearAs_18 : decode cX4_hearAs 18 = .ok (.aload_n 1, 1) := by decide +kernel
theorem dX4_hearAs_19 : decode cX4_hearAs 19 = .ok (.getfield 42, 3) := by decide +kernel
theorem dX4_hearAs_22 : decode cX4_hearAs 22 = .ok (.iload_n 2, 1) := by decide +kernel
theorem dX4_hearAs_23 : decode cX4_hearAs 23 = .ok (.iaload, 1) := by decide +kernel
theorem dX4_hearAs_24 : decode cX4_hearAs 24 = .ok (.dup2, 1) := by decide +kernel
theorem dX4_hearAs_25 : decode cX4_hearAs 25 = .ok (.iaload, 1) := by decide +kernel
theorem dX4_hearAs_26 : decode cX4_hearAs 26 = .ok (.iconst 1, 1) := by decide +kernel
theorem dX4_hearAs_27 : decode cX4_hearAs 27 = .ok (.iadd, 1) := by decide +kernel
theorem dX4_hearAs_28 : decode cX4_hearAs 28 = .ok (.iastore, 1) := by decide +kernel
theorem dX4_hearAs_29 : decode cX4_hearAs 29 = .ok (.aload_n 0, 1) := by decide +kernel
theorem dX4_hearAs_30 : decode cX4_hearAs 30 = .ok (.aload_n 0, 1) := by decide +kernel
theorem dX4_hearAs_31 : decode cX4_hearAs 31 = .ok (.getfield 7, 3) := by decide +kernel
theorem dX4_hearAs_34 : decode cX4_hearAs 34 = .ok (.iconst 1, 1) := by decide +kernel
theorem dX4_hearAs_35 : decode cX4_hearAs 35 = .ok (.iadd, 1) := by decide +kernel
theorem dX4_hearAs_36 : decode cX4_hearAs 36 = .ok (.bipush 20, 2) := by decide +kernel
theorem dX4_hearAs_38 : decode cX4_hearAs 38 = .ok (.invokestatic 70, 3) := by decide +kernel
theorem dX4_hearAs_41 : decode cX4_hearAs 41 = .ok (.putfield 7, 3) := by decide +kernel
theorem dX4_hearAs_44 : decode cX4_hearAs 44 = .ok (.goto 26, 3) := by decide +kernel
theorem dX4_hearAs_47 : decode cX4_hearAs 47 = .ok (.aload_n 0, 1) := by decide +kernel
theorem dX4_hearAs_48 : decode cX4_hearAs 48 = .ok (.aload_n 0, 1) := by decide +kernel
theorem dX4_hearAs_49 : decode cX4_hearAs 49 = .ok (.getfield 7, 3) := by decide +kernel
theorem dX4_hearAs_52 : decode cX4_hearAs 52 = .ok (.aload_n 1, 1) := by decide +kernel
theorem dX4_hearAs_53 : decode cX4_hearAs 53 = .ok (.getfield 51, 3) := by decide +kernel
theorem dX4_hearAs_56 : decode cX4_hearAs 56 = .ok (.iload_n 2, 1) := by decide +kernel
theorem dX4_hearAs_57 : decode cX4_hearAs 57 = .ok (.iaload, 1) := by decide +kernel
theorem dX4_hearAs_58 : decode cX4_hearAs 58 = .ok (.iconst 4, 1) := by decide +kernel
theorem dX4_hearAs_59 : decode cX4_hearAs 59 = .ok (.idiv, 1) := by decide +kernel
theorem dX4_hearAs_60 : decode cX4_hearAs 60 = .ok (.isub, 1) := by decide +kernel
theorem dX4_hearAs_61 : decode cX4_hearAs 61 = .ok (.iconst 1, 1) := by decide +kernel
theorem dX4_hearAs_62 : decode cX4_hearAs 62 = .ok (.isub, 1) := by decide +kernel
theorem dX4_hearAs_63 : decode cX4_hearAs 63 = .ok (.iconst 0, 1) := by decide +kernel
theorem dX4_hearAs_64 : decode cX4_hearAs 64 = .ok (.invokestatic 76, 3) := by decide +kernel
theorem dX4_hearAs_67 : decode cX4_hearAs 67 = .ok (.putfield 7, 3) := by decide +kernel
theorem dX4_hearAs_70 : decode cX4_hearAs 70 = .ok (.return_, 1) := by decide +kernel
theorem dX4_dine_0 : decode cX4_dine 0 = .ok (.aload_n 0, 1) := by decide +kernel
theorem dX4_dine_1 : decode cX4_dine 1 = .ok (.aload_n 0, 1) := by decide +kernel
theorem dX4_dine_2 : decode cX4_dine 2 = .ok (.getfield 7, 3) := by decide +kernel
theorem dX4_dine_5 : decode cX4_dine 5 = .ok (.iconst 2, 1) := by decide +kernel
theorem dX4_dine_6 : decode cX4_dine 6 = .ok (.iadd, 1) := by decide +kernel
theorem dX4_dine_7 : decode cX4_dine 7 = .ok (.bipush 20, 2) := by decide +kernel
theorem dX4_dine_9 : decode cX4_dine 9 = .ok (.invokestatic 70, 3) := by decide +kernel
theorem dX4_dine_12 : decode cX4_dine 12 = .ok (.putfield 7, 3) := by decide +kernel
theorem dX4_dine_15 : decode cX4_dine 15 = .ok (.return_, 1) := by decide +kernel
theorem dX4_undoubtedNeed_0 : decode cX4_undoubtedNeed 0 = .ok (.iload_n 1, 1) := by decide +kernel
theorem dX4_undoubtedNeed_1 : decode cX4_undoubtedNeed 1 = .ok (.tableswitch 74 2 5 #[31, 35, 45, 45], 31) := by decide +kernel
theorem dX4_undoubtedNeed_32 : decode cX4_undoubtedNeed 32 = .ok (.iconst 2, 1) := by decide +kernel
theorem dX4_undoubtedNeed_33 : decode cX4_undoubtedNeed 33 = .ok (.iload_n 2, 1) := by decide +kernel
theorem dX4_undoubtedNeed_34 : decode cX4_undoubtedNeed 34 = .ok (.imul, 1) := by decide +kernel
theorem dX4_undoubtedNeed_35 : decode cX4_undoubtedNeed 35 = .ok (.ireturn, 1) := by decide +kernel
theorem dX4_undoubtedNeed_36 : decode cX4_undoubtedNeed 36 = .ok (.iload_n 2, 1) := by decide +kernel
theorem dX4_undoubtedNeed_37 : decode cX4_undoubtedNeed 37 = .ok (.iconst 2, 1) := by decide +kernel
theorem dX4_undoubtedNeed_38 : decode cX4_undoubtedNeed 38 = .ok (.iload_n 3, 1) := by decide +kernel
theorem dX4_undoubtedNeed_39 : decode cX4_undoubtedNeed 39 = .ok (.imul, 1) := by decide +kernel
theorem dX4_undoubtedNeed_40 : decode cX4_undoubtedNeed 40 = .ok (.isub, 1) := by decide +kernel
theorem dX4_undoubtedNeed_41 : decode cX4_undoubtedNeed 41 = .ok (.iconst 0, 1) := by decide +kernel
theorem dX4_undoubtedNeed_42 : decode cX4_undoubtedNeed 42 = .ok (.invokestatic 76, 3) := by decide +kernel
theorem dX4_undoubtedNeed_45 : decode cX4_undoubtedNeed 45 = .ok (.ireturn, 1) := by decide +kernel
theorem dX4_undoubtedNeed_46 : decode cX4_undoubtedNeed 46 = .ok (.iload_n 1, 1) := by decide +kernel
theorem dX4_undoubtedNeed_47 : decode cX4_undoubtedNeed 47 = .ok (.iconst 5, 1) := by decide +kernel
theorem dX4_undoubtedNeed_48 : decode cX4_undoubtedNeed 48 = .ok (.if_icmp .ne 14, 3) := by decide +kernel
theorem dX4_undoubtedNeed_51 : decode cX4_undoubtedNeed 51 = .ok (.aload_n 0, 1) := by decide +kernel
theorem dX4_undoubtedNeed_52 : decode cX4_undoubtedNeed 52 = .ok (.getfield 16, 3) := by decide +kernel
theorem dX4_undoubtedNeed_55 : decode cX4_undoubtedNeed 55 = .ok (.iconst 2, 1) := by decide +kernel
theorem dX4_undoubtedNeed_56 : decode cX4_undoubtedNeed 56 = .ok (.if_icmp .ge 6, 3) := by decide +kernel
theorem dX4_undoubtedNeed_59 : decode cX4_undoubtedNeed 59 = .ok (.bipush 99, 2) := by decide +kernel
theorem dX4_undoubtedNeed_61 : decode cX4_undoubtedNeed 61 = .ok (.ireturn, 1) := by decide +kernel
theorem dX4_undoubtedNeed_62 : decode cX4_undoubtedNeed 62 = .ok (.iload_n 3, 1) := by decide +kernel
theorem dX4_undoubtedNeed_63 : decode cX4_undoubtedNeed 63 = .ok (.ifCond .le 7, 3) := by decide +kernel
theorem dX4_undoubtedNeed_66 : decode cX4_undoubtedNeed 66 = .ok (.iconst 0, 1) := by decide +kernel
theorem dX4_undoubtedNeed_67 : decode cX4_undoubtedNeed 67 = .ok (.goto 7, 3) := by decide +kernel
theorem dX4_undoubtedNeed_70 : decode cX4_undoubtedNeed 70 = .ok (.bipush 20, 2) := by decide +kernel
theorem dX4_undoubtedNeed_72 : decode cX4_undoubtedNeed 72 = .ok (.iload_n 2, 1) := by decide +kernel
theorem dX4_undoubtedNeed_73 : decode cX4_undoubtedNeed 73 = .ok (.iadd, 1) := by decide +kernel
theorem dX4_undoubtedNeed_74 : decode cX4_undoubtedNeed 74 = .ok (.ireturn, 1) := by decide +kernel
theorem dX4_undoubtedNeed_75 : decode cX4_undoubtedNeed 75 = .ok (.iload_n 2, 1) := by decide +kernel
theorem dX4_undoubtedNeed_76 : decode cX4_undoubtedNeed 76 = .ok (.ireturn, 1) := by decide +kernel
