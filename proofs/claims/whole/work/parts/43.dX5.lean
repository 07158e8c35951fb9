theorem dX5_init_0 : decode cX5_init 0 = .ok (.aload_n 0, 1) := by decide +kernel
theorem dX5_init_1 : decode cX5_init 1 = .ok (.invokespecial 1, 3) := by decide +kernel
theorem dX5_init_4 : decode cX5_init 4 = .ok (.aload_n 0, 1) := by decide +kernel
theorem dX5_init_5 : decode cX5_init 5 = .ok (.bipush 120, 2) := by decide +kernel
theorem dX5_init_7 : decode cX5_init 7 = .ok (.newarray .int, 2) := by decide +kernel
theorem dX5_init_9 : decode cX5_init 9 = .ok (.putfield 9, 3) := by decide +kernel
theorem dX5_init_12 : decode cX5_init 12 = .ok (.aload_n 0, 1) := by decide +kernel
theorem dX5_init_13 : decode cX5_init 13 = .ok (.iconst 0, 1) := by decide +kernel
theorem dX5_init_14 : decode cX5_init 14 = .ok (.putfield 13, 3) := by decide +kernel
theorem dX5_init_17 : decode cX5_init 17 = .ok (.aload_n 0, 1) := by decide +kernel
theorem dX5_init_18 : decode cX5_init 18 = .ok (.iconst 0, 1) := by decide +kernel
theorem dX5_init_19 : decode cX5_init 19 = .ok (.putfield 17, 3) := by decide +kernel
theorem dX5_init_22 : decode cX5_init 22 = .ok (.aload_n 0, 1) := by decide +kernel
theorem dX5_init_23 : decode cX5_init 23 = .ok (.iconst 0, 1) := by decide +kernel
theorem dX5_init_24 : decode cX5_init 24 = .ok (.putfield 20, 3) := by decide +kernel
theorem dX5_init_27 : decode cX5_init 27 = .ok (.return_, 1) := by decide +kernel
theorem dX5_isFull_0 : decode cX5_isFull 0 = .ok (.aload_n 0, 1) := by decide +kernel
theorem dX5_isFull_1 : decode cX5_isFull 1 = .ok (.getfield 13, 3) := by decide +kernel
theorem dX5_isFull_4 : decode cX5_isFull 4 = .ok (.bipush 120, 2) := by decide +kernel
theorem dX5_isFull_6 : decode cX5_isFull 6 = .ok (.if_icmp .lt 7, 3) := by decide +kernel
theorem dX5_isFull_9 : decode cX5_isFull 9 = .ok (.iconst 1, 1) := by decide +kernel
theorem dX5_isFull_10 : decode cX5_isFull 10 = .ok (.goto 4, 3) := by decide +kernel
theorem dX5_isFull_13 : decode cX5_isFull 13 = .ok (.iconst 0, 1) := by decide +kernel
theorem dX5_isFull_14 : decode cX5_isFull 14 = .ok (.ireturn, 1) := by decide +kernel
theorem dX5_append_0 : decode cX5_append 0 = .ok (.aload_n 0, 1) := by decide +kernel
theorem dX5_append_1 : decode cX5_append 1 = .ok (.getfield 13, 3) := by decide +kernel
theorem dX5_append_4 : decode cX5_append 4 = .ok (.bipush 120, 2) := by decide +kernel
theorem dX5_append_6 : decode cX5_append 6 = .ok (.if_icmp .ge 23, 3) := by decide +kernel
theorem dX5_append_9 : decode cX5_append 9 = .ok (.aload_n 0, 1) := by decide +kernel
theorem dX5_append_10 : decode cX5_append 10 = .ok (.getfield 9, 3) := by decide +kernel
theorem dX5_append_13 : decode cX5_append 13 = .ok (.aload_n 0, 1) := by decide +kernel
theorem dX5_append_14 : decode cX5_append 14 = .ok (.getfield 13, 3) := by decide +kernel
theorem dX5_append_17 : decode cX5_append 17 = .ok (.iload_n 1, 1) := by decide +kernel
theorem dX5_append_18 : decode cX5_append 18 = .ok (.iastore, 1) := by decide +kernel
theorem dX5_append_19 : decode cX5_append 19 = .ok (.aload_n 0, 1) := by decide +kernel
theorem dX5_append_20 : decode cX5_append 20 = .ok (.dup, 1) := by decide +kernel
theorem dX5_append_21 : decode cX5_append 21 = .ok (.getfield 13, 3) := by decide +kernel
theorem dX5_append_24 : decode cX5_append 24 = .ok (.iconst 1, 1) := by decide +kernel
theorem dX5_append_25 : decode cX5_append 25 = .ok (.iadd, 1) := by decide +kernel
theorem dX5_append_26 : decode cX5_append 26 = .ok (.putfield 13, 3) := by decide +kernel
theorem dX5_append_29 : decode cX5_append 29 = .ok (.aload_n 0, 1) := by decide +kernel
theorem dX5_append_30 : decode cX5_append 30 = .ok (.getfield 13, 3) := by decide +kernel
theorem dX5_append_33 : decode cX5_append 33 = .ok (.ireturn, 1) := by decide +kernel
theorem dX5_length_0 : decode cX5_length 0 = .ok (.aload_n 0, 1) := by decide +kernel
theorem dX5_length_1 : decode cX5_length 1 = .ok (.getfield 13, 3) := by decide +kernel
theorem dX5_length_4 : decode cX5_length 4 = .ok (.ireturn, 1) := by decide +kernel
theorem dX5_faultPlace_0 : decode cX5_faultPlace 0 = .ok (.aload_n 0, 1) := by decide +kernel
theorem dX5_faultPlace_1 : decode cX5_faultPlace 1 = .ok (.getfield 17, 3) := by decide +kernel
theorem dX5_faultPlace_4 : decode cX5_faultPlace 4 = .ok (.ireturn, 1) := by decide +kernel
theorem dX5_latestFault_0 : decode cX5_latestFault 0 = .ok (.aload_n 0, 1) := by decide +kernel
theorem dX5_latestFault_1 : decode cX5_latestFault 1 = .ok (.getfield 20, 3) := by decide +kernel
theorem dX5_latestFault_4 : decode cX5_latestFault 4 = .ok (.ireturn, 1) := by decide +kernel
theorem dX5_readInto_0 : decode cX5_readInto 0 = .ok (.aload_n 0, 1) := by decide +kernel
theorem dX5_readInto_1 : decode cX5_readInto 1 = .ok (.iconst 0, 1) := by decide +kernel
theorem dX5_readInto_2 : decode cX5_readInto 2 = .ok (.putfield 17, 3) := by decide +kernel
theorem dX5_readInto_5 : decode cX5_readInto 5 = .ok (.aload_n 0, 1) := by decide +kernel
theorem dX5_readInto_6 : decode cX5_readInto 6 = .ok (.aload_n 1, 1) := by decide +kernel
theorem dX5_readInto_7 : decode cX5_readInto 7 = .ok (.invokevirtual 23, 3) := by decide +kernel
theorem dX5_readInto_10 : decode cX5_readInto 10 = .ok (.ifCond .eq 23, 3) := by decide +kernel
theorem dX5_readInto_13 : decode cX5_readInto 13 = .ok (.aload_n 0, 1) := by decide +kernel
theorem dX5_readInto_14 : decode cX5_readInto 14 = .ok (.aload_n 1, 1) := by decide +kernel
theorem dX5_readInto_15 : decode cX5_readInto 15 = .ok (.invokevirtual 27, 3) := by decide +kernel
theorem dX5_readInto_18 : decode cX5_readInto 18 = .ok (.ifCond .eq 15, 3) := by decide +kernel
theorem dX5_readInto_21 : decode cX5_readInto 21 = .ok (.aload_n 0, 1) := by decide +kernel
theorem dX5_readInto_22 : decode cX5_readInto 22 = .ok (.aload_n 1, 1) := by decide +kernel
theorem dX5_readInto_23 : decode cX5_readInto 23 = .ok (.invokevirtual 30, 3) := by decide +kernel
theorem dX5_readInto_26 : decode cX5_readInto 26 = .ok (.ifCond .eq 7, 3) := by decide +kernel
theorem dX5_readInto_29 : decode cX5_readInto 29 = .ok (.iconst 1, 1) := by decide +kernel
theorem dX5_readInto_30 : decode cX5_readInto 30 = .ok (.goto 4, 3) := by decide +kernel
theorem dX5_readInto_33 : decode cX5_readInto 33 = .ok (.iconst 0, 1) := by decide +kernel
theorem dX5_readInto_34 : decode cX5_readInto 34 = .ok (.istore_n 2, 1) := by decide +kernel
theorem dX5_readInto_35 : decode cX5_readInto 35 = .ok (.iload_n 2, 1) := by decide +kernel
theorem dX5_readInto_36 : decode cX5_readInto 36 = .ok (.ifCond .eq 20, 3) := by decide +kernel
theorem dX5_readInto_39 : decode cX5_readInto 39 = .ok (.aload_n 0, 1) := by decide +kernel
theorem dX5_readInto_40 : decode cX5_readInto 40 = .ok (.getfield 17, 3) := by decide +kernel
theorem dX5_readInto_43 : decode cX5_readInto 43 = .ok (.aload_n 0, 1) := by decide +kernel
theorem dX5_readInto_44 : decode cX5_readInto 44 = .ok (.getfield 13, 3) := by decide +kernel
theorem dX5_readInto_47 : decode cX5_readInto 47 = .ok (.if_icmp .ge 9, 3) := by decide +kernel
theorem dX5_readInto_50 : decode cX5_readInto 50 = .ok (.aload_n 0, 1) := by decide +kernel
theorem dX5_readInto_51 : decode cX5_readInto 51 = .ok (.iconst 1, 1) := by decide +kernel
theorem dX5_readInto_52 : decode cX5_readInto 52 = .ok (.invokevirtual 33, 3) := by decide +kernel
theorem dX5_readInto_55 : decode cX5_readInto 55 = .ok (.istore_n 2, 1) := by decide +kernel
theorem dX5_readInto_56 : decode cX5_readInto 56 = .ok (.aload_n 0, 1) := by decide +kernel
theorem dX5_readInto_57 : decode cX5_readInto 57 = .ok (.iconst 0, 1) := by decide +kernel
theorem dX5_readInto_58 : decode cX5_readInto 58 = .ok (.putfield 13, 3) := by decide +kernel
theorem dX5_readInto_61 : decode cX5_readInto 61 = .ok (.iload_n 2, 1) := by decide +kernel
theorem dX5_readInto_62 : decode cX5_readInto 62 = .ok (.ireturn, 1) := by decide +kernel
theorem dX5_readLaw_0 : decode cX5_readLaw 0 = .ok (.aload_n 0, 1) := by decide +kernel
theorem dX5_readLaw_1 : decode cX5_readLaw 1 = .ok (.bipush 116, 2) := by decide +kernel
theorem dX5_readLaw_3 : decode cX5_readLaw 3 = .ok (.invokevirtual 37, 3) := by decide +kernel
theorem dX5_readLaw_6 : decode cX5_readLaw 6 = .ok (.ifCond .ne 5, 3) := by decide +kernel
theorem dX5_readLaw_9 : decode cX5_readLaw 9 = .ok (.iconst 0, 1) := by decide +kernel
theorem dX5_readLaw_10 : decode cX5_readLaw 10 = .ok (.ireturn, 1) := by decide +kernel
theorem dX5_readLaw_11 : decode cX5_readLaw 11 = .ok (.aload_n 0, 1) := by decide +kernel
theorem dX5_readLaw_12 : decode cX5_readLaw 12 = .ok (.iconst 1, 1) := by decide +kernel
theorem dX5_readLaw_13 : decode cX5_readLaw 13 = .ok (.bipush 9, 2) := by decide +kernel
theorem dX5_readLaw_15 : decode cX5_readLaw 15 = .ok (.invokevirtual 40, 3) := by decide +kernel
theorem dX5_readLaw_18 : decode cX5_readLaw 18 = .ok (.istore_n 2, 1) := by decide +kernel
theorem dX5_readLaw_19 : decode cX5_readLaw 19 = .ok (.iload_n 2, 1) := by decide +kernel
theorem dX5_readLaw_20 : decode cX5_readLaw 20 = .ok (.iconst (-1), 1) := by decide +kernel
theorem dX5_readLaw_21 : decode cX5_readLaw 21 = .ok (.if_icmp .eq 12, 3) := by decide +kernel
theorem dX5_readLaw_24 : decode cX5_readLaw 24 = .ok (.aload_n 0, 1) := by decide +kernel
theorem dX5_readLaw_25 : decode cX5_readLaw 25 = .ok (.bipush 59, 2) := by decide +kernel
theorem dX5_readLaw_27 : decode cX5_readLaw 27 = .ok (.invokevirtual 37, 3) := by decide +kernel
theorem dX5_readLaw_30 : decode cX5_readLaw 30 = .ok (.ifCond .ne 5, 3) := by decide +kernel
theorem dX5_readLaw_33 : decode cX5_readLaw 33 = .ok (.iconst 0, 1) := by decide +kernel
theorem dX5_readLaw_34 : decode cX5_readLaw 34 = .ok (.ireturn, 1) := by decide +kernel
theorem dX5_readLaw_35 : decode cX5_readLaw 35 = .ok (.aload_n 1, 1) := by decide +kernel
theorem dX5_readLaw_36 : decode cX5_readLaw 36 = .ok (.iload_n 2, 1) := by decide +kernel
theorem dX5_readLaw_37 : decode cX5_readLaw 37 = .ok (.invokevirtual 44, 3) := by decide +kernel
theorem dX5_readLaw_40 : decode cX5_readLaw 40 = .ok (.iconst 1, 1) := by decide +kernel
theorem dX5_readLaw_41 : decode cX5_readLaw 41 = .ok (.ireturn, 1) := by decide +kernel
theorem dX5_readLies_0 : decode cX5_readLies 0 = .ok (.iconst 0, 1) := by decide +kernel
theorem dX5_readLies_1 : decode cX5_readLies 1 = .ok (.istore_n 2, 1) := by decide +kernel
theorem dX5_readLies_2 : decode cX5_readLies 2 = .ok (.iload_n 2, 1) := by decide +kernel
theorem dX5_readLies_3 : decode cX5_readLies 3 = .ok (.bipush 6, 2) := by decide +kernel
theorem dX5_readLies_5 : decode cX5_readLies 5 = .ok (.if_icmp .gt 105, 3) := by decide +kernel
theorem dX5_readLies_8 : decode cX5_readLies 8 = .ok (.aload_n 0, 1) := by decide +kernel
theorem dX5_readLies_9 : decode cX5_readLies 9 = .ok (.invokevirtual 50, 3) := by decide +kernel
theorem dX5_readLies_12 : decode cX5_readLies 12 = .ok (.invokestatic 54, 3) := by decide +kernel
theorem dX5_readLies_15 : decode cX5_readLies 15 = .ok (.istore_n 3, 1) := by decide +kernel
theorem dX5_readLies_16 : decode cX5_readLies 16 = .ok (.iload_n 3, 1) := by decide +kernel
theorem dX5_readLies_17 : decode cX5_readLies 17 = .ok (.ifCond .ne 5, 3) := by decide +kernel
theorem dX5_readLies_20 : decode cX5_readLies 20 = .ok (.iconst 1, 1) := by decide +kernel
theorem dX5_readLies_21 : decode cX5_readLies 21 = .ok (.ireturn, 1) := by decide +kernel
theorem dX5_readLies_22 : decode cX5_readLies 22 = .ok (.iload_n 2, 1) := by decide +kernel
theorem dX5_readLies_23 : decode cX5_readLies 23 = .ok (.bipush 6, 2) := by decide +kernel
theorem dX5_readLies_25 : decode cX5_readLies 25 = .ok (.if_icmp .ne 9, 3) := by decide +kernel
theorem dX5_readLies_28 : decode cX5_readLies 28 = .ok (.aload_n 0, 1) := by decide +kernel
theorem dX5_readLies_29 : decode cX5_readLies 29 = .ok (.iconst 3, 1) := by decide +kernel
theorem dX5_readLies_30 : decode cX5_readLies 30 = .ok (.invokevirtual 33, 3) := by decide +kernel
theorem dX5_readLies_33 : decode cX5_readLies 33 = .ok (.ireturn, 1) := by decide +kernel
theorem dX5_readLies_34 : decode cX5_readLies 34 = .ok (.aload_n 0, 1) := by decide +kernel
theorem dX5_readLies_35 : decode cX5_readLies 35 = .ok (.dup, 1) := by decide +kernel
theorem dX5_readLies_36 : decode cX5_readLies 36 = .ok (.getfield 17, 3) := by decide +kernel
theorem dX5_readLies_39 : decode cX5_readLies 39 = .ok (.iconst 1, 1) := by decide +kernel
theorem dX5_readLies_40 : decode cX5_readLies 40 = .ok (.iadd, 1) := by decide +kernel
theorem dX5_readLies_41 : decode cX5_readLies 41 = .ok (.putfield 17, 3) := by decide +kernel
theorem dX5_readLies_44 : decode cX5_readLies 44 = .ok (.aload_n 0, 1) := by decide +kernel
theorem dX5_readLies_45 : decode cX5_readLies 45 = .ok (.iconst 1, 1) := by decide +kernel
theorem dX5_readLies_46 : decode cX5_readLies 46 = .ok (.bipush 20, 2) := by decide +kernel
theorem dX5_readLies_48 : decode cX5_readLies 48 = .ok (.invokevirtual 40, 3) := by decide +kernel
theorem dX5_readLies_51 : decode cX5_readLies 51 = .ok (.istore 4, 2) := by decide +kernel
theorem dX5_readLies_53 : decode cX5_readLies 53 = .ok (.iload 4, 2) := by decide +kernel
theorem dX5_readLies_55 : decode cX5_readLies 55 = .ok (.iconst (-1), 1) := by decide +kernel
theorem dX5_readLies_56 : decode cX5_readLies 56 = .ok (.if_icmp .eq 12, 3) := by decide +kernel
theorem dX5_readLies_59 : decode cX5_readLies 59 = .ok (.aload_n 0, 1) := by decide +kernel
theorem dX5_readLies_60 : decode cX5_readLies 60 = .ok (.bipush 44, 2) := by decide +kernel
theorem dX5_readLies_62 : decode cX5_readLies 62 = .ok (.invokevirtual 37, 3) := by decide +kernel
theorem dX5_readLies_65 : decode cX5_readLies 65 = .ok (.ifCond .ne 5, 3) := by decide +kernel
theorem dX5_readLies_68 : decode cX5_readLies 68 = .ok (.iconst 0, 1) := by decide +kernel
theorem dX5_readLies_69 : decode cX5_readLies 69 = .ok (.ireturn, 1) := by decide +kernel
theorem dX5_readLies_70 : decode cX5_readLies 70 = .ok (.aload_n 0, 1) := by decide +kernel
theorem dX5_readLies_71 : decode cX5_readLies 71 = .ok (.iconst 0, 1) := by decide +kernel
theorem dX5_readLies_72 : decode cX5_readLies 72 = .ok (.iconst 3, 1) := by decide +kernel
theorem dX5_readLies_73 : decode cX5_readLies 73 = .ok (.invokevirtual 40, 3) := by decide +kernel
theorem dX5_readLies_76 : decode cX5_readLies 76 = .ok (.istore 5, 2) := by decide +kernel
theorem dX5_readLies_78 : decode cX5_readLies 78 = .ok (.iload 5, 2) := by decide +kernel
theorem dX5_readLies_80 : decode cX5_readLies 80 = .ok (.iconst (-1), 1) := by decide +kernel
theorem dX5_readLies_81 : decode cX5_readLies 81 = .ok (.if_icmp .eq 12, 3) := by decide +kernel
theorem dX5_readLies_84 : decode cX5_readLies 84 = .ok (.aload_n 0, 1) := by decide +kernel
theorem dX5_readLies_85 : decode cX5_readLies 85 = .ok (.bipush 59, 2) := by decide +kernel
theorem dX5_readLies_87 : decode cX5_readLies 87 = .ok (.invokevirtual 37, 3) := by decide +kernel
theorem dX5_readLies_90 : decode cX5_readLies 90 = .ok (.ifCond .ne 5, 3) := by decide +kernel
theorem dX5_readLies_93 : decode cX5_readLies 93 = .ok (.iconst 0, 1) := by decide +kernel
theorem dX5_readLies_94 : decode cX5_readLies 94 = .ok (.ireturn, 1) := by decide +kernel
theorem dX5_readLies_95 : decode cX5_readLies 95 = .ok (.aload_n 1, 1) := by decide +kernel
theorem dX5_readLies_96 : decode cX5_readLies 96 = .ok (.iload_n 3, 1) := by decide +kernel
theorem dX5_readLies_97 : decode cX5_readLies 97 = .ok (.iload 4, 2) := by decide +kernel
theorem dX5_readLies_99 : decode cX5_readLies 99 = .ok (.iload 5, 2) := by decide +kernel
theorem dX5_readLies_101 : decode cX5_readLies 101 = .ok (.invokevirtual 60, 3) := by decide +kernel
theorem dX5_readLies_104 : decode cX5_readLies 104 = .ok (.iinc 2 1, 3) := by decide +kernel
theorem dX5_readLies_107 : decode cX5_readLies 107 = .ok (.goto (-105), 3) := by decide +kernel
theorem dX5_readLies_110 : decode cX5_readLies 110 = .ok (.iconst 1, 1) := by decide +kernel
theorem dX5_readLies_111 : decode cX5_readLies 111 = .ok (.ireturn, 1) := by decide +kernel
theorem dX5_readStrangers_0 : decode cX5_readStrangers 0 = .ok (.iconst 0, 1) := by decide +kernel
theorem dX5_readStrangers_1 : decode cX5_readStrangers 1 = .ok (.istore_n 2, 1) := by decide +kernel
theorem dX5_readStrangers_2 : decode cX5_readStrangers 2 = .ok (.iload_n 2, 1) := by decide +kernel
theorem dX5_readStrangers_3 : decode cX5_readStrangers 3 = .ok (.iconst 4, 1) := by decide +kernel
theorem dX5_readStrangers_4 : decode cX5_readStrangers 4 = .ok (.if_icmp .gt 98, 3) := by decide +kernel
theorem dX5_readStrangers_7 : decode cX5_readStrangers 7 = .ok (.aload_n 0, 1) := by decide +kernel
theorem dX5_readStrangers_8 : decode cX5_readStrangers 8 = .ok (.invokevirtual 50, 3) := by decide +kernel
theorem dX5_readStrangers_11 : decode cX5_readStrangers 11 = .ok (.bipush 115, 2) := by decide +kernel
theorem dX5_readStrangers_13 : decode cX5_readStrangers 13 = .ok (.if_icmp .eq 5, 3) := by decide +kernel
theorem dX5_readStrangers_16 : decode cX5_readStrangers 16 = .ok (.iconst 1, 1) := by decide +kernel
theorem dX5_readStrangers_17 : decode cX5_readStrangers 17 = .ok (.ireturn, 1) := by decide +kernel
theorem dX5_readStrangers_18 : decode cX5_readStrangers 18 = .ok (.iload_n 2, 1) := by decide +kernel
theorem dX5_readStrangers_19 : decode cX5_readStrangers 19 = .ok (.iconst 4, 1) := by decide +kernel
theorem dX5_readStrangers_20 : decode cX5_readStrangers 20 = .ok (.if_icmp .ne 9, 3) := by decide +kernel
theorem dX5_readStrangers_23 : decode cX5_readStrangers 23 = .ok (.aload_n 0, 1) := by decide +kernel
theorem dX5_readStrangers_24 : decode cX5_readStrangers 24 = .ok (.iconst 3, 1) := by decide +kernel
theorem dX5_readStrangers_25 : decode cX5_readStrangers 25 = .ok (.invokevirtual 33, 3) := by decide +kernel
theorem dX5_readStrangers_28 : decode cX5_readStrangers 28 = .ok (.ireturn, 1) := by decide +kernel
theorem dX5_readStrangers_29 : decode cX5_readStrangers 29 = .ok (.aload_n 0, 1) := by decide +kernel
theorem dX5_readStrangers_30 : decode cX5_readStrangers 30 = .ok (.dup, 1) := by decide +kernel
theorem dX5_readStrangers_31 : decode cX5_readStrangers 31 = .ok (.getfield 17, 3) := by decide +kernel
theorem dX5_readStrangers_34 : decode cX5_readStrangers 34 = .ok (.iconst 1, 1) := by decide +kernel
theorem dX5_readStrangers_35 : decode cX5_readStrangers 35 = .ok (.iadd, 1) := by decide +kernel
theorem dX5_readStrangers_36 : decode cX5_readStrangers 36 = .ok (.putfield 17, 3) := by decide +kernel
theorem dX5_readStrangers_39 : decode cX5_readStrangers 39 = .ok (.aload_n 0, 1) := by decide +kernel
theorem dX5_readStrangers_40 : decode cX5_readStrangers 40 = .ok (.iconst 0, 1) := by decide +kernel
theorem dX5_readStrangers_41 : decode cX5_readStrangers 41 = .ok (.bipush 20, 2) := by decide +kernel
theorem dX5_readStrangers_43 : decode cX5_readStrangers 43 = .ok (.invokevirtual 40, 3) := by decide +kernel
theorem dX5_readStrangers_46 : decode cX5_readStrangers 46 = .ok (.istore_n 3, 1) := by decide +kernel
theorem dX5_readStrangers_47 : decode cX5_readStrangers 47 = .ok (.iload_n 3, 1) := by decide +kernel
theorem dX5_readStrangers_48 : decode cX5_readStrangers 48 = .ok (.iconst (-1), 1) := by decide +kernel
theorem dX5_readStrangers_49 : decode cX5_readStrangers 49 = .ok (.if_icmp .eq 12, 3) := by decide +kernel
theorem dX5_readStrangers_52 : decode cX5_readStrangers 52 = .ok (.aload_n 0, 1) := by decide +kernel
theorem dX5_readStrangers_53 : decode cX5_readStrangers 53 = .ok (.bipush 44, 2) := by decide +kernel
theorem dX5_readStrangers_55 : decode cX5_readStrangers 55 = .ok (.invokevirtual 37, 3) := by decide +kernel
theorem dX5_readStrangers_58 : decode cX5_readStrangers 58 = .ok (.ifCond .ne 5, 3) := by decide +kernel
theorem dX5_readStrangers_61 : decode cX5_readStrangers 61 = .ok (.iconst 0, 1) := by decide +kernel
theorem dX5_readStrangers_62 : decode cX5_readStrangers 62 = .ok (.ireturn, 1) := by decide +kernel
theorem dX5_readStrangers_63 : decode cX5_readStrangers 63 = .ok (.aload_n 0, 1) := by decide +kernel
theorem dX5_readStrangers_64 : decode cX5_readStrangers 64 = .ok (.iconst 0, 1) := by decide +kernel
theorem dX5_readStrangers_65 : decode cX5_readStrangers 65 = .ok (.bipush 15, 2) := by decide +kernel
theorem dX5_readStrangers_67 : decode cX5_readStrangers 67 = .ok (.invokevirtual 40, 3) := by decide +kernel
theorem dX5_readStrangers_70 : decode cX5_readStrangers 70 = .ok (.istore 4, 2) := by decide +kernel
theorem dX5_readStrangers_72 : decode cX5_readStrangers 72 = .ok (.iload 4, 2) := by decide +kernel
theorem dX5_readStrangers_74 : decode cX5_readStrangers 74 = .ok (.iconst (-1), 1) := by decide +kernel
theorem dX5_readStrangers_75 : decode cX5_readStrangers 75 = .ok (.if_icmp .eq 12, 3) := by decide +kernel
theorem dX5_readStrangers_78 : decode cX5_readStrangers 78 = .ok (.aload_n 0, 1) := by decide +kernel
theorem dX5_readStrangers_79 : decode cX5_readStrangers 79 = .ok (.bipush 59, 2) := by decide +kernel
theorem dX5_readStrangers_81 : decode cX5_readStrangers 81 = .ok (.invokevirtual 37, 3) := by decide +kernel
theorem dX5_readStrangers_84 : decode cX5_readStrangers 84 = .ok (.ifCond .ne 5, 3) := by decide +kernel
theorem dX5_readStrangers_87 : decode cX5_readStrangers 87 = .ok (.iconst 0, 1) := by decide +kernel
theorem dX5_readStrangers_88 : decode cX5_readStrangers 88 = .ok (.ireturn, 1) := by decide +kernel
theorem dX5_readStrangers_89 : decode cX5_readStrangers 89 = .ok (.aload_n 1, 1) := by decide +kernel
theorem dX5_readStrangers_90 : decode cX5_readStrangers 90 = .ok (.iload_n 3, 1) := by decide +kernel
theorem dX5_readStrangers_91 : decode cX5_readStrangers 91 = .ok (.iload 4, 2) := by decide +kernel
theorem dX5_readStrangers_93 : decode cX5_readStrangers 93 = .ok (.invokevirtual 64, 3) := by decide +kernel
theorem dX5_readStrangers_96 : decode cX5_readStrangers 96 = .ok (.iinc 2 1, 3) := by decide +kernel
theorem dX5_readStrangers_99 : decode cX5_readStrangers 99 = .ok (.goto (-97), 3) := by decide +kernel
theorem dX5_readStrangers_102 : decode cX5_readStrangers 102 = .ok (.iconst 1, 1) := by decide +kernel
theorem dX5_readStrangers_103 : decode cX5_readStrangers 103 = .ok (.ireturn, 1) := by decide +kernel
theorem dX5_readNumber_0 : decode cX5_readNumber 0 = .ok (.iconst 0, 1) := by decide +kernel
theorem dX5_readNumber_1 : decode cX5_readNumber 1 = .ok (.istore_n 3, 1) := by decide +kernel
theorem dX5_readNumber_2 : decode cX5_readNumber 2 = .ok (.iconst 0, 1) := by decide +kernel
theorem dX5_readNumber_3 : decode cX5_readNumber 3 = .ok (.istore 4, 2) := by decide +kernel
theorem dX5_readNumber_5 : decode cX5_readNumber 5 = .ok (.iload_n 3, 1) := by decide +kernel
theorem dX5_readNumber_6 : decode cX5_readNumber 6 = .ok (.iconst 3, 1) := by decide +kernel
theorem dX5_readNumber_7 : decode cX5_readNumber 7 = .ok (.if_icmp .ge 46, 3) := by decide +kernel
theorem dX5_readNumber_10 : decode cX5_readNumber 10 = .ok (.aload_n 0, 1) := by decide +kernel
theorem dX5_readNumber_11 : decode cX5_readNumber 11 = .ok (.aload_n 0, 1) := by decide +kernel
theorem dX5_readNumber_12 : decode cX5_readNumber 12 = .ok (.getfield 17, 3) := by decide +kernel
theorem dX5_readNumber_15 : decode cX5_readNumber 15 = .ok (.iload_n 3, 1) := by decide +kernel
theorem dX5_readNumber_16 : decode cX5_readNumber 16 = .ok (.iadd, 1) := by decide +kernel
theorem dX5_readNumber_17 : decode cX5_readNumber 17 = .ok (.invokevirtual 68, 3) := by decide +kernel
theorem dX5_readNumber_20 : decode cX5_readNumber 20 = .ok (.invokestatic 71, 3) := by decide +kernel
theorem dX5_readNumber_23 : decode cX5_readNumber 23 = .ok (.ifCond .eq 30, 3) := by decide +kernel
theorem dX5_readNumber_26 : decode cX5_readNumber 26 = .ok (.bipush 10, 2) := by decide +kernel
theorem dX5_readNumber_28 : decode cX5_readNumber 28 = .ok (.iload 4, 2) := by decide +kernel
theorem dX5_readNumber_30 : decode cX5_readNumber 30 = .ok (.imul, 1) := by decide +kernel
theorem dX5_readNumber_31 : decode cX5_readNumber 31 = .ok (.aload_n 0, 1) := by decide +kernel
theorem dX5_readNumber_32 : decode cX5_readNumber 32 = .ok (.aload_n 0, 1) := by decide +kernel
theorem dX5_readNumber_33 : decode cX5_readNumber 33 = .ok (.getfield 17, 3) := by decide +kernel
theorem dX5_readNumber_36 : decode cX5_readNumber 36 = .ok (.iload_n 3, 1) := by decide +kernel
theorem dX5_readNumber_37 : decode cX5_readNumber 37 = .ok (.iadd, 1) := by decide +kernel
theorem dX5_readNumber_38 : decode cX5_readNumber 38 = .ok (.invokevirtual 68, 3) := by decide +kernel
theorem dX5_readNumber_41 : decode cX5_readNumber 41 = .ok (.iadd, 1) := by decide +kernel
theorem dX5_readNumber_42 : decode cX5_readNumber 42 = .ok (.bipush 48, 2) := by decide +kernel
theorem dX5_readNumber_44 : decode cX5_readNumber 44 = .ok (.isub, 1) := by decide +kernel
theorem dX5_readNumber_45 : decode cX5_readNumber 45 = .ok (.istore 4, 2) := by decide +kernel
theorem dX5_readNumber_47 : decode cX5_readNumber 47 = .ok (.iinc 3 1, 3) := by decide +kernel
theorem dX5_readNumber_50 : decode cX5_readNumber 50 = .ok (.goto (-45), 3) := by decide +kernel
theorem dX5_readNumber_53 : decode cX5_readNumber 53 = .ok (.iload_n 3, 1) := by decide +kernel
theorem dX5_readNumber_54 : decode cX5_readNumber 54 = .ok (.iconst 1, 1) := by decide +kernel
theorem dX5_readNumber_55 : decode cX5_readNumber 55 = .ok (.if_icmp .lt 8, 3) := by decide +kernel
theorem dX5_readNumber_58 : decode cX5_readNumber 58 = .ok (.iload_n 3, 1) := by decide +kernel
theorem dX5_readNumber_59 : decode cX5_readNumber 59 = .ok (.iconst 2, 1) := by decide +kernel
theorem dX5_readNumber_60 : decode cX5_readNumber 60 = .ok (.if_icmp .le 11, 3) := by decide +kernel
theorem dX5_readNumber_63 : decode cX5_readNumber 63 = .ok (.aload_n 0, 1) := by decide +kernel
theorem dX5_readNumber_64 : decode cX5_readNumber 64 = .ok (.iconst 1, 1) := by decide +kernel
theorem dX5_readNumber_65 : decode cX5_readNumber 65 = .ok (.invokevirtual 33, 3) := by decide +kernel
theorem dX5_readNumber_68 : decode cX5_readNumber 68 = .ok (.pop, 1) := by decide +kernel
theorem dX5_readNumber_69 : decode cX5_readNumber 69 = .ok (.iconst (-1), 1) := by decide +kernel
theorem dX5_readNumber_70 : decode cX5_readNumber 70 = .ok (.ireturn, 1) := by decide +kernel
theorem dX5_readNumber_71 : decode cX5_readNumber 71 = .ok (.iload 4, 2) := by decide +kernel
theorem dX5_readNumber_73 : decode cX5_readNumber 73 = .ok (.iload_n 1, 1) := by decide +kernel
theorem dX5_readNumber_74 : decode cX5_readNumber 74 = .ok (.if_icmp .lt 9, 3) := by decide +kernel
theorem dX5_readNumber_77 : decode cX5_readNumber 77 = .ok (.iload 4, 2) := by decide +kernel
theorem dX5_readNumber_79 : decode cX5_readNumber 79 = .ok (.iload_n 2, 1) := by decide +kernel
theorem dX5_readNumber_80 : decode cX5_readNumber 80 = .ok (.if_icmp .le 11, 3) := by decide +kernel
theorem dX5_readNumber_83 : decode cX5_readNumber 83 = .ok (.aload_n 0, 1) := by decide +kernel
theorem dX5_readNumber_84 : decode cX5_readNumber 84 = .ok (.iconst 2, 1) := by decide +kernel
theorem dX5_readNumber_85 : decode cX5_readNumber 85 = .ok (.invokevirtual 33, 3) := by decide +kernel
theorem dX5_readNumber_88 : decode cX5_readNumber 88 = .ok (.pop, 1) := by decide +kernel
theorem dX5_readNumber_89 : decode cX5_readNumber 89 = .ok (.iconst (-1), 1) := by decide +kernel
theorem dX5_readNumber_90 : decode cX5_readNumber 90 = .ok (.ireturn, 1) := by decide +kernel
theorem dX5_readNumber_91 : decode cX5_readNumber 91 = .ok (.aload_n 0, 1) := by decide +kernel
theorem dX5_readNumber_92 : decode cX5_readNumber 92 = .ok (.dup, 1) := by decide +kernel
theorem dX5_readNumber_93 : decode cX5_readNumber 93 = .ok (.getfield 17, 3) := by decide +kernel
theorem dX5_readNumber_96 : decode cX5_readNumber 96 = .ok (.iload_n 3, 1) := by decide +kernel
theorem dX5_readNumber_97 : decode cX5_readNumber 97 = .ok (.iadd, 1) := by decide +kernel
theorem dX5_readNumber_98 : decode cX5_readNumber 98 = .ok (.putfield 17, 3) := by decide +kernel
theorem dX5_readNumber_101 : decode cX5_readNumber 101 = .ok (.iload 4, 2) := by decide +kernel
theorem dX5_readNumber_103 : decode cX5_readNumber 103 = .ok (.ireturn, 1) := by decide +kernel
theorem dX5_passed_0 : decode cX5_passed 0 = .ok (.aload_n 0, 1) := by decide +kernel
theorem dX5_passed_1 : decode cX5_passed 1 = .ok (.invokevirtual 50, 3) := by decide +kernel
theorem dX5_passed_4 : decode cX5_passed 4 = .ok (.iload_n 1, 1) := by decide +kernel
theorem dX5_passed_5 : decode cX5_passed 5 = .ok (.if_icmp .eq 9, 3) := by decide +kernel
theorem dX5_passed_8 : decode cX5_passed 8 = .ok (.aload_n 0, 1) := by decide +kernel
theorem dX5_passed_9 : decode cX5_passed 9 = .ok (.iconst 1, 1) := by decide +kernel
theorem dX5_passed_10 : decode cX5_passed 10 = .ok (.invokevirtual 33, 3) := by decide +kernel
theorem dX5_passed_13 : decode cX5_passed 13 = .ok (.ireturn, 1) := by decide +kernel
theorem dX5_passed_14 : decode cX5_passed 14 = .ok (.aload_n 0, 1) := by decide +kernel
theorem dX5_passed_15 : decode cX5_passed 15 = .ok (.dup, 1) := by decide +kernel
theorem dX5_passed_16 : decode cX5_passed 16 = .ok (.getfield 17, 3) := by decide +kernel
theorem dX5_passed_19 : decode cX5_passed 19 = .ok (.iconst 1, 1) := by decide +kernel
theorem dX5_passed_20 : decode cX5_passed 20 = .ok (.iadd, 1) := by decide +kernel
theorem dX5_passed_21 : decode cX5_passed 21 = .ok (.putfield 17, 3) := by decide +kernel
theorem dX5_passed_24 : decode cX5_passed 24 = .ok (.iconst 1, 1) := by decide +kernel
theorem dX5_passed_25 : decode cX5_passed 25 = .ok (.ireturn, 1) := by decide +kernel
theorem dX5_refuse_0 : decode cX5_refuse 0 = .ok (.aload_n 0, 1) := by decide +kernel
theorem dX5_refuse_1 : decode cX5_refuse 1 = .ok (.iload_n 1, 1) := by decide +kernel
theorem dX5_refuse_2 : decode cX5_refuse 2 = .ok (.putfield 20, 3) := by decide +kernel
theorem dX5_refuse_5 : decode cX5_refuse 5 = .ok (.iconst 0, 1) := by decide +kernel
theorem dX5_refuse_6 : decode cX5_refuse 6 = .ok (.ireturn, 1) := by decide +kernel
theorem dX5_here_0 : decode cX5_here 0 = .ok (.aload_n 0, 1) := by decide +kernel
theorem dX5_here_1 : decode cX5_here 1 = .ok (.aload_n 0, 1) := by decide +kernel
theorem dX5_here_2 : decode cX5_here 2 = .ok (.getfield 17, 3) := by decide +kernel
theorem dX5_here_5 : decode cX5_here 5 = .ok (.invokevirtual 68, 3) := by decide +kernel
theorem dX5_here_8 : decode cX5_here 8 = .ok (.ireturn, 1) := by decide +kernel
theorem dX5_byteAt_0 : decode cX5_byteAt 0 = .ok (.iload_n 1, 1) := by decide +kernel
theorem dX5_byteAt_1 : decode cX5_byteAt 1 = .ok (.ifCond .lt 20, 3) := by decide +kernel
theorem dX5_byteAt_4 : decode cX5_byteAt 4 = .ok (.iload_n 1, 1) := by decide +kernel
theorem dX5_byteAt_5 : decode cX5_byteAt 5 = .ok (.aload_n 0, 1) := by decide +kernel
theorem dX5_byteAt_6 : decode cX5_byteAt 6 = .ok (.getfield 13, 3) := by decide +kernel
theorem dX5_byteAt_9 : decode cX5_byteAt 9 = .ok (.if_icmp .ge 12, 3) := by decide +kernel
theorem dX5_byteAt_12 : decode cX5_byteAt 12 = .ok (.aload_n 0, 1) := by decide +kernel
theorem dX5_byteAt_13 : decode cX5_byteAt 13 = .ok (.getfield 9, 3) := by decide +kernel
theorem dX5_byteAt_16 : decode cX5_byteAt 16 = .ok (.iload_n 1, 1) := by decide +kernel
theorem dX5_byteAt_17 : decode cX5_byteAt 17 = .ok (.iaload, 1) := by decide +kernel
theorem dX5_byteAt_18 : decode cX5_byteAt 18 = .ok (.goto 4, 3) := by decide +kernel
theorem dX5_byteAt_21 : decode cX5_byteAt 21 = .ok (.iconst (-1), 1) := by decide +kernel
theorem dX5_byteAt_22 : decode cX5_byteAt 22 = .ok (.ireturn, 1) := by decide +kernel
theorem dX5_isFigure_0 : decode cX5_isFigure 0 = .ok (.iload_n 0, 1) := by decide +kernel
theorem dX5_isFigure_1 : decode cX5_isFigure 1 = .ok (.bipush 48, 2) := by decide +kernel
theorem dX5_isFigure_3 : decode cX5_isFigure 3 = .ok (.if_icmp .lt 13, 3) := by decide +kernel
theorem dX5_isFigure_6 : decode cX5_isFigure 6 = .ok (.iload_n 0, 1) := by decide +kernel
theorem dX5_isFigure_7 : decode cX5_isFigure 7 = .ok (.bipush 57, 2) := by decide +kernel
theorem dX5_isFigure_9 : decode cX5_isFigure 9 = .ok (.if_icmp .gt 7, 3) := by decide +kernel
theorem dX5_isFigure_12 : decode cX5_isFigure 12 = .ok (.iconst 1, 1) := by decide +kernel
theorem dX5_isFigure_13 : decode cX5_isFigure 13 = .ok (.goto 4, 3) := by decide +kernel
theorem dX5_isFigure_16 : decode cX5_isFigure 16 = .ok (.iconst 0, 1) := by decide +kernel
theorem dX5_isFigure_17 : decode cX5_isFigure 17 = .ok (.ireturn, 1) := by decide +kernel
