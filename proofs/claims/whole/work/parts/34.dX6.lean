theorem dX6_init_0 : decode cX6_init 0 = .ok (.aload_n 0, 1) := by decide +kernel
theorem dX6_init_1 : decode cX6_init 1 = .ok (.invokespecial 1, 3) := by decide +kernel
theorem dX6_init_4 : decode cX6_init 4 = .ok (.aload_n 0, 1) := by decide +kernel
theorem dX6_init_5 : decode cX6_init 5 = .ok (.bipush 8, 2) := by decide +kernel
theorem dX6_init_7 : decode cX6_init 7 = .ok (.newarray .int, 2) := by decide +kernel
theorem dX6_init_9 : decode cX6_init 9 = .ok (.putfield 9, 3) := by decide +kernel
theorem dX6_init_12 : decode cX6_init 12 = .ok (.aload_n 0, 1) := by decide +kernel
theorem dX6_init_13 : decode cX6_init 13 = .ok (.bipush 8, 2) := by decide +kernel
theorem dX6_init_15 : decode cX6_init 15 = .ok (.newarray .int, 2) := by decide +kernel
theorem dX6_init_17 : decode cX6_init 17 = .ok (.putfield 13, 3) := by decide +kernel
theorem dX6_init_20 : decode cX6_init 20 = .ok (.aload_n 0, 1) := by decide +kernel
theorem dX6_init_21 : decode cX6_init 21 = .ok (.sipush 320, 3) := by decide +kernel
theorem dX6_init_24 : decode cX6_init 24 = .ok (.newarray .int, 2) := by decide +kernel
theorem dX6_init_26 : decode cX6_init 26 = .ok (.putfield 16, 3) := by decide +kernel
theorem dX6_init_29 : decode cX6_init 29 = .ok (.iconst 0, 1) := by decide +kernel
theorem dX6_init_30 : decode cX6_init 30 = .ok (.istore_n 1, 1) := by decide +kernel
theorem dX6_init_31 : decode cX6_init 31 = .ok (.iload_n 1, 1) := by decide +kernel
theorem dX6_init_32 : decode cX6_init 32 = .ok (.bipush 8, 2) := by decide +kernel
theorem dX6_init_34 : decode cX6_init 34 = .ok (.if_icmp .ge 16, 3) := by decide +kernel
theorem dX6_init_37 : decode cX6_init 37 = .ok (.aload_n 0, 1) := by decide +kernel
theorem dX6_init_38 : decode cX6_init 38 = .ok (.getfield 9, 3) := by decide +kernel
theorem dX6_init_41 : decode cX6_init 41 = .ok (.iload_n 1, 1) := by decide +kernel
theorem dX6_init_42 : decode cX6_init 42 = .ok (.iconst (-1), 1) := by decide +kernel
theorem dX6_init_43 : decode cX6_init 43 = .ok (.iastore, 1) := by decide +kernel
theorem dX6_init_44 : decode cX6_init 44 = .ok (.iinc 1 1, 3) := by decide +kernel
theorem dX6_init_47 : decode cX6_init 47 = .ok (.goto (-16), 3) := by decide +kernel
theorem dX6_init_50 : decode cX6_init 50 = .ok (.return_, 1) := by decide +kernel
theorem dX6_isRow_0 : decode cX6_isRow 0 = .ok (.iload_n 0, 1) := by decide +kernel
theorem dX6_isRow_1 : decode cX6_isRow 1 = .ok (.ifCond .lt 13, 3) := by decide +kernel
theorem dX6_isRow_4 : decode cX6_isRow 4 = .ok (.iload_n 0, 1) := by decide +kernel
theorem dX6_isRow_5 : decode cX6_isRow 5 = .ok (.bipush 8, 2) := by decide +kernel
theorem dX6_isRow_7 : decode cX6_isRow 7 = .ok (.if_icmp .ge 7, 3) := by decide +kernel
theorem dX6_isRow_10 : decode cX6_isRow 10 = .ok (.iconst 1, 1) := by decide +kernel
theorem dX6_isRow_11 : decode cX6_isRow 11 = .ok (.goto 4, 3) := by decide +kernel
theorem dX6_isRow_14 : decode cX6_isRow 14 = .ok (.iconst 0, 1) := by decide +kernel
theorem dX6_isRow_15 : decode cX6_isRow 15 = .ok (.ireturn, 1) := by decide +kernel
theorem dX6_isLane_0 : decode cX6_isLane 0 = .ok (.iload_n 0, 1) := by decide +kernel
theorem dX6_isLane_1 : decode cX6_isLane 1 = .ok (.ifCond .lt 12, 3) := by decide +kernel
theorem dX6_isLane_4 : decode cX6_isLane 4 = .ok (.iload_n 0, 1) := by decide +kernel
theorem dX6_isLane_5 : decode cX6_isLane 5 = .ok (.iconst 2, 1) := by decide +kernel
theorem dX6_isLane_6 : decode cX6_isLane 6 = .ok (.if_icmp .gt 7, 3) := by decide +kernel
theorem dX6_isLane_9 : decode cX6_isLane 9 = .ok (.iconst 1, 1) := by decide +kernel
theorem dX6_isLane_10 : decode cX6_isLane 10 = .ok (.goto 4, 3) := by decide +kernel
theorem dX6_isLane_13 : decode cX6_isLane 13 = .ok (.iconst 0, 1) := by decide +kernel
theorem dX6_isLane_14 : decode cX6_isLane 14 = .ok (.ireturn, 1) := by decide +kernel
theorem dX6_isMissing_0 : decode cX6_isMissing 0 = .ok (.aload_n 0, 1) := by decide +kernel
theorem dX6_isMissing_1 : decode cX6_isMissing 1 = .ok (.getfield 9, 3) := by decide +kernel
theorem dX6_isMissing_4 : decode cX6_isMissing 4 = .ok (.iload_n 1, 1) := by decide +kernel
theorem dX6_isMissing_5 : decode cX6_isMissing 5 = .ok (.iaload, 1) := by decide +kernel
theorem dX6_isMissing_6 : decode cX6_isMissing 6 = .ok (.iconst (-1), 1) := by decide +kernel
theorem dX6_isMissing_7 : decode cX6_isMissing 7 = .ok (.if_icmp .ne 7, 3) := by decide +kernel
theorem dX6_isMissing_10 : decode cX6_isMissing 10 = .ok (.iconst 1, 1) := by decide +kernel
theorem dX6_isMissing_11 : decode cX6_isMissing 11 = .ok (.goto 4, 3) := by decide +kernel
theorem dX6_isMissing_14 : decode cX6_isMissing 14 = .ok (.iconst 0, 1) := by decide +kernel
theorem dX6_isMissing_15 : decode cX6_isMissing 15 = .ok (.ireturn, 1) := by decide +kernel
theorem dX6_laneOf_0 : decode cX6_laneOf 0 = .ok (.aload_n 0, 1) := by decide +kernel
theorem dX6_laneOf_1 : decode cX6_laneOf 1 = .ok (.getfield 9, 3) := by decide +kernel
theorem dX6_laneOf_4 : decode cX6_laneOf 4 = .ok (.iload_n 1, 1) := by decide +kernel
theorem dX6_laneOf_5 : decode cX6_laneOf 5 = .ok (.iaload, 1) := by decide +kernel
theorem dX6_laneOf_6 : decode cX6_laneOf 6 = .ok (.ireturn, 1) := by decide +kernel
theorem dX6_hasPlaces_0 : decode cX6_hasPlaces 0 = .ok (.iload_n 2, 1) := by decide +kernel
theorem dX6_hasPlaces_1 : decode cX6_hasPlaces 1 = .ok (.ifCond .lt 23, 3) := by decide +kernel
theorem dX6_hasPlaces_4 : decode cX6_hasPlaces 4 = .ok (.iload_n 3, 1) := by decide +kernel
theorem dX6_hasPlaces_5 : decode cX6_hasPlaces 5 = .ok (.ifCond .lt 19, 3) := by decide +kernel
theorem dX6_hasPlaces_8 : decode cX6_hasPlaces 8 = .ok (.iload_n 2, 1) := by decide +kernel
theorem dX6_hasPlaces_9 : decode cX6_hasPlaces 9 = .ok (.aload_n 0, 1) := by decide +kernel
theorem dX6_hasPlaces_10 : decode cX6_hasPlaces 10 = .ok (.getfield 13, 3) := by decide +kernel
theorem dX6_hasPlaces_13 : decode cX6_hasPlaces 13 = .ok (.iload_n 1, 1) := by decide +kernel
theorem dX6_hasPlaces_14 : decode cX6_hasPlaces 14 = .ok (.iaload, 1) := by decide +kernel
theorem dX6_hasPlaces_15 : decode cX6_hasPlaces 15 = .ok (.iload_n 3, 1) := by decide +kernel
theorem dX6_hasPlaces_16 : decode cX6_hasPlaces 16 = .ok (.isub, 1) := by decide +kernel
theorem dX6_hasPlaces_17 : decode cX6_hasPlaces 17 = .ok (.if_icmp .gt 7, 3) := by decide +kernel
theorem dX6_hasPlaces_20 : decode cX6_hasPlaces 20 = .ok (.iconst 1, 1) := by decide +kernel
theorem dX6_hasPlaces_21 : decode cX6_hasPlaces 21 = .ok (.goto 4, 3) := by decide +kernel
theorem dX6_hasPlaces_24 : decode cX6_hasPlaces 24 = .ok (.iconst 0, 1) := by decide +kernel
theorem dX6_hasPlaces_25 : decode cX6_hasPlaces 25 = .ok (.ireturn, 1) := by decide +kernel
theorem dX6_make_0 : decode cX6_make 0 = .ok (.aload_n 0, 1) := by decide +kernel
theorem dX6_make_1 : decode cX6_make 1 = .ok (.getfield 9, 3) := by decide +kernel
theorem dX6_make_4 : decode cX6_make 4 = .ok (.iload_n 1, 1) := by decide +kernel
theorem dX6_make_5 : decode cX6_make 5 = .ok (.iload_n 2, 1) := by decide +kernel
theorem dX6_make_6 : decode cX6_make 6 = .ok (.iastore, 1) := by decide +kernel
theorem dX6_make_7 : decode cX6_make 7 = .ok (.aload_n 0, 1) := by decide +kernel
theorem dX6_make_8 : decode cX6_make 8 = .ok (.getfield 13, 3) := by decide +kernel
theorem dX6_make_11 : decode cX6_make 11 = .ok (.iload_n 1, 1) := by decide +kernel
theorem dX6_make_12 : decode cX6_make 12 = .ok (.iload_n 3, 1) := by decide +kernel
theorem dX6_make_13 : decode cX6_make 13 = .ok (.iastore, 1) := by decide +kernel
theorem dX6_make_14 : decode cX6_make 14 = .ok (.iconst 0, 1) := by decide +kernel
theorem dX6_make_15 : decode cX6_make 15 = .ok (.istore 4, 2) := by decide +kernel
theorem dX6_make_17 : decode cX6_make 17 = .ok (.iload 4, 2) := by decide +kernel
theorem dX6_make_19 : decode cX6_make 19 = .ok (.iload_n 3, 1) := by decide +kernel
theorem dX6_make_20 : decode cX6_make 20 = .ok (.if_icmp .ge 22, 3) := by decide +kernel
theorem dX6_make_23 : decode cX6_make 23 = .ok (.aload_n 0, 1) := by decide +kernel
theorem dX6_make_24 : decode cX6_make 24 = .ok (.getfield 16, 3) := by decide +kernel
theorem dX6_make_27 : decode cX6_make 27 = .ok (.iload_n 1, 1) := by decide +kernel
theorem dX6_make_28 : decode cX6_make 28 = .ok (.bipush 40, 2) := by decide +kernel
theorem dX6_make_30 : decode cX6_make 30 = .ok (.imul, 1) := by decide +kernel
theorem dX6_make_31 : decode cX6_make 31 = .ok (.iload 4, 2) := by decide +kernel
theorem dX6_make_33 : decode cX6_make 33 = .ok (.iadd, 1) := by decide +kernel
theorem dX6_make_34 : decode cX6_make 34 = .ok (.iconst 0, 1) := by decide +kernel
theorem dX6_make_35 : decode cX6_make 35 = .ok (.iastore, 1) := by decide +kernel
theorem dX6_make_36 : decode cX6_make 36 = .ok (.iinc 4 1, 3) := by decide +kernel
theorem dX6_make_39 : decode cX6_make 39 = .ok (.goto (-22), 3) := by decide +kernel
theorem dX6_make_42 : decode cX6_make 42 = .ok (.return_, 1) := by decide +kernel
theorem dX6_put_0 : decode cX6_put 0 = .ok (.iload_n 3, 1) := by decide +kernel
theorem dX6_put_1 : decode cX6_put 1 = .ok (.aload_n 0, 1) := by decide +kernel
theorem dX6_put_2 : decode cX6_put 2 = .ok (.getfield 9, 3) := by decide +kernel
theorem dX6_put_5 : decode cX6_put 5 = .ok (.iload_n 1, 1) := by decide +kernel
theorem dX6_put_6 : decode cX6_put 6 = .ok (.iaload, 1) := by decide +kernel
theorem dX6_put_7 : decode cX6_put 7 = .ok (.invokestatic 19, 3) := by decide +kernel
theorem dX6_put_10 : decode cX6_put 10 = .ok (.istore 4, 2) := by decide +kernel
theorem dX6_put_12 : decode cX6_put 12 = .ok (.aload_n 0, 1) := by decide +kernel
theorem dX6_put_13 : decode cX6_put 13 = .ok (.getfield 16, 3) := by decide +kernel
theorem dX6_put_16 : decode cX6_put 16 = .ok (.iload_n 1, 1) := by decide +kernel
theorem dX6_put_17 : decode cX6_put 17 = .ok (.bipush 40, 2) := by decide +kernel
theorem dX6_put_19 : decode cX6_put 19 = .ok (.imul, 1) := by decide +kernel
theorem dX6_put_20 : decode cX6_put 20 = .ok (.iload_n 2, 1) := by decide +kernel
theorem dX6_put_21 : decode cX6_put 21 = .ok (.iadd, 1) := by decide +kernel
theorem dX6_put_22 : decode cX6_put 22 = .ok (.iload 4, 2) := by decide +kernel
theorem dX6_put_24 : decode cX6_put 24 = .ok (.iastore, 1) := by decide +kernel
theorem dX6_put_25 : decode cX6_put 25 = .ok (.iload 4, 2) := by decide +kernel
theorem dX6_put_27 : decode cX6_put 27 = .ok (.ireturn, 1) := by decide +kernel
theorem dX6_itemAt_0 : decode cX6_itemAt 0 = .ok (.aload_n 0, 1) := by decide +kernel
theorem dX6_itemAt_1 : decode cX6_itemAt 1 = .ok (.getfield 16, 3) := by decide +kernel
theorem dX6_itemAt_4 : decode cX6_itemAt 4 = .ok (.iload_n 1, 1) := by decide +kernel
theorem dX6_itemAt_5 : decode cX6_itemAt 5 = .ok (.bipush 40, 2) := by decide +kernel
theorem dX6_itemAt_7 : decode cX6_itemAt 7 = .ok (.imul, 1) := by decide +kernel
theorem dX6_itemAt_8 : decode cX6_itemAt 8 = .ok (.iload_n 2, 1) := by decide +kernel
theorem dX6_itemAt_9 : decode cX6_itemAt 9 = .ok (.iadd, 1) := by decide +kernel
theorem dX6_itemAt_10 : decode cX6_itemAt 10 = .ok (.iaload, 1) := by decide +kernel
theorem dX6_itemAt_11 : decode cX6_itemAt 11 = .ok (.ireturn, 1) := by decide +kernel
theorem dX6_move_0 : decode cX6_move 0 = .ok (.aload_n 0, 1) := by decide +kernel
theorem dX6_move_1 : decode cX6_move 1 = .ok (.getfield 16, 3) := by decide +kernel
theorem dX6_move_4 : decode cX6_move 4 = .ok (.iload_n 1, 1) := by decide +kernel
theorem dX6_move_5 : decode cX6_move 5 = .ok (.bipush 40, 2) := by decide +kernel
theorem dX6_move_7 : decode cX6_move 7 = .ok (.imul, 1) := by decide +kernel
theorem dX6_move_8 : decode cX6_move 8 = .ok (.iload_n 2, 1) := by decide +kernel
theorem dX6_move_9 : decode cX6_move 9 = .ok (.iadd, 1) := by decide +kernel
theorem dX6_move_10 : decode cX6_move 10 = .ok (.aload_n 0, 1) := by decide +kernel
theorem dX6_move_11 : decode cX6_move 11 = .ok (.getfield 16, 3) := by decide +kernel
theorem dX6_move_14 : decode cX6_move 14 = .ok (.iload_n 3, 1) := by decide +kernel
theorem dX6_move_15 : decode cX6_move 15 = .ok (.bipush 40, 2) := by decide +kernel
theorem dX6_move_17 : decode cX6_move 17 = .ok (.imul, 1) := by decide +kernel
theorem dX6_move_18 : decode cX6_move 18 = .ok (.iload 4, 2) := by decide +kernel
theorem dX6_move_20 : decode cX6_move 20 = .ok (.iadd, 1) := by decide +kernel
theorem dX6_move_21 : decode cX6_move 21 = .ok (.iload 5, 2) := by decide +kernel
theorem dX6_move_23 : decode cX6_move 23 = .ok (.invokestatic 23, 3) := by decide +kernel
theorem dX6_move_26 : decode cX6_move 26 = .ok (.return_, 1) := by decide +kernel
theorem dX6_remove_0 : decode cX6_remove 0 = .ok (.aload_n 0, 1) := by decide +kernel
theorem dX6_remove_1 : decode cX6_remove 1 = .ok (.getfield 13, 3) := by decide +kernel
theorem dX6_remove_4 : decode cX6_remove 4 = .ok (.iload_n 1, 1) := by decide +kernel
theorem dX6_remove_5 : decode cX6_remove 5 = .ok (.iaload, 1) := by decide +kernel
theorem dX6_remove_6 : decode cX6_remove 6 = .ok (.istore_n 2, 1) := by decide +kernel
theorem dX6_remove_7 : decode cX6_remove 7 = .ok (.aload_n 0, 1) := by decide +kernel
theorem dX6_remove_8 : decode cX6_remove 8 = .ok (.getfield 9, 3) := by decide +kernel
theorem dX6_remove_11 : decode cX6_remove 11 = .ok (.iload_n 1, 1) := by decide +kernel
theorem dX6_remove_12 : decode cX6_remove 12 = .ok (.iconst (-1), 1) := by decide +kernel
theorem dX6_remove_13 : decode cX6_remove 13 = .ok (.iastore, 1) := by decide +kernel
theorem dX6_remove_14 : decode cX6_remove 14 = .ok (.aload_n 0, 1) := by decide +kernel
theorem dX6_remove_15 : decode cX6_remove 15 = .ok (.getfield 13, 3) := by decide +kernel
theorem dX6_remove_18 : decode cX6_remove 18 = .ok (.iload_n 1, 1) := by decide +kernel
theorem dX6_remove_19 : decode cX6_remove 19 = .ok (.iconst 0, 1) := by decide +kernel
theorem dX6_remove_20 : decode cX6_remove 20 = .ok (.iastore, 1) := by decide +kernel
theorem dX6_remove_21 : decode cX6_remove 21 = .ok (.iload_n 2, 1) := by decide +kernel
theorem dX6_remove_22 : decode cX6_remove 22 = .ok (.ireturn, 1) := by decide +kernel
theorem dX6_present_0 : decode cX6_present 0 = .ok (.iconst 0, 1) := by decide +kernel
theorem dX6_present_1 : decode cX6_present 1 = .ok (.istore_n 1, 1) := by decide +kernel
theorem dX6_present_2 : decode cX6_present 2 = .ok (.iconst 0, 1) := by decide +kernel
theorem dX6_present_3 : decode cX6_present 3 = .ok (.istore_n 2, 1) := by decide +kernel
theorem dX6_present_4 : decode cX6_present 4 = .ok (.iload_n 2, 1) := by decide +kernel
theorem dX6_present_5 : decode cX6_present 5 = .ok (.bipush 8, 2) := by decide +kernel
theorem dX6_present_7 : decode cX6_present 7 = .ok (.if_icmp .ge 27, 3) := by decide +kernel
theorem dX6_present_10 : decode cX6_present 10 = .ok (.iload_n 1, 1) := by decide +kernel
theorem dX6_present_11 : decode cX6_present 11 = .ok (.aload_n 0, 1) := by decide +kernel
theorem dX6_present_12 : decode cX6_present 12 = .ok (.getfield 9, 3) := by decide +kernel
theorem dX6_present_15 : decode cX6_present 15 = .ok (.iload_n 2, 1) := by decide +kernel
theorem dX6_present_16 : decode cX6_present 16 = .ok (.iaload, 1) := by decide +kernel
theorem dX6_present_17 : decode cX6_present 17 = .ok (.iconst (-1), 1) := by decide +kernel
theorem dX6_present_18 : decode cX6_present 18 = .ok (.if_icmp .ne 7, 3) := by decide +kernel
theorem dX6_present_21 : decode cX6_present 21 = .ok (.iconst 0, 1) := by decide +kernel
theorem dX6_present_22 : decode cX6_present 22 = .ok (.goto 4, 3) := by decide +kernel
theorem dX6_present_25 : decode cX6_present 25 = .ok (.iconst 1, 1) := by decide +kernel
theorem dX6_present_26 : decode cX6_present 26 = .ok (.iadd, 1) := by decide +kernel
theorem dX6_present_27 : decode cX6_present 27 = .ok (.istore_n 1, 1) := by decide +kernel
theorem dX6_present_28 : decode cX6_present 28 = .ok (.iinc 2 1, 3) := by decide +kernel
theorem dX6_present_31 : decode cX6_present 31 = .ok (.goto (-27), 3) := by decide +kernel
theorem dX6_present_34 : decode cX6_present 34 = .ok (.iload_n 1, 1) := by decide +kernel
theorem dX6_present_35 : decode cX6_present 35 = .ok (.ireturn, 1) := by decide +kernel
theorem dX6_cutToLane_0 : decode cX6_cutToLane 0 = .ok (.iload_n 1, 1) := by decide +kernel
theorem dX6_cutToLane_1 : decode cX6_cutToLane 1 = .ok (.lookupswitch 33 #[(0, 27), (1, 30)], 27) := by decide +kernel
theorem dX6_cutToLane_28 : decode cX6_cutToLane 28 = .ok (.iload_n 0, 1) := by decide +kernel
theorem dX6_cutToLane_29 : decode cX6_cutToLane 29 = .ok (.i2b, 1) := by decide +kernel
theorem dX6_cutToLane_30 : decode cX6_cutToLane 30 = .ok (.ireturn, 1) := by decide +kernel
theorem dX6_cutToLane_31 : decode cX6_cutToLane 31 = .ok (.iload_n 0, 1) := by decide +kernel
theorem dX6_cutToLane_32 : decode cX6_cutToLane 32 = .ok (.i2s, 1) := by decide +kernel
theorem dX6_cutToLane_33 : decode cX6_cutToLane 33 = .ok (.ireturn, 1) := by decide +kernel
theorem dX6_cutToLane_34 : decode cX6_cutToLane 34 = .ok (.iload_n 0, 1) := by decide +kernel
theorem dX6_cutToLane_35 : decode cX6_cutToLane 35 = .ok (.ireturn, 1) := by decide +kernel
