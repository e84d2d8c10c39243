theorem dX2_takeBack_75 : decode cX2_takeBack 75 = .ok (.aload_n 0, 1) := by decide +kernel
theorem dX2_takeBack_76 : decode cX2_takeBack 76 = .ok (.getfield 11, 3) := by decide +kernel
theorem dX2_takeBack_79 : decode cX2_takeBack 79 = .ok (.iload_n 2, 1) := by decide +kernel
theorem dX2_takeBack_80 : decode cX2_takeBack 80 = .ok (.bipush 8, 2) := by decide +kernel
theorem dX2_takeBack_82 : decode cX2_takeBack 82 = .ok (.iadd, 1) := by decide +kernel
theorem dX2_takeBack_83 : decode cX2_takeBack 83 = .ok (.aload_n 1, 1) := by decide +kernel
theorem dX2_takeBack_84 : decode cX2_takeBack 84 = .ok (.getfield 37, 3) := by decide +kernel
theorem dX2_takeBack_87 : decode cX2_takeBack 87 = .ok (.iconst 0, 1) := by decide +kernel
theorem dX2_takeBack_88 : decode cX2_takeBack 88 = .ok (.iconst 5, 1) := by decide +kernel
theorem dX2_takeBack_89 : decode cX2_takeBack 89 = .ok (.invokestatic 31, 3) := by decide +kernel
theorem dX2_takeBack_92 : decode cX2_takeBack 92 = .ok (.return_, 1) := by decide +kernel
theorem dX3_init_0 : decode cX3_init 0 = .ok (.aload_n 0, 1) := by decide +kernel
theorem dX3_init_1 : decode cX3_init 1 = .ok (.invokespecial 1, 3) := by decide +kernel
theorem dX3_init_4 : decode cX3_init 4 = .ok (.aload_n 0, 1) := by decide +kernel
theorem dX3_init_5 : decode cX3_init 5 = .ok (.sipush 320, 3) := by decide +kernel
theorem dX3_init_8 : decode cX3_init 8 = .ok (.newarray .int, 2) := by decide +kernel
theorem dX3_init_10 : decode cX3_init 10 = .ok (.putfield 9, 3) := by decide +kernel
theorem dX3_init_13 : decode cX3_init 13 = .ok (.aload_n 0, 1) := by decide +kernel
theorem dX3_init_14 : decode cX3_init 14 = .ok (.bipush 8, 2) := by decide +kernel
theorem dX3_init_16 : decode cX3_init 16 = .ok (.newarray .int, 2) := by decide +kernel
theorem dX3_init_18 : decode cX3_init 18 = .ok (.putfield 13, 3) := by decide +kernel
theorem dX3_init_21 : decode cX3_init 21 = .ok (.aload_n 0, 1) := by decide +kernel
theorem dX3_init_22 : decode cX3_init 22 = .ok (.bipush 8, 2) := by decide +kernel
theorem dX3_init_24 : decode cX3_init 24 = .ok (.newarray .int, 2) := by decide +kernel
theorem dX3_init_26 : decode cX3_init 26 = .ok (.putfield 16, 3) := by decide +kernel
theorem dX3_init_29 : decode cX3_init 29 = .ok (.iconst 0, 1) := by decide +kernel
theorem dX3_init_30 : decode cX3_init 30 = .ok (.istore_n 1, 1) := by decide +kernel
theorem dX3_init_31 : decode cX3_init 31 = .ok (.iload_n 1, 1) := by decide +kernel
theorem dX3_init_32 : decode cX3_init 32 = .ok (.bipush 8, 2) := by decide +kernel
theorem dX3_init_34 : decode cX3_init 34 = .ok (.if_icmp .ge 16, 3) := by decide +kernel
theorem dX3_init_37 : decode cX3_init 37 = .ok (.aload_n 0, 1) := by decide +kernel
theorem dX3_init_38 : decode cX3_init 38 = .ok (.getfield 16, 3) := by decide +kernel
theorem dX3_init_41 : decode cX3_init 41 = .ok (.iload_n 1, 1) := by decide +kernel
theorem dX3_init_42 : decode cX3_init 42 = .ok (.iconst (-1), 1) := by decide +kernel
theorem dX3_init_43 : decode cX3_init 43 = .ok (.iastore, 1) := by decide +kernel
theorem dX3_init_44 : decode cX3_init 44 = .ok (.iinc 1 1, 3) := by decide +kernel
theorem dX3_init_47 : decode cX3_init 47 = .ok (.goto (-16), 3) := by decide +kernel
theorem dX3_init_50 : decode cX3_init 50 = .ok (.return_, 1) := by decide +kernel
theorem dX3_isRow_0 : decode cX3_isRow 0 = .ok (.iload_n 0, 1) := by decide +kernel
theorem dX3_isRow_1 : decode cX3_isRow 1 = .ok (.ifCond .lt 13, 3) := by decide +kernel
theorem dX3_isRow_4 : decode cX3_isRow 4 = .ok (.iload_n 0, 1) := by decide +kernel
theorem dX3_isRow_5 : decode cX3_isRow 5 = .ok (.bipush 8, 2) := by decide +kernel
theorem dX3_isRow_7 : decode cX3_isRow 7 = .ok (.if_icmp .ge 7, 3) := by decide +kernel
theorem dX3_isRow_10 : decode cX3_isRow 10 = .ok (.iconst 1, 1) := by decide +kernel
theorem dX3_isRow_11 : decode cX3_isRow 11 = .ok (.goto 4, 3) := by decide +kernel
theorem dX3_isRow_14 : decode cX3_isRow 14 = .ok (.iconst 0, 1) := by decide +kernel
theorem dX3_isRow_15 : decode cX3_isRow 15 = .ok (.ireturn, 1) := by decide +kernel
theorem dX3_isMissing_0 : decode cX3_isMissing 0 = .ok (.aload_n 0, 1) := by decide +kernel
theorem dX3_isMissing_1 : decode cX3_isMissing 1 = .ok (.getfield 16, 3) := by decide +kernel
theorem dX3_isMissing_4 : decode cX3_isMissing 4 = .ok (.iload_n 1, 1) := by decide +kernel
theorem dX3_isMissing_5 : decode cX3_isMissing 5 = .ok (.iaload, 1) := by decide +kernel
theorem dX3_isMissing_6 : decode cX3_isMissing 6 = .ok (.iconst (-1), 1) := by decide +kernel
theorem dX3_isMissing_7 : decode cX3_isMissing 7 = .ok (.if_icmp .ne 7, 3) := by decide +kernel
theorem dX3_isMissing_10 : decode cX3_isMissing 10 = .ok (.iconst 1, 1) := by decide +kernel
theorem dX3_isMissing_11 : decode cX3_isMissing 11 = .ok (.goto 4, 3) := by decide +kernel
theorem dX3_isMissing_14 : decode cX3_isMissing 14 = .ok (.iconst 0, 1) := by decide +kernel
theorem dX3_isMissing_15 : decode cX3_isMissing 15 = .ok (.ireturn, 1) := by decide +kernel
theorem dX3_sameLane_0 : decode cX3_sameLane 0 = .ok (.aload_n 0, 1) := by decide +kernel
theorem dX3_sameLane_1 : decode cX3_sameLane 1 = .ok (.getfield 13, 3) := by decide +kernel
theorem dX3_sameLane_4 : decode cX3_sameLane 4 = .ok (.iload_n 1, 1) := by decide +kernel
theorem dX3_sameLane_5 : decode cX3_sameLane 5 = .ok (.iaload, 1) := by decide +kernel
theorem dX3_sameLane_6 : decode cX3_sameLane 6 = .ok (.aload_n 0, 1) := by decide +kernel
theorem dX3_sameLane_7 : decode cX3_sameLane 7 = .ok (.getfield 13, 3) := by decide +kernel
theorem dX3_sameLane_10 : decode cX3_sameLane 10 = .ok (.iload_n 2, 1) := by decide +kernel
theorem dX3_sameLane_11 : decode cX3_sameLane 11 = .ok (.iaload, 1) := by decide +kernel
theorem dX3_sameLane_12 : decode cX3_sameLane 12 = .ok (.if_icmp .ne 7, 3) := by decide +kernel
theorem dX3_sameLane_15 : decode cX3_sameLane 15 = .ok (.iconst 1, 1) := by decide +kernel
theorem dX3_sameLane_16 : decode cX3_sameLane 16 = .ok (.goto 4, 3) := by decide +kernel
theorem dX3_sameLane_19 : decode cX3_sameLane 19 = .ok (.iconst 0, 1) := by decide +kernel
theorem dX3_sameLane_20 : decode cX3_sameLane 20 = .ok (.ireturn, 1) := by decide +kernel
theorem dX3_hasPlaces_0 : decode cX3_hasPlaces 0 = .ok (.iload_n 2, 1) := by decide +kernel
theorem dX3_hasPlaces_1 : decode cX3_hasPlaces 1 = .ok (.ifCond .lt 33, 3) := by decide +kernel
theorem dX3_hasPlaces_4 : decode cX3_hasPlaces 4 = .ok (.iload_n 3, 1) := by decide +kernel
theorem dX3_hasPlaces_5 : decode cX3_hasPlaces 5 = .ok (.ifCond .lt 29, 3) := by decide +kernel
theorem dX3_hasPlaces_8 : decode cX3_hasPlaces 8 = .ok (.iload_n 2, 1) := by decide +kernel
theorem dX3_hasPlaces_9 : decode cX3_hasPlaces 9 = .ok (.aload_n 0, 1) := by decide +kernel
theorem dX3_hasPlaces_10 : decode cX3_hasPlaces 10 = .ok (.getfield 16, 3) := by decide +kernel
theorem dX3_hasPlaces_13 : decode cX3_hasPlaces 13 = .ok (.iload_n 1, 1) := by decide +kernel
theorem dX3_hasPlaces_14 : decode cX3_hasPlaces 14 = .ok (.iaload, 1) := by decide +kernel
theorem dX3_hasPlaces_15 : decode cX3_hasPlaces 15 = .ok (.if_icmp .gt 19, 3) := by decide +kernel
theorem dX3_hasPlaces_18 : decode cX3_hasPlaces 18 = .ok (.iload_n 3, 1) := by decide +kernel
theorem dX3_hasPlaces_19 : decode cX3_hasPlaces 19 = .ok (.aload_n 0, 1) := by decide +kernel
theorem dX3_hasPlaces_20 : decode cX3_hasPlaces 20 = .ok (.getfield 16, 3) := by decide +kernel
theorem dX3_hasPlaces_23 : decode cX3_hasPlaces 23 = .ok (.iload_n 1, 1) := by decide +kernel
theorem dX3_hasPlaces_24 : decode cX3_hasPlaces 24 = .ok (.iaload, 1) := by decide +kernel
theorem dX3_hasPlaces_25 : decode cX3_hasPlaces 25 = .ok (.iload_n 2, 1) := by decide +kernel
theorem dX3_hasPlaces_26 : decode cX3_hasPlaces 26 = .ok (.isub, 1) := by decide +kernel
theorem dX3_hasPlaces_27 : decode cX3_hasPlaces 27 = .ok (.if_icmp .gt 7, 3) := by decide +kernel
theorem dX3_hasPlaces_30 : decode cX3_hasPlaces 30 = .ok (.iconst 1, 1) := by decide +kernel
theorem dX3_hasPlaces_31 : decode cX3_hasPlaces 31 = .ok (.goto 4, 3) := by decide +kernel
theorem dX3_hasPlaces_34 : decode cX3_hasPlaces 34 = .ok (.iconst 0, 1) := by decide +kernel
theorem dX3_hasPlaces_35 : decode cX3_hasPlaces 35 = .ok (.ireturn, 1) := by decide +kernel
theorem dX3_lay_0 : decode cX3_lay 0 = .ok (.aload_n 0, 1) := by decide +kernel
theorem dX3_lay_1 : decode cX3_lay 1 = .ok (.getfield 13, 3) := by decide +kernel
theorem dX3_lay_4 : decode cX3_lay 4 = .ok (.iload_n 1, 1) := by decide +kernel
theorem dX3_lay_5 : decode cX3_lay 5 = .ok (.iload_n 2, 1) := by decide +kernel
theorem dX3_lay_6 : decode cX3_lay 6 = .ok (.iastore, 1) := by decide +kernel
theorem dX3_lay_7 : decode cX3_lay 7 = .ok (.aload_n 0, 1) := by decide +kernel
theorem dX3_lay_8 : decode cX3_lay 8 = .ok (.getfield 16, 3) := by decide +kernel
theorem dX3_lay_11 : decode cX3_lay 11 = .ok (.iload_n 1, 1) := by decide +kernel
theorem dX3_lay_12 : decode cX3_lay 12 = .ok (.iload_n 3, 1) := by decide +kernel
theorem dX3_lay_13 : decode cX3_lay 13 = .ok (.iastore, 1) := by decide +kernel
theorem dX3_lay_14 : decode cX3_lay 14 = .ok (.iconst 0, 1) := by decide +kernel
theorem dX3_lay_15 : decode cX3_lay 15 = .ok (.istore 4, 2) := by decide +kernel
theorem dX3_lay_17 : decode cX3_lay 17 = .ok (.iload 4, 2) := by decide +kernel
theorem dX3_lay_19 : decode cX3_lay 19 = .ok (.iload_n 3, 1) := by decide +kernel
theorem dX3_lay_20 : decode cX3_lay 20 = .ok (.if_icmp .ge 22, 3) := by decide +kernel
theorem dX3_lay_23 : decode cX3_lay 23 = .ok (.aload_n 0, 1) := by decide +kernel
theorem dX3_lay_24 : decode cX3_lay 24 = .ok (.getfield 9, 3) := by decide +kernel
theorem dX3_lay_27 : decode cX3_lay 27 = .ok (.iload_n 1, 1) := by decide +kernel
theorem dX3_lay_28 : decode cX3_lay 28 = .ok (.bipush 40, 2) := by decide +kernel
theorem dX3_lay_30 : decode cX3_lay 30 = .ok (.imul, 1) := by decide +kernel
theorem dX3_lay_31 : decode cX3_lay 31 = .ok (.iload 4, 2) := by decide +kernel
theorem dX3_lay_33 : decode cX3_lay 33 = .ok (.iadd, 1) := by decide +kernel
theorem dX3_lay_34 : decode cX3_lay 34 = .ok (.iconst 0, 1) := by decide +kernel
theorem dX3_lay_35 : decode cX3_lay 35 = .ok (.iastore, 1) := by decide +kernel
theorem dX3_lay_36 : decode cX3_lay 36 = .ok (.iinc 4 1, 3) := by decide +kernel
theorem dX3_lay_39 : decode cX3_lay 39 = .ok (.goto (-22), 3) := by decide +kernel
theorem dX3_lay_42 : decode cX3_lay 42 = .ok (.return_, 1) := by decide +kernel
theorem dX3_put_0 : decode cX3_put 0 = .ok (.aload_n 0, 1) := by decide +kernel
theorem dX3_put_1 : decode cX3_put 1 = .ok (.getfield 13, 3) := by decide +kernel
theorem dX3_put_4 : decode cX3_put 4 = .ok (.iload_n 1, 1) := by decide +kernel
theorem dX3_put_5 : decode cX3_put 5 = .ok (.iaload, 1) := by decide +kernel
theorem dX3_put_6 : decode cX3_put 6 = .ok (.iload_n 3, 1) := by decide +kernel
theorem dX3_put_7 : decode cX3_put 7 = .ok (.invokestatic 19, 3) := by decide +kernel
theorem dX3_put_10 : decode cX3_put 10 = .ok (.istore 4, 2) := by decide +kernel
theorem dX3_put_12 : decode cX3_put 12 = .ok (.aload_n 0, 1) := by decide +kernel
theorem dX3_put_13 : decode cX3_put 13 = .ok (.getfield 9, 3) := by decide +kernel
theorem dX3_put_16 : decode cX3_put 16 = .ok (.iload_n 1, 1) := by decide +kernel
theorem dX3_put_17 : decode cX3_put 17 = .ok (.bipush 40, 2) := by decide +kernel
theorem dX3_put_19 : decode cX3_put 19 = .ok (.imul, 1) := by decide +kernel
theorem dX3_put_20 : decode cX3_put 20 = .ok (.iload_n 2, 1) := by decide +kernel
theorem dX3_put_21 : decode cX3_put 21 = .ok (.iadd, 1) := by decide +kernel
theorem dX3_put_22 : decode cX3_put 22 = .ok (.iload 4, 2) := by decide +kernel
theorem dX3_put_24 : decode cX3_put 24 = .ok (.iastore, 1) := by decide +kernel
theorem dX3_put_25 : decode cX3_put 25 = .ok (.iload 4, 2) := by decide +kernel
theorem dX3_put_27 : decode cX3_put 27 = .ok (.ireturn, 1) := by decide +kernel
theorem dX3_item_0 : decode cX3_item 0 = .ok (.aload_n 0, 1) := by decide +kernel
theorem dX3_item_1 : decode cX3_item 1 = .ok (.getfield 9, 3) := by decide +kernel
theorem dX3_item_4 : decode cX3_item 4 = .ok (.iload_n 1, 1) := by decide +kernel
theorem dX3_item_5 : decode cX3_item 5 = .ok (.bipush 40, 2) := by decide +kernel
theorem dX3_item_7 : decode cX3_item 7 = .ok (.imul, 1) := by decide +kernel
theorem dX3_item_8 : decode cX3_item 8 = .ok (.iload_n 2, 1) := by decide +kernel
theorem dX3_item_9 : decode cX3_item 9 = .ok (.iadd, 1) := by decide +kernel
theorem dX3_item_10 : decode cX3_item 10 = .ok (.iaload, 1) := by decide +kernel
theorem dX3_item_11 : decode cX3_item 11 = .ok (.ireturn, 1) := by decide +kernel
theorem dX3_carry_0 : decode cX3_carry 0 = .ok (.aload_n 0, 1) := by decide +kernel
theorem dX3_carry_1 : decode cX3_carry 1 = .ok (.getfield 9, 3) := by decide +kernel
theorem dX3_carry_4 : decode cX3_carry 4 = .ok (.iload_n 1, 1) := by decide +kernel
theorem dX3_carry_5 : decode cX3_carry 5 = .ok (.bipush 40, 2) := by decide +kernel
theorem dX3_carry_7 : decode cX3_carry 7 = .ok (.imul, 1) := by decide +kernel
theorem dX3_carry_8 : decode cX3_carry 8 = .ok (.iload_n 2, 1) := by decide +kernel
theorem dX3_carry_9 : decode cX3_carry 9 = .ok (.iadd, 1) := by decide +kernel
theorem dX3_carry_10 : decode cX3_carry 10 = .ok (.aload_n 0, 1) := by decide +kernel
theorem dX3_carry_11 : decode cX3_carry 11 = .ok (.getfield 9, 3) := by decide +kernel
theorem dX3_carry_14 : decode cX3_carry 14 = .ok (.iload_n 3, 1) := by decide +kernel
theorem dX3_carry_15 : decode cX3_carry 15 = .ok (.bipush 40, 2) := by decide +kernel
theorem dX3_carry_17 : decode cX3_carry 17 = .ok (.imul, 1) := by decide +kernel
theorem dX3_carry_18 : decode cX3_carry 18 = .ok (.iload 4, 2) := by decide +kernel
theorem dX3_carry_20 : decode cX3_carry 20 = .ok (.iadd, 1) := by decide +kernel
theorem dX3_carry_21 : decode cX3_carry 21 = .ok (.iload 5, 2) := by decide +kernel
theorem dX3_carry_23 : decode cX3_carry 23 = .ok (.invokestatic 23, 3) := by decide +kernel
theorem dX3_carry_26 : decode cX3_carry 26 = .ok (.return_, 1) := by decide +kernel
theorem dX3_takeAway_0 : decode cX3_takeAway 0 = .ok (.aload_n 0, 1) := by decide +kernel
theorem dX3_takeAway_1 : decode cX3_takeAway 1 = .ok (.getfield 16, 3) := by decide +kernel
theorem dX3_takeAway_4 : decode cX3_takeAway 4 = .ok (.iload_n 1, 1) := by decide +kernel
theorem dX3_takeAway_5 : decode cX3_takeAway 5 = .ok (.iaload, 1) := by decide +kernel
theorem dX3_takeAway_6 : decode cX3_takeAway 6 = .ok (.istore_n 2, 1) := by decide +kernel
theorem dX3_takeAway_7 : decode cX3_takeAway 7 = .ok (.aload_n 0, 1) := by decide +kernel
theorem dX3_takeAway_8 : decode cX3_takeAway 8 = .ok (.getfield 16, 3) := by decide +kernel
theorem dX3_takeAway_11 : decode cX3_takeAway 11 = .ok (.iload_n 1, 1) := by decide +kernel
theorem dX3_takeAway_12 : decode cX3_takeAway 12 = .ok (.iconst (-1), 1) := by decide +kernel
theorem dX3_takeAway_13 : decode cX3_takeAway 13 = .ok (.iastore, 1) := by decide +kernel
theorem dX3_takeAway_14 : decode cX3_takeAway 14 = .ok (.iload_n 2, 1) := by decide +kernel
theorem dX3_takeAway_15 : decode cX3_takeAway 15 = .ok (.ireturn, 1) := by decide +kernel
theorem dX3_howMany_0 : decode cX3_howMany 0 = .ok (.iconst 0, 1) := by decide +kernel
theorem dX3_howMany_1 : decode cX3_howMany 1 = .ok (.istore_n 1, 1) := by decide +kernel
theorem dX3_howMany_2 : decode cX3_howMany 2 = .ok (.iconst 0, 1) := by decide +kernel
theorem dX3_howMany_3 : decode cX3_howMany 3 = .ok (.istore_n 2, 1) := by decide +kernel
theorem dX3_howMany_4 : decode cX3_howMany 4 = .ok (.iload_n 2, 1) := by decide +kernel
theorem dX3_howMany_5 : decode cX3_howMany 5 = .ok (.bipush 8, 2) := by decide +kernel
theorem dX3_howMany_7 : decode cX3_howMany 7 = .ok (.if_icmp .ge 22, 3) := by decide +kernel
theorem dX3_howMany_10 : decode cX3_howMany 10 = .ok (.aload_n 0, 1) := by decide +kernel
theorem dX3_howMany_11 : decode cX3_howMany 11 = .ok (.getfield 16, 3) := by decide +kernel
theorem dX3_howMany_14 : decode cX3_howMany 14 = .ok (.iload_n 2, 1) := by decide +kernel
theorem dX3_howMany_15 : decode cX3_howMany 15 = .ok (.iaload, 1) := by decide +kernel
theorem dX3_howMany_16 : decode cX3_howMany 16 = .ok (.iconst (-1), 1) := by decide +kernel
theorem dX3_howMany_17 : decode cX3_howMany 17 = .ok (.if_icmp .eq 6, 3) := by decide +kernel
theorem dX3_howMany_20 : decode cX3_howMany 20 = .ok (.iinc 1 1, 3) := by decide +kernel
theorem dX3_howMany_23 : decode cX3_howMany 23 = .ok (.iinc 2 1, 3) := by decide +kernel
theorem dX3_howMany_26 : decode cX3_howMany 26 = .ok (.goto (-22), 3) := by decide +kernel
theorem dX3_howMany_29 : decode cX3_howMany 29 = .ok (.iload_n 1, 1) := by decide +kernel
theorem dX3_howMany_30 : decode cX3_howMany 30 = .ok (.ireturn, 1) := by decide +kernel
theorem dX3_lowestBits_0 : decode cX3_lowestBits 0 = .ok (.iload_n 0, 1) := by decide +kernel
theorem dX3_lowestBits_1 : decode cX3_lowestBits 1 = .ok (.lookupswitch 33 #[(0, 27), (1, 30)], 27) := by decide +kernel
theorem dX3_lowestBits_28 : decode cX3_lowestBits 28 = .ok (.iload_n 1, 1) := by decide +kernel
theorem dX3_lowestBits_29 : decode cX3_lowestBits 29 = .ok (.i2b, 1) := by decide +kernel
theorem dX3_lowestBits_30 : decode cX3_lowestBits 30 = .ok (.ireturn, 1) := by decide +kernel
theorem dX3_lowestBits_31 : decode cX3_lowestBits 31 = .ok (.iload_n 1, 1) := by decide +kernel
theorem dX3_lowestBits_32 : decode cX3_lowestBits 32 = .ok (.i2s, 1) := by decide +kernel
theorem dX3_lowestBits_33 : decode cX3_lowestBits 33 = .ok (.ireturn, 1) := by decide +kernel
theorem dX3_lowestBits_34 : decode cX3_lowestBits 34 = .ok (.iload_n 1, 1) := by decide +kernel
theorem dX3_lowestBits_35 : decode cX3_lowestBits 35 = .ok (.ireturn, 1) := by decide +kernel
theorem dX4_init_0 : decode cX4_init 0 = .ok (.aload_n 0, 1) := by decide +kernel
theorem dX4_init_1 : decode cX4_init 1 = .ok (.invokespecial 3, 3) := by decide +kernel
theorem dX4_init_4 : decode cX4_init 4 = .ok (.aload_n 0, 1) := by decide +kernel
theorem dX4_init_5 : decode cX4_init 5 = .ok (.new 9, 3) := by decide +kernel
theorem dX4_init_8 : decode cX4_init 8 = .ok (.dup, 1) := by decide +kernel
theorem dX4_init_9 : decode cX4_init 9 = .ok (.invokespecial 11, 3) := by decide +kernel
theorem dX4_init_12 : decode cX4_init 12 = .ok (.putfield 12, 3) := by decide +kernel
theorem dX4_init_15 : decode cX4_init 15 = .ok (.return_, 1) := by decide +kernel
theorem dX4_told_0 : decode cX4_told 0 = .ok (.iload_n 1, 1) := by decide +kernel
theorem dX4_told_1 : decode cX4_told 1 = .ok (.ifCond .ne 10, 3) := by decide +kernel
theorem dX4_told_4 : decode cX4_told 4 = .ok (.aload_n 0, 1) := by decide +kernel
theorem dX4_told_5 : decode cX4_told 5 = .ok (.getfield 18, 3) := by decide +kernel
theorem dX4_told_8 : decode cX4_told 8 = .ok (.goto 7, 3) := by decide +kernel
theorem dX4_told_11 : decode cX4_told 11 = .ok (.aload_n 0, 1) := by decide +kernel
theorem dX4_told_12 : decode cX4_told 12 = .ok (.getfield 22, 3) := by decide +kernel
theorem dX4_told_15 : decode cX4_told 15 = .ok (.ireturn, 1) := by decide +kernel
theorem dX4_tell_0 : decode cX4_tell 0 = .ok (.aload_n 0, 1) := by decide +kernel
theorem dX4_tell_1 : decode cX4_tell 1 = .ok (.iload_n 1, 1) := by decide +kernel
theorem dX4_tell_2 : decode cX4_tell 2 = .ok (.putfield 18, 3) := by decide +kernel
theorem dX4_tell_5 : decode cX4_tell 5 = .ok (.aload_n 0, 1) := by decide +kernel
theorem dX4_tell_6 : decode cX4_tell 6 = .ok (.iload_n 2, 1) := by decide +kernel
theorem dX4_tell_7 : decode cX4_tell 7 = .ok (.putfield 22, 3) := by decide +kernel
theorem dX4_tell_10 : decode cX4_tell 10 = .ok (.return_, 1) := by decide +kernel
theorem dX4_look_0 : decode cX4_look 0 = .ok (.aload_n 0, 1) := by decide +kernel
theorem dX4_look_1 : decode cX4_look 1 = .ok (.getfield 12, 3) := by decide +kernel
theorem dX4_look_4 : decode cX4_look 4 = .ok (.aload_n 1, 1) := by decide +kernel
theorem dX4_look_5 : decode cX4_look 5 = .ok (.invokevirtual 25, 3) := by decide +kernel
theorem dX4_look_8 : decode cX4_look 8 = .ok (.aload_n 0, 1) := by decide +kernel
theorem dX4_look_9 : decode cX4_look 9 = .ok (.getfield 12, 3) := by decide +kernel
theorem dX4_look_12 : decode cX4_look 12 = .ok (.iload_n 2, 1) := by decide +kernel
theorem dX4_look_13 : decode cX4_look 13 = .ok (.invokevirtual 29, 3) := by decide +kernel
theorem dX4_look_16 : decode cX4_look 16 = .ok (.return_, 1) := by decide +kernel
theorem dX4_findShiver_0 : decode cX4_findShiver 0 = .ok (.aload_n 0, 1) := by decide +kernel
theorem dX4_findShiver_1 : decode cX4_findShiver 1 = .ok (.ldc 33, 2) := by decide +kernel
theorem dX4_findShiver_3 : decode cX4_findShiver 3 = .ok (.ldc 33, 2) := by decide +kernel
theorem dX4_findShiver_5 : decode cX4_findShiver 5 = .ok (.invokevirtual 34, 3) := by decide +kernel
theorem dX4_findShiver_8 : decode cX4_findShiver 8 = .ok (.aload_n 0, 1) := by decide +kernel
theorem dX4_findShiver_9 : decode cX4_findShiver 9 = .ok (.getfield 12, 3) := by decide +kernel
theorem dX4_findShiver_12 : decode cX4_findShiver 12 = .ok (.aload_n 1, 1) := by decide +kernel
theorem dX4_findShiver_13 : decode cX4_findShiver 13 = .ok (.invokevirtual 25, 3) := by decide +kernel
theorem dX4_findShiver_16 : decode cX4_findShiver 16 = .ok (.iconst 0, 1) := by decide +kernel
theorem dX4_findShiver_17 : decode cX4_findShiver 17 = .ok (.istore_n 3, 1) := by decide +kernel
theorem dX4_findShiver_18 : decode cX4_findShiver 18 = .ok (.iload_n 3, 1) := by decide +kernel
theorem dX4_findShiver_19 : decode cX4_findShiver 19 = .ok (.iload_n 2, 1) := by decide +kernel
theorem dX4_findShiver_20 : decode cX4_findShiver 20 = .ok (.if_icmp .gt 39, 3) := by decide +kernel
theorem dX4_findShiver_23 : decode cX4_findShiver 23 = .ok (.aload_n 0, 1) := by decide +kernel
theorem dX4_findShiver_24 : decode cX4_findShiver 24 = .ok (.getfield 12, 3) := by decide +kernel
theorem dX4_findShiver_27 : decode cX4_findShiver 27 = .ok (.invokevirtual 38, 3) := by decide +kernel
theorem dX4_findShiver_30 : decode cX4_findShiver 30 = .ok (.istore 4, 2) := by decide +kernel
theorem dX4_findShiver_32 : decode cX4_findShiver 32 = .ok (.iload 4, 2) := by decide +kernel
theorem dX4_findShiver_34 : decode cX4_findShiver 34 = .ok (.iconst (-1), 1) := by decide +kernel
theorem dX4_findShiver_35 : decode cX4_findShiver 35 = .ok (.if_icmp .eq 11, 3) := by decide +kernel
theorem dX4_findShiver_38 : decode cX4_findShiver 38 = .ok (.aload_n 0, 1) := by decide +kernel
theorem dX4_findShiver_39 : decode cX4_findShiver 39 = .ok (.iload_n 3, 1) := by decide +kernel
theorem dX4_findShiver_40 : decode cX4_findShiver 40 = .ok (.iload 4, 2) := by decide +kernel
theorem dX4_findShiver_42 : decode cX4_findShiver 42 = .ok (.invokevirtual 34, 3) := by decide +kernel
theorem dX4_findShiver_45 : decode cX4_findShiver 45 = .ok (.return_, 1) := by decide +kernel
theorem dX4_findShiver_46 : decode cX4_findShiver 46 = .ok (.aload_n 0, 1) := by decide +kernel
theorem dX4_findShiver_47 : decode cX4_findShiver 47 = .ok (.getfield 12, 3) := by decide +kernel
theorem dX4_findShiver_50 : decode cX4_findShiver 50 = .ok (.invokevirtual 42, 3) := by decide +kernel
theorem dX4_findShiver_53 : decode cX4_findShiver 53 = .ok (.iinc 3 1, 3) := by decide +kernel
theorem dX4_findShiver_56 : decode cX4_findShiver 56 = .ok (.goto (-38), 3) := by decide +kernel
theorem dX4_findShiver_59 : decode cX4_findShiver 59 = .ok (.return_, 1) := by decide +kernel
theorem dX4_findDoorsToMove_0 : decode cX4_findDoorsToMove 0 = .ok (.aload_n 0, 1) := by decide +kernel
theorem dX4_findDoorsToMove_1 : decode cX4_findDoorsToMove 1 = .ok (.ldc 33, 2) := by decide +kernel
theorem dX4_findDoorsToMove_3 : decode cX4_findDoorsToMove 3 = .ok (.ldc 33, 2) := by decide +kernel
theorem dX4_findDoorsToMove_5 : decode cX4_findDoorsToMove 5 = .ok (.invokevirtual 34, 3) := by decide +kernel
theorem dX4_findDoorsToMove_8 : decode cX4_findDoorsToMove 8 = .ok (.iconst 1, 1) := by decide +kernel
theorem dX4_findDoorsToMove_9 : decode cX4_findDoorsToMove 9 = .ok (.aload_n 1, 1) := by decide +kernel
theorem dX4_findDoorsToMove_10 : decode cX4_findDoorsToMove 10 = .ok (.getfield 45, 3) := by decide +kernel
theorem dX4_findDoorsToMove_13 : decode cX4_findDoorsToMove 13 = .ok (.ishl, 1) := by decide +kernel
theorem dX4_findDoorsToMove_14 : decode cX4_findDoorsToMove 14 = .ok (.istore 6, 2) := by decide +kernel
theorem dX4_findDoorsToMove_16 : decode cX4_findDoorsToMove 16 = .ok (.iconst 0, 1) := by decide +kernel
theorem dX4_findDoorsToMove_17 : decode cX4_findDoorsToMove 17 = .ok (.istore 7, 2) := by decide +kernel
theorem dX4_findDoorsToMove_19 : decode cX4_findDoorsToMove 19 = .ok (.iload 7, 2) := by decide +kernel
theorem dX4_findDoorsToMove_21 : decode cX4_findDoorsToMove 21 = .ok (.aload_n 1, 1) := by decide +kernel
theorem dX4_findDoorsToMove_22 : decode cX4_findDoorsToMove 22 = .ok (.getfield 45, 3) := by decide +kernel
theorem dX4_findDoorsToMove_25 : decode cX4_findDoorsToMove 25 = .ok (.if_icmp .gt 67, 3) := by decide +kernel
theorem dX4_findDoorsToMove_28 : decode cX4_findDoorsToMove 28 = .ok (.iconst 0, 1) := by decide +kernel
theorem dX4_findDoorsToMove_29 : decode cX4_findDoorsToMove 29 = .ok (.istore 8, 2) := by decide +kernel
theorem dX4_findDoorsToMove_31 : decode cX4_findDoorsToMove 31 = .ok (.iload 8, 2) := by decide +kernel
theorem dX4_findDoorsToMove_33 : decode cX4_findDoorsToMove 33 = .ok (.iload 6, 2) := by decide +kernel
theorem dX4_findDoorsToMove_35 : decode cX4_findDoorsToMove 35 = .ok (.if_icmp .ge 51, 3) := by decide +kernel
theorem dX4_findDoorsToMove_38 : decode cX4_findDoorsToMove 38 = .ok (.iload 8, 2) := by decide +kernel
theorem dX4_findDoorsToMove_40 : decode cX4_findDoorsToMove 40 = .ok (.invokestatic 48, 3) := by decide +kernel
theorem dX4_findDoorsToMove_43 : decode cX4_findDoorsToMove 43 = .ok (.iload 7, 2) := by decide +kernel
theorem dX4_findDoorsToMove_45 : decode cX4_findDoorsToMove 45 = .ok (.if_icmp .eq 6, 3) := by decide +kernel
theorem dX4_findDoorsToMove_48 : decode cX4_findDoorsToMove 48 = .ok (.goto 32, 3) := by decide +kernel
theorem dX4_findDoorsToMove_51 : decode cX4_findDoorsToMove 51 = .ok (.aload_n 0, 1) := by decide +kernel
theorem dX4_findDoorsToMove_52 : decode cX4_findDoorsToMove 52 = .ok (.aload_n 1, 1) := by decide +kernel
theorem dX4_findDoorsToMove_53 : decode cX4_findDoorsToMove 53 = .ok (.iload 8, 2) := by decide +kernel
theorem dX4_findDoorsToMove_55 : decode cX4_findDoorsToMove 55 = .ok (.iload 5, 2) := by decide +kernel
theorem dX4_findDoorsToMove_57 : decode cX4_findDoorsToMove 57 = .ok (.invokevirtual 54, 3) := by decide +kernel
theorem dX4_findDoorsToMove_60 : decode cX4_findDoorsToMove 60 = .ok (.aload_n 0, 1) := by decide +kernel
theorem dX4_findDoorsToMove_61 : decode cX4_findDoorsToMove 61 = .ok (.iload_n 2, 1) := by decide +kernel
theorem dX4_findDoorsToMove_62 : decode cX4_findDoorsToMove 62 = .ok (.iload_n 3, 1) := by decide +kernel
theorem dX4_findDoorsToMove_63 : decode cX4_findDoorsToMove 63 = .ok (.iload 4, 2) := by decide +kernel
theorem dX4_findDoorsToMove_65 : decode cX4_findDoorsToMove 65 = .ok (.invokevirtual 58, 3) := by decide +kernel
theorem dX4_findDoorsToMove_68 : decode cX4_findDoorsToMove 68 = .ok (.ifCond .eq 12, 3) := by decide +kernel
theorem dX4_findDoorsToMove_71 : decode cX4_findDoorsToMove 71 = .ok (.aload_n 0, 1) := by decide +kernel
theorem dX4_findDoorsToMove_72 : decode cX4_findDoorsToMove 72 = .ok (.iload 7, 2) := by decide +kernel
theorem dX4_findDoorsToMove_74 : decode cX4_findDoorsToMove 74 = .ok (.iload 8, 2) := by decide +kernel
theorem dX4_findDoorsToMove_76 : decode cX4_findDoorsToMove 76 = .ok (.invokevirtual 34, 3) := by decide +kernel
theorem dX4_findDoorsToMove_79 : decode cX4_findDoorsToMove 79 = .ok (.return_, 1) := by decide +kernel
theorem dX4_findDoorsToMove_80 : decode cX4_findDoorsToMove 80 = .ok (.iinc 8 1, 3) := by decide +kernel
theorem dX4_findDoorsToMove_83 : decode cX4_findDoorsToMove 83 = .ok (.goto (-52), 3) := by decide +kernel
theorem dX4_findDoorsToMove_86 : decode cX4_findDoorsToMove 86 = .ok (.iinc 7 1, 3) := by decide +kernel
theorem dX4_findDoorsToMove_89 : decode cX4_findDoorsToMove 89 = .ok (.goto (-70), 3) := by decide +kernel
theorem dX4_findDoorsToMove_92 : decode cX4_findDoorsToMove 92 = .ok (.return_, 1) := by decide +kernel
theorem dX4_lookWithMoved_0 : decode cX4_lookWithMoved 0 = .ok (.aload_n 0, 1) := by decide +kernel
theorem dX4_lookWithMoved_1 : decode cX4_lookWithMoved 1 = .ok (.getfield 12, 3) := by decide +kernel
theorem dX4_lookWithMoved_4 : decode cX4_lookWithMoved 4 = .ok (.aload_n 1, 1) := by decide +kernel
theorem dX4_lookWithMoved_5 : decode cX4_lookWithMoved 5 = .ok (.invokevirtual 25, 3) := by decide +kernel
theorem dX4_lookWithMoved_8 : decode cX4_lookWithMoved 8 = .ok (.aload_n 0, 1) := by decide +kernel
theorem dX4_lookWithMoved_9 : decode cX4_lookWithMoved 9 = .ok (.getfield 12, 3) := by decide +kernel
theorem dX4_lookWithMoved_12 : decode cX4_lookWithMoved 12 = .ok (.iload_n 2, 1) := by decide +kernel
theorem dX4_lookWithMoved_13 : decode cX4_lookWithMoved 13 = .ok (.invokevirtual 62, 3) := by decide +kernel
theorem dX4_lookWithMoved_16 : decode cX4_lookWithMoved 16 = .ok (.aload_n 0, 1) := by decide +kernel
theorem dX4_lookWithMoved_17 : decode cX4_lookWithMoved 17 = .ok (.getfield 12, 3) := by decide +kernel
theorem dX4_lookWithMoved_20 : decode cX4_lookWithMoved 20 = .ok (.iload_n 3, 1) := by decide +kernel
theorem dX4_lookWithMoved_21 : decode cX4_lookWithMoved 21 = .ok (.invokevirtual 29, 3) := by decide +kernel
theorem dX4_lookWithMoved_24 : decode cX4_lookWithMoved 24 = .ok (.return_, 1) := by decide +kernel
theorem dX4_isColdAndWarm_0 : decode cX4_isColdAndWarm 0 = .ok (.iconst 0, 1) := by decide +kernel
theorem dX4_isColdAndWarm_1 : decode cX4_isColdAndWarm 1 = .ok (.istore 4, 2) := by decide +kernel
theorem dX4_isColdAndWarm_3 : decode cX4_isColdAndWarm 3 = .ok (.iload 4, 2) := by decide +kernel
theorem dX4_isColdAndWarm_5 : decode cX4_isColdAndWarm 5 = .ok (.aload_n 0, 1) := by decide +kernel
theorem dX4_isColdAndWarm_6 : decode cX4_isColdAndWarm 6 = .ok (.getfield 12, 3) := by decide +kernel
theorem dX4_isColdAndWarm_9 : decode cX4_isColdAndWarm 9 = .ok (.getfield 65, 3) := by decide +kernel
theorem dX4_isColdAndWarm_12 : decode cX4_isColdAndWarm 12 = .ok (.if_icmp .ge 42, 3) := by decide +kernel
theorem dX4_isColdAndWarm_15 : decode cX4_isColdAndWarm 15 = .ok (.aload_n 0, 1) := by decide +kernel
theorem dX4_isColdAndWarm_16 : decode cX4_isColdAndWarm 16 = .ok (.getfield 12, 3) := by decide +kernel
theorem dX4_isColdAndWarm_19 : decode cX4_isColdAndWarm 19 = .ok (.getfield 68, 3) := by decide +kernel
theorem dX4_isColdAndWarm_22 : decode cX4_isColdAndWarm 22 = .ok (.iload 4, 2) := by decide +kernel
theorem dX4_isColdAndWarm_24 : decode cX4_isColdAndWarm 24 = .ok (.iaload, 1) := by decide +kernel
theorem dX4_isColdAndWarm_25 : decode cX4_isColdAndWarm 25 = .ok (.iload_n 3, 1) := by decide +kernel
theorem dX4_isColdAndWarm_26 : decode cX4_isColdAndWarm 26 = .ok (.if_icmp .lt 7, 3) := by decide +kernel
theorem dX4_isColdAndWarm_29 : decode cX4_isColdAndWarm 29 = .ok (.iload_n 2, 1) := by decide +kernel
theorem dX4_isColdAndWarm_30 : decode cX4_isColdAndWarm 30 = .ok (.goto 4, 3) := by decide +kernel
theorem dX4_isColdAndWarm_33 : decode cX4_isColdAndWarm 33 = .ok (.iload_n 1, 1) := by decide +kernel
theorem dX4_isColdAndWarm_34 : decode cX4_isColdAndWarm 34 = .ok (.istore 5, 2) := by decide +kernel
theorem dX4_isColdAndWarm_36 : decode cX4_isColdAndWarm 36 = .ok (.iload 5, 2) := by decide +kernel
theorem dX4_isColdAndWarm_38 : decode cX4_isColdAndWarm 38 = .ok (.iload 4, 2) := by decide +kernel
theorem dX4_isColdAndWarm_40 : decode cX4_isColdAndWarm 40 = .ok (.ishr, 1) := by decide +kernel
theorem dX4_isColdAndWarm_41 : decode cX4_isColdAndWarm 41 = .ok (.iconst 1, 1) := by decide +kernel
theorem dX4_isColdAndWarm_42 : decode cX4_isColdAndWarm 42 = .ok (.iand, 1) := by decide +kernel
theorem dX4_isColdAndWarm_43 : decode cX4_isColdAndWarm 43 = .ok (.ifCond .eq 5, 3) := by decide +kernel
theorem dX4_isColdAndWarm_46 : decode cX4_isColdAndWarm 46 = .ok (.iconst 0, 1) := by decide +kernel
theorem dX4_isColdAndWarm_47 : decode cX4_isColdAndWarm 47 = .ok (.ireturn, 1) := by decide +kernel
theorem dX4_isColdAndWarm_48 : decode cX4_isColdAndWarm 48 = .ok (.iinc 4 1, 3) := by decide +kernel
theorem dX4_isColdAndWarm_51 : decode cX4_isColdAndWarm 51 = .ok (.goto (-48), 3) := by decide +kernel
theorem dX4_isColdAndWarm_54 : decode cX4_isColdAndWarm 54 = .ok (.iconst 1, 1) := by decide +kernel
theorem dX4_isColdAndWarm_55 : decode cX4_isColdAndWarm 55 = .ok (.ireturn, 1) := by decide +kernel
theorem dX4_findSeat_0 : decode cX4_findSeat 0 = .ok (.aload_n 0, 1) := by decide +kernel
theorem dX4_findSeat_1 : decode cX4_findSeat 1 = .ok (.ldc 33, 2) := by decide +kernel
theorem dX4_findSeat_3 : decode cX4_findSeat 3 = .ok (.ldc 33, 2) := by decide +kernel
theorem dX4_findSeat_5 : decode cX4_findSeat 5 = .ok (.invokevirtual 34, 3) := by decide +kernel
theorem dX4_findSeat_8 : decode cX4_findSeat 8 = .ok (.iconst 0, 1) := by decide +kernel
theorem dX4_findSeat_9 : decode cX4_findSeat 9 = .ok (.istore 5, 2) := by decide +kernel
theorem dX4_findSeat_11 : decode cX4_findSeat 11 = .ok (.iload 5, 2) := by decide +kernel
theorem dX4_findSeat_13 : decode cX4_findSeat 13 = .ok (.aload_n 1, 1) := by decide +kernel
theorem dX4_findSeat_14 : decode cX4_findSeat 14 = .ok (.getfield 65, 3) := by decide +kernel
theorem dX4_findSeat_17 : decode cX4_findSeat 17 = .ok (.if_icmp .ge 77, 3) := by decide +kernel
theorem dX4_findSeat_20 : decode cX4_findSeat 20 = .ok (.aload_n 0, 1) := by decide +kernel
theorem dX4_findSeat_21 : decode cX4_findSeat 21 = .ok (.getfield 12, 3) := by decide +kernel
theorem dX4_findSeat_24 : decode cX4_findSeat 24 = .ok (.aload_n 1, 1) := by decide +kernel
theorem dX4_findSeat_25 : decode cX4_findSeat 25 = .ok (.invokevirtual 25, 3) := by decide +kernel
theorem dX4_findSeat_28 : decode cX4_findSeat 28 = .ok (.aload_n 0, 1) := by decide +kernel
theorem dX4_findSeat_29 : decode cX4_findSeat 29 = .ok (.getfield 12, 3) := by decide +kernel
theorem dX4_findSeat_32 : decode cX4_findSeat 32 = .ok (.getfield 72, 3) := by decide +kernel
theorem dX4_findSeat_35 : decode cX4_findSeat 35 = .ok (.iload_n 2, 1) := by decide +kernel
theorem dX4_findSeat_36 : decode cX4_findSeat 36 = .ok (.iload 5, 2) := by decide +kernel
theorem dX4_findSeat_38 : decode cX4_findSeat 38 = .ok (.iastore, 1) := by decide +kernel
theorem dX4_findSeat_39 : decode cX4_findSeat 39 = .ok (.aload_n 0, 1) := by decide +kernel
theorem dX4_findSeat_40 : decode cX4_findSeat 40 = .ok (.getfield 12, 3) := by decide +kernel
theorem dX4_findSeat_43 : decode cX4_findSeat 43 = .ok (.iload 4, 2) := by decide +kernel
theorem dX4_findSeat_45 : decode cX4_findSeat 45 = .ok (.invokevirtual 29, 3) := by decide +kernel
theorem dX4_findSeat_48 : decode cX4_findSeat 48 = .ok (.aload_n 0, 1) := by decide +kernel
theorem dX4_findSeat_49 : decode cX4_findSeat 49 = .ok (.getfield 18, 3) := by decide +kernel
theorem dX4_findSeat_52 : decode cX4_findSeat 52 = .ok (.ldc 33, 2) := by decide +kernel
theorem dX4_findSeat_54 : decode cX4_findSeat 54 = .ok (.if_icmp .eq 19, 3) := by decide +kernel
theorem dX4_findSeat_57 : decode cX4_findSeat 57 = .ok (.aload_n 0, 1) := by decide +kernel
theorem dX4_findSeat_58 : decode cX4_findSeat 58 = .ok (.getfield 12, 3) := by decide +kernel
theorem dX4_findSeat_61 : decode cX4_findSeat 61 = .ok (.getfield 68, 3) := by decide +kernel
theorem dX4_findSeat_64 : decode cX4_findSeat 64 = .ok (.iload_n 3, 1) := by decide +kernel
theorem dX4_findSeat_65 : decode cX4_findSeat 65 = .ok (.iaload, 1) := by decide +kernel
theorem dX4_findSeat_66 : decode cX4_findSeat 66 = .ok (.aload_n 0, 1) := by decide +kernel
theorem dX4_findSeat_67 : decode cX4_findSeat 67 = .ok (.getfield 22, 3) := by decide +kernel
theorem dX4_findSeat_70 : decode cX4_findSeat 70 = .ok (.if_icmp .ge 18, 3) := by decide +kernel
theorem dX4_findSeat_73 : decode cX4_findSeat 73 = .ok (.aload_n 0, 1) := by decide +kernel
theorem dX4_findSeat_74 : decode cX4_findSeat 74 = .ok (.iload 5, 2) := by decide +kernel
theorem dX4_findSeat_76 : decode cX4_findSeat 76 = .ok (.aload_n 0, 1) := by decide +kernel
theorem dX4_findSeat_77 : decode cX4_findSeat 77 = .ok (.getfield 12, 3) := by decide +kernel
theorem dX4_findSeat_80 : decode cX4_findSeat 80 = .ok (.getfield 68, 3) := by decide +kernel
theorem dX4_findSeat_83 : decode cX4_findSeat 83 = .ok (.iload_n 3, 1) := by decide +kernel
theorem dX4_findSeat_84 : decode cX4_findSeat 84 = .ok (.iaload, 1) := by decide +kernel
theorem dX4_findSeat_85 : decode cX4_findSeat 85 = .ok (.invokevirtual 34, 3) := by decide +kernel
theorem dX4_findSeat_88 : decode cX4_findSeat 88 = .ok (.iinc 5 1, 3) := by decide +kernel
theorem dX4_findSeat_91 : decode cX4_findSeat 91 = .ok (.goto (-80), 3) := by decide +kernel
theorem dX4_findSeat_94 : decode cX4_findSeat 94 = .ok (.return_, 1) := by decide +kernel
theorem dX4_findSoonest_0 : decode cX4_findSoonest 0 = .ok (.aload_n 0, 1) := by decide +kernel
theorem dX4_findSoonest_1 : decode cX4_findSoonest 1 = .ok (.getfield 12, 3) := by decide +kernel
theorem dX4_findSoonest_4 : decode cX4_findSoonest 4 = .ok (.aload_n 1, 1) := by decide +kernel
theorem dX4_findSoonest_5 : decode cX4_findSoonest 5 = .ok (.invokevirtual 25, 3) := by decide +kernel
theorem dX4_findSoonest_8 : decode cX4_findSoonest 8 = .ok (.aload_n 0, 1) := by decide +kernel
theorem dX4_findSoonest_9 : decode cX4_findSoonest 9 = .ok (.aload_n 0, 1) := by decide +kernel
theorem dX4_findSoonest_10 : decode cX4_findSoonest 10 = .ok (.iload_n 2, 1) := by decide +kernel
theorem dX4_findSoonest_11 : decode cX4_findSoonest 11 = .ok (.iload_n 3, 1) := by decide +kernel
theorem dX4_findSoonest_12 : decode cX4_findSoonest 12 = .ok (.iload 4, 2) := by decide +kernel
theorem dX4_findSoonest_14 : decode cX4_findSoonest 14 = .ok (.invokevirtual 75, 3) := by decide +kernel
theorem dX4_findSoonest_17 : decode cX4_findSoonest 17 = .ok (.ldc 33, 2) := by decide +kernel
theorem dX4_findSoonest_19 : decode cX4_findSoonest 19 = .ok (.invokevirtual 34, 3) := by decide +kernel
theorem dX4_findSoonest_22 : decode cX4_findSoonest 22 = .ok (.iconst 0, 1) := by decide +kernel
theorem dX4_findSoonest_23 : decode cX4_findSoonest 23 = .ok (.istore 5, 2) := by decide +kernel
theorem dX4_findSoonest_25 : decode cX4_findSoonest 25 = .ok (.iload 5, 2) := by decide +kernel
theorem dX4_findSoonest_27 : decode cX4_findSoonest 27 = .ok (.aload_n 1, 1) := by decide +kernel
theorem dX4_findSoonest_28 : decode cX4_findSoonest 28 = .ok (.getfield 79, 3) := by decide +kernel
theorem dX4_findSoonest_31 : decode cX4_findSoonest 31 = .ok (.if_icmp .ge 100, 3) := by decide +kernel
theorem dX4_findSoonest_34 : decode cX4_findSoonest 34 = .ok (.iconst 0, 1) := by decide +kernel
theorem dX4_findSoonest_35 : decode cX4_findSoonest 35 = .ok (.istore 6, 2) := by decide +kernel
theorem dX4_findSoonest_37 : decode cX4_findSoonest 37 = .ok (.iload 6, 2) := by decide +kernel
theorem dX4_findSoonest_39 : decode cX4_findSoonest 39 = .ok (.aload_n 1, 1) := by decide +kernel
theorem dX4_findSoonest_40 : decode cX4_findSoonest 40 = .ok (.getfield 65, 3) := by decide +kernel
theorem dX4_findSoonest_43 : decode cX4_findSoonest 43 = .ok (.if_icmp .ge 82, 3) := by decide +kernel
theorem dX4_findSoonest_46 : decode cX4_findSoonest 46 = .ok (.aload_n 0, 1) := by decide +kernel
theorem dX4_findSoonest_47 : decode cX4_findSoonest 47 = .ok (.getfield 18, 3) := by decide +kernel
theorem dX4_findSoonest_50 : decode cX4_findSoonest 50 = .ok (.ldc 33, 2) := by decide +kernel
theorem dX4_findSoonest_52 : decode cX4_findSoonest 52 = .ok (.if_icmp .ne 8, 3) := by decide +kernel
theorem dX4_findSoonest_55 : decode cX4_findSoonest 55 = .ok (.iload 4, 2) := by decide +kernel
theorem dX4_findSoonest_57 : decode cX4_findSoonest 57 = .ok (.goto 9, 3) := by decide +kernel
theorem dX4_findSoonest_60 : decode cX4_findSoonest 60 = .ok (.aload_n 0, 1) := by decide +kernel
theorem dX4_findSoonest_61 : decode cX4_findSoonest 61 = .ok (.getfield 18, 3) := by decide +kernel
theorem dX4_findSoonest_64 : decode cX4_findSoonest 64 = .ok (.iconst 1, 1) := by decide +kernel
theorem dX4_findSoonest_65 : decode cX4_findSoonest 65 = .ok (.isub, 1) := by decide +kernel
theorem dX4_findSoonest_66 : decode cX4_findSoonest 66 = .ok (.istore 7, 2) := by decide +kernel
theorem dX4_findSoonest_68 : decode cX4_findSoonest 68 = .ok (.aload_n 0, 1) := by decide +kernel
theorem dX4_findSoonest_69 : decode cX4_findSoonest 69 = .ok (.getfield 12, 3) := by decide +kernel
theorem dX4_findSoonest_72 : decode cX4_findSoonest 72 = .ok (.aload_n 1, 1) := by decide +kernel
theorem dX4_findSoonest_73 : decode cX4_findSoonest 73 = .ok (.invokevirtual 25, 3) := by decide +kernel
theorem dX4_findSoonest_76 : decode cX4_findSoonest 76 = .ok (.aload_n 0, 1) := by decide +kernel
theorem dX4_findSoonest_77 : decode cX4_findSoonest 77 = .ok (.getfield 12, 3) := by decide +kernel
theorem dX4_findSoonest_80 : decode cX4_findSoonest 80 = .ok (.getfield 72, 3) := by decide +kernel
theorem dX4_findSoonest_83 : decode cX4_findSoonest 83 = .ok (.iload 5, 2) := by decide +kernel
theorem dX4_findSoonest_85 : decode cX4_findSoonest 85 = .ok (.iload 6, 2) := by decide +kernel
theorem dX4_findSoonest_87 : decode cX4_findSoonest 87 = .ok (.iastore, 1) := by decide +kernel
theorem dX4_findSoonest_88 : decode cX4_findSoonest 88 = .ok (.aload_n 0, 1) := by decide +kernel
theorem dX4_findSoonest_89 : decode cX4_findSoonest 89 = .ok (.iload_n 2, 1) := by decide +kernel
theorem dX4_findSoonest_90 : decode cX4_findSoonest 90 = .ok (.iload_n 3, 1) := by decide +kernel
theorem dX4_findSoonest_91 : decode cX4_findSoonest 91 = .ok (.iload 7, 2) := by decide +kernel
theorem dX4_findSoonest_93 : decode cX4_findSoonest 93 = .ok (.invokevirtual 75, 3) := by decide +kernel
theorem dX4_findSoonest_96 : decode cX4_findSoonest 96 = .ok (.istore 8, 2) := by decide +kernel
theorem dX4_findSoonest_98 : decode cX4_findSoonest 98 = .ok (.iload 8, 2) := by decide +kernel
theorem dX4_findSoonest_100 : decode cX4_findSoonest 100 = .ok (.ldc 33, 2) := by decide +kernel
theorem dX4_findSoonest_102 : decode cX4_findSoonest 102 = .ok (.if_icmp .eq 17, 3) := by decide +kernel
theorem dX4_findSoonest_105 : decode cX4_findSoonest 105 = .ok (.aload_n 0, 1) := by decide +kernel
theorem dX4_findSoonest_106 : decode cX4_findSoonest 106 = .ok (.iload 8, 2) := by decide +kernel
theorem dX4_findSoonest_108 : decode cX4_findSoonest 108 = .ok (.bipush 10, 2) := by decide +kernel
theorem dX4_findSoonest_110 : decode cX4_findSoonest 110 = .ok (.iload 5, 2) := by decide +kernel
theorem dX4_findSoonest_112 : decode cX4_findSoonest 112 = .ok (.imul, 1) := by decide +kernel
theorem dX4_findSoonest_113 : decode cX4_findSoonest 113 = .ok (.iload 6, 2) := by decide +kernel
theorem dX4_findSoonest_115 : decode cX4_findSoonest 115 = .ok (.iadd, 1) := by decide +kernel
theorem dX4_findSoonest_116 : decode cX4_findSoonest 116 = .ok (.invokevirtual 34, 3) := by decide +kernel
theorem dX4_findSoonest_119 : decode cX4_findSoonest 119 = .ok (.iinc 6 1, 3) := by decide +kernel
theorem dX4_findSoonest_122 : decode cX4_findSoonest 122 = .ok (.goto (-85), 3) := by decide +kernel
theorem dX4_findSoonest_125 : decode cX4_findSoonest 125 = .ok (.iinc 5 1, 3) := by decide +kernel
theorem dX4_findSoonest_128 : decode cX4_findSoonest 128 = .ok (.goto (-103), 3) := by decide +kernel
theorem dX4_findSoonest_131 : decode cX4_findSoonest 131 = .ok (.return_, 1) := by decide +kernel
theorem dX4_hoursUntil_0 : decode cX4_hoursUntil 0 = .ok (.iconst 0, 1) := by decide +kernel
theorem dX4_hoursUntil_1 : decode cX4_hoursUntil 1 = .ok (.istore 4, 2) := by decide +kernel
theorem dX4_hoursUntil_3 : decode cX4_hoursUntil 3 = .ok (.iload 4, 2) := by decide +kernel
theorem dX4_hoursUntil_5 : decode cX4_hoursUntil 5 = .ok (.iload_n 3, 1) := by decide +kernel
theorem dX4_hoursUntil_6 : decode cX4_hoursUntil 6 = .ok (.if_icmp .gt 32, 3) := by decide +kernel
theorem dX4_hoursUntil_9 : decode cX4_hoursUntil 9 = .ok (.aload_n 0, 1) := by decide +kernel
theorem dX4_hoursUntil_10 : decode cX4_hoursUntil 10 = .ok (.getfield 12, 3) := by decide +kernel
theorem dX4_hoursUntil_13 : decode cX4_hoursUntil 13 = .ok (.getfield 68, 3) := by decide +kernel
theorem dX4_hoursUntil_16 : decode cX4_hoursUntil 16 = .ok (.iload_n 1, 1) := by decide +kernel
theorem dX4_hoursUntil_17 : decode cX4_hoursUntil 17 = .ok (.iaload, 1) := by decide +kernel
theorem dX4_hoursUntil_18 : decode cX4_hoursUntil 18 = .ok (.iload_n 2, 1) := by decide +kernel
theorem dX4_hoursUntil_19 : decode cX4_hoursUntil 19 = .ok (.if_icmp .lt 6, 3) := by decide +kernel
theorem dX4_hoursUntil_22 : decode cX4_hoursUntil 22 = .ok (.iload 4, 2) := by decide +kernel
theorem dX4_hoursUntil_24 : decode cX4_hoursUntil 24 = .ok (.ireturn, 1) := by decide +kernel
theorem dX4_hoursUntil_25 : decode cX4_hoursUntil 25 = .ok (.aload_n 0, 1) := by decide +kernel
theorem dX4_hoursUntil_26 : decode cX4_hoursUntil 26 = .ok (.getfield 12, 3) := by decide +kernel
theorem dX4_hoursUntil_29 : decode cX4_hoursUntil 29 = .ok (.invokevirtual 42, 3) := by decide +kernel
theorem dX4_hoursUntil_32 : decode cX4_hoursUntil 32 = .ok (.iinc 4 1, 3) := by decide +kernel
theorem dX4_hoursUntil_35 : decode cX4_hoursUntil 35 = .ok (.goto (-32), 3) := by decide +kernel
theorem dX4_hoursUntil_38 : decode cX4_hoursUntil 38 = .ok (.ldc 33, 2) := by decide +kernel
theorem dX4_hoursUntil_40 : decode cX4_hoursUntil 40 = .ok (.ireturn, 1) := by decide +kernel
theorem dX4_roomsItCameInto_0 : decode cX4_roomsItCameInto 0 = .ok (.iconst 0, 1) := by decide +kernel
theorem dX4_roomsItCameInto_1 : decode cX4_roomsItCameInto 1 = .ok (.istore 6, 2) := by decide +kernel
theorem dX4_roomsItCameInto_3 : decode cX4_roomsItCameInto 3 = .ok (.iconst 0, 1) := by decide +kernel
theorem dX4_roomsItCameInto_4 : decode cX4_roomsItCameInto 4 = .ok (.istore 7, 2) := by decide +kernel
theorem dX4_roomsItCameInto_6 : decode cX4_roomsItCameInto 6 = .ok (.iload 7, 2) := by decide +kernel
theorem dX4_roomsItCameInto_8 : decode cX4_roomsItCameInto 8 = .ok (.aload_n 1, 1) := by decide +kernel
theorem dX4_roomsItCameInto_9 : decode cX4_roomsItCameInto 9 = .ok (.getfield 65, 3) := by decide +kernel
theorem dX4_roomsItCameInto_12 : decode cX4_roomsItCameInto 12 = .ok (.if_icmp .ge 48, 3) := by decide +kernel
theorem dX4_roomsItCameInto_15 : decode cX4_roomsItCameInto 15 = .ok (.aload_n 0, 1) := by decide +kernel
theorem dX4_roomsItCameInto_16 : decode cX4_roomsItCameInto 16 = .ok (.getfield 12, 3) := by decide +kernel
theorem dX4_roomsItCameInto_19 : decode cX4_roomsItCameInto 19 = .ok (.aload_n 1, 1) := by decide +kernel
theorem dX4_roomsItCameInto_20 : decode cX4_roomsItCameInto 20 = .ok (.invokevirtual 25, 3) := by decide +kernel
theorem dX4_roomsItCameInto_23 : decode cX4_roomsItCameInto 23 = .ok (.aload_n 0, 1) := by decide +kernel
theorem dX4_roomsItCameInto_24 : decode cX4_roomsItCameInto 24 = .ok (.getfield 12, 3) := by decide +kernel
theorem dX4_roomsItCameInto_27 : decode cX4_roomsItCameInto 27 = .ok (.iload 7, 2) := by decide +kernel
theorem dX4_roomsItCameInto_29 : decode cX4_roomsItCameInto 29 = .ok (.putfield 82, 3) := by decide +kernel
theorem dX4_roomsItCameInto_32 : decode cX4_roomsItCameInto 32 = .ok (.aload_n 0, 1) := by decide +kernel
theorem dX4_roomsItCameInto_33 : decode cX4_roomsItCameInto 33 = .ok (.aload_n 2, 1) := by decide +kernel
theorem dX4_roomsItCameInto_34 : decode cX4_roomsItCameInto 34 = .ok (.iload_n 3, 1) := by decide +kernel
theorem dX4_roomsItCameInto_35 : decode cX4_roomsItCameInto 35 = .ok (.iload 4, 2) := by decide +kernel
theorem dX4_roomsItCameInto_37 : decode cX4_roomsItCameInto 37 = .ok (.iload 5, 2) := by decide +kernel
theorem dX4_roomsItCameInto_39 : decode cX4_roomsItCameInto 39 = .ok (.invokevirtual 85, 3) := by decide +kernel
theorem dX4_roomsItCameInto_42 : decode cX4_roomsItCameInto 42 = .ok (.ifCond .eq 12, 3) := by decide +kernel
theorem dX4_roomsItCameInto_45 : decode cX4_roomsItCameInto 45 = .ok (.iload 6, 2) := by decide +kernel
theorem dX4_roomsItCameInto_47 : decode cX4_roomsItCameInto 47 = .ok (.iconst 1, 1) := by decide +kernel
theorem dX4_roomsItCameInto_48 : decode cX4_roomsItCameInto 48 = .ok (.iload 7, 2) := by decide +kernel
theorem dX4_roomsItCameInto_50 : decode cX4_roomsItCameInto 50 = .ok (.ishl, 1) := by decide +kernel
theorem dX4_roomsItCameInto_51 : decode cX4_roomsItCameInto 51 = .ok (.ior, 1) := by decide +kernel
theorem dX4_roomsItCameInto_52 : decode cX4_roomsItCameInto 52 = .ok (.istore 6, 2) := by decide +kernel
theorem dX4_roomsItCameInto_54 : decode cX4_roomsItCameInto 54 = .ok (.iinc 7 1, 3) := by decide +kernel
theorem dX4_roomsItCameInto_57 : decode cX4_roomsItCameInto 57 = .ok (.goto (-51), 3) := by decide +kernel
theorem dX4_roomsItCameInto_60 : decode cX4_roomsItCameInto 60 = .ok (.iload 6, 2) := by decide +kernel
theorem dX4_roomsItCameInto_62 : decode cX4_roomsItCameInto 62 = .ok (.ireturn, 1) := by decide +kernel
theorem dX4_kindsItMayBe_0 : decode cX4_kindsItMayBe 0 = .ok (.iconst 0, 1) := by decide +kernel
theorem dX4_kindsItMayBe_1 : decode cX4_kindsItMayBe 1 = .ok (.istore 7, 2) := by decide +kernel
theorem dX4_kindsItMayBe_3 : decode cX4_kindsItMayBe 3 = .ok (.iconst 1, 1) := by decide +kernel
theorem dX4_kindsItMayBe_4 : decode cX4_kindsItMayBe 4 = .ok (.istore 8, 2) := by decide +kernel
theorem dX4_kindsItMayBe_6 : decode cX4_kindsItMayBe 6 = .ok (.iload 8, 2) := by decide +kernel
theorem dX4_kindsItMayBe_8 : decode cX4_kindsItMayBe 8 = .ok (.iconst 5, 1) := by decide +kernel
theorem dX4_kindsItMayBe_9 : decode cX4_kindsItMayBe 9 = .ok (.if_icmp .gt 51, 3) := by decide +kernel
theorem dX4_kindsItMayBe_12 : decode cX4_kindsItMayBe 12 = .ok (.aload_n 0, 1) := by decide +kernel
theorem dX4_kindsItMayBe_13 : decode cX4_kindsItMayBe 13 = .ok (.getfield 12, 3) := by decide +kernel
theorem dX4_kindsItMayBe_16 : decode cX4_kindsItMayBe 16 = .ok (.aload_n 1, 1) := by decide +kernel
theorem dX4_kindsItMayBe_17 : decode cX4_kindsItMayBe 17 = .ok (.invokevirtual 25, 3) := by decide +kernel
theorem dX4_kindsItMayBe_20 : decode cX4_kindsItMayBe 20 = .ok (.aload_n 0, 1) := by decide +kernel
theorem dX4_kindsItMayBe_21 : decode cX4_kindsItMayBe 21 = .ok (.getfield 12, 3) := by decide +kernel
theorem dX4_kindsItMayBe_24 : decode cX4_kindsItMayBe 24 = .ok (.getfield 89, 3) := by decide +kernel
theorem dX4_kindsItMayBe_27 : decode cX4_kindsItMayBe 27 = .ok (.iload_n 2, 1) := by decide +kernel
theorem dX4_kindsItMayBe_28 : decode cX4_kindsItMayBe 28 = .ok (.iload 8, 2) := by decide +kernel
theorem dX4_kindsItMayBe_30 : decode cX4_kindsItMayBe 30 = .ok (.iastore, 1) := by decide +kernel
theorem dX4_kindsItMayBe_31 : decode cX4_kindsItMayBe 31 = .ok (.aload_n 0, 1) := by decide +kernel
theorem dX4_kindsItMayBe_32 : decode cX4_kindsItMayBe 32 = .ok (.aload_n 3, 1) := by decide +kernel
theorem dX4_kindsItMayBe_33 : decode cX4_kindsItMayBe 33 = .ok (.iload 4, 2) := by decide +kernel
theorem dX4_kindsItMayBe_35 : decode cX4_kindsItMayBe 35 = .ok (.iload 5, 2) := by decide +kernel
theorem dX4_kindsItMayBe_37 : decode cX4_kindsItMayBe 37 = .ok (.iload 6, 2) := by decide +kernel
theorem dX4_kindsItMayBe_39 : decode cX4_kindsItMayBe 39 = .ok (.invokevirtual 85, 3) := by decide +kernel
theorem dX4_kindsItMayBe_42 : decode cX4_kindsItMayBe 42 = .ok (.ifCond .eq 12, 3) := by decide +kernel
theorem dX4_kindsItMayBe_45 : decode cX4_kindsItMayBe 45 = .ok (.iload 7, 2) := by decide +kernel
theorem dX4_kindsItMayBe_47 : decode cX4_kindsItMayBe 47 = .ok (.iconst 1, 1) := by decide +kernel
theorem dX4_kindsItMayBe_48 : decode cX4_kindsItMayBe 48 = .ok (.iload 8, 2) := by decide +kernel
theorem dX4_kindsItMayBe_50 : decode cX4_kindsItMayBe 50 = .ok (.ishl, 1) := by decide +kernel
theorem dX4_kindsItMayBe_51 : decode cX4_kindsItMayBe 51 = .ok (.ior, 1) := by decide +kernel
theorem dX4_kindsItMayBe_52 : decode cX4_kindsItMayBe 52 = .ok (.istore 7, 2) := by decide +kernel
theorem dX4_kindsItMayBe_54 : decode cX4_kindsItMayBe 54 = .ok (.iinc 8 1, 3) := by decide +kernel
theorem dX4_kindsItMayBe_57 : decode cX4_kindsItMayBe 57 = .ok (.goto (-51), 3) := by decide +kernel
theorem dX4_kindsItMayBe_60 : decode cX4_kindsItMayBe 60 = .ok (.iload 7, 2) := by decide +kernel
theorem dX4_kindsItMayBe_62 : decode cX4_kindsItMayBe 62 = .ok (.ireturn, 1) := by decide +kernel
theorem dX4_isAsTold_0 : decode cX4_isAsTold 0 = .ok (.iload_n 3, 1) := by decide +kernel
theorem dX4_isAsTold_1 : decode cX4_isAsTold 1 = .ok (.istore 5, 2) := by decide +kernel
theorem dX4_isAsTold_3 : decode cX4_isAsTold 3 = .ok (.iconst 0, 1) := by decide +kernel
theorem dX4_isAsTold_4 : decode cX4_isAsTold 4 = .ok (.istore 6, 2) := by decide +kernel
theorem dX4_isAsTold_6 : decode cX4_isAsTold 6 = .ok (.iload 6, 2) := by decide +kernel
theorem dX4_isAsTold_8 : decode cX4_isAsTold 8 = .ok (.iload 4, 2) := by decide +kernel
theorem dX4_isAsTold_10 : decode cX4_isAsTold 10 = .ok (.if_icmp .ge 62, 3) := by decide +kernel
theorem dX4_isAsTold_13 : decode cX4_isAsTold 13 = .ok (.aload_n 0, 1) := by decide +kernel
theorem dX4_isAsTold_14 : decode cX4_isAsTold 14 = .ok (.getfield 12, 3) := by decide +kernel
theorem dX4_isAsTold_17 : decode cX4_isAsTold 17 = .ok (.invokevirtual 42, 3) := by decide +kernel
theorem dX4_isAsTold_20 : decode cX4_isAsTold 20 = .ok (.iconst 0, 1) := by decide +kernel
theorem dX4_isAsTold_21 : decode cX4_isAsTold 21 = .ok (.istore 7, 2) := by decide +kernel
theorem dX4_isAsTold_23 : decode cX4_isAsTold 23 = .ok (.iload 7, 2) := by decide +kernel
theorem dX4_isAsTold_25 : decode cX4_isAsTold 25 = .ok (.aload_n 0, 1) := by decide +kernel
theorem dX4_isAsTold_26 : decode cX4_isAsTold 26 = .ok (.getfield 12, 3) := by decide +kernel
theorem dX4_isAsTold_29 : decode cX4_isAsTold 29 = .ok (.getfield 65, 3) := by decide +kernel
theorem dX4_isAsTold_32 : decode cX4_isAsTold 32 = .ok (.if_icmp .ge 34, 3) := by decide +kernel
theorem dX4_isAsTold_35 : decode cX4_isAsTold 35 = .ok (.aload_n 1, 1) := by decide +kernel
theorem dX4_isAsTold_36 : decode cX4_isAsTold 36 = .ok (.iload_n 2, 1) := by decide +kernel
theorem dX4_isAsTold_37 : decode cX4_isAsTold 37 = .ok (.iload 5, 2) := by decide +kernel
theorem dX4_isAsTold_39 : decode cX4_isAsTold 39 = .ok (.invokevirtual 92, 3) := by decide +kernel
theorem dX4_isAsTold_42 : decode cX4_isAsTold 42 = .ok (.aload_n 0, 1) := by decide +kernel
theorem dX4_isAsTold_43 : decode cX4_isAsTold 43 = .ok (.getfield 12, 3) := by decide +kernel
theorem dX4_isAsTold_46 : decode cX4_isAsTold 46 = .ok (.getfield 68, 3) := by decide +kernel
theorem dX4_isAsTold_49 : decode cX4_isAsTold 49 = .ok (.iload 7, 2) := by decide +kernel
theorem dX4_isAsTold_51 : decode cX4_isAsTold 51 = .ok (.iaload, 1) := by decide +kernel
theorem dX4_isAsTold_52 : decode cX4_isAsTold 52 = .ok (.if_icmp .eq 5, 3) := by decide +kernel
theorem dX4_isAsTold_55 : decode cX4_isAsTold 55 = .ok (.iconst 0, 1) := by decide +kernel
theorem dX4_isAsTold_56 : decode cX4_isAsTold 56 = .ok (.ireturn, 1) := by decide +kernel
theorem dX4_isAsTold_57 : decode cX4_isAsTold 57 = .ok (.iinc 5 1, 3) := by decide +kernel
theorem dX4_isAsTold_60 : decode cX4_isAsTold 60 = .ok (.iinc 7 1, 3) := by decide +kernel
theorem dX4_isAsTold_63 : decode cX4_isAsTold 63 = .ok (.goto (-40), 3) := by decide +kernel
theorem dX4_isAsTold_66 : decode cX4_isAsTold 66 = .ok (.iinc 6 1, 3) := by decide +kernel
theorem dX4_isAsTold_69 : decode cX4_isAsTold 69 = .ok (.goto (-63), 3) := by decide +kernel
theorem dX4_isAsTold_72 : decode cX4_isAsTold 72 = .ok (.iconst 1, 1) := by decide +kernel
theorem dX4_isAsTold_73 : decode cX4_isAsTold 73 = .ok (.ireturn, 1) := by decide +kernel
theorem dX4_findDoorsToShut_0 : decode cX4_findDoorsToShut 0 = .ok (.aload_n 0, 1) := by decide +kernel
theorem dX4_findDoorsToShut_1 : decode cX4_findDoorsToShut 1 = .ok (.ldc 33, 2) := by decide +kernel
theorem dX4_findDoorsToShut_3 : decode cX4_findDoorsToShut 3 = .ok (.ldc 33, 2) := by decide +kernel
theorem dX4_findDoorsToShut_5 : decode cX4_findDoorsToShut 5 = .ok (.invokevirtual 34, 3) := by decide +kernel
theorem dX4_findDoorsToShut_8 : decode cX4_findDoorsToShut 8 = .ok (.iload_n 2, 1) := by decide +kernel
theorem dX4_findDoorsToShut_9 : decode cX4_findDoorsToShut 9 = .ok (.iload_n 3, 1) := by decide +kernel
theorem dX4_findDoorsToShut_10 : decode cX4_findDoorsToShut 10 = .ok (.if_icmp .ne 4, 3) := by decide +kernel
theorem dX4_findDoorsToShut_13 : decode cX4_findDoorsToShut 13 = .ok (.return_, 1) := by decide +kernel
theorem dX4_findDoorsToShut_14 : decode cX4_findDoorsToShut 14 = .ok (.iconst 1, 1) := by decide +kernel
theorem dX4_findDoorsToShut_15 : decode cX4_findDoorsToShut 15 = .ok (.aload_n 1, 1) := by decide +kernel
theorem dX4_findDoorsToShut_16 : decode cX4_findDoorsToShut 16 = .ok (.getfield 45, 3) := by decide +kernel
theorem dX4_findDoorsToShut_19 : decode cX4_findDoorsToShut 19 = .ok (.ishl, 1) := by decide +kernel
theorem dX4_findDoorsToShut_20 : decode cX4_findDoorsToShut 20 = .ok (.istore 4, 2) := by decide +kernel
theorem dX4_findDoorsToShut_22 : decode cX4_findDoorsToShut 22 = .ok (.iconst 0, 1) := by decide +kernel
theorem dX4_findDoorsToShut_23 : decode cX4_findDoorsToShut 23 = .ok (.istore 5, 2) := by decide +kernel
theorem dX4_findDoorsToShut_25 : decode cX4_findDoorsToShut 25 = .ok (.iload 5, 2) := by decide +kernel
theorem dX4_findDoorsToShut_27 : decode cX4_findDoorsToShut 27 = .ok (.iload 4, 2) := by decide +kernel
theorem dX4_findDoorsToShut_29 : decode cX4_findDoorsToShut 29 = .ok (.if_icmp .ge 77, 3) := by decide +kernel
theorem dX4_findDoorsToShut_32 : decode cX4_findDoorsToShut 32 = .ok (.iload 5, 2) := by decide +kernel
theorem dX4_findDoorsToShut_34 : decode cX4_findDoorsToShut 34 = .ok (.invokestatic 48, 3) := by decide +kernel
theorem dX4_findDoorsToShut_37 : decode cX4_findDoorsToShut 37 = .ok (.istore 6, 2) := by decide +kernel
theorem dX4_findDoorsToShut_39 : decode cX4_findDoorsToShut 39 = .ok (.aload_n 0, 1) := by decide +kernel
theorem dX4_findDoorsToShut_40 : decode cX4_findDoorsToShut 40 = .ok (.getfield 18, 3) := by decide +kernel
theorem dX4_findDoorsToShut_43 : decode cX4_findDoorsToShut 43 = .ok (.ldc 33, 2) := by decide +kernel
theorem dX4_findDoorsToShut_45 : decode cX4_findDoorsToShut 45 = .ok (.if_icmp .eq 12, 3) := by decide +kernel
theorem dX4_findDoorsToShut_48 : decode cX4_findDoorsToShut 48 = .ok (.iload 6, 2) := by decide +kernel
theorem dX4_findDoorsToShut_50 : decode cX4_findDoorsToShut 50 = .ok (.aload_n 0, 1) := by decide +kernel
theorem dX4_findDoorsToShut_51 : decode cX4_findDoorsToShut 51 = .ok (.getfield 18, 3) := by decide +kernel
theorem dX4_findDoorsToShut_54 : decode cX4_findDoorsToShut 54 = .ok (.if_icmp .ge 7, 3) := by decide +kernel
theorem dX4_findDoorsToShut_57 : decode cX4_findDoorsToShut 57 = .ok (.iconst 1, 1) := by decide +kernel
theorem dX4_findDoorsToShut_58 : decode cX4_findDoorsToShut 58 = .ok (.goto 4, 3) := by decide +kernel
theorem dX4_findDoorsToShut_61 : decode cX4_findDoorsToShut 61 = .ok (.iconst 0, 1) := by decide +kernel
theorem dX4_findDoorsToShut_62 : decode cX4_findDoorsToShut 62 = .ok (.istore 7, 2) := by decide +kernel
theorem dX4_findDoorsToShut_64 : decode cX4_findDoorsToShut 64 = .ok (.iload 7, 2) := by decide +kernel
theorem dX4_findDoorsToShut_66 : decode cX4_findDoorsToShut 66 = .ok (.ifCond .eq 34, 3) := by decide +kernel
theorem dX4_findDoorsToShut_69 : decode cX4_findDoorsToShut 69 = .ok (.iload 5, 2) := by decide +kernel
theorem dX4_findDoorsToShut_71 : decode cX4_findDoorsToShut 71 = .ok (.aload_n 1, 1) := by decide +kernel
theorem dX4_findDoorsToShut_72 : decode cX4_findDoorsToShut 72 = .ok (.getfield 98, 3) := by decide +kernel
theorem dX4_findDoorsToShut_75 : decode cX4_findDoorsToShut 75 = .ok (.iconst (-1), 1) := by decide +kernel
theorem dX4_findDoorsToShut_76 : decode cX4_findDoorsToShut 76 = .ok (.ixor, 1) := by decide +kernel
theorem dX4_findDoorsToShut_77 : decode cX4_findDoorsToShut 77 = .ok (.iand, 1) := by decide +kernel
theorem dX4_findDoorsToShut_78 : decode cX4_findDoorsToShut 78 = .ok (.ifCond .ne 22, 3) := by decide +kernel
theorem dX4_findDoorsToShut_81 : decode cX4_findDoorsToShut 81 = .ok (.aload_n 1, 1) := by decide +kernel
theorem dX4_findDoorsToShut_82 : decode cX4_findDoorsToShut 82 = .ok (.iload 5, 2) := by decide +kernel
theorem dX4_findDoorsToShut_84 : decode cX4_findDoorsToShut 84 = .ok (.iload_n 2, 1) := by decide +kernel
theorem dX4_findDoorsToShut_85 : decode cX4_findDoorsToShut 85 = .ok (.iload_n 3, 1) := by decide +kernel
theorem dX4_findDoorsToShut_86 : decode cX4_findDoorsToShut 86 = .ok (.invokestatic 101, 3) := by decide +kernel
theorem dX4_findDoorsToShut_89 : decode cX4_findDoorsToShut 89 = .ok (.ifCond .eq 11, 3) := by decide +kernel
theorem dX4_findDoorsToShut_92 : decode cX4_findDoorsToShut 92 = .ok (.aload_n 0, 1) := by decide +kernel
theorem dX4_findDoorsToShut_93 : decode cX4_findDoorsToShut 93 = .ok (.iload 6, 2) := by decide +kernel
theorem dX4_findDoorsToShut_95 : decode cX4_findDoorsToShut 95 = .ok (.iload 5, 2) := by decide +kernel
theorem dX4_findDoorsToShut_97 : decode cX4_findDoorsToShut 97 = .ok (.invokevirtual 34, 3) := by decide +kernel
theorem dX4_findDoorsToShut_100 : decode cX4_findDoorsToShut 100 = .ok (.iinc 5 1, 3) := by decide +kernel
theorem dX4_findDoorsToShut_103 : decode cX4_findDoorsToShut 103 = .ok (.goto (-78), 3) := by decide +kernel
theorem dX4_findDoorsToShut_106 : decode cX4_findDoorsToShut 106 = .ok (.return_, 1) := by decide +kernel
theorem dX4_isPartedBy_0 : decode cX4_isPartedBy 0 = .ok (.aload_n 0, 1) := by decide +kernel
theorem dX4_isPartedBy_1 : decode cX4_isPartedBy 1 = .ok (.iload_n 2, 1) := by decide +kernel
theorem dX4_isPartedBy_2 : decode cX4_isPartedBy 2 = .ok (.aload_n 0, 1) := by decide +kernel
theorem dX4_isPartedBy_3 : decode cX4_isPartedBy 3 = .ok (.getfield 98, 3) := by decide +kernel
theorem dX4_isPartedBy_6 : decode cX4_isPartedBy 6 = .ok (.iload_n 1, 1) := by decide +kernel
theorem dX4_isPartedBy_7 : decode cX4_isPartedBy 7 = .ok (.iconst (-1), 1) := by decide +kernel
theorem dX4_isPartedBy_8 : decode cX4_isPartedBy 8 = .ok (.ixor, 1) := by decide +kernel
theorem dX4_isPartedBy_9 : decode cX4_isPartedBy 9 = .ok (.iand, 1) := by decide +kernel
theorem dX4_isPartedBy_10 : decode cX4_isPartedBy 10 = .ok (.invokevirtual 105, 3) := by decide +kernel
theorem dX4_isPartedBy_13 : decode cX4_isPartedBy 13 = .ok (.iload_n 3, 1) := by decide +kernel
theorem dX4_isPartedBy_14 : decode cX4_isPartedBy 14 = .ok (.ishr, 1) := by decide +kernel
theorem dX4_isPartedBy_15 : decode cX4_isPartedBy 15 = .ok (.iconst 1, 1) := by decide +kernel
theorem dX4_isPartedBy_16 : decode cX4_isPartedBy 16 = .ok (.iand, 1) := by decide +kernel
theorem dX4_isPartedBy_17 : decode cX4_isPartedBy 17 = .ok (.ifCond .ne 7, 3) := by decide +kernel
theorem dX4_isPartedBy_20 : decode cX4_isPartedBy 20 = .ok (.iconst 1, 1) := by decide +kernel
theorem dX4_isPartedBy_21 : decode cX4_isPartedBy 21 = .ok (.goto 4, 3) := by decide +kernel
theorem dX4_isPartedBy_24 : decode cX4_isPartedBy 24 = .ok (.iconst 0, 1) := by decide +kernel
theorem dX4_isPartedBy_25 : decode cX4_isPartedBy 25 = .ok (.ireturn, 1) := by decide +kernel
theorem dX4_findColdest_0 : decode cX4_findColdest 0 = .ok (.aload_n 0, 1) := by decide +kernel
theorem dX4_findColdest_1 : decode cX4_findColdest 1 = .ok (.aload_n 1, 1) := by decide +kernel
theorem dX4_findColdest_2 : decode cX4_findColdest 2 = .ok (.iload_n 2, 1) := by decide +kernel
theorem dX4_findColdest_3 : decode cX4_findColdest 3 = .ok (.invokevirtual 108, 3) := by decide +kernel
theorem dX4_findColdest_6 : decode cX4_findColdest 6 = .ok (.aload_n 0, 1) := by decide +kernel
theorem dX4_findColdest_7 : decode cX4_findColdest 7 = .ok (.iconst 0, 1) := by decide +kernel
theorem dX4_findColdest_8 : decode cX4_findColdest 8 = .ok (.aload_n 0, 1) := by decide +kernel
theorem dX4_findColdest_9 : decode cX4_findColdest 9 = .ok (.getfield 12, 3) := by decide +kernel
theorem dX4_findColdest_12 : decode cX4_findColdest 12 = .ok (.getfield 68, 3) := by decide +kernel
theorem dX4_findColdest_15 : decode cX4_findColdest 15 = .ok (.iconst 0, 1) := by decide +kernel
theorem dX4_findColdest_16 : decode cX4_findColdest 16 = .ok (.iaload, 1) := by decide +kernel
theorem dX4_findColdest_17 : decode cX4_findColdest 17 = .ok (.invokevirtual 34, 3) := by decide +kernel
theorem dX4_findColdest_20 : decode cX4_findColdest 20 = .ok (.iconst 1, 1) := by decide +kernel
theorem dX4_findColdest_21 : decode cX4_findColdest 21 = .ok (.istore_n 3, 1) := by decide +kernel
theorem dX4_findColdest_22 : decode cX4_findColdest 22 = .ok (.iload_n 3, 1) := by decide +kernel
theorem dX4_findColdest_23 : decode cX4_findColdest 23 = .ok (.aload_n 0, 1) := by decide +kernel
theorem dX4_findColdest_24 : decode cX4_findColdest 24 = .ok (.getfield 12, 3) := by decide +kernel
theorem dX4_findColdest_27 : decode cX4_findColdest 27 = .ok (.getfield 65, 3) := by decide +kernel
theorem dX4_findColdest_30 : decode cX4_findColdest 30 = .ok (.if_icmp .ge 39, 3) := by decide +kernel
theorem dX4_findColdest_33 : decode cX4_findColdest 33 = .ok (.aload_n 0, 1) := by decide +kernel
theorem dX4_findColdest_34 : decode cX4_findColdest 34 = .ok (.getfield 12, 3) := by decide +kernel
theorem dX4_findColdest_37 : decode cX4_findColdest 37 = .ok (.getfield 68, 3) := by decide +kernel
theorem dX4_findColdest_40 : decode cX4_findColdest 40 = .ok (.iload_n 3, 1) := by decide +kernel
theorem dX4_findColdest_41 : decode cX4_findColdest 41 = .ok (.iaload, 1) := by decide +kernel
theorem dX4_findColdest_42 : decode cX4_findColdest 42 = .ok (.aload_n 0, 1) := by decide +kernel
theorem dX4_findColdest_43 : decode cX4_findColdest 43 = .ok (.getfield 22, 3) := by decide +kernel
theorem dX4_findColdest_46 : decode cX4_findColdest 46 = .ok (.if_icmp .le 17, 3) := by decide +kernel
theorem dX4_findColdest_49 : decode cX4_findColdest 49 = .ok (.aload_n 0, 1) := by decide +kernel
theorem dX4_findColdest_50 : decode cX4_findColdest 50 = .ok (.iload_n 3, 1) := by decide +kernel
theorem dX4_findColdest_51 : decode cX4_findColdest 51 = .ok (.aload_n 0, 1) := by decide +kernel
theorem dX4_findColdest_52 : decode cX4_findColdest 52 = .ok (.getfield 12, 3) := by decide +kernel
theorem dX4_findColdest_55 : decode cX4_findColdest 55 = .ok (.getfield 68, 3) := by decide +kernel
theorem dX4_findColdest_58 : decode cX4_findColdest 58 = .ok (.iload_n 3, 1) := by decide +kernel
theorem dX4_findColdest_59 : decode cX4_findColdest 59 = .ok (.iaload, 1) := by decide +kernel
theorem dX4_findColdest_60 : decode cX4_findColdest 60 = .ok (.invokevirtual 34, 3) := by decide +kernel
theorem dX4_findColdest_63 : decode cX4_findColdest 63 = .ok (.iinc 3 1, 3) := by decide +kernel
theorem dX4_findColdest_66 : decode cX4_findColdest 66 = .ok (.goto (-44), 3) := by decide +kernel
theorem dX4_findColdest_69 : decode cX4_findColdest 69 = .ok (.return_, 1) := by decide +kernel
theorem dX4_findOdds_0 : decode cX4_findOdds 0 = .ok (.aload_n 1, 1) := by decide +kernel
theorem dX4_findOdds_1 : decode cX4_findOdds 1 = .ok (.getfield 98, 3) := by decide +kernel
theorem dX4_findOdds_4 : decode cX4_findOdds 4 = .ok (.invokestatic 48, 3) := by decide +kernel
theorem dX4_findOdds_7 : decode cX4_findOdds 7 = .ok (.istore 4, 2) := by decide +kernel
theorem dX4_findOdds_9 : decode cX4_findOdds 9 = .ok (.iconst 1, 1) := by decide +kernel
theorem dX4_findOdds_10 : decode cX4_findOdds 10 = .ok (.aload_n 1, 1) := by decide +kernel
theorem dX4_findOdds_11 : decode cX4_findOdds 11 = .ok (.getfield 45, 3) := by decide +kernel
theorem dX4_findOdds_14 : decode cX4_findOdds 14 = .ok (.ishl, 1) := by decide +kernel
theorem dX4_findOdds_15 : decode cX4_findOdds 15 = .ok (.istore 5, 2) := by decide +kernel
theorem dX4_findOdds_17 : decode cX4_findOdds 17 = .ok (.lconst 0, 1) := by decide +kernel
theorem dX4_findOdds_18 : decode cX4_findOdds 18 = .ok (.lstore 6, 2) := by decide +kernel
theorem dX4_findOdds_20 : decode cX4_findOdds 20 = .ok (.iconst 0, 1) := by decide +kernel
theorem dX4_findOdds_21 : decode cX4_findOdds 21 = .ok (.istore 8, 2) := by decide +kernel
theorem dX4_findOdds_23 : decode cX4_findOdds 23 = .ok (.iload 8, 2) := by decide +kernel
theorem dX4_findOdds_25 : decode cX4_findOdds 25 = .ok (.iload 5, 2) := by decide +kernel
theorem dX4_findOdds_27 : decode cX4_findOdds 27 = .ok (.if_icmp .ge 82, 3) := by decide +kernel
theorem dX4_findOdds_30 : decode cX4_findOdds 30 = .ok (.iload 8, 2) := by decide +kernel
theorem dX4_findOdds_32 : decode cX4_findOdds 32 = .ok (.aload_n 1, 1) := by decide +kernel
theorem dX4_findOdds_33 : decode cX4_findOdds 33 = .ok (.getfield 98, 3) := by decide +kernel
theorem dX4_findOdds_36 : decode cX4_findOdds 36 = .ok (.iconst (-1), 1) := by decide +kernel
theorem dX4_findOdds_37 : decode cX4_findOdds 37 = .ok (.ixor, 1) := by decide +kernel
theorem dX4_findOdds_38 : decode cX4_findOdds 38 = .ok (.iand, 1) := by decide +kernel
theorem dX4_findOdds_39 : decode cX4_findOdds 39 = .ok (.ifCond .eq 6, 3) := by decide +kernel
theorem dX4_findOdds_42 : decode cX4_findOdds 42 = .ok (.goto 61, 3) := by decide +kernel
theorem dX4_findOdds_45 : decode cX4_findOdds 45 = .ok (.aload_n 0, 1) := by decide +kernel
theorem dX4_findOdds_46 : decode cX4_findOdds 46 = .ok (.aload_n 1, 1) := by decide +kernel
theorem dX4_findOdds_47 : decode cX4_findOdds 47 = .ok (.iload 8, 2) := by decide +kernel
theorem dX4_findOdds_49 : decode cX4_findOdds 49 = .ok (.iconst 1, 1) := by decide +kernel
theorem dX4_findOdds_50 : decode cX4_findOdds 50 = .ok (.invokevirtual 54, 3) := by decide +kernel
theorem dX4_findOdds_53 : decode cX4_findOdds 53 = .ok (.aload_n 0, 1) := by decide +kernel
theorem dX4_findOdds_54 : decode cX4_findOdds 54 = .ok (.getfield 12, 3) := by decide +kernel
theorem dX4_findOdds_57 : decode cX4_findOdds 57 = .ok (.getfield 68, 3) := by decide +kernel
theorem dX4_findOdds_60 : decode cX4_findOdds 60 = .ok (.iload_n 2, 1) := by decide +kernel
theorem dX4_findOdds_61 : decode cX4_findOdds 61 = .ok (.iaload, 1) := by decide +kernel
theorem dX4_findOdds_62 : decode cX4_findOdds 62 = .ok (.aload_n 0, 1) := by decide +kernel
theorem dX4_findOdds_63 : decode cX4_findOdds 63 = .ok (.getfield 12, 3) := by decide +kernel
theorem dX4_findOdds_66 : decode cX4_findOdds 66 = .ok (.getfield 112, 3) := by decide +kernel
theorem dX4_findOdds_69 : decode cX4_findOdds 69 = .ok (.if_icmp .le 34, 3) := by decide +kernel
theorem dX4_findOdds_72 : decode cX4_findOdds 72 = .ok (.iload 8, 2) := by decide +kernel
theorem dX4_findOdds_74 : decode cX4_findOdds 74 = .ok (.invokestatic 48, 3) := by decide +kernel
theorem dX4_findOdds_77 : decode cX4_findOdds 77 = .ok (.istore 9, 2) := by decide +kernel
theorem dX4_findOdds_79 : decode cX4_findOdds 79 = .ok (.lload 6, 2) := by decide +kernel
theorem dX4_findOdds_81 : decode cX4_findOdds 81 = .ok (.iload_n 3, 1) := by decide +kernel
theorem dX4_findOdds_82 : decode cX4_findOdds 82 = .ok (.iload 9, 2) := by decide +kernel
theorem dX4_findOdds_84 : decode cX4_findOdds 84 = .ok (.invokestatic 115, 3) := by decide +kernel
theorem dX4_findOdds_87 : decode cX4_findOdds 87 = .ok (.bipush 10, 2) := by decide +kernel
theorem dX4_findOdds_89 : decode cX4_findOdds 89 = .ok (.iload_n 3, 1) := by decide +kernel
theorem dX4_findOdds_90 : decode cX4_findOdds 90 = .ok (.isub, 1) := by decide +kernel
theorem dX4_findOdds_91 : decode cX4_findOdds 91 = .ok (.iload 4, 2) := by decide +kernel
theorem dX4_findOdds_93 : decode cX4_findOdds 93 = .ok (.iload 9, 2) := by decide +kernel
theorem dX4_findOdds_95 : decode cX4_findOdds 95 = .ok (.isub, 1) := by decide +kernel
theorem dX4_findOdds_96 : decode cX4_findOdds 96 = .ok (.invokestatic 115, 3) := by decide +kernel
theorem dX4_findOdds_99 : decode cX4_findOdds 99 = .ok (.lmul, 1) := by decide +kernel
theorem dX4_findOdds_100 : decode cX4_findOdds 100 = .ok (.ladd, 1) := by decide +kernel
theorem dX4_findOdds_101 : decode cX4_findOdds 101 = .ok (.lstore 6, 2) := by decide +kernel
theorem dX4_findOdds_103 : decode cX4_findOdds 103 = .ok (.iinc 8 1, 3) := by decide +kernel
theorem dX4_findOdds_106 : decode cX4_findOdds 106 = .ok (.goto (-83), 3) := by decide +kernel
theorem dX4_findOdds_109 : decode cX4_findOdds 109 = .ok (.aload_n 0, 1) := by decide +kernel
theorem dX4_findOdds_110 : decode cX4_findOdds 110 = .ok (.lload 6, 2) := by decide +kernel
theorem dX4_findOdds_112 : decode cX4_findOdds 112 = .ok (.bipush 10, 2) := by decide +kernel
theorem dX4_findOdds_114 : decode cX4_findOdds 114 = .ok (.iload 4, 2) := by decide +kernel
theorem dX4_findOdds_116 : decode cX4_findOdds 116 = .ok (.invokestatic 115, 3) := by decide +kernel
theorem dX4_findOdds_119 : decode cX4_findOdds 119 = .ok (.invokevirtual 119, 3) := by decide +kernel
theorem dX4_findOdds_122 : decode cX4_findOdds 122 = .ok (.return_, 1) := by decide +kernel
theorem dX4_tellFraction_0 : decode cX4_tellFraction 0 = .ok (.lconst 1, 1) := by decide +kernel
theorem dX4_tellFraction_1 : decode cX4_tellFraction 1 = .ok (.lload_n 3, 1) := by decide +kernel
theorem dX4_tellFraction_2 : decode cX4_tellFraction 2 = .ok (.lload_n 1, 1) := by decide +kernel
theorem dX4_tellFraction_3 : decode cX4_tellFraction 3 = .ok (.invokestatic 123, 3) := by decide +kernel
theorem dX4_tellFraction_6 : decode cX4_tellFraction 6 = .ok (.invokestatic 127, 3) := by decide +kernel
theorem dX4_tellFraction_9 : decode cX4_tellFraction 9 = .ok (.lstore 5, 2) := by decide +kernel
theorem dX4_tellFraction_11 : decode cX4_tellFraction 11 = .ok (.aload_n 0, 1) := by decide +kernel
theorem dX4_tellFraction_12 : decode cX4_tellFraction 12 = .ok (.lload_n 1, 1) := by decide +kernel
theorem dX4_tellFraction_13 : decode cX4_tellFraction 13 = .ok (.lload 5, 2) := by decide +kernel
theorem dX4_tellFraction_15 : decode cX4_tellFraction 15 = .ok (.ldiv, 1) := by decide +kernel
theorem dX4_tellFraction_16 : decode cX4_tellFraction 16 = .ok (.putfield 132, 3) := by decide +kernel
theorem dX4_tellFraction_19 : decode cX4_tellFraction 19 = .ok (.aload_n 0, 1) := by decide +kernel
theorem dX4_tellFraction_20 : decode cX4_tellFraction 20 = .ok (.lload_n 3, 1) := by decide +kernel
theorem dX4_tellFraction_21 : decode cX4_tellFraction 21 = .ok (.lload 5, 2) := by decide +kernel
theorem dX4_tellFraction_23 : decode cX4_tellFraction 23 = .ok (.ldiv, 1) := by decide +kernel
theorem dX4_tellFraction_24 : decode cX4_tellFraction 24 = .ok (.putfield 136, 3) := by decide +kernel
theorem dX4_tellFraction_27 : decode cX4_tellFraction 27 = .ok (.return_, 1) := by decide +kernel
theorem dX4_power_0 : decode cX4_power 0 = .ok (.lconst 1, 1) := by decide +kernel
theorem dX4_power_1 : decode cX4_power 1 = .ok (.lstore_n 2, 1) := by decide +kernel
theorem dX4_power_2 : decode cX4_power 2 = .ok (.iconst 0, 1) := by decide +kernel
theorem dX4_power_3 : decode cX4_power 3 = .ok (.istore 4, 2) := by decide +kernel
theorem dX4_power_5 : decode cX4_power 5 = .ok (.iload 4, 2) := by decide +kernel
theorem dX4_power_7 : decode cX4_power 7 = .ok (.iload_n 1, 1) := by decide +kernel
theorem dX4_power_8 : decode cX4_power 8 = .ok (.if_icmp .ge 14, 3) := by decide +kernel
theorem dX4_power_11 : decode cX4_power 11 = .ok (.lload_n 2, 1) := by decide +kernel
theorem dX4_power_12 : decode cX4_power 12 = .ok (.iload_n 0, 1) := by decide +kernel
theorem dX4_power_13 : decode cX4_power 13 = .ok (.i2l, 1) := by decide +kernel
theorem dX4_power_14 : decode cX4_power 14 = .ok (.lmul, 1) := by decide +kernel
theorem dX4_power_15 : decode cX4_power 15 = .ok (.lstore_n 2, 1) := by decide +kernel
theorem dX4_power_16 : decode cX4_power 16 = .ok (.iinc 4 1, 3) := by decide +kernel
theorem dX4_power_19 : decode cX4_power 19 = .ok (.goto (-14), 3) := by decide +kernel
theorem dX4_power_22 : decode cX4_power 22 = .ok (.lload_n 2, 1) := by decide +kernel
theorem dX4_power_23 : decode cX4_power 23 = .ok (.lreturn, 1) := by decide +kernel
theorem dX4_divisorOfBoth_0 : decode cX4_divisorOfBoth 0 = .ok (.lload_n 0, 1) := by decide +kernel
theorem dX4_divisorOfBoth_1 : decode cX4_divisorOfBoth 1 = .ok (.lstore 4, 2) := by decide +kernel
theorem dX4_divisorOfBoth_3 : decode cX4_divisorOfBoth 3 = .ok (.lload_n 2, 1) := by decide +kernel
theorem dX4_divisorOfBoth_4 : decode cX4_divisorOfBoth 4 = .ok (.lstore 6, 2) := by decide +kernel
theorem dX4_divisorOfBoth_6 : decode cX4_divisorOfBoth 6 = .ok (.iconst 0, 1) := by decide +kernel
theorem dX4_divisorOfBoth_7 : decode cX4_divisorOfBoth 7 = .ok (.istore 8, 2) := by decide +kernel
theorem dX4_divisorOfBoth_9 : decode cX4_divisorOfBoth 9 = .ok (.iload 8, 2) := by decide +kernel
theorem dX4_divisorOfBoth_11 : decode cX4_divisorOfBoth 11 = .ok (.bipush 64, 2) := by decide +kernel
theorem dX4_divisorOfBoth_13 : decode cX4_divisorOfBoth 13 = .ok (.if_icmp .ge 31, 3) := by decide +kernel
theorem dX4_divisorOfBoth_16 : decode cX4_divisorOfBoth 16 = .ok (.lload 6, 2) := by decide +kernel
theorem dX4_divisorOfBoth_18 : decode cX4_divisorOfBoth 18 = .ok (.lconst 0, 1) := by decide +kernel
theorem dX4_divisorOfBoth_19 : decode cX4_divisorOfBoth 19 = .ok (.lcmp, 1) := by decide +kernel
theorem dX4_divisorOfBoth_20 : decode cX4_divisorOfBoth 20 = .ok (.ifCond .eq 24, 3) := by decide +kernel
theorem dX4_divisorOfBoth_23 : decode cX4_divisorOfBoth 23 = .ok (.lload 4, 2) := by decide +kernel
theorem dX4_divisorOfBoth_25 : decode cX4_divisorOfBoth 25 = .ok (.lload 6, 2) := by decide +kernel
theorem dX4_divisorOfBoth_27 : decode cX4_divisorOfBoth 27 = .ok (.lrem, 1) := by decide +kernel
theorem dX4_divisorOfBoth_28 : decode cX4_divisorOfBoth 28 = .ok (.lstore 9, 2) := by decide +kernel
theorem dX4_divisorOfBoth_30 : decode cX4_divisorOfBoth 30 = .ok (.lload 6, 2) := by decide +kernel
theorem dX4_divisorOfBoth_32 : decode cX4_divisorOfBoth 32 = .ok (.lstore 4, 2) := by decide +kernel
theorem dX4_divisorOfBoth_34 : decode cX4_divisorOfBoth 34 = .ok (.lload 9, 2) := by decide +kernel
theorem dX4_divisorOfBoth_36 : decode cX4_divisorOfBoth 36 = .ok (.lstore 6, 2) := by decide +kernel
theorem dX4_divisorOfBoth_38 : decode cX4_divisorOfBoth 38 = .ok (.iinc 8 1, 3) := by decide +kernel
theorem dX4_divisorOfBoth_41 : decode cX4_divisorOfBoth 41 = .ok (.goto (-32), 3) := by decide +kernel
theorem dX4_divisorOfBoth_44 : decode cX4_divisorOfBoth 44 = .ok (.lload 4, 2) := by decide +kernel
theorem dX4_divisorOfBoth_46 : decode cX4_divisorOfBoth 46 = .ok (.lreturn, 1) := by decide +kernel
theorem dX4_drawHours_0 : decode cX4_drawHours 0 = .ok (.aload_n 0, 1) := by decide +kernel
theorem dX4_drawHours_1 : decode cX4_drawHours 1 = .ok (.getfield 12, 3) := by decide +kernel
theorem dX4_drawHours_4 : decode cX4_drawHours 4 = .ok (.aload_n 1, 1) := by decide +kernel
theorem dX4_drawHours_5 : decode cX4_drawHours 5 = .ok (.invokevirtual 25, 3) := by decide +kernel
theorem dX4_drawHours_8 : decode cX4_drawHours 8 = .ok (.iload_n 3, 1) := by decide +kernel
theorem dX4_drawHours_9 : decode cX4_drawHours 9 = .ok (.i2l, 1) := by decide +kernel
theorem dX4_drawHours_10 : decode cX4_drawHours 10 = .ok (.lstore 4, 2) := by decide +kernel
theorem dX4_drawHours_12 : decode cX4_drawHours 12 = .ok (.iconst 0, 1) := by decide +kernel
theorem dX4_drawHours_13 : decode cX4_drawHours 13 = .ok (.istore 6, 2) := by decide +kernel
theorem dX4_drawHours_15 : decode cX4_drawHours 15 = .ok (.iconst 0, 1) := by decide +kernel
theorem dX4_drawHours_16 : decode cX4_drawHours 16 = .ok (.istore 7, 2) := by decide +kernel
theorem dX4_drawHours_18 : decode cX4_drawHours 18 = .ok (.iload 7, 2) := by decide +kernel
theorem dX4_drawHours_20 : decode cX4_drawHours 20 = .ok (.iload_n 2, 1) := by decide +kernel
theorem dX4_drawHours_21 : decode cX4_drawHours 21 = .ok (.if_icmp .ge 73, 3) := by decide +kernel
theorem dX4_drawHours_24 : decode cX4_drawHours 24 = .ok (.lload 4, 2) := by decide +kernel
theorem dX4_drawHours_26 : decode cX4_drawHours 26 = .ok (.ldc2_w 139, 3) := by decide +kernel
theorem dX4_drawHours_29 : decode cX4_drawHours 29 = .ok (.lmul, 1) := by decide +kernel
theorem dX4_drawHours_30 : decode cX4_drawHours 30 = .ok (.ldc2_w 141, 3) := by decide +kernel
theorem dX4_drawHours_33 : decode cX4_drawHours 33 = .ok (.lrem, 1) := by decide +kernel
theorem dX4_drawHours_34 : decode cX4_drawHours 34 = .ok (.lstore 4, 2) := by decide +kernel
theorem dX4_drawHours_36 : decode cX4_drawHours 36 = .ok (.aload_n 0, 1) := by decide +kernel
theorem dX4_drawHours_37 : decode cX4_drawHours 37 = .ok (.getfield 12, 3) := by decide +kernel
theorem dX4_drawHours_40 : decode cX4_drawHours 40 = .ok (.getfield 45, 3) := by decide +kernel
theorem dX4_drawHours_43 : decode cX4_drawHours 43 = .ok (.ifCond .le 24, 3) := by decide +kernel
theorem dX4_drawHours_46 : decode cX4_drawHours 46 = .ok (.aload_n 0, 1) := by decide +kernel
theorem dX4_drawHours_47 : decode cX4_drawHours 47 = .ok (.getfield 12, 3) := by decide +kernel
theorem dX4_drawHours_50 : decode cX4_drawHours 50 = .ok (.iconst 1, 1) := by decide +kernel
theorem dX4_drawHours_51 : decode cX4_drawHours 51 = .ok (.lload 4, 2) := by decide +kernel
theorem dX4_drawHours_53 : decode cX4_drawHours 53 = .ok (.aload_n 0, 1) := by decide +kernel
theorem dX4_drawHours_54 : decode cX4_drawHours 54 = .ok (.getfield 12, 3) := by decide +kernel
theorem dX4_drawHours_57 : decode cX4_drawHours 57 = .ok (.getfield 45, 3) := by decide +kernel
theorem dX4_drawHours_60 : decode cX4_drawHours 60 = .ok (.i2l, 1) := by decide +kernel
theorem dX4_drawHours_61 : decode cX4_drawHours 61 = .ok (.lrem, 1) := by decide +kernel
theorem dX4_drawHours_62 : decode cX4_drawHours 62 = .ok (.l2i, 1) := by decide +kernel
theorem dX4_drawHours_63 : decode cX4_drawHours 63 = .ok (.ishl, 1) := by decide +kernel
theorem dX4_drawHours_64 : decode cX4_drawHours 64 = .ok (.invokevirtual 62, 3) := by decide +kernel
theorem dX4_drawHours_67 : decode cX4_drawHours 67 = .ok (.aload_n 0, 1) := by decide +kernel
theorem dX4_drawHours_68 : decode cX4_drawHours 68 = .ok (.getfield 12, 3) := by decide +kernel
theorem dX4_drawHours_71 : decode cX4_drawHours 71 = .ok (.invokevirtual 42, 3) := by decide +kernel
theorem dX4_drawHours_74 : decode cX4_drawHours 74 = .ok (.aload_n 0, 1) := by decide +kernel
theorem dX4_drawHours_75 : decode cX4_drawHours 75 = .ok (.getfield 12, 3) := by decide +kernel
theorem dX4_drawHours_78 : decode cX4_drawHours 78 = .ok (.invokevirtual 38, 3) := by decide +kernel
theorem dX4_drawHours_81 : decode cX4_drawHours 81 = .ok (.iconst (-1), 1) := by decide +kernel
theorem dX4_drawHours_82 : decode cX4_drawHours 82 = .ok (.if_icmp .eq 6, 3) := by decide +kernel
theorem dX4_drawHours_85 : decode cX4_drawHours 85 = .ok (.iinc 6 1, 3) := by decide +kernel
theorem dX4_drawHours_88 : decode cX4_drawHours 88 = .ok (.iinc 7 1, 3) := by decide +kernel
theorem dX4_drawHours_91 : decode cX4_drawHours 91 = .ok (.goto (-73), 3) := by decide +kernel
theorem dX4_drawHours_94 : decode cX4_drawHours 94 = .ok (.aload_n 0, 1) := by decide +kernel
theorem dX4_drawHours_95 : decode cX4_drawHours 95 = .ok (.aload_n 0, 1) := by decide +kernel
theorem dX4_drawHours_96 : decode cX4_drawHours 96 = .ok (.getfield 12, 3) := by decide +kernel
theorem dX4_drawHours_99 : decode cX4_drawHours 99 = .ok (.invokevirtual 143, 3) := by decide +kernel
theorem dX4_drawHours_102 : decode cX4_drawHours 102 = .ok (.iload 6, 2) := by decide +kernel
theorem dX4_drawHours_104 : decode cX4_drawHours 104 = .ok (.invokevirtual 34, 3) := by decide +kernel
theorem dX4_drawHours_107 : decode cX4_drawHours 107 = .ok (.return_, 1) := by decide +kernel
theorem dX5_init_0 : decode cX5_init 0 = .ok (.aload_n 0, 1) := by decide +kernel
theorem dX5_init_1 : decode cX5_init 1 = .ok (.invokespecial 1, 3) := by decide +kernel
theorem dX5_init_4 : decode cX5_init 4 = .ok (.aload_n 0, 1) := by decide +kernel
theorem dX5_init_5 : decode cX5_init 5 = .ok (.bipush 120, 2) := by decide +kernel
theorem dX5_init_7 : decode cX5_init 7 = .ok (.newarray .int, 2) := by decide +kernel
theorem dX5_init_9 : decode cX5_init 9 = .ok (.putfield 9, 3) := by decide +kernel
theorem dX5_init_12 : decode cX5_init 12 = .ok (.return_, 1) := by decide +kernel
theorem dX5_isFull_0 : decode cX5_isFull 0 = .ok (.aload_n 0, 1) := by decide +kernel
theorem dX5_isFull_1 : decode cX5_isFull 1 = .ok (.getfield 13, 3) := by decide +kernel
theorem dX5_isFull_4 : decode cX5_isFull 4 = .ok (.bipush 120, 2) := by decide +kernel
theorem dX5_isFull_6 : decode cX5_isFull 6 = .ok (.if_icmp .lt 7, 3) := by decide +kernel
theorem dX5_isFull_9 : decode cX5_isFull 9 = .ok (.iconst 1, 1) := by decide +kernel
theorem dX5_isFull_10 : decode cX5_isFull 10 = .ok (.goto 4, 3) := by decide +kernel
theorem dX5_isFull_13 : decode cX5_isFull 13 = .ok (.iconst 0, 1) := by decide +kernel
theorem dX5_isFull_14 : decode cX5_isFull 14 = .ok (.ireturn, 1) := by decide +kernel
theorem dX5_append_0 : decode cX5_append 0 = .ok (.aload_n 0, 1) := by decide +kernel
theorem dX5_append_1 : decode cX5_append 1 = .ok (.getfield 9, 3) := by decide +kernel
theorem dX5_append_4 : decode cX5_append 4 = .ok (.aload_n 0, 1) := by decide +kernel
theorem dX5_append_5 : decode cX5_append 5 = .ok (.getfield 13, 3) := by decide +kernel
theorem dX5_append_8 : decode cX5_append 8 = .ok (.iload_n 1, 1) := by decide +kernel
theorem dX5_append_9 : decode cX5_append 9 = .ok (.iastore, 1) := by decide +kernel
theorem dX5_append_10 : decode cX5_append 10 = .ok (.aload_n 0, 1) := by decide +kernel
theorem dX5_append_11 : decode cX5_append 11 = .ok (.dup, 1) := by decide +kernel
theorem dX5_append_12 : decode cX5_append 12 = .ok (.getfield 13, 3) := by decide +kernel
theorem dX5_append_15 : decode cX5_append 15 = .ok (.iconst 1, 1) := by decide +kernel
theorem dX5_append_16 : decode cX5_append 16 = .ok (.iadd, 1) := by decide +kernel
theorem dX5_append_17 : decode cX5_append 17 = .ok (.putfield 13, 3) := by decide +kernel
theorem dX5_append_20 : decode cX5_append 20 = .ok (.aload_n 0, 1) := by decide +kernel
theorem dX5_append_21 : decode cX5_append 21 = .ok (.getfield 13, 3) := by decide +kernel
theorem dX5_append_24 : decode cX5_append 24 = .ok (.ireturn, 1) := by decide +kernel
theorem dX5_empty_0 : decode cX5_empty 0 = .ok (.aload_n 0, 1) := by decide +kernel
theorem dX5_empty_1 : decode cX5_empty 1 = .ok (.iconst 0, 1) := by decide +kernel
theorem dX5_empty_2 : decode cX5_empty 2 = .ok (.putfield 13, 3) := by decide +kernel
theorem dX5_empty_5 : decode cX5_empty 5 = .ok (.return_, 1) := by decide +kernel
theorem dX5_readInto_0 : decode cX5_readInto 0 = .ok (.aload_n 0, 1) := by decide +kernel
theorem dX5_readInto_1 : decode cX5_readInto 1 = .ok (.iconst 0, 1) := by decide +kernel
theorem dX5_readInto_2 : decode cX5_readInto 2 = .ok (.putfield 17, 3) := by decide +kernel
theorem dX5_readInto_5 : decode cX5_readInto 5 = .ok (.aload_n 1, 1) := by decide +kernel
theorem dX5_readInto_6 : decode cX5_readInto 6 = .ok (.invokevirtual 20, 3) := by decide +kernel
theorem dX5_readInto_9 : decode cX5_readInto 9 = .ok (.aload_n 0, 1) := by decide +kernel
theorem dX5_readInto_10 : decode cX5_readInto 10 = .ok (.aload_n 1, 1) := by decide +kernel
theorem dX5_readInto_11 : decode cX5_readInto 11 = .ok (.invokevirtual 25, 3) := by decide +kernel
theorem dX5_readInto_14 : decode cX5_readInto 14 = .ok (.ifCond .eq 23, 3) := by decide +kernel
theorem dX5_readInto_17 : decode cX5_readInto 17 = .ok (.aload_n 0, 1) := by decide +kernel
theorem dX5_readInto_18 : decode cX5_readInto 18 = .ok (.aload_n 1, 1) := by decide +kernel
theorem dX5_readInto_19 : decode cX5_readInto 19 = .ok (.invokevirtual 29, 3) := by decide +kernel
theorem dX5_readInto_22 : decode cX5_readInto 22 = .ok (.ifCond .eq 15, 3) := by decide +kernel
theorem dX5_readInto_25 : decode cX5_readInto 25 = .ok (.aload_n 0, 1) := by decide +kernel
theorem dX5_readInto_26 : decode cX5_readInto 26 = .ok (.aload_n 1, 1) := by decide +kernel
theorem dX5_readInto_27 : decode cX5_readInto 27 = .ok (.invokevirtual 32, 3) := by decide +kernel
theorem dX5_readInto_30 : decode cX5_readInto 30 = .ok (.ifCond .eq 7, 3) := by decide +kernel
theorem dX5_readInto_33 : decode cX5_readInto 33 = .ok (.iconst 1, 1) := by decide +kernel
theorem dX5_readInto_34 : decode cX5_readInto 34 = .ok (.goto 4, 3) := by decide +kernel
theorem dX5_readInto_37 : decode cX5_readInto 37 = .ok (.iconst 0, 1) := by decide +kernel
theorem dX5_readInto_38 : decode cX5_readInto 38 = .ok (.ireturn, 1) := by decide +kernel
theorem dX5_readLaw_0 : decode cX5_readLaw 0 = .ok (.aload_n 0, 1) := by decide +kernel
theorem dX5_readLaw_1 : decode cX5_readLaw 1 = .ok (.bipush 110, 2) := by decide +kernel
theorem dX5_readLaw_3 : decode cX5_readLaw 3 = .ok (.invokevirtual 35, 3) := by decide +kernel
theorem dX5_readLaw_6 : decode cX5_readLaw 6 = .ok (.ifCond .ne 5, 3) := by decide +kernel
theorem dX5_readLaw_9 : decode cX5_readLaw 9 = .ok (.iconst 0, 1) := by decide +kernel
theorem dX5_readLaw_10 : decode cX5_readLaw 10 = .ok (.ireturn, 1) := by decide +kernel
theorem dX5_readLaw_11 : decode cX5_readLaw 11 = .ok (.aload_n 0, 1) := by decide +kernel
theorem dX5_readLaw_12 : decode cX5_readLaw 12 = .ok (.iconst 1, 1) := by decide +kernel
theorem dX5_readLaw_13 : decode cX5_readLaw 13 = .ok (.bipush 6, 2) := by decide +kernel
theorem dX5_readLaw_15 : decode cX5_readLaw 15 = .ok (.invokevirtual 39, 3) := by decide +kernel
theorem dX5_readLaw_18 : decode cX5_readLaw 18 = .ok (.istore_n 2, 1) := by decide +kernel
theorem dX5_readLaw_19 : decode cX5_readLaw 19 = .ok (.iload_n 2, 1) := by decide +kernel
theorem dX5_readLaw_20 : decode cX5_readLaw 20 = .ok (.iconst (-1), 1) := by decide +kernel
theorem dX5_readLaw_21 : decode cX5_readLaw 21 = .ok (.if_icmp .eq 12, 3) := by decide +kernel
theorem dX5_readLaw_24 : decode cX5_readLaw 24 = .ok (.aload_n 0, 1) := by decide +kernel
theorem dX5_readLaw_25 : decode cX5_readLaw 25 = .ok (.bipush 44, 2) := by decide +kernel
theorem dX5_readLaw_27 : decode cX5_readLaw 27 = .ok (.invokevirtual 35, 3) := by decide +kernel
theorem dX5_readLaw_30 : decode cX5_readLaw 30 = .ok (.ifCond .ne 5, 3) := by decide +kernel
theorem dX5_readLaw_33 : decode cX5_readLaw 33 = .ok (.iconst 0, 1) := by decide +kernel
theorem dX5_readLaw_34 : decode cX5_readLaw 34 = .ok (.ireturn, 1) := by decide +kernel
theorem dX5_readLaw_35 : decode cX5_readLaw 35 = .ok (.aload_n 0, 1) := by decide +kernel
theorem dX5_readLaw_36 : decode cX5_readLaw 36 = .ok (.iconst 0, 1) := by decide +kernel
theorem dX5_readLaw_37 : decode cX5_readLaw 37 = .ok (.iload_n 2, 1) := by decide +kernel
theorem dX5_readLaw_38 : decode cX5_readLaw 38 = .ok (.iconst 1, 1) := by decide +kernel
theorem dX5_readLaw_39 : decode cX5_readLaw 39 = .ok (.isub, 1) := by decide +kernel
theorem dX5_readLaw_40 : decode cX5_readLaw 40 = .ok (.invokevirtual 39, 3) := by decide +kernel
theorem dX5_readLaw_43 : decode cX5_readLaw 43 = .ok (.istore_n 3, 1) := by decide +kernel
theorem dX5_readLaw_44 : decode cX5_readLaw 44 = .ok (.iload_n 3, 1) := by decide +kernel
theorem dX5_readLaw_45 : decode cX5_readLaw 45 = .ok (.iconst (-1), 1) := by decide +kernel
theorem dX5_readLaw_46 : decode cX5_readLaw 46 = .ok (.if_icmp .eq 12, 3) := by decide +kernel
theorem dX5_readLaw_49 : decode cX5_readLaw 49 = .ok (.aload_n 0, 1) := by decide +kernel
theorem dX5_readLaw_50 : decode cX5_readLaw 50 = .ok (.bipush 44, 2) := by decide +kernel
theorem dX5_readLaw_52 : decode cX5_readLaw 52 = .ok (.invokevirtual 35, 3) := by decide +kernel
theorem dX5_readLaw_55 : decode cX5_readLaw 55 = .ok (.ifCond .ne 5, 3) := by decide +kernel
theorem dX5_readLaw_58 : decode cX5_readLaw 58 = .ok (.iconst 0, 1) := by decide +kernel
theorem dX5_readLaw_59 : decode cX5_readLaw 59 = .ok (.ireturn, 1) := by decide +kernel
theorem dX5_readLaw_60 : decode cX5_readLaw 60 = .ok (.aload_n 0, 1) := by decide +kernel
theorem dX5_readLaw_61 : decode cX5_readLaw 61 = .ok (.iconst 0, 1) := by decide +kernel
theorem dX5_readLaw_62 : decode cX5_readLaw 62 = .ok (.bipush 40, 2) := by decide +kernel
theorem dX5_readLaw_64 : decode cX5_readLaw 64 = .ok (.invokevirtual 39, 3) := by decide +kernel
theorem dX5_readLaw_67 : decode cX5_readLaw 67 = .ok (.istore 4, 2) := by decide +kernel
theorem dX5_readLaw_69 : decode cX5_readLaw 69 = .ok (.iload 4, 2) := by decide +kernel
theorem dX5_readLaw_71 : decode cX5_readLaw 71 = .ok (.iconst (-1), 1) := by decide +kernel
theorem dX5_readLaw_72 : decode cX5_readLaw 72 = .ok (.if_icmp .eq 12, 3) := by decide +kernel
theorem dX5_readLaw_75 : decode cX5_readLaw 75 = .ok (.aload_n 0, 1) := by decide +kernel
theorem dX5_readLaw_76 : decode cX5_readLaw 76 = .ok (.bipush 44, 2) := by decide +kernel
theorem dX5_readLaw_78 : decode cX5_readLaw 78 = .ok (.invokevirtual 35, 3) := by decide +kernel
theorem dX5_readLaw_81 : decode cX5_readLaw 81 = .ok (.ifCond .ne 5, 3) := by decide +kernel
theorem dX5_readLaw_84 : decode cX5_readLaw 84 = .ok (.iconst 0, 1) := by decide +kernel
theorem dX5_readLaw_85 : decode cX5_readLaw 85 = .ok (.ireturn, 1) := by decide +kernel
theorem dX5_readLaw_86 : decode cX5_readLaw 86 = .ok (.aload_n 0, 1) := by decide +kernel
theorem dX5_readLaw_87 : decode cX5_readLaw 87 = .ok (.iconst 0, 1) := by decide +kernel
theorem dX5_readLaw_88 : decode cX5_readLaw 88 = .ok (.bipush 99, 2) := by decide +kernel
theorem dX5_readLaw_90 : decode cX5_readLaw 90 = .ok (.invokevirtual 39, 3) := by decide +kernel
theorem dX5_readLaw_93 : decode cX5_readLaw 93 = .ok (.istore 5, 2) := by decide +kernel
theorem dX5_readLaw_95 : decode cX5_readLaw 95 = .ok (.iload 5, 2) := by decide +kernel
theorem dX5_readLaw_97 : decode cX5_readLaw 97 = .ok (.iconst (-1), 1) := by decide +kernel
theorem dX5_readLaw_98 : decode cX5_readLaw 98 = .ok (.if_icmp .eq 12, 3) := by decide +kernel
theorem dX5_readLaw_101 : decode cX5_readLaw 101 = .ok (.aload_n 0, 1) := by decide +kernel
theorem dX5_readLaw_102 : decode cX5_readLaw 102 = .ok (.bipush 59, 2) := by decide +kernel
theorem dX5_readLaw_104 : decode cX5_readLaw 104 = .ok (.invokevirtual 35, 3) := by decide +kernel
theorem dX5_readLaw_107 : decode cX5_readLaw 107 = .ok (.ifCond .ne 5, 3) := by decide +kernel
theorem dX5_readLaw_110 : decode cX5_readLaw 110 = .ok (.iconst 0, 1) := by decide +kernel
theorem dX5_readLaw_111 : decode cX5_readLaw 111 = .ok (.ireturn, 1) := by decide +kernel
theorem dX5_readLaw_112 : decode cX5_readLaw 112 = .ok (.aload_n 1, 1) := by decide +kernel
