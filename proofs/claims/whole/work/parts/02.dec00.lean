theorem dX0_init_0 : decode cX0_init 0 = .ok (.aload_n 0, 1) := by decide +kernel
theorem dX0_init_1 : decode cX0_init 1 = .ok (.invokespecial 3, 3) := by decide +kernel
theorem dX0_init_4 : decode cX0_init 4 = .ok (.aload_n 0, 1) := by decide +kernel
theorem dX0_init_5 : decode cX0_init 5 = .ok (.bipush 16, 2) := by decide +kernel
theorem dX0_init_7 : decode cX0_init 7 = .ok (.newarray .int, 2) := by decide +kernel
theorem dX0_init_9 : decode cX0_init 9 = .ok (.putfield 11, 3) := by decide +kernel
theorem dX0_init_12 : decode cX0_init 12 = .ok (.return_, 1) := by decide +kernel
theorem dX0_startAnew_0 : decode cX0_startAnew 0 = .ok (.aload_n 0, 1) := by decide +kernel
theorem dX0_startAnew_1 : decode cX0_startAnew 1 = .ok (.iconst 0, 1) := by decide +kernel
theorem dX0_startAnew_2 : decode cX0_startAnew 2 = .ok (.putfield 15, 3) := by decide +kernel
theorem dX0_startAnew_5 : decode cX0_startAnew 5 = .ok (.return_, 1) := by decide +kernel
theorem dX0_bodyAt_0 : decode cX0_bodyAt 0 = .ok (.iload_n 1, 1) := by decide +kernel
theorem dX0_bodyAt_1 : decode cX0_bodyAt 1 = .ok (.ifCond .lt 20, 3) := by decide +kernel
theorem dX0_bodyAt_4 : decode cX0_bodyAt 4 = .ok (.iload_n 1, 1) := by decide +kernel
theorem dX0_bodyAt_5 : decode cX0_bodyAt 5 = .ok (.aload_n 0, 1) := by decide +kernel
theorem dX0_bodyAt_6 : decode cX0_bodyAt 6 = .ok (.getfield 15, 3) := by decide +kernel
theorem dX0_bodyAt_9 : decode cX0_bodyAt 9 = .ok (.if_icmp .ge 12, 3) := by decide +kernel
theorem dX0_bodyAt_12 : decode cX0_bodyAt 12 = .ok (.aload_n 0, 1) := by decide +kernel
theorem dX0_bodyAt_13 : decode cX0_bodyAt 13 = .ok (.getfield 11, 3) := by decide +kernel
theorem dX0_bodyAt_16 : decode cX0_bodyAt 16 = .ok (.iload_n 1, 1) := by decide +kernel
theorem dX0_bodyAt_17 : decode cX0_bodyAt 17 = .ok (.iaload, 1) := by decide +kernel
theorem dX0_bodyAt_18 : decode cX0_bodyAt 18 = .ok (.goto 5, 3) := by decide +kernel
theorem dX0_bodyAt_21 : decode cX0_bodyAt 21 = .ok (.ldc 19, 2) := by decide +kernel
theorem dX0_bodyAt_23 : decode cX0_bodyAt 23 = .ok (.ireturn, 1) := by decide +kernel
theorem dX0_begin_0 : decode cX0_begin 0 = .ok (.aload_n 0, 1) := by decide +kernel
theorem dX0_begin_1 : decode cX0_begin 1 = .ok (.getfield 15, 3) := by decide +kernel
theorem dX0_begin_4 : decode cX0_begin 4 = .ok (.bipush 16, 2) := by decide +kernel
theorem dX0_begin_6 : decode cX0_begin 6 = .ok (.if_icmp .ge 23, 3) := by decide +kernel
theorem dX0_begin_9 : decode cX0_begin 9 = .ok (.aload_n 0, 1) := by decide +kernel
theorem dX0_begin_10 : decode cX0_begin 10 = .ok (.getfield 11, 3) := by decide +kernel
theorem dX0_begin_13 : decode cX0_begin 13 = .ok (.aload_n 0, 1) := by decide +kernel
theorem dX0_begin_14 : decode cX0_begin 14 = .ok (.getfield 15, 3) := by decide +kernel
theorem dX0_begin_17 : decode cX0_begin 17 = .ok (.iload_n 1, 1) := by decide +kernel
theorem dX0_begin_18 : decode cX0_begin 18 = .ok (.iastore, 1) := by decide +kernel
theorem dX0_begin_19 : decode cX0_begin 19 = .ok (.aload_n 0, 1) := by decide +kernel
theorem dX0_begin_20 : decode cX0_begin 20 = .ok (.dup, 1) := by decide +kernel
theorem dX0_begin_21 : decode cX0_begin 21 = .ok (.getfield 15, 3) := by decide +kernel
theorem dX0_begin_24 : decode cX0_begin 24 = .ok (.iconst 1, 1) := by decide +kernel
theorem dX0_begin_25 : decode cX0_begin 25 = .ok (.iadd, 1) := by decide +kernel
theorem dX0_begin_26 : decode cX0_begin 26 = .ok (.putfield 15, 3) := by decide +kernel
theorem dX0_begin_29 : decode cX0_begin 29 = .ok (.return_, 1) := by decide +kernel
theorem dX0_sizeOf_0 : decode cX0_sizeOf 0 = .ok (.aload_n 1, 1) := by decide +kernel
theorem dX0_sizeOf_1 : decode cX0_sizeOf 1 = .ok (.getfield 20, 3) := by decide +kernel
theorem dX0_sizeOf_4 : decode cX0_sizeOf 4 = .ok (.iload_n 2, 1) := by decide +kernel
theorem dX0_sizeOf_5 : decode cX0_sizeOf 5 = .ok (.iaload, 1) := by decide +kernel
theorem dX0_sizeOf_6 : decode cX0_sizeOf 6 = .ok (.tableswitch 62 1 5 #[34, 41, 34, 55, 55], 34) := by decide +kernel
theorem dX0_sizeOf_40 : decode cX0_sizeOf 40 = .ok (.aload_n 0, 1) := by decide +kernel
theorem dX0_sizeOf_41 : decode cX0_sizeOf 41 = .ok (.aload_n 1, 1) := by decide +kernel
theorem dX0_sizeOf_42 : decode cX0_sizeOf 42 = .ok (.iload_n 2, 1) := by decide +kernel
theorem dX0_sizeOf_43 : decode cX0_sizeOf 43 = .ok (.invokevirtual 25, 3) := by decide +kernel
theorem dX0_sizeOf_46 : decode cX0_sizeOf 46 = .ok (.ireturn, 1) := by decide +kernel
theorem dX0_sizeOf_47 : decode cX0_sizeOf 47 = .ok (.aload_n 0, 1) := by decide +kernel
theorem dX0_sizeOf_48 : decode cX0_sizeOf 48 = .ok (.bipush 12, 2) := by decide +kernel
theorem dX0_sizeOf_50 : decode cX0_sizeOf 50 = .ok (.invokevirtual 29, 3) := by decide +kernel
theorem dX0_sizeOf_53 : decode cX0_sizeOf 53 = .ok (.aload_n 0, 1) := by decide +kernel
theorem dX0_sizeOf_54 : decode cX0_sizeOf 54 = .ok (.aload_n 1, 1) := by decide +kernel
theorem dX0_sizeOf_55 : decode cX0_sizeOf 55 = .ok (.iload_n 2, 1) := by decide +kernel
theorem dX0_sizeOf_56 : decode cX0_sizeOf 56 = .ok (.invokevirtual 25, 3) := by decide +kernel
theorem dX0_sizeOf_59 : decode cX0_sizeOf 59 = .ok (.ineg, 1) := by decide +kernel
theorem dX0_sizeOf_60 : decode cX0_sizeOf 60 = .ok (.ireturn, 1) := by decide +kernel
theorem dX0_sizeOf_61 : decode cX0_sizeOf 61 = .ok (.aload_n 0, 1) := by decide +kernel
theorem dX0_sizeOf_62 : decode cX0_sizeOf 62 = .ok (.aload_n 1, 1) := by decide +kernel
theorem dX0_sizeOf_63 : decode cX0_sizeOf 63 = .ok (.iload_n 2, 1) := by decide +kernel
theorem dX0_sizeOf_64 : decode cX0_sizeOf 64 = .ok (.invokevirtual 33, 3) := by decide +kernel
theorem dX0_sizeOf_67 : decode cX0_sizeOf 67 = .ok (.ireturn, 1) := by decide +kernel
theorem dX0_sizeOf_68 : decode cX0_sizeOf 68 = .ok (.aload_n 0, 1) := by decide +kernel
theorem dX0_sizeOf_69 : decode cX0_sizeOf 69 = .ok (.aload_n 1, 1) := by decide +kernel
theorem dX0_sizeOf_70 : decode cX0_sizeOf 70 = .ok (.iload_n 2, 1) := by decide +kernel
theorem dX0_sizeOf_71 : decode cX0_sizeOf 71 = .ok (.invokevirtual 36, 3) := by decide +kernel
theorem dX0_sizeOf_74 : decode cX0_sizeOf 74 = .ok (.ireturn, 1) := by decide +kernel
theorem dX0_markOf_0 : decode cX0_markOf 0 = .ok (.aload_n 1, 1) := by decide +kernel
theorem dX0_markOf_1 : decode cX0_markOf 1 = .ok (.getfield 20, 3) := by decide +kernel
theorem dX0_markOf_4 : decode cX0_markOf 4 = .ok (.iload_n 2, 1) := by decide +kernel
theorem dX0_markOf_5 : decode cX0_markOf 5 = .ok (.iaload, 1) := by decide +kernel
theorem dX0_markOf_6 : decode cX0_markOf 6 = .ok (.tableswitch 48 1 5 #[34, 34, 34, 41, 41], 34) := by decide +kernel
theorem dX0_markOf_40 : decode cX0_markOf 40 = .ok (.aload_n 0, 1) := by decide +kernel
theorem dX0_markOf_41 : decode cX0_markOf 41 = .ok (.aload_n 1, 1) := by decide +kernel
theorem dX0_markOf_42 : decode cX0_markOf 42 = .ok (.iload_n 2, 1) := by decide +kernel
theorem dX0_markOf_43 : decode cX0_markOf 43 = .ok (.invokevirtual 39, 3) := by decide +kernel
theorem dX0_markOf_46 : decode cX0_markOf 46 = .ok (.ireturn, 1) := by decide +kernel
theorem dX0_markOf_47 : decode cX0_markOf 47 = .ok (.aload_n 0, 1) := by decide +kernel
theorem dX0_markOf_48 : decode cX0_markOf 48 = .ok (.aload_n 1, 1) := by decide +kernel
theorem dX0_markOf_49 : decode cX0_markOf 49 = .ok (.iload_n 2, 1) := by decide +kernel
theorem dX0_markOf_50 : decode cX0_markOf 50 = .ok (.invokevirtual 42, 3) := by decide +kernel
theorem dX0_markOf_53 : decode cX0_markOf 53 = .ok (.ireturn, 1) := by decide +kernel
theorem dX0_markOf_54 : decode cX0_markOf 54 = .ok (.aload_n 0, 1) := by decide +kernel
theorem dX0_markOf_55 : decode cX0_markOf 55 = .ok (.iload_n 2, 1) := by decide +kernel
theorem dX0_markOf_56 : decode cX0_markOf 56 = .ok (.invokevirtual 45, 3) := by decide +kernel
theorem dX0_markOf_59 : decode cX0_markOf 59 = .ok (.ireturn, 1) := by decide +kernel
theorem dX0_sizeOfFires_0 : decode cX0_sizeOfFires 0 = .ok (.aload_n 1, 1) := by decide +kernel
theorem dX0_sizeOfFires_1 : decode cX0_sizeOfFires 1 = .ok (.getfield 20, 3) := by decide +kernel
theorem dX0_sizeOfFires_4 : decode cX0_sizeOfFires 4 = .ok (.iload_n 2, 1) := by decide +kernel
theorem dX0_sizeOfFires_5 : decode cX0_sizeOfFires 5 = .ok (.iaload, 1) := by decide +kernel
theorem dX0_sizeOfFires_6 : decode cX0_sizeOfFires 6 = .ok (.iconst 5, 1) := by decide +kernel
theorem dX0_sizeOfFires_7 : decode cX0_sizeOfFires 7 = .ok (.if_icmp .ne 18, 3) := by decide +kernel
theorem dX0_sizeOfFires_10 : decode cX0_sizeOfFires 10 = .ok (.aload_n 0, 1) := by decide +kernel
theorem dX0_sizeOfFires_11 : decode cX0_sizeOfFires 11 = .ok (.bipush 14, 2) := by decide +kernel
theorem dX0_sizeOfFires_13 : decode cX0_sizeOfFires 13 = .ok (.invokevirtual 29, 3) := by decide +kernel
theorem dX0_sizeOfFires_16 : decode cX0_sizeOfFires 16 = .ok (.iconst 2, 1) := by decide +kernel
theorem dX0_sizeOfFires_17 : decode cX0_sizeOfFires 17 = .ok (.aload_n 0, 1) := by decide +kernel
theorem dX0_sizeOfFires_18 : decode cX0_sizeOfFires 18 = .ok (.aload_n 1, 1) := by decide +kernel
theorem dX0_sizeOfFires_19 : decode cX0_sizeOfFires 19 = .ok (.iload_n 2, 1) := by decide +kernel
theorem dX0_sizeOfFires_20 : decode cX0_sizeOfFires 20 = .ok (.invokevirtual 49, 3) := by decide +kernel
theorem dX0_sizeOfFires_23 : decode cX0_sizeOfFires 23 = .ok (.imul, 1) := by decide +kernel
theorem dX0_sizeOfFires_24 : decode cX0_sizeOfFires 24 = .ok (.ireturn, 1) := by decide +kernel
theorem dX0_sizeOfFires_25 : decode cX0_sizeOfFires 25 = .ok (.aload_n 0, 1) := by decide +kernel
theorem dX0_sizeOfFires_26 : decode cX0_sizeOfFires 26 = .ok (.aload_n 1, 1) := by decide +kernel
theorem dX0_sizeOfFires_27 : decode cX0_sizeOfFires 27 = .ok (.iload_n 2, 1) := by decide +kernel
theorem dX0_sizeOfFires_28 : decode cX0_sizeOfFires 28 = .ok (.invokevirtual 49, 3) := by decide +kernel
theorem dX0_sizeOfFires_31 : decode cX0_sizeOfFires 31 = .ok (.ireturn, 1) := by decide +kernel
theorem dX0_markOfReaders_0 : decode cX0_markOfReaders 0 = .ok (.aload_n 1, 1) := by decide +kernel
theorem dX0_markOfReaders_1 : decode cX0_markOfReaders 1 = .ok (.getfield 20, 3) := by decide +kernel
theorem dX0_markOfReaders_4 : decode cX0_markOfReaders 4 = .ok (.iload_n 2, 1) := by decide +kernel
theorem dX0_markOfReaders_5 : decode cX0_markOfReaders 5 = .ok (.iaload, 1) := by decide +kernel
theorem dX0_markOfReaders_6 : decode cX0_markOfReaders 6 = .ok (.lookupswitch 58 #[(2, 26), (3, 41)], 26) := by decide +kernel
theorem dX0_markOfReaders_32 : decode cX0_markOfReaders 32 = .ok (.aload_n 0, 1) := by decide +kernel
theorem dX0_markOfReaders_33 : decode cX0_markOfReaders 33 = .ok (.bipush 24, 2) := by decide +kernel
theorem dX0_markOfReaders_35 : decode cX0_markOfReaders 35 = .ok (.invokevirtual 29, 3) := by decide +kernel
theorem dX0_markOfReaders_38 : decode cX0_markOfReaders 38 = .ok (.iconst 2, 1) := by decide +kernel
theorem dX0_markOfReaders_39 : decode cX0_markOfReaders 39 = .ok (.aload_n 0, 1) := by decide +kernel
theorem dX0_markOfReaders_40 : decode cX0_markOfReaders 40 = .ok (.aload_n 1, 1) := by decide +kernel
theorem dX0_markOfReaders_41 : decode cX0_markOfReaders 41 = .ok (.iload_n 2, 1) := by decide +kernel
theorem dX0_markOfReaders_42 : decode cX0_markOfReaders 42 = .ok (.invokevirtual 52, 3) := by decide +kernel
theorem dX0_markOfReaders_45 : decode cX0_markOfReaders 45 = .ok (.imul, 1) := by decide +kernel
theorem dX0_markOfReaders_46 : decode cX0_markOfReaders 46 = .ok (.ireturn, 1) := by decide +kernel
theorem dX0_markOfReaders_47 : decode cX0_markOfReaders 47 = .ok (.aload_n 0, 1) := by decide +kernel
theorem dX0_markOfReaders_48 : decode cX0_markOfReaders 48 = .ok (.bipush 22, 2) := by decide +kernel
theorem dX0_markOfReaders_50 : decode cX0_markOfReaders 50 = .ok (.invokevirtual 29, 3) := by decide +kernel
theorem dX0_markOfReaders_53 : decode cX0_markOfReaders 53 = .ok (.aload_n 0, 1) := by decide +kernel
theorem dX0_markOfReaders_54 : decode cX0_markOfReaders 54 = .ok (.aload_n 1, 1) := by decide +kernel
theorem dX0_markOfReaders_55 : decode cX0_markOfReaders 55 = .ok (.iload_n 2, 1) := by decide +kernel
theorem dX0_markOfReaders_56 : decode cX0_markOfReaders 56 = .ok (.invokevirtual 52, 3) := by decide +kernel
theorem dX0_markOfReaders_59 : decode cX0_markOfReaders 59 = .ok (.sipush 1000, 3) := by decide +kernel
theorem dX0_markOfReaders_62 : decode cX0_markOfReaders 62 = .ok (.isub, 1) := by decide +kernel
theorem dX0_markOfReaders_63 : decode cX0_markOfReaders 63 = .ok (.ireturn, 1) := by decide +kernel
theorem dX0_markOfReaders_64 : decode cX0_markOfReaders 64 = .ok (.aload_n 0, 1) := by decide +kernel
theorem dX0_markOfReaders_65 : decode cX0_markOfReaders 65 = .ok (.aload_n 1, 1) := by decide +kernel
theorem dX0_markOfReaders_66 : decode cX0_markOfReaders 66 = .ok (.iload_n 2, 1) := by decide +kernel
theorem dX0_markOfReaders_67 : decode cX0_markOfReaders 67 = .ok (.invokevirtual 52, 3) := by decide +kernel
theorem dX0_markOfReaders_70 : decode cX0_markOfReaders 70 = .ok (.ireturn, 1) := by decide +kernel
theorem dX0_lentSize_0 : decode cX0_lentSize 0 = .ok (.aload_n 0, 1) := by decide +kernel
theorem dX0_lentSize_1 : decode cX0_lentSize 1 = .ok (.bipush 10, 2) := by decide +kernel
theorem dX0_lentSize_3 : decode cX0_lentSize 3 = .ok (.invokevirtual 29, 3) := by decide +kernel
theorem dX0_lentSize_6 : decode cX0_lentSize 6 = .ok (.aload_n 1, 1) := by decide +kernel
theorem dX0_lentSize_7 : decode cX0_lentSize 7 = .ok (.getfield 55, 3) := by decide +kernel
theorem dX0_lentSize_10 : decode cX0_lentSize 10 = .ok (.iload_n 2, 1) := by decide +kernel
theorem dX0_lentSize_11 : decode cX0_lentSize 11 = .ok (.iaload, 1) := by decide +kernel
theorem dX0_lentSize_12 : decode cX0_lentSize 12 = .ok (.ireturn, 1) := by decide +kernel
theorem dX0_readerSize_0 : decode cX0_readerSize 0 = .ok (.aload_n 0, 1) := by decide +kernel
theorem dX0_readerSize_1 : decode cX0_readerSize 1 = .ok (.bipush 11, 2) := by decide +kernel
theorem dX0_readerSize_3 : decode cX0_readerSize 3 = .ok (.invokevirtual 29, 3) := by decide +kernel
theorem dX0_readerSize_6 : decode cX0_readerSize 6 = .ok (.aload_n 0, 1) := by decide +kernel
theorem dX0_readerSize_7 : decode cX0_readerSize 7 = .ok (.aload_n 1, 1) := by decide +kernel
theorem dX0_readerSize_8 : decode cX0_readerSize 8 = .ok (.iload_n 2, 1) := by decide +kernel
theorem dX0_readerSize_9 : decode cX0_readerSize 9 = .ok (.invokevirtual 36, 3) := by decide +kernel
theorem dX0_readerSize_12 : decode cX0_readerSize 12 = .ok (.istore_n 3, 1) := by decide +kernel
theorem dX0_readerSize_13 : decode cX0_readerSize 13 = .ok (.iload_n 3, 1) := by decide +kernel
theorem dX0_readerSize_14 : decode cX0_readerSize 14 = .ok (.aload_n 0, 1) := by decide +kernel
theorem dX0_readerSize_15 : decode cX0_readerSize 15 = .ok (.aload_n 1, 1) := by decide +kernel
theorem dX0_readerSize_16 : decode cX0_readerSize 16 = .ok (.iload_n 2, 1) := by decide +kernel
theorem dX0_readerSize_17 : decode cX0_readerSize 17 = .ok (.invokevirtual 39, 3) := by decide +kernel
theorem dX0_readerSize_20 : decode cX0_readerSize 20 = .ok (.iadd, 1) := by decide +kernel
theorem dX0_readerSize_21 : decode cX0_readerSize 21 = .ok (.ireturn, 1) := by decide +kernel
theorem dX0_fireSize_0 : decode cX0_fireSize 0 = .ok (.aload_n 0, 1) := by decide +kernel
theorem dX0_fireSize_1 : decode cX0_fireSize 1 = .ok (.bipush 13, 2) := by decide +kernel
theorem dX0_fireSize_3 : decode cX0_fireSize 3 = .ok (.invokevirtual 29, 3) := by decide +kernel
theorem dX0_fireSize_6 : decode cX0_fireSize 6 = .ok (.aload_n 0, 1) := by decide +kernel
theorem dX0_fireSize_7 : decode cX0_fireSize 7 = .ok (.aload_n 1, 1) := by decide +kernel
theorem dX0_fireSize_8 : decode cX0_fireSize 8 = .ok (.iload_n 2, 1) := by decide +kernel
theorem dX0_fireSize_9 : decode cX0_fireSize 9 = .ok (.invokevirtual 36, 3) := by decide +kernel
theorem dX0_fireSize_12 : decode cX0_fireSize 12 = .ok (.bipush 100, 2) := by decide +kernel
theorem dX0_fireSize_14 : decode cX0_fireSize 14 = .ok (.isub, 1) := by decide +kernel
theorem dX0_fireSize_15 : decode cX0_fireSize 15 = .ok (.ireturn, 1) := by decide +kernel
theorem dX0_lentMark_0 : decode cX0_lentMark 0 = .ok (.aload_n 0, 1) := by decide +kernel
theorem dX0_lentMark_1 : decode cX0_lentMark 1 = .ok (.bipush 20, 2) := by decide +kernel
theorem dX0_lentMark_3 : decode cX0_lentMark 3 = .ok (.invokevirtual 29, 3) := by decide +kernel
theorem dX0_lentMark_6 : decode cX0_lentMark 6 = .ok (.iload_n 1, 1) := by decide +kernel
theorem dX0_lentMark_7 : decode cX0_lentMark 7 = .ok (.ireturn, 1) := by decide +kernel
theorem dX0_readerMark_0 : decode cX0_readerMark 0 = .ok (.aload_n 0, 1) := by decide +kernel
theorem dX0_readerMark_1 : decode cX0_readerMark 1 = .ok (.bipush 21, 2) := by decide +kernel
theorem dX0_readerMark_3 : decode cX0_readerMark 3 = .ok (.invokevirtual 29, 3) := by decide +kernel
theorem dX0_readerMark_6 : decode cX0_readerMark 6 = .ok (.aload_n 0, 1) := by decide +kernel
theorem dX0_readerMark_7 : decode cX0_readerMark 7 = .ok (.iload_n 2, 1) := by decide +kernel
theorem dX0_readerMark_8 : decode cX0_readerMark 8 = .ok (.invokevirtual 45, 3) := by decide +kernel
theorem dX0_readerMark_11 : decode cX0_readerMark 11 = .ok (.aload_n 1, 1) := by decide +kernel
theorem dX0_readerMark_12 : decode cX0_readerMark 12 = .ok (.getfield 58, 3) := by decide +kernel
theorem dX0_readerMark_15 : decode cX0_readerMark 15 = .ok (.iload_n 2, 1) := by decide +kernel
theorem dX0_readerMark_16 : decode cX0_readerMark 16 = .ok (.iaload, 1) := by decide +kernel
theorem dX0_readerMark_17 : decode cX0_readerMark 17 = .ok (.iadd, 1) := by decide +kernel
theorem dX0_readerMark_18 : decode cX0_readerMark 18 = .ok (.ireturn, 1) := by decide +kernel
theorem dX0_fireMark_0 : decode cX0_fireMark 0 = .ok (.aload_n 0, 1) := by decide +kernel
theorem dX0_fireMark_1 : decode cX0_fireMark 1 = .ok (.bipush 23, 2) := by decide +kernel
theorem dX0_fireMark_3 : decode cX0_fireMark 3 = .ok (.invokevirtual 29, 3) := by decide +kernel
theorem dX0_fireMark_6 : decode cX0_fireMark 6 = .ok (.aload_n 0, 1) := by decide +kernel
theorem dX0_fireMark_7 : decode cX0_fireMark 7 = .ok (.iload_n 2, 1) := by decide +kernel
theorem dX0_fireMark_8 : decode cX0_fireMark 8 = .ok (.invokevirtual 45, 3) := by decide +kernel
theorem dX0_fireMark_11 : decode cX0_fireMark 11 = .ok (.istore_n 3, 1) := by decide +kernel
theorem dX0_fireMark_12 : decode cX0_fireMark 12 = .ok (.iload_n 3, 1) := by decide +kernel
theorem dX0_fireMark_13 : decode cX0_fireMark 13 = .ok (.aload_n 0, 1) := by decide +kernel
theorem dX0_fireMark_14 : decode cX0_fireMark 14 = .ok (.aload_n 1, 1) := by decide +kernel
theorem dX0_fireMark_15 : decode cX0_fireMark 15 = .ok (.iload_n 2, 1) := by decide +kernel
theorem dX0_fireMark_16 : decode cX0_fireMark 16 = .ok (.invokevirtual 33, 3) := by decide +kernel
theorem dX0_fireMark_19 : decode cX0_fireMark 19 = .ok (.isub, 1) := by decide +kernel
theorem dX0_fireMark_20 : decode cX0_fireMark 20 = .ok (.ireturn, 1) := by decide +kernel
theorem dX1_init_0 : decode cX1_init 0 = .ok (.aload_n 0, 1) := by decide +kernel
theorem dX1_init_1 : decode cX1_init 1 = .ok (.invokespecial 5, 3) := by decide +kernel
theorem dX1_init_4 : decode cX1_init 4 = .ok (.aload_n 0, 1) := by decide +kernel
theorem dX1_init_5 : decode cX1_init 5 = .ok (.bipush 8, 2) := by decide +kernel
theorem dX1_init_7 : decode cX1_init 7 = .ok (.newarray .int, 2) := by decide +kernel
theorem dX1_init_9 : decode cX1_init 9 = .ok (.putfield 11, 3) := by decide +kernel
theorem dX1_init_12 : decode cX1_init 12 = .ok (.aload_n 0, 1) := by decide +kernel
theorem dX1_init_13 : decode cX1_init 13 = .ok (.bipush 8, 2) := by decide +kernel
theorem dX1_init_15 : decode cX1_init 15 = .ok (.newarray .int, 2) := by decide +kernel
theorem dX1_init_17 : decode cX1_init 17 = .ok (.putfield 15, 3) := by decide +kernel
theorem dX1_init_20 : decode cX1_init 20 = .ok (.aload_n 0, 1) := by decide +kernel
theorem dX1_init_21 : decode cX1_init 21 = .ok (.iconst 5, 1) := by decide +kernel
theorem dX1_init_22 : decode cX1_init 22 = .ok (.newarray .int, 2) := by decide +kernel
theorem dX1_init_24 : decode cX1_init 24 = .ok (.putfield 18, 3) := by decide +kernel
theorem dX1_init_27 : decode cX1_init 27 = .ok (.aload_n 0, 1) := by decide +kernel
theorem dX1_init_28 : decode cX1_init 28 = .ok (.iconst 5, 1) := by decide +kernel
theorem dX1_init_29 : decode cX1_init 29 = .ok (.newarray .int, 2) := by decide +kernel
theorem dX1_init_31 : decode cX1_init 31 = .ok (.putfield 21, 3) := by decide +kernel
theorem dX1_init_34 : decode cX1_init 34 = .ok (.aload_n 0, 1) := by decide +kernel
theorem dX1_init_35 : decode cX1_init 35 = .ok (.iconst 5, 1) := by decide +kernel
theorem dX1_init_36 : decode cX1_init 36 = .ok (.newarray .int, 2) := by decide +kernel
theorem dX1_init_38 : decode cX1_init 38 = .ok (.putfield 24, 3) := by decide +kernel
theorem dX1_init_41 : decode cX1_init 41 = .ok (.aload_n 0, 1) := by decide +kernel
theorem dX1_init_42 : decode cX1_init 42 = .ok (.bipush 6, 2) := by decide +kernel
theorem dX1_init_44 : decode cX1_init 44 = .ok (.newarray .int, 2) := by decide +kernel
theorem dX1_init_46 : decode cX1_init 46 = .ok (.putfield 27, 3) := by decide +kernel
theorem dX1_init_49 : decode cX1_init 49 = .ok (.return_, 1) := by decide +kernel
theorem dX1_stands_0 : decode cX1_stands 0 = .ok (.aload_n 0, 1) := by decide +kernel
theorem dX1_stands_1 : decode cX1_stands 1 = .ok (.getfield 30, 3) := by decide +kernel
theorem dX1_stands_4 : decode cX1_stands 4 = .ok (.ifCond .le 7, 3) := by decide +kernel
theorem dX1_stands_7 : decode cX1_stands 7 = .ok (.iconst 1, 1) := by decide +kernel
theorem dX1_stands_8 : decode cX1_stands 8 = .ok (.goto 4, 3) := by decide +kernel
theorem dX1_stands_11 : decode cX1_stands 11 = .ok (.iconst 0, 1) := by decide +kernel
theorem dX1_stands_12 : decode cX1_stands 12 = .ok (.ireturn, 1) := by decide +kernel
theorem dX1_hasRoom_0 : decode cX1_hasRoom 0 = .ok (.iload_n 1, 1) := by decide +kernel
theorem dX1_hasRoom_1 : decode cX1_hasRoom 1 = .ok (.ifCond .lt 15, 3) := by decide +kernel
theorem dX1_hasRoom_4 : decode cX1_hasRoom 4 = .ok (.iload_n 1, 1) := by decide +kernel
theorem dX1_hasRoom_5 : decode cX1_hasRoom 5 = .ok (.aload_n 0, 1) := by decide +kernel
theorem dX1_hasRoom_6 : decode cX1_hasRoom 6 = .ok (.getfield 30, 3) := by decide +kernel
theorem dX1_hasRoom_9 : decode cX1_hasRoom 9 = .ok (.if_icmp .ge 7, 3) := by decide +kernel
theorem dX1_hasRoom_12 : decode cX1_hasRoom 12 = .ok (.iconst 1, 1) := by decide +kernel
theorem dX1_hasRoom_13 : decode cX1_hasRoom 13 = .ok (.goto 4, 3) := by decide +kernel
theorem dX1_hasRoom_16 : decode cX1_hasRoom 16 = .ok (.iconst 0, 1) := by decide +kernel
theorem dX1_hasRoom_17 : decode cX1_hasRoom 17 = .ok (.ireturn, 1) := by decide +kernel
theorem dX1_hasRooms_0 : decode cX1_hasRooms 0 = .ok (.iload_n 1, 1) := by decide +kernel
theorem dX1_hasRooms_1 : decode cX1_hasRooms 1 = .ok (.ifCond .lt 17, 3) := by decide +kernel
theorem dX1_hasRooms_4 : decode cX1_hasRooms 4 = .ok (.iload_n 1, 1) := by decide +kernel
theorem dX1_hasRooms_5 : decode cX1_hasRooms 5 = .ok (.iconst 1, 1) := by decide +kernel
theorem dX1_hasRooms_6 : decode cX1_hasRooms 6 = .ok (.aload_n 0, 1) := by decide +kernel
theorem dX1_hasRooms_7 : decode cX1_hasRooms 7 = .ok (.getfield 30, 3) := by decide +kernel
theorem dX1_hasRooms_10 : decode cX1_hasRooms 10 = .ok (.ishl, 1) := by decide +kernel
theorem dX1_hasRooms_11 : decode cX1_hasRooms 11 = .ok (.if_icmp .ge 7, 3) := by decide +kernel
theorem dX1_hasRooms_14 : decode cX1_hasRooms 14 = .ok (.iconst 1, 1) := by decide +kernel
theorem dX1_hasRooms_15 : decode cX1_hasRooms 15 = .ok (.goto 4, 3) := by decide +kernel
theorem dX1_hasRooms_18 : decode cX1_hasRooms 18 = .ok (.iconst 0, 1) := by decide +kernel
theorem dX1_hasRooms_19 : decode cX1_hasRooms 19 = .ok (.ireturn, 1) := by decide +kernel
theorem dX1_hasDoor_0 : decode cX1_hasDoor 0 = .ok (.iload_n 1, 1) := by decide +kernel
theorem dX1_hasDoor_1 : decode cX1_hasDoor 1 = .ok (.ifCond .lt 15, 3) := by decide +kernel
theorem dX1_hasDoor_4 : decode cX1_hasDoor 4 = .ok (.iload_n 1, 1) := by decide +kernel
theorem dX1_hasDoor_5 : decode cX1_hasDoor 5 = .ok (.aload_n 0, 1) := by decide +kernel
theorem dX1_hasDoor_6 : decode cX1_hasDoor 6 = .ok (.getfield 34, 3) := by decide +kernel
theorem dX1_hasDoor_9 : decode cX1_hasDoor 9 = .ok (.if_icmp .ge 7, 3) := by decide +kernel
theorem dX1_hasDoor_12 : decode cX1_hasDoor 12 = .ok (.iconst 1, 1) := by decide +kernel
theorem dX1_hasDoor_13 : decode cX1_hasDoor 13 = .ok (.goto 4, 3) := by decide +kernel
theorem dX1_hasDoor_16 : decode cX1_hasDoor 16 = .ok (.iconst 0, 1) := by decide +kernel
theorem dX1_hasDoor_17 : decode cX1_hasDoor 17 = .ok (.ireturn, 1) := by decide +kernel
theorem dX1_hasSitter_0 : decode cX1_hasSitter 0 = .ok (.iload_n 1, 1) := by decide +kernel
theorem dX1_hasSitter_1 : decode cX1_hasSitter 1 = .ok (.ifCond .lt 15, 3) := by decide +kernel
theorem dX1_hasSitter_4 : decode cX1_hasSitter 4 = .ok (.iload_n 1, 1) := by decide +kernel
theorem dX1_hasSitter_5 : decode cX1_hasSitter 5 = .ok (.aload_n 0, 1) := by decide +kernel
theorem dX1_hasSitter_6 : decode cX1_hasSitter 6 = .ok (.getfield 37, 3) := by decide +kernel
theorem dX1_hasSitter_9 : decode cX1_hasSitter 9 = .ok (.if_icmp .ge 7, 3) := by decide +kernel
theorem dX1_hasSitter_12 : decode cX1_hasSitter 12 = .ok (.iconst 1, 1) := by decide +kernel
theorem dX1_hasSitter_13 : decode cX1_hasSitter 13 = .ok (.goto 4, 3) := by decide +kernel
theorem dX1_hasSitter_16 : decode cX1_hasSitter 16 = .ok (.iconst 0, 1) := by decide +kernel
theorem dX1_hasSitter_17 : decode cX1_hasSitter 17 = .ok (.ireturn, 1) := by decide +kernel
theorem dX1_clear_0 : decode cX1_clear 0 = .ok (.aload_n 0, 1) := by decide +kernel
theorem dX1_clear_1 : decode cX1_clear 1 = .ok (.iconst 0, 1) := by decide +kernel
theorem dX1_clear_2 : decode cX1_clear 2 = .ok (.putfield 30, 3) := by decide +kernel
theorem dX1_clear_5 : decode cX1_clear 5 = .ok (.aload_n 0, 1) := by decide +kernel
theorem dX1_clear_6 : decode cX1_clear 6 = .ok (.iconst 0, 1) := by decide +kernel
theorem dX1_clear_7 : decode cX1_clear 7 = .ok (.putfield 40, 3) := by decide +kernel
theorem dX1_clear_10 : decode cX1_clear 10 = .ok (.aload_n 0, 1) := by decide +kernel
theorem dX1_clear_11 : decode cX1_clear 11 = .ok (.iconst 0, 1) := by decide +kernel
theorem dX1_clear_12 : decode cX1_clear 12 = .ok (.putfield 34, 3) := by decide +kernel
theorem dX1_clear_15 : decode cX1_clear 15 = .ok (.aload_n 0, 1) := by decide +kernel
theorem dX1_clear_16 : decode cX1_clear 16 = .ok (.iconst 0, 1) := by decide +kernel
theorem dX1_clear_17 : decode cX1_clear 17 = .ok (.putfield 43, 3) := by decide +kernel
theorem dX1_clear_20 : decode cX1_clear 20 = .ok (.aload_n 0, 1) := by decide +kernel
theorem dX1_clear_21 : decode cX1_clear 21 = .ok (.iconst 0, 1) := by decide +kernel
theorem dX1_clear_22 : decode cX1_clear 22 = .ok (.putfield 37, 3) := by decide +kernel
theorem dX1_clear_25 : decode cX1_clear 25 = .ok (.iconst 0, 1) := by decide +kernel
theorem dX1_clear_26 : decode cX1_clear 26 = .ok (.istore_n 1, 1) := by decide +kernel
theorem dX1_clear_27 : decode cX1_clear 27 = .ok (.iload_n 1, 1) := by decide +kernel
theorem dX1_clear_28 : decode cX1_clear 28 = .ok (.bipush 6, 2) := by decide +kernel
theorem dX1_clear_30 : decode cX1_clear 30 = .ok (.if_icmp .ge 16, 3) := by decide +kernel
theorem dX1_clear_33 : decode cX1_clear 33 = .ok (.aload_n 0, 1) := by decide +kernel
theorem dX1_clear_34 : decode cX1_clear 34 = .ok (.getfield 27, 3) := by decide +kernel
theorem dX1_clear_37 : decode cX1_clear 37 = .ok (.iload_n 1, 1) := by decide +kernel
theorem dX1_clear_38 : decode cX1_clear 38 = .ok (.iconst 0, 1) := by decide +kernel
theorem dX1_clear_39 : decode cX1_clear 39 = .ok (.iastore, 1) := by decide +kernel
theorem dX1_clear_40 : decode cX1_clear 40 = .ok (.iinc 1 1, 3) := by decide +kernel
theorem dX1_clear_43 : decode cX1_clear 43 = .ok (.goto (-16), 3) := by decide +kernel
theorem dX1_clear_46 : decode cX1_clear 46 = .ok (.return_, 1) := by decide +kernel
theorem dX1_setLaw_0 : decode cX1_setLaw 0 = .ok (.aload_n 0, 1) := by decide +kernel
theorem dX1_setLaw_1 : decode cX1_setLaw 1 = .ok (.iload_n 1, 1) := by decide +kernel
theorem dX1_setLaw_2 : decode cX1_setLaw 2 = .ok (.putfield 30, 3) := by decide +kernel
theorem dX1_setLaw_5 : decode cX1_setLaw 5 = .ok (.aload_n 0, 1) := by decide +kernel
theorem dX1_setLaw_6 : decode cX1_setLaw 6 = .ok (.iload_n 2, 1) := by decide +kernel
theorem dX1_setLaw_7 : decode cX1_setLaw 7 = .ok (.putfield 46, 3) := by decide +kernel
theorem dX1_setLaw_10 : decode cX1_setLaw 10 = .ok (.aload_n 0, 1) := by decide +kernel
theorem dX1_setLaw_11 : decode cX1_setLaw 11 = .ok (.iload_n 3, 1) := by decide +kernel
theorem dX1_setLaw_12 : decode cX1_setLaw 12 = .ok (.putfield 49, 3) := by decide +kernel
theorem dX1_setLaw_15 : decode cX1_setLaw 15 = .ok (.aload_n 0, 1) := by decide +kernel
theorem dX1_setLaw_16 : decode cX1_setLaw 16 = .ok (.iload 4, 2) := by decide +kernel
theorem dX1_setLaw_18 : decode cX1_setLaw 18 = .ok (.putfield 52, 3) := by decide +kernel
theorem dX1_setLaw_21 : decode cX1_setLaw 21 = .ok (.return_, 1) := by decide +kernel
theorem dX1_addDoor_0 : decode cX1_addDoor 0 = .ok (.aload_n 0, 1) := by decide +kernel
theorem dX1_addDoor_1 : decode cX1_addDoor 1 = .ok (.getfield 11, 3) := by decide +kernel
theorem dX1_addDoor_4 : decode cX1_addDoor 4 = .ok (.aload_n 0, 1) := by decide +kernel
theorem dX1_addDoor_5 : decode cX1_addDoor 5 = .ok (.getfield 34, 3) := by decide +kernel
theorem dX1_addDoor_8 : decode cX1_addDoor 8 = .ok (.iload_n 1, 1) := by decide +kernel
theorem dX1_addDoor_9 : decode cX1_addDoor 9 = .ok (.iastore, 1) := by decide +kernel
theorem dX1_addDoor_10 : decode cX1_addDoor 10 = .ok (.aload_n 0, 1) := by decide +kernel
theorem dX1_addDoor_11 : decode cX1_addDoor 11 = .ok (.getfield 15, 3) := by decide +kernel
theorem dX1_addDoor_14 : decode cX1_addDoor 14 = .ok (.aload_n 0, 1) := by decide +kernel
theorem dX1_addDoor_15 : decode cX1_addDoor 15 = .ok (.getfield 34, 3) := by decide +kernel
theorem dX1_addDoor_18 : decode cX1_addDoor 18 = .ok (.iload_n 2, 1) := by decide +kernel
theorem dX1_addDoor_19 : decode cX1_addDoor 19 = .ok (.iastore, 1) := by decide +kernel
theorem dX1_addDoor_20 : decode cX1_addDoor 20 = .ok (.iload_n 3, 1) := by decide +kernel
theorem dX1_addDoor_21 : decode cX1_addDoor 21 = .ok (.ifCond .eq 18, 3) := by decide +kernel
theorem dX1_addDoor_24 : decode cX1_addDoor 24 = .ok (.aload_n 0, 1) := by decide +kernel
theorem dX1_addDoor_25 : decode cX1_addDoor 25 = .ok (.dup, 1) := by decide +kernel
theorem dX1_addDoor_26 : decode cX1_addDoor 26 = .ok (.getfield 43, 3) := by decide +kernel
theorem dX1_addDoor_29 : decode cX1_addDoor 29 = .ok (.iconst 1, 1) := by decide +kernel
theorem dX1_addDoor_30 : decode cX1_addDoor 30 = .ok (.aload_n 0, 1) := by decide +kernel
theorem dX1_addDoor_31 : decode cX1_addDoor 31 = .ok (.getfield 34, 3) := by decide +kernel
theorem dX1_addDoor_34 : decode cX1_addDoor 34 = .ok (.ishl, 1) := by decide +kernel
theorem dX1_addDoor_35 : decode cX1_addDoor 35 = .ok (.ior, 1) := by decide +kernel
theorem dX1_addDoor_36 : decode cX1_addDoor 36 = .ok (.putfield 43, 3) := by decide +kernel
theorem dX1_addDoor_39 : decode cX1_addDoor 39 = .ok (.aload_n 0, 1) := by decide +kernel
theorem dX1_addDoor_40 : decode cX1_addDoor 40 = .ok (.dup, 1) := by decide +kernel
theorem dX1_addDoor_41 : decode cX1_addDoor 41 = .ok (.getfield 34, 3) := by decide +kernel
theorem dX1_addDoor_44 : decode cX1_addDoor 44 = .ok (.iconst 1, 1) := by decide +kernel
theorem dX1_addDoor_45 : decode cX1_addDoor 45 = .ok (.iadd, 1) := by decide +kernel
theorem dX1_addDoor_46 : decode cX1_addDoor 46 = .ok (.putfield 34, 3) := by decide +kernel
theorem dX1_addDoor_49 : decode cX1_addDoor 49 = .ok (.return_, 1) := by decide +kernel
theorem dX1_addSitter_0 : decode cX1_addSitter 0 = .ok (.aload_n 0, 1) := by decide +kernel
theorem dX1_addSitter_1 : decode cX1_addSitter 1 = .ok (.getfield 18, 3) := by decide +kernel
theorem dX1_addSitter_4 : decode cX1_addSitter 4 = .ok (.aload_n 0, 1) := by decide +kernel
theorem dX1_addSitter_5 : decode cX1_addSitter 5 = .ok (.getfield 37, 3) := by decide +kernel
theorem dX1_addSitter_8 : decode cX1_addSitter 8 = .ok (.iload_n 1, 1) := by decide +kernel
theorem dX1_addSitter_9 : decode cX1_addSitter 9 = .ok (.iastore, 1) := by decide +kernel
theorem dX1_addSitter_10 : decode cX1_addSitter 10 = .ok (.aload_n 0, 1) := by decide +kernel
theorem dX1_addSitter_11 : decode cX1_addSitter 11 = .ok (.getfield 21, 3) := by decide +kernel
theorem dX1_addSitter_14 : decode cX1_addSitter 14 = .ok (.aload_n 0, 1) := by decide +kernel
theorem dX1_addSitter_15 : decode cX1_addSitter 15 = .ok (.getfield 37, 3) := by decide +kernel
theorem dX1_addSitter_18 : decode cX1_addSitter 18 = .ok (.iload_n 2, 1) := by decide +kernel
theorem dX1_addSitter_19 : decode cX1_addSitter 19 = .ok (.iastore, 1) := by decide +kernel
theorem dX1_addSitter_20 : decode cX1_addSitter 20 = .ok (.aload_n 0, 1) := by decide +kernel
theorem dX1_addSitter_21 : decode cX1_addSitter 21 = .ok (.getfield 24, 3) := by decide +kernel
theorem dX1_addSitter_24 : decode cX1_addSitter 24 = .ok (.aload_n 0, 1) := by decide +kernel
theorem dX1_addSitter_25 : decode cX1_addSitter 25 = .ok (.getfield 37, 3) := by decide +kernel
theorem dX1_addSitter_28 : decode cX1_addSitter 28 = .ok (.iload_n 3, 1) := by decide +kernel
theorem dX1_addSitter_29 : decode cX1_addSitter 29 = .ok (.iastore, 1) := by decide +kernel
theorem dX1_addSitter_30 : decode cX1_addSitter 30 = .ok (.aload_n 0, 1) := by decide +kernel
theorem dX1_addSitter_31 : decode cX1_addSitter 31 = .ok (.dup, 1) := by decide +kernel
theorem dX1_addSitter_32 : decode cX1_addSitter 32 = .ok (.getfield 37, 3) := by decide +kernel
theorem dX1_addSitter_35 : decode cX1_addSitter 35 = .ok (.iconst 1, 1) := by decide +kernel
theorem dX1_addSitter_36 : decode cX1_addSitter 36 = .ok (.iadd, 1) := by decide +kernel
theorem dX1_addSitter_37 : decode cX1_addSitter 37 = .ok (.putfield 37, 3) := by decide +kernel
theorem dX1_addSitter_40 : decode cX1_addSitter 40 = .ok (.return_, 1) := by decide +kernel
theorem dX1_become_0 : decode cX1_become 0 = .ok (.aload_n 0, 1) := by decide +kernel
theorem dX1_become_1 : decode cX1_become 1 = .ok (.aload_n 1, 1) := by decide +kernel
theorem dX1_become_2 : decode cX1_become 2 = .ok (.getfield 30, 3) := by decide +kernel
theorem dX1_become_5 : decode cX1_become 5 = .ok (.putfield 30, 3) := by decide +kernel
theorem dX1_become_8 : decode cX1_become 8 = .ok (.aload_n 0, 1) := by decide +kernel
theorem dX1_become_9 : decode cX1_become 9 = .ok (.aload_n 1, 1) := by decide +kernel
theorem dX1_become_10 : decode cX1_become 10 = .ok (.getfield 46, 3) := by decide +kernel
theorem dX1_become_13 : decode cX1_become 13 = .ok (.putfield 46, 3) := by decide +kernel
theorem dX1_become_16 : decode cX1_become 16 = .ok (.aload_n 0, 1) := by decide +kernel
theorem dX1_become_17 : decode cX1_become 17 = .ok (.aload_n 1, 1) := by decide +kernel
theorem dX1_become_18 : decode cX1_become 18 = .ok (.getfield 49, 3) := by decide +kernel
theorem dX1_become_21 : decode cX1_become 21 = .ok (.putfield 49, 3) := by decide +kernel
theorem dX1_become_24 : decode cX1_become 24 = .ok (.aload_n 0, 1) := by decide +kernel
theorem dX1_become_25 : decode cX1_become 25 = .ok (.aload_n 1, 1) := by decide +kernel
theorem dX1_become_26 : decode cX1_become 26 = .ok (.getfield 52, 3) := by decide +kernel
theorem dX1_become_29 : decode cX1_become 29 = .ok (.putfield 52, 3) := by decide +kernel
theorem dX1_become_32 : decode cX1_become 32 = .ok (.aload_n 0, 1) := by decide +kernel
theorem dX1_become_33 : decode cX1_become 33 = .ok (.aload_n 1, 1) := by decide +kernel
theorem dX1_become_34 : decode cX1_become 34 = .ok (.getfield 40, 3) := by decide +kernel
theorem dX1_become_37 : decode cX1_become 37 = .ok (.putfield 40, 3) := by decide +kernel
theorem dX1_become_40 : decode cX1_become 40 = .ok (.aload_n 0, 1) := by decide +kernel
theorem dX1_become_41 : decode cX1_become 41 = .ok (.aload_n 1, 1) := by decide +kernel
theorem dX1_become_42 : decode cX1_become 42 = .ok (.getfield 34, 3) := by decide +kernel
theorem dX1_become_45 : decode cX1_become 45 = .ok (.putfield 34, 3) := by decide +kernel
theorem dX1_become_48 : decode cX1_become 48 = .ok (.aload_n 0, 1) := by decide +kernel
theorem dX1_become_49 : decode cX1_become 49 = .ok (.aload_n 1, 1) := by decide +kernel
theorem dX1_become_50 : decode cX1_become 50 = .ok (.getfield 43, 3) := by decide +kernel
theorem dX1_become_53 : decode cX1_become 53 = .ok (.putfield 43, 3) := by decide +kernel
theorem dX1_become_56 : decode cX1_become 56 = .ok (.aload_n 0, 1) := by decide +kernel
theorem dX1_become_57 : decode cX1_become 57 = .ok (.aload_n 1, 1) := by decide +kernel
theorem dX1_become_58 : decode cX1_become 58 = .ok (.getfield 37, 3) := by decide +kernel
theorem dX1_become_61 : decode cX1_become 61 = .ok (.putfield 37, 3) := by decide +kernel
theorem dX1_become_64 : decode cX1_become 64 = .ok (.aload_n 1, 1) := by decide +kernel
theorem dX1_become_65 : decode cX1_become 65 = .ok (.getfield 11, 3) := by decide +kernel
theorem dX1_become_68 : decode cX1_become 68 = .ok (.iconst 0, 1) := by decide +kernel
theorem dX1_become_69 : decode cX1_become 69 = .ok (.aload_n 0, 1) := by decide +kernel
theorem dX1_become_70 : decode cX1_become 70 = .ok (.getfield 11, 3) := by decide +kernel
theorem dX1_become_73 : decode cX1_become 73 = .ok (.iconst 0, 1) := by decide +kernel
theorem dX1_become_74 : decode cX1_become 74 = .ok (.bipush 8, 2) := by decide +kernel
theorem dX1_become_76 : decode cX1_become 76 = .ok (.invokestatic 55, 3) := by decide +kernel
theorem dX1_become_79 : decode cX1_become 79 = .ok (.aload_n 1, 1) := by decide +kernel
theorem dX1_become_80 : decode cX1_become 80 = .ok (.getfield 15, 3) := by decide +kernel
theorem dX1_become_83 : decode cX1_become 83 = .ok (.iconst 0, 1) := by decide +kernel
theorem dX1_become_84 : decode cX1_become 84 = .ok (.aload_n 0, 1) := by decide +kernel
theorem dX1_become_85 : decode cX1_become 85 = .ok (.getfield 15, 3) := by decide +kernel
theorem dX1_become_88 : decode cX1_become 88 = .ok (.iconst 0, 1) := by decide +kernel
theorem dX1_become_89 : decode cX1_become 89 = .ok (.bipush 8, 2) := by decide +kernel
theorem dX1_become_91 : decode cX1_become 91 = .ok (.invokestatic 55, 3) := by decide +kernel
theorem dX1_become_94 : decode cX1_become 94 = .ok (.aload_n 1, 1) := by decide +kernel
theorem dX1_become_95 : decode cX1_become 95 = .ok (.getfield 18, 3) := by decide +kernel
theorem dX1_become_98 : decode cX1_become 98 = .ok (.iconst 0, 1) := by decide +kernel
theorem dX1_become_99 : decode cX1_become 99 = .ok (.aload_n 0, 1) := by decide +kernel
theorem dX1_become_100 : decode cX1_become 100 = .ok (.getfield 18, 3) := by decide +kernel
theorem dX1_become_103 : decode cX1_become 103 = .ok (.iconst 0, 1) := by decide +kernel
theorem dX1_become_104 : decode cX1_become 104 = .ok (.iconst 5, 1) := by decide +kernel
theorem dX1_become_105 : decode cX1_become 105 = .ok (.invokestatic 55, 3) := by decide +kernel
theorem dX1_become_108 : decode cX1_become 108 = .ok (.aload_n 1, 1) := by decide +kernel
theorem dX1_become_109 : decode cX1_become 109 = .ok (.getfield 21, 3) := by decide +kernel
theorem dX1_become_112 : decode cX1_become 112 = .ok (.iconst 0, 1) := by decide +kernel
theorem dX1_become_113 : decode cX1_become 113 = .ok (.aload_n 0, 1) := by decide +kernel
theorem dX1_become_114 : decode cX1_become 114 = .ok (.getfield 21, 3) := by decide +kernel
theorem dX1_become_117 : decode cX1_become 117 = .ok (.iconst 0, 1) := by decide +kernel
theorem dX1_become_118 : decode cX1_become 118 = .ok (.iconst 5, 1) := by decide +kernel
theorem dX1_become_119 : decode cX1_become 119 = .ok (.invokestatic 55, 3) := by decide +kernel
theorem dX1_become_122 : decode cX1_become 122 = .ok (.aload_n 1, 1) := by decide +kernel
theorem dX1_become_123 : decode cX1_become 123 = .ok (.getfield 24, 3) := by decide +kernel
theorem dX1_become_126 : decode cX1_become 126 = .ok (.iconst 0, 1) := by decide +kernel
theorem dX1_become_127 : decode cX1_become 127 = .ok (.aload_n 0, 1) := by decide +kernel
theorem dX1_become_128 : decode cX1_become 128 = .ok (.getfield 24, 3) := by decide +kernel
theorem dX1_become_131 : decode cX1_become 131 = .ok (.iconst 0, 1) := by decide +kernel
theorem dX1_become_132 : decode cX1_become 132 = .ok (.iconst 5, 1) := by decide +kernel
theorem dX1_become_133 : decode cX1_become 133 = .ok (.invokestatic 55, 3) := by decide +kernel
theorem dX1_become_136 : decode cX1_become 136 = .ok (.aload_n 1, 1) := by decide +kernel
theorem dX1_become_137 : decode cX1_become 137 = .ok (.getfield 27, 3) := by decide +kernel
theorem dX1_become_140 : decode cX1_become 140 = .ok (.iconst 0, 1) := by decide +kernel
theorem dX1_become_141 : decode cX1_become 141 = .ok (.aload_n 0, 1) := by decide +kernel
theorem dX1_become_142 : decode cX1_become 142 = .ok (.getfield 27, 3) := by decide +kernel
theorem dX1_become_145 : decode cX1_become 145 = .ok (.iconst 0, 1) := by decide +kernel
theorem dX1_become_146 : decode cX1_become 146 = .ok (.bipush 6, 2) := by decide +kernel
theorem dX1_become_148 : decode cX1_become 148 = .ok (.invokestatic 55, 3) := by decide +kernel
theorem dX1_become_151 : decode cX1_become 151 = .ok (.return_, 1) := by decide +kernel
theorem dX1_passHour_0 : decode cX1_passHour 0 = .ok (.aload_n 0, 1) := by decide +kernel
theorem dX1_passHour_1 : decode cX1_passHour 1 = .ok (.iconst 1, 1) := by decide +kernel
theorem dX1_passHour_2 : decode cX1_passHour 2 = .ok (.invokevirtual 61, 3) := by decide +kernel
theorem dX1_passHour_5 : decode cX1_passHour 5 = .ok (.return_, 1) := by decide +kernel
theorem dX1_passHours_0 : decode cX1_passHours 0 = .ok (.aload_n 0, 1) := by decide +kernel
theorem dX1_passHours_1 : decode cX1_passHours 1 = .ok (.bipush 14, 2) := by decide +kernel
theorem dX1_passHours_3 : decode cX1_passHours 3 = .ok (.invokevirtual 65, 3) := by decide +kernel
theorem dX1_passHours_6 : decode cX1_passHours 6 = .ok (.istore_n 2, 1) := by decide +kernel
theorem dX1_passHours_7 : decode cX1_passHours 7 = .ok (.aload_n 0, 1) := by decide +kernel
theorem dX1_passHours_8 : decode cX1_passHours 8 = .ok (.iconst 4, 1) := by decide +kernel
theorem dX1_passHours_9 : decode cX1_passHours 9 = .ok (.invokevirtual 65, 3) := by decide +kernel
theorem dX1_passHours_12 : decode cX1_passHours 12 = .ok (.istore_n 3, 1) := by decide +kernel
theorem dX1_passHours_13 : decode cX1_passHours 13 = .ok (.iconst 0, 1) := by decide +kernel
theorem dX1_passHours_14 : decode cX1_passHours 14 = .ok (.istore 4, 2) := by decide +kernel
theorem dX1_passHours_16 : decode cX1_passHours 16 = .ok (.iload 4, 2) := by decide +kernel
theorem dX1_passHours_18 : decode cX1_passHours 18 = .ok (.iload_n 1, 1) := by decide +kernel
theorem dX1_passHours_19 : decode cX1_passHours 19 = .ok (.if_icmp .ge 58, 3) := by decide +kernel
theorem dX1_passHours_22 : decode cX1_passHours 22 = .ok (.aload_n 0, 1) := by decide +kernel
theorem dX1_passHours_23 : decode cX1_passHours 23 = .ok (.getfield 27, 3) := by decide +kernel
theorem dX1_passHours_26 : decode cX1_passHours 26 = .ok (.aload_n 0, 1) := by decide +kernel
theorem dX1_passHours_27 : decode cX1_passHours 27 = .ok (.getfield 46, 3) := by decide +kernel
theorem dX1_passHours_30 : decode cX1_passHours 30 = .ok (.sipush 999, 3) := by decide +kernel
theorem dX1_passHours_33 : decode cX1_passHours 33 = .ok (.aload_n 0, 1) := by decide +kernel
theorem dX1_passHours_34 : decode cX1_passHours 34 = .ok (.getfield 27, 3) := by decide +kernel
theorem dX1_passHours_37 : decode cX1_passHours 37 = .ok (.aload_n 0, 1) := by decide +kernel
theorem dX1_passHours_38 : decode cX1_passHours 38 = .ok (.getfield 46, 3) := by decide +kernel
theorem dX1_passHours_41 : decode cX1_passHours 41 = .ok (.iaload, 1) := by decide +kernel
theorem dX1_passHours_42 : decode cX1_passHours 42 = .ok (.aload_n 0, 1) := by decide +kernel
theorem dX1_passHours_43 : decode cX1_passHours 43 = .ok (.getfield 49, 3) := by decide +kernel
theorem dX1_passHours_46 : decode cX1_passHours 46 = .ok (.iadd, 1) := by decide +kernel
theorem dX1_passHours_47 : decode cX1_passHours 47 = .ok (.invokestatic 69, 3) := by decide +kernel
theorem dX1_passHours_50 : decode cX1_passHours 50 = .ok (.iastore, 1) := by decide +kernel
theorem dX1_passHours_51 : decode cX1_passHours 51 = .ok (.aload_n 0, 1) := by decide +kernel
theorem dX1_passHours_52 : decode cX1_passHours 52 = .ok (.iload_n 2, 1) := by decide +kernel
theorem dX1_passHours_53 : decode cX1_passHours 53 = .ok (.iload_n 3, 1) := by decide +kernel
theorem dX1_passHours_54 : decode cX1_passHours 54 = .ok (.invokevirtual 75, 3) := by decide +kernel
theorem dX1_passHours_57 : decode cX1_passHours 57 = .ok (.aload_n 0, 1) := by decide +kernel
theorem dX1_passHours_58 : decode cX1_passHours 58 = .ok (.invokevirtual 79, 3) := by decide +kernel
theorem dX1_passHours_61 : decode cX1_passHours 61 = .ok (.aload_n 0, 1) := by decide +kernel
theorem dX1_passHours_62 : decode cX1_passHours 62 = .ok (.dup, 1) := by decide +kernel
theorem dX1_passHours_63 : decode cX1_passHours 63 = .ok (.getfield 40, 3) := by decide +kernel
theorem dX1_passHours_66 : decode cX1_passHours 66 = .ok (.iconst 1, 1) := by decide +kernel
theorem dX1_passHours_67 : decode cX1_passHours 67 = .ok (.iadd, 1) := by decide +kernel
theorem dX1_passHours_68 : decode cX1_passHours 68 = .ok (.putfield 40, 3) := by decide +kernel
theorem dX1_passHours_71 : decode cX1_passHours 71 = .ok (.iinc 4 1, 3) := by decide +kernel
theorem dX1_passHours_74 : decode cX1_passHours 74 = .ok (.goto (-58), 3) := by decide +kernel
theorem dX1_passHours_77 : decode cX1_passHours 77 = .ok (.return_, 1) := by decide +kernel
theorem dX1_passDoors_0 : decode cX1_passDoors 0 = .ok (.iconst 0, 1) := by decide +kernel
theorem dX1_passDoors_1 : decode cX1_passDoors 1 = .ok (.istore_n 3, 1) := by decide +kernel
theorem dX1_passDoors_2 : decode cX1_passDoors 2 = .ok (.iload_n 3, 1) := by decide +kernel
theorem dX1_passDoors_3 : decode cX1_passDoors 3 = .ok (.aload_n 0, 1) := by decide +kernel
theorem dX1_passDoors_4 : decode cX1_passDoors 4 = .ok (.getfield 34, 3) := by decide +kernel
theorem dX1_passDoors_7 : decode cX1_passDoors 7 = .ok (.if_icmp .ge 35, 3) := by decide +kernel
theorem dX1_passDoors_10 : decode cX1_passDoors 10 = .ok (.aload_n 0, 1) := by decide +kernel
theorem dX1_passDoors_11 : decode cX1_passDoors 11 = .ok (.iload_n 3, 1) := by decide +kernel
theorem dX1_passDoors_12 : decode cX1_passDoors 12 = .ok (.invokevirtual 82, 3) := by decide +kernel
theorem dX1_passDoors_15 : decode cX1_passDoors 15 = .ok (.ifCond .eq 21, 3) := by decide +kernel
theorem dX1_passDoors_18 : decode cX1_passDoors 18 = .ok (.aload_n 0, 1) := by decide +kernel
theorem dX1_passDoors_19 : decode cX1_passDoors 19 = .ok (.aload_n 0, 1) := by decide +kernel
theorem dX1_passDoors_20 : decode cX1_passDoors 20 = .ok (.getfield 11, 3) := by decide +kernel
theorem dX1_passDoors_23 : decode cX1_passDoors 23 = .ok (.iload_n 3, 1) := by decide +kernel
theorem dX1_passDoors_24 : decode cX1_passDoors 24 = .ok (.iaload, 1) := by decide +kernel
theorem dX1_passDoors_25 : decode cX1_passDoors 25 = .ok (.aload_n 0, 1) := by decide +kernel
theorem dX1_passDoors_26 : decode cX1_passDoors 26 = .ok (.getfield 15, 3) := by decide +kernel
theorem dX1_passDoors_29 : decode cX1_passDoors 29 = .ok (.iload_n 3, 1) := by decide +kernel
theorem dX1_passDoors_30 : decode cX1_passDoors 30 = .ok (.iaload, 1) := by decide +kernel
theorem dX1_passDoors_31 : decode cX1_passDoors 31 = .ok (.iload_n 1, 1) := by decide +kernel
theorem dX1_passDoors_32 : decode cX1_passDoors 32 = .ok (.iload_n 2, 1) := by decide +kernel
theorem dX1_passDoors_33 : decode cX1_passDoors 33 = .ok (.invokevirtual 86, 3) := by decide +kernel
theorem dX1_passDoors_36 : decode cX1_passDoors 36 = .ok (.iinc 3 1, 3) := by decide +kernel
theorem dX1_passDoors_39 : decode cX1_passDoors 39 = .ok (.goto (-37), 3) := by decide +kernel
theorem dX1_passDoors_42 : decode cX1_passDoors 42 = .ok (.return_, 1) := by decide +kernel
theorem dX1_passSitters_0 : decode cX1_passSitters 0 = .ok (.iconst 0, 1) := by decide +kernel
theorem dX1_passSitters_1 : decode cX1_passSitters 1 = .ok (.istore_n 1, 1) := by decide +kernel
theorem dX1_passSitters_2 : decode cX1_passSitters 2 = .ok (.iload_n 1, 1) := by decide +kernel
theorem dX1_passSitters_3 : decode cX1_passSitters 3 = .ok (.aload_n 0, 1) := by decide +kernel
theorem dX1_passSitters_4 : decode cX1_passSitters 4 = .ok (.getfield 37, 3) := by decide +kernel
theorem dX1_passSitters_7 : decode cX1_passSitters 7 = .ok (.if_icmp .ge 56, 3) := by decide +kernel
theorem dX1_passSitters_10 : decode cX1_passSitters 10 = .ok (.aload_n 0, 1) := by decide +kernel
theorem dX1_passSitters_11 : decode cX1_passSitters 11 = .ok (.getfield 21, 3) := by decide +kernel
theorem dX1_passSitters_14 : decode cX1_passSitters 14 = .ok (.iload_n 1, 1) := by decide +kernel
theorem dX1_passSitters_15 : decode cX1_passSitters 15 = .ok (.iaload, 1) := by decide +kernel
theorem dX1_passSitters_16 : decode cX1_passSitters 16 = .ok (.istore_n 2, 1) := by decide +kernel
theorem dX1_passSitters_17 : decode cX1_passSitters 17 = .ok (.aload_n 0, 1) := by decide +kernel
theorem dX1_passSitters_18 : decode cX1_passSitters 18 = .ok (.getfield 27, 3) := by decide +kernel
theorem dX1_passSitters_21 : decode cX1_passSitters 21 = .ok (.iload_n 2, 1) := by decide +kernel
theorem dX1_passSitters_22 : decode cX1_passSitters 22 = .ok (.iaload, 1) := by decide +kernel
theorem dX1_passSitters_23 : decode cX1_passSitters 23 = .ok (.aload_n 0, 1) := by decide +kernel
theorem dX1_passSitters_24 : decode cX1_passSitters 24 = .ok (.getfield 18, 3) := by decide +kernel
theorem dX1_passSitters_27 : decode cX1_passSitters 27 = .ok (.iload_n 1, 1) := by decide +kernel
theorem dX1_passSitters_28 : decode cX1_passSitters 28 = .ok (.iaload, 1) := by decide +kernel
theorem dX1_passSitters_29 : decode cX1_passSitters 29 = .ok (.aload_n 0, 1) := by decide +kernel
theorem dX1_passSitters_30 : decode cX1_passSitters 30 = .ok (.getfield 24, 3) := by decide +kernel
theorem dX1_passSitters_33 : decode cX1_passSitters 33 = .ok (.iload_n 1, 1) := by decide +kernel
theorem dX1_passSitters_34 : decode cX1_passSitters 34 = .ok (.iaload, 1) := by decide +kernel
theorem dX1_passSitters_35 : decode cX1_passSitters 35 = .ok (.invokestatic 90, 3) := by decide +kernel
theorem dX1_passSitters_38 : decode cX1_passSitters 38 = .ok (.iadd, 1) := by decide +kernel
theorem dX1_passSitters_39 : decode cX1_passSitters 39 = .ok (.istore_n 3, 1) := by decide +kernel
theorem dX1_passSitters_40 : decode cX1_passSitters 40 = .ok (.aload_n 0, 1) := by decide +kernel
theorem dX1_passSitters_41 : decode cX1_passSitters 41 = .ok (.getfield 27, 3) := by decide +kernel
theorem dX1_passSitters_44 : decode cX1_passSitters 44 = .ok (.iload_n 2, 1) := by decide +kernel
theorem dX1_passSitters_45 : decode cX1_passSitters 45 = .ok (.iconst 0, 1) := by decide +kernel
theorem dX1_passSitters_46 : decode cX1_passSitters 46 = .ok (.sipush 999, 3) := by decide +kernel
theorem dX1_passSitters_49 : decode cX1_passSitters 49 = .ok (.iload_n 3, 1) := by decide +kernel
theorem dX1_passSitters_50 : decode cX1_passSitters 50 = .ok (.invokestatic 69, 3) := by decide +kernel
theorem dX1_passSitters_53 : decode cX1_passSitters 53 = .ok (.invokestatic 93, 3) := by decide +kernel
theorem dX1_passSitters_56 : decode cX1_passSitters 56 = .ok (.iastore, 1) := by decide +kernel
theorem dX1_passSitters_57 : decode cX1_passSitters 57 = .ok (.iinc 1 1, 3) := by decide +kernel
theorem dX1_passSitters_60 : decode cX1_passSitters 60 = .ok (.goto (-58), 3) := by decide +kernel
theorem dX1_passSitters_63 : decode cX1_passSitters 63 = .ok (.return_, 1) := by decide +kernel
theorem dX1_flow_0 : decode cX1_flow 0 = .ok (.aload_n 0, 1) := by decide +kernel
theorem dX1_flow_1 : decode cX1_flow 1 = .ok (.getfield 27, 3) := by decide +kernel
theorem dX1_flow_4 : decode cX1_flow 4 = .ok (.iload_n 1, 1) := by decide +kernel
theorem dX1_flow_5 : decode cX1_flow 5 = .ok (.iaload, 1) := by decide +kernel
theorem dX1_flow_6 : decode cX1_flow 6 = .ok (.aload_n 0, 1) := by decide +kernel
theorem dX1_flow_7 : decode cX1_flow 7 = .ok (.getfield 27, 3) := by decide +kernel
theorem dX1_flow_10 : decode cX1_flow 10 = .ok (.iload_n 2, 1) := by decide +kernel
theorem dX1_flow_11 : decode cX1_flow 11 = .ok (.iaload, 1) := by decide +kernel
theorem dX1_flow_12 : decode cX1_flow 12 = .ok (.if_icmp .le 7, 3) := by decide +kernel
theorem dX1_flow_15 : decode cX1_flow 15 = .ok (.iload_n 1, 1) := by decide +kernel
theorem dX1_flow_16 : decode cX1_flow 16 = .ok (.goto 4, 3) := by decide +kernel
theorem dX1_flow_19 : decode cX1_flow 19 = .ok (.iload_n 2, 1) := by decide +kernel
theorem dX1_flow_20 : decode cX1_flow 20 = .ok (.istore 5, 2) := by decide +kernel
theorem dX1_flow_22 : decode cX1_flow 22 = .ok (.iload 5, 2) := by decide +kernel
theorem dX1_flow_24 : decode cX1_flow 24 = .ok (.iload_n 1, 1) := by decide +kernel
theorem dX1_flow_25 : decode cX1_flow 25 = .ok (.if_icmp .ne 7, 3) := by decide +kernel
theorem dX1_flow_28 : decode cX1_flow 28 = .ok (.iload_n 2, 1) := by decide +kernel
theorem dX1_flow_29 : decode cX1_flow 29 = .ok (.goto 4, 3) := by decide +kernel
theorem dX1_flow_32 : decode cX1_flow 32 = .ok (.iload_n 1, 1) := by decide +kernel
theorem dX1_flow_33 : decode cX1_flow 33 = .ok (.istore 6, 2) := by decide +kernel
theorem dX1_flow_35 : decode cX1_flow 35 = .ok (.iload 4, 2) := by decide +kernel
theorem dX1_flow_37 : decode cX1_flow 37 = .ok (.iload 5, 2) := by decide +kernel
theorem dX1_flow_39 : decode cX1_flow 39 = .ok (.ishr, 1) := by decide +kernel
theorem dX1_flow_40 : decode cX1_flow 40 = .ok (.iconst 1, 1) := by decide +kernel
theorem dX1_flow_41 : decode cX1_flow 41 = .ok (.iand, 1) := by decide +kernel
theorem dX1_flow_42 : decode cX1_flow 42 = .ok (.ifCond .eq 4, 3) := by decide +kernel
theorem dX1_flow_45 : decode cX1_flow 45 = .ok (.return_, 1) := by decide +kernel
theorem dX1_flow_46 : decode cX1_flow 46 = .ok (.aload_n 0, 1) := by decide +kernel
theorem dX1_flow_47 : decode cX1_flow 47 = .ok (.getfield 27, 3) := by decide +kernel
theorem dX1_flow_50 : decode cX1_flow 50 = .ok (.iload 5, 2) := by decide +kernel
theorem dX1_flow_52 : decode cX1_flow 52 = .ok (.iaload, 1) := by decide +kernel
theorem dX1_flow_53 : decode cX1_flow 53 = .ok (.aload_n 0, 1) := by decide +kernel
theorem dX1_flow_54 : decode cX1_flow 54 = .ok (.getfield 27, 3) := by decide +kernel
theorem dX1_flow_57 : decode cX1_flow 57 = .ok (.iload 6, 2) := by decide +kernel
theorem dX1_flow_59 : decode cX1_flow 59 = .ok (.iaload, 1) := by decide +kernel
theorem dX1_flow_60 : decode cX1_flow 60 = .ok (.isub, 1) := by decide +kernel
theorem dX1_flow_61 : decode cX1_flow 61 = .ok (.iconst 4, 1) := by decide +kernel
theorem dX1_flow_62 : decode cX1_flow 62 = .ok (.idiv, 1) := by decide +kernel
theorem dX1_flow_63 : decode cX1_flow 63 = .ok (.istore 7, 2) := by decide +kernel
theorem dX1_flow_65 : decode cX1_flow 65 = .ok (.iload_n 3, 1) := by decide +kernel
theorem dX1_flow_66 : decode cX1_flow 66 = .ok (.iload 5, 2) := by decide +kernel
theorem dX1_flow_68 : decode cX1_flow 68 = .ok (.ishr, 1) := by decide +kernel
theorem dX1_flow_69 : decode cX1_flow 69 = .ok (.iconst 1, 1) := by decide +kernel
theorem dX1_flow_70 : decode cX1_flow 70 = .ok (.iand, 1) := by decide +kernel
theorem dX1_flow_71 : decode cX1_flow 71 = .ok (.ifCond .eq 9, 3) := by decide +kernel
theorem dX1_flow_74 : decode cX1_flow 74 = .ok (.iload 7, 2) := by decide +kernel
theorem dX1_flow_76 : decode cX1_flow 76 = .ok (.iconst 2, 1) := by decide +kernel
theorem dX1_flow_77 : decode cX1_flow 77 = .ok (.idiv, 1) := by decide +kernel
theorem dX1_flow_78 : decode cX1_flow 78 = .ok (.istore 7, 2) := by decide +kernel
theorem dX1_flow_80 : decode cX1_flow 80 = .ok (.aload_n 0, 1) := by decide +kernel
theorem dX1_flow_81 : decode cX1_flow 81 = .ok (.getfield 27, 3) := by decide +kernel
theorem dX1_flow_84 : decode cX1_flow 84 = .ok (.iload 5, 2) := by decide +kernel
theorem dX1_flow_86 : decode cX1_flow 86 = .ok (.dup2, 1) := by decide +kernel
theorem dX1_flow_87 : decode cX1_flow 87 = .ok (.iaload, 1) := by decide +kernel
theorem dX1_flow_88 : decode cX1_flow 88 = .ok (.iload 7, 2) := by decide +kernel
theorem dX1_flow_90 : decode cX1_flow 90 = .ok (.isub, 1) := by decide +kernel
theorem dX1_flow_91 : decode cX1_flow 91 = .ok (.iastore, 1) := by decide +kernel
theorem dX1_flow_92 : decode cX1_flow 92 = .ok (.aload_n 0, 1) := by decide +kernel
theorem dX1_flow_93 : decode cX1_flow 93 = .ok (.getfield 27, 3) := by decide +kernel
theorem dX1_flow_96 : decode cX1_flow 96 = .ok (.iload 6, 2) := by decide +kernel
theorem dX1_flow_98 : decode cX1_flow 98 = .ok (.dup2, 1) := by decide +kernel
theorem dX1_flow_99 : decode cX1_flow 99 = .ok (.iaload, 1) := by decide +kernel
theorem dX1_flow_100 : decode cX1_flow 100 = .ok (.iload 7, 2) := by decide +kernel
theorem dX1_flow_102 : decode cX1_flow 102 = .ok (.iadd, 1) := by decide +kernel
theorem dX1_flow_103 : decode cX1_flow 103 = .ok (.iastore, 1) := by decide +kernel
theorem dX1_flow_104 : decode cX1_flow 104 = .ok (.return_, 1) := by decide +kernel
theorem dX1_chill_0 : decode cX1_chill 0 = .ok (.iload_n 0, 1) := by decide +kernel
theorem dX1_chill_1 : decode cX1_chill 1 = .ok (.tableswitch 37 3 5 #[27, 30, 35], 27) := by decide +kernel
theorem dX1_chill_28 : decode cX1_chill 28 = .ok (.iload_n 1, 1) := by decide +kernel
theorem dX1_chill_29 : decode cX1_chill 29 = .ok (.ineg, 1) := by decide +kernel
theorem dX1_chill_30 : decode cX1_chill 30 = .ok (.ireturn, 1) := by decide +kernel
theorem dX1_chill_31 : decode cX1_chill 31 = .ok (.bipush (-2), 2) := by decide +kernel
theorem dX1_chill_33 : decode cX1_chill 33 = .ok (.iload_n 1, 1) := by decide +kernel
theorem dX1_chill_34 : decode cX1_chill 34 = .ok (.imul, 1) := by decide +kernel
theorem dX1_chill_35 : decode cX1_chill 35 = .ok (.ireturn, 1) := by decide +kernel
theorem dX1_chill_36 : decode cX1_chill 36 = .ok (.iload_n 1, 1) := by decide +kernel
theorem dX1_chill_37 : decode cX1_chill 37 = .ok (.ireturn, 1) := by decide +kernel
theorem dX1_chill_38 : decode cX1_chill 38 = .ok (.iconst 0, 1) := by decide +kernel
theorem dX1_chill_39 : decode cX1_chill 39 = .ok (.ireturn, 1) := by decide +kernel
theorem dX1_isA_0 : decode cX1_isA 0 = .ok (.iload_n 1, 1) := by decide +kernel
theorem dX1_isA_1 : decode cX1_isA 1 = .ok (.ifCond .eq 8, 3) := by decide +kernel
theorem dX1_isA_4 : decode cX1_isA 4 = .ok (.iload_n 0, 1) := by decide +kernel
theorem dX1_isA_5 : decode cX1_isA 5 = .ok (.iload_n 1, 1) := by decide +kernel
theorem dX1_isA_6 : decode cX1_isA 6 = .ok (.if_icmp .ne 5, 3) := by decide +kernel
theorem dX1_isA_9 : decode cX1_isA 9 = .ok (.iconst 1, 1) := by decide +kernel
theorem dX1_isA_10 : decode cX1_isA 10 = .ok (.ireturn, 1) := by decide +kernel
theorem dX1_isA_11 : decode cX1_isA 11 = .ok (.iload_n 1, 1) := by decide +kernel
theorem dX1_isA_12 : decode cX1_isA 12 = .ok (.iconst 1, 1) := by decide +kernel
theorem dX1_isA_13 : decode cX1_isA 13 = .ok (.if_icmp .ne 19, 3) := by decide +kernel
theorem dX1_isA_16 : decode cX1_isA 16 = .ok (.iload_n 0, 1) := by decide +kernel
theorem dX1_isA_17 : decode cX1_isA 17 = .ok (.iconst 2, 1) := by decide +kernel
theorem dX1_isA_18 : decode cX1_isA 18 = .ok (.if_icmp .eq 8, 3) := by decide +kernel
theorem dX1_isA_21 : decode cX1_isA 21 = .ok (.iload_n 0, 1) := by decide +kernel
theorem dX1_isA_22 : decode cX1_isA 22 = .ok (.iconst 3, 1) := by decide +kernel
theorem dX1_isA_23 : decode cX1_isA 23 = .ok (.if_icmp .ne 7, 3) := by decide +kernel
theorem dX1_isA_26 : decode cX1_isA 26 = .ok (.iconst 1, 1) := by decide +kernel
theorem dX1_isA_27 : decode cX1_isA 27 = .ok (.goto 4, 3) := by decide +kernel
theorem dX1_isA_30 : decode cX1_isA 30 = .ok (.iconst 0, 1) := by decide +kernel
theorem dX1_isA_31 : decode cX1_isA 31 = .ok (.ireturn, 1) := by decide +kernel
theorem dX1_isA_32 : decode cX1_isA 32 = .ok (.iload_n 1, 1) := by decide +kernel
theorem dX1_isA_33 : decode cX1_isA 33 = .ok (.iconst 4, 1) := by decide +kernel
theorem dX1_isA_34 : decode cX1_isA 34 = .ok (.if_icmp .ne 12, 3) := by decide +kernel
theorem dX1_isA_37 : decode cX1_isA 37 = .ok (.iload_n 0, 1) := by decide +kernel
theorem dX1_isA_38 : decode cX1_isA 38 = .ok (.iconst 5, 1) := by decide +kernel
theorem dX1_isA_39 : decode cX1_isA 39 = .ok (.if_icmp .ne 7, 3) := by decide +kernel
theorem dX1_isA_42 : decode cX1_isA 42 = .ok (.iconst 1, 1) := by decide +kernel
theorem dX1_isA_43 : decode cX1_isA 43 = .ok (.goto 4, 3) := by decide +kernel
theorem dX1_isA_46 : decode cX1_isA 46 = .ok (.iconst 0, 1) := by decide +kernel
theorem dX1_isA_47 : decode cX1_isA 47 = .ok (.ireturn, 1) := by decide +kernel
theorem dX1_roomsWith_0 : decode cX1_roomsWith 0 = .ok (.iconst 0, 1) := by decide +kernel
theorem dX1_roomsWith_1 : decode cX1_roomsWith 1 = .ok (.istore_n 2, 1) := by decide +kernel
theorem dX1_roomsWith_2 : decode cX1_roomsWith 2 = .ok (.iconst 0, 1) := by decide +kernel
theorem dX1_roomsWith_3 : decode cX1_roomsWith 3 = .ok (.istore_n 3, 1) := by decide +kernel
theorem dX1_roomsWith_4 : decode cX1_roomsWith 4 = .ok (.iload_n 3, 1) := by decide +kernel
theorem dX1_roomsWith_5 : decode cX1_roomsWith 5 = .ok (.aload_n 0, 1) := by decide +kernel
theorem dX1_roomsWith_6 : decode cX1_roomsWith 6 = .ok (.getfield 37, 3) := by decide +kernel
theorem dX1_roomsWith_9 : decode cX1_roomsWith 9 = .ok (.if_icmp .ge 33, 3) := by decide +kernel
theorem dX1_roomsWith_12 : decode cX1_roomsWith 12 = .ok (.iload_n 1, 1) := by decide +kernel
theorem dX1_roomsWith_13 : decode cX1_roomsWith 13 = .ok (.aload_n 0, 1) := by decide +kernel
theorem dX1_roomsWith_14 : decode cX1_roomsWith 14 = .ok (.getfield 18, 3) := by decide +kernel
theorem dX1_roomsWith_17 : decode cX1_roomsWith 17 = .ok (.iload_n 3, 1) := by decide +kernel
theorem dX1_roomsWith_18 : decode cX1_roomsWith 18 = .ok (.iaload, 1) := by decide +kernel
theorem dX1_roomsWith_19 : decode cX1_roomsWith 19 = .ok (.ishr, 1) := by decide +kernel
theorem dX1_roomsWith_20 : decode cX1_roomsWith 20 = .ok (.iconst 1, 1) := by decide +kernel
theorem dX1_roomsWith_21 : decode cX1_roomsWith 21 = .ok (.iand, 1) := by decide +kernel
theorem dX1_roomsWith_22 : decode cX1_roomsWith 22 = .ok (.ifCond .eq 14, 3) := by decide +kernel
theorem dX1_roomsWith_25 : decode cX1_roomsWith 25 = .ok (.iload_n 2, 1) := by decide +kernel
theorem dX1_roomsWith_26 : decode cX1_roomsWith 26 = .ok (.iconst 1, 1) := by decide +kernel
theorem dX1_roomsWith_27 : decode cX1_roomsWith 27 = .ok (.aload_n 0, 1) := by decide +kernel
theorem dX1_roomsWith_28 : decode cX1_roomsWith 28 = .ok (.getfield 21, 3) := by decide +kernel
theorem dX1_roomsWith_31 : decode cX1_roomsWith 31 = .ok (.iload_n 3, 1) := by decide +kernel
theorem dX1_roomsWith_32 : decode cX1_roomsWith 32 = .ok (.iaload, 1) := by decide +kernel
theorem dX1_roomsWith_33 : decode cX1_roomsWith 33 = .ok (.ishl, 1) := by decide +kernel
theorem dX1_roomsWith_34 : decode cX1_roomsWith 34 = .ok (.ior, 1) := by decide +kernel
theorem dX1_roomsWith_35 : decode cX1_roomsWith 35 = .ok (.istore_n 2, 1) := by decide +kernel
theorem dX1_roomsWith_36 : decode cX1_roomsWith 36 = .ok (.iinc 3 1, 3) := by decide +kernel
theorem dX1_roomsWith_39 : decode cX1_roomsWith 39 = .ok (.goto (-35), 3) := by decide +kernel
theorem dX1_roomsWith_42 : decode cX1_roomsWith 42 = .ok (.iload_n 2, 1) := by decide +kernel
theorem dX1_roomsWith_43 : decode cX1_roomsWith 43 = .ok (.ireturn, 1) := by decide +kernel
theorem dX1_sittersIn_0 : decode cX1_sittersIn 0 = .ok (.iconst 0, 1) := by decide +kernel
theorem dX1_sittersIn_1 : decode cX1_sittersIn 1 = .ok (.istore_n 2, 1) := by decide +kernel
theorem dX1_sittersIn_2 : decode cX1_sittersIn 2 = .ok (.iconst 0, 1) := by decide +kernel
theorem dX1_sittersIn_3 : decode cX1_sittersIn 3 = .ok (.istore_n 3, 1) := by decide +kernel
theorem dX1_sittersIn_4 : decode cX1_sittersIn 4 = .ok (.iload_n 3, 1) := by decide +kernel
theorem dX1_sittersIn_5 : decode cX1_sittersIn 5 = .ok (.aload_n 0, 1) := by decide +kernel
theorem dX1_sittersIn_6 : decode cX1_sittersIn 6 = .ok (.getfield 37, 3) := by decide +kernel
theorem dX1_sittersIn_9 : decode cX1_sittersIn 9 = .ok (.if_icmp .ge 25, 3) := by decide +kernel
theorem dX1_sittersIn_12 : decode cX1_sittersIn 12 = .ok (.aload_n 0, 1) := by decide +kernel
theorem dX1_sittersIn_13 : decode cX1_sittersIn 13 = .ok (.getfield 21, 3) := by decide +kernel
theorem dX1_sittersIn_16 : decode cX1_sittersIn 16 = .ok (.iload_n 3, 1) := by decide +kernel
theorem dX1_sittersIn_17 : decode cX1_sittersIn 17 = .ok (.iaload, 1) := by decide +kernel
theorem dX1_sittersIn_18 : decode cX1_sittersIn 18 = .ok (.iload_n 1, 1) := by decide +kernel
theorem dX1_sittersIn_19 : decode cX1_sittersIn 19 = .ok (.if_icmp .ne 9, 3) := by decide +kernel
theorem dX1_sittersIn_22 : decode cX1_sittersIn 22 = .ok (.iload_n 2, 1) := by decide +kernel
theorem dX1_sittersIn_23 : decode cX1_sittersIn 23 = .ok (.iconst 1, 1) := by decide +kernel
theorem dX1_sittersIn_24 : decode cX1_sittersIn 24 = .ok (.iload_n 3, 1) := by decide +kernel
theorem dX1_sittersIn_25 : decode cX1_sittersIn 25 = .ok (.ishl, 1) := by decide +kernel
theorem dX1_sittersIn_26 : decode cX1_sittersIn 26 = .ok (.ior, 1) := by decide +kernel
theorem dX1_sittersIn_27 : decode cX1_sittersIn 27 = .ok (.istore_n 2, 1) := by decide +kernel
theorem dX1_sittersIn_28 : decode cX1_sittersIn 28 = .ok (.iinc 3 1, 3) := by decide +kernel
theorem dX1_sittersIn_31 : decode cX1_sittersIn 31 = .ok (.goto (-27), 3) := by decide +kernel
theorem dX1_sittersIn_34 : decode cX1_sittersIn 34 = .ok (.iload_n 2, 1) := by decide +kernel
theorem dX1_sittersIn_35 : decode cX1_sittersIn 35 = .ok (.ireturn, 1) := by decide +kernel
theorem dX1_doorsOf_0 : decode cX1_doorsOf 0 = .ok (.iconst 0, 1) := by decide +kernel
theorem dX1_doorsOf_1 : decode cX1_doorsOf 1 = .ok (.istore_n 2, 1) := by decide +kernel
theorem dX1_doorsOf_2 : decode cX1_doorsOf 2 = .ok (.iconst 0, 1) := by decide +kernel
theorem dX1_doorsOf_3 : decode cX1_doorsOf 3 = .ok (.istore_n 3, 1) := by decide +kernel
theorem dX1_doorsOf_4 : decode cX1_doorsOf 4 = .ok (.iload_n 3, 1) := by decide +kernel
theorem dX1_doorsOf_5 : decode cX1_doorsOf 5 = .ok (.aload_n 0, 1) := by decide +kernel
theorem dX1_doorsOf_6 : decode cX1_doorsOf 6 = .ok (.getfield 34, 3) := by decide +kernel
theorem dX1_doorsOf_9 : decode cX1_doorsOf 9 = .ok (.if_icmp .ge 35, 3) := by decide +kernel
theorem dX1_doorsOf_12 : decode cX1_doorsOf 12 = .ok (.aload_n 0, 1) := by decide +kernel
theorem dX1_doorsOf_13 : decode cX1_doorsOf 13 = .ok (.getfield 11, 3) := by decide +kernel
theorem dX1_doorsOf_16 : decode cX1_doorsOf 16 = .ok (.iload_n 3, 1) := by decide +kernel
theorem dX1_doorsOf_17 : decode cX1_doorsOf 17 = .ok (.iaload, 1) := by decide +kernel
theorem dX1_doorsOf_18 : decode cX1_doorsOf 18 = .ok (.iload_n 1, 1) := by decide +kernel
theorem dX1_doorsOf_19 : decode cX1_doorsOf 19 = .ok (.if_icmp .eq 13, 3) := by decide +kernel
theorem dX1_doorsOf_22 : decode cX1_doorsOf 22 = .ok (.aload_n 0, 1) := by decide +kernel
theorem dX1_doorsOf_23 : decode cX1_doorsOf 23 = .ok (.getfield 15, 3) := by decide +kernel
theorem dX1_doorsOf_26 : decode cX1_doorsOf 26 = .ok (.iload_n 3, 1) := by decide +kernel
theorem dX1_doorsOf_27 : decode cX1_doorsOf 27 = .ok (.iaload, 1) := by decide +kernel
theorem dX1_doorsOf_28 : decode cX1_doorsOf 28 = .ok (.iload_n 1, 1) := by decide +kernel
theorem dX1_doorsOf_29 : decode cX1_doorsOf 29 = .ok (.if_icmp .ne 9, 3) := by decide +kernel
theorem dX1_doorsOf_32 : decode cX1_doorsOf 32 = .ok (.iload_n 2, 1) := by decide +kernel
theorem dX1_doorsOf_33 : decode cX1_doorsOf 33 = .ok (.iconst 1, 1) := by decide +kernel
theorem dX1_doorsOf_34 : decode cX1_doorsOf 34 = .ok (.iload_n 3, 1) := by decide +kernel
theorem dX1_doorsOf_35 : decode cX1_doorsOf 35 = .ok (.ishl, 1) := by decide +kernel
theorem dX1_doorsOf_36 : decode cX1_doorsOf 36 = .ok (.ior, 1) := by decide +kernel
theorem dX1_doorsOf_37 : decode cX1_doorsOf 37 = .ok (.istore_n 2, 1) := by decide +kernel
theorem dX1_doorsOf_38 : decode cX1_doorsOf 38 = .ok (.iinc 3 1, 3) := by decide +kernel
theorem dX1_doorsOf_41 : decode cX1_doorsOf 41 = .ok (.goto (-37), 3) := by decide +kernel
theorem dX1_doorsOf_44 : decode cX1_doorsOf 44 = .ok (.iload_n 2, 1) := by decide +kernel
theorem dX1_doorsOf_45 : decode cX1_doorsOf 45 = .ok (.ireturn, 1) := by decide +kernel
theorem dX1_isOpen_0 : decode cX1_isOpen 0 = .ok (.aload_n 0, 1) := by decide +kernel
theorem dX1_isOpen_1 : decode cX1_isOpen 1 = .ok (.getfield 43, 3) := by decide +kernel
theorem dX1_isOpen_4 : decode cX1_isOpen 4 = .ok (.iload_n 1, 1) := by decide +kernel
theorem dX1_isOpen_5 : decode cX1_isOpen 5 = .ok (.ishr, 1) := by decide +kernel
theorem dX1_isOpen_6 : decode cX1_isOpen 6 = .ok (.iconst 1, 1) := by decide +kernel
theorem dX1_isOpen_7 : decode cX1_isOpen 7 = .ok (.iand, 1) := by decide +kernel
theorem dX1_isOpen_8 : decode cX1_isOpen 8 = .ok (.ifCond .eq 7, 3) := by decide +kernel
theorem dX1_isOpen_11 : decode cX1_isOpen 11 = .ok (.iconst 1, 1) := by decide +kernel
theorem dX1_isOpen_12 : decode cX1_isOpen 12 = .ok (.goto 4, 3) := by decide +kernel
theorem dX1_isOpen_15 : decode cX1_isOpen 15 = .ok (.iconst 0, 1) := by decide +kernel
theorem dX1_isOpen_16 : decode cX1_isOpen 16 = .ok (.ireturn, 1) := by decide +kernel
theorem dX1_moveDoors_0 : decode cX1_moveDoors 0 = .ok (.aload_n 0, 1) := by decide +kernel
theorem dX1_moveDoors_1 : decode cX1_moveDoors 1 = .ok (.dup, 1) := by decide +kernel
theorem dX1_moveDoors_2 : decode cX1_moveDoors 2 = .ok (.getfield 43, 3) := by decide +kernel
theorem dX1_moveDoors_5 : decode cX1_moveDoors 5 = .ok (.iload_n 1, 1) := by decide +kernel
theorem dX1_moveDoors_6 : decode cX1_moveDoors 6 = .ok (.ixor, 1) := by decide +kernel
theorem dX1_moveDoors_7 : decode cX1_moveDoors 7 = .ok (.putfield 43, 3) := by decide +kernel
theorem dX1_moveDoors_10 : decode cX1_moveDoors 10 = .ok (.return_, 1) := by decide +kernel
theorem dX1_roomsLedTo_0 : decode cX1_roomsLedTo 0 = .ok (.iconst 1, 1) := by decide +kernel
theorem dX1_roomsLedTo_1 : decode cX1_roomsLedTo 1 = .ok (.iload_n 1, 1) := by decide +kernel
theorem dX1_roomsLedTo_2 : decode cX1_roomsLedTo 2 = .ok (.ishl, 1) := by decide +kernel
theorem dX1_roomsLedTo_3 : decode cX1_roomsLedTo 3 = .ok (.istore_n 3, 1) := by decide +kernel
theorem dX1_roomsLedTo_4 : decode cX1_roomsLedTo 4 = .ok (.iconst 1, 1) := by decide +kernel
theorem dX1_roomsLedTo_5 : decode cX1_roomsLedTo 5 = .ok (.istore 4, 2) := by decide +kernel
theorem dX1_roomsLedTo_7 : decode cX1_roomsLedTo 7 = .ok (.iload 4, 2) := by decide +kernel
theorem dX1_roomsLedTo_9 : decode cX1_roomsLedTo 9 = .ok (.aload_n 0, 1) := by decide +kernel
theorem dX1_roomsLedTo_10 : decode cX1_roomsLedTo 10 = .ok (.getfield 30, 3) := by decide +kernel
theorem dX1_roomsLedTo_13 : decode cX1_roomsLedTo 13 = .ok (.if_icmp .ge 69, 3) := by decide +kernel
theorem dX1_roomsLedTo_16 : decode cX1_roomsLedTo 16 = .ok (.iconst 0, 1) := by decide +kernel
theorem dX1_roomsLedTo_17 : decode cX1_roomsLedTo 17 = .ok (.istore 5, 2) := by decide +kernel
theorem dX1_roomsLedTo_19 : decode cX1_roomsLedTo 19 = .ok (.iload 5, 2) := by decide +kernel
theorem dX1_roomsLedTo_21 : decode cX1_roomsLedTo 21 = .ok (.aload_n 0, 1) := by decide +kernel
theorem dX1_roomsLedTo_22 : decode cX1_roomsLedTo 22 = .ok (.getfield 34, 3) := by decide +kernel
theorem dX1_roomsLedTo_25 : decode cX1_roomsLedTo 25 = .ok (.if_icmp .ge 51, 3) := by decide +kernel
theorem dX1_roomsLedTo_28 : decode cX1_roomsLedTo 28 = .ok (.iconst 1, 1) := by decide +kernel
theorem dX1_roomsLedTo_29 : decode cX1_roomsLedTo 29 = .ok (.aload_n 0, 1) := by decide +kernel
theorem dX1_roomsLedTo_30 : decode cX1_roomsLedTo 30 = .ok (.getfield 11, 3) := by decide +kernel
theorem dX1_roomsLedTo_33 : decode cX1_roomsLedTo 33 = .ok (.iload 5, 2) := by decide +kernel
theorem dX1_roomsLedTo_35 : decode cX1_roomsLedTo 35 = .ok (.iaload, 1) := by decide +kernel
theorem dX1_roomsLedTo_36 : decode cX1_roomsLedTo 36 = .ok (.ishl, 1) := by decide +kernel
theorem dX1_roomsLedTo_37 : decode cX1_roomsLedTo 37 = .ok (.iconst 1, 1) := by decide +kernel
theorem dX1_roomsLedTo_38 : decode cX1_roomsLedTo 38 = .ok (.aload_n 0, 1) := by decide +kernel
theorem dX1_roomsLedTo_39 : decode cX1_roomsLedTo 39 = .ok (.getfield 15, 3) := by decide +kernel
theorem dX1_roomsLedTo_42 : decode cX1_roomsLedTo 42 = .ok (.iload 5, 2) := by decide +kernel
theorem dX1_roomsLedTo_44 : decode cX1_roomsLedTo 44 = .ok (.iaload, 1) := by decide +kernel
theorem dX1_roomsLedTo_45 : decode cX1_roomsLedTo 45 = .ok (.ishl, 1) := by decide +kernel
theorem dX1_roomsLedTo_46 : decode cX1_roomsLedTo 46 = .ok (.ior, 1) := by decide +kernel
theorem dX1_roomsLedTo_47 : decode cX1_roomsLedTo 47 = .ok (.istore 6, 2) := by decide +kernel
theorem dX1_roomsLedTo_49 : decode cX1_roomsLedTo 49 = .ok (.iload_n 2, 1) := by decide +kernel
theorem dX1_roomsLedTo_50 : decode cX1_roomsLedTo 50 = .ok (.iload 5, 2) := by decide +kernel
theorem dX1_roomsLedTo_52 : decode cX1_roomsLedTo 52 = .ok (.ishr, 1) := by decide +kernel
theorem dX1_roomsLedTo_53 : decode cX1_roomsLedTo 53 = .ok (.iconst 1, 1) := by decide +kernel
theorem dX1_roomsLedTo_54 : decode cX1_roomsLedTo 54 = .ok (.iand, 1) := by decide +kernel
theorem dX1_roomsLedTo_55 : decode cX1_roomsLedTo 55 = .ok (.ifCond .eq 15, 3) := by decide +kernel
theorem dX1_roomsLedTo_58 : decode cX1_roomsLedTo 58 = .ok (.iload_n 3, 1) := by decide +kernel
theorem dX1_roomsLedTo_59 : decode cX1_roomsLedTo 59 = .ok (.iload 6, 2) := by decide +kernel
theorem dX1_roomsLedTo_61 : decode cX1_roomsLedTo 61 = .ok (.iand, 1) := by decide +kernel
theorem dX1_roomsLedTo_62 : decode cX1_roomsLedTo 62 = .ok (.ifCond .eq 8, 3) := by decide +kernel
theorem dX1_roomsLedTo_65 : decode cX1_roomsLedTo 65 = .ok (.iload_n 3, 1) := by decide +kernel
theorem dX1_roomsLedTo_66 : decode cX1_roomsLedTo 66 = .ok (.iload 6, 2) := by decide +kernel
theorem dX1_roomsLedTo_68 : decode cX1_roomsLedTo 68 = .ok (.ior, 1) := by decide +kernel
theorem dX1_roomsLedTo_69 : decode cX1_roomsLedTo 69 = .ok (.istore_n 3, 1) := by decide +kernel
theorem dX1_roomsLedTo_70 : decode cX1_roomsLedTo 70 = .ok (.iinc 5 1, 3) := by decide +kernel
theorem dX1_roomsLedTo_73 : decode cX1_roomsLedTo 73 = .ok (.goto (-54), 3) := by decide +kernel
theorem dX1_roomsLedTo_76 : decode cX1_roomsLedTo 76 = .ok (.iinc 4 1, 3) := by decide +kernel
theorem dX1_roomsLedTo_79 : decode cX1_roomsLedTo 79 = .ok (.goto (-72), 3) := by decide +kernel
theorem dX1_roomsLedTo_82 : decode cX1_roomsLedTo 82 = .ok (.iload_n 3, 1) := by decide +kernel
theorem dX1_roomsLedTo_83 : decode cX1_roomsLedTo 83 = .ok (.ireturn, 1) := by decide +kernel
theorem dX1_allCold_0 : decode cX1_allCold 0 = .ok (.iconst 0, 1) := by decide +kernel
theorem dX1_allCold_1 : decode cX1_allCold 1 = .ok (.istore_n 1, 1) := by decide +kernel
theorem dX1_allCold_2 : decode cX1_allCold 2 = .ok (.iconst 0, 1) := by decide +kernel
theorem dX1_allCold_3 : decode cX1_allCold 3 = .ok (.istore_n 2, 1) := by decide +kernel
theorem dX1_allCold_4 : decode cX1_allCold 4 = .ok (.iload_n 2, 1) := by decide +kernel
theorem dX1_allCold_5 : decode cX1_allCold 5 = .ok (.aload_n 0, 1) := by decide +kernel
theorem dX1_allCold_6 : decode cX1_allCold 6 = .ok (.getfield 30, 3) := by decide +kernel
theorem dX1_allCold_9 : decode cX1_allCold 9 = .ok (.if_icmp .ge 18, 3) := by decide +kernel
theorem dX1_allCold_12 : decode cX1_allCold 12 = .ok (.iload_n 1, 1) := by decide +kernel
theorem dX1_allCold_13 : decode cX1_allCold 13 = .ok (.aload_n 0, 1) := by decide +kernel
theorem dX1_allCold_14 : decode cX1_allCold 14 = .ok (.getfield 27, 3) := by decide +kernel
theorem dX1_allCold_17 : decode cX1_allCold 17 = .ok (.iload_n 2, 1) := by decide +kernel
theorem dX1_allCold_18 : decode cX1_allCold 18 = .ok (.iaload, 1) := by decide +kernel
theorem dX1_allCold_19 : decode cX1_allCold 19 = .ok (.iadd, 1) := by decide +kernel
theorem dX1_allCold_20 : decode cX1_allCold 20 = .ok (.istore_n 1, 1) := by decide +kernel
theorem dX1_allCold_21 : decode cX1_allCold 21 = .ok (.iinc 2 1, 3) := by decide +kernel
theorem dX1_allCold_24 : decode cX1_allCold 24 = .ok (.goto (-20), 3) := by decide +kernel
theorem dX1_allCold_27 : decode cX1_allCold 27 = .ok (.iload_n 1, 1) := by decide +kernel
theorem dX1_allCold_28 : decode cX1_allCold 28 = .ok (.ireturn, 1) := by decide +kernel
theorem dX1_isShivering_0 : decode cX1_isShivering 0 = .ok (.aload_n 0, 1) := by decide +kernel
theorem dX1_isShivering_1 : decode cX1_isShivering 1 = .ok (.getfield 27, 3) := by decide +kernel
theorem dX1_isShivering_4 : decode cX1_isShivering 4 = .ok (.aload_n 0, 1) := by decide +kernel
theorem dX1_isShivering_5 : decode cX1_isShivering 5 = .ok (.getfield 21, 3) := by decide +kernel
theorem dX1_isShivering_8 : decode cX1_isShivering 8 = .ok (.iload_n 1, 1) := by decide +kernel
theorem dX1_isShivering_9 : decode cX1_isShivering 9 = .ok (.iaload, 1) := by decide +kernel
theorem dX1_isShivering_10 : decode cX1_isShivering 10 = .ok (.iaload, 1) := by decide +kernel
theorem dX1_isShivering_11 : decode cX1_isShivering 11 = .ok (.aload_n 0, 1) := by decide +kernel
theorem dX1_isShivering_12 : decode cX1_isShivering 12 = .ok (.getfield 52, 3) := by decide +kernel
theorem dX1_isShivering_15 : decode cX1_isShivering 15 = .ok (.if_icmp .le 7, 3) := by decide +kernel
theorem dX1_isShivering_18 : decode cX1_isShivering 18 = .ok (.iconst 1, 1) := by decide +kernel
theorem dX1_isShivering_19 : decode cX1_isShivering 19 = .ok (.goto 4, 3) := by decide +kernel
theorem dX1_isShivering_22 : decode cX1_isShivering 22 = .ok (.iconst 0, 1) := by decide +kernel
theorem dX1_isShivering_23 : decode cX1_isShivering 23 = .ok (.ireturn, 1) := by decide +kernel
theorem dX1_firstShivering_0 : decode cX1_firstShivering 0 = .ok (.iconst 0, 1) := by decide +kernel
theorem dX1_firstShivering_1 : decode cX1_firstShivering 1 = .ok (.istore_n 1, 1) := by decide +kernel
theorem dX1_firstShivering_2 : decode cX1_firstShivering 2 = .ok (.iload_n 1, 1) := by decide +kernel
theorem dX1_firstShivering_3 : decode cX1_firstShivering 3 = .ok (.aload_n 0, 1) := by decide +kernel
theorem dX1_firstShivering_4 : decode cX1_firstShivering 4 = .ok (.getfield 37, 3) := by decide +kernel
theorem dX1_firstShivering_7 : decode cX1_firstShivering 7 = .ok (.if_icmp .ge 19, 3) := by decide +kernel
theorem dX1_firstShivering_10 : decode cX1_firstShivering 10 = .ok (.aload_n 0, 1) := by decide +kernel
theorem dX1_firstShivering_11 : decode cX1_firstShivering 11 = .ok (.iload_n 1, 1) := by decide +kernel
theorem dX1_firstShivering_12 : decode cX1_firstShivering 12 = .ok (.invokevirtual 96, 3) := by decide +kernel
theorem dX1_firstShivering_15 : decode cX1_firstShivering 15 = .ok (.ifCond .eq 5, 3) := by decide +kernel
theorem dX1_firstShivering_18 : decode cX1_firstShivering 18 = .ok (.iload_n 1, 1) := by decide +kernel
theorem dX1_firstShivering_19 : decode cX1_firstShivering 19 = .ok (.ireturn, 1) := by decide +kernel
theorem dX1_firstShivering_20 : decode cX1_firstShivering 20 = .ok (.iinc 1 1, 3) := by decide +kernel
theorem dX1_firstShivering_23 : decode cX1_firstShivering 23 = .ok (.goto (-21), 3) := by decide +kernel
theorem dX1_firstShivering_26 : decode cX1_firstShivering 26 = .ok (.iconst (-1), 1) := by decide +kernel
theorem dX1_firstShivering_27 : decode cX1_firstShivering 27 = .ok (.ireturn, 1) := by decide +kernel
theorem dX2_init_0 : decode cX2_init 0 = .ok (.aload_n 0, 1) := by decide +kernel
theorem dX2_init_1 : decode cX2_init 1 = .ok (.invokespecial 5, 3) := by decide +kernel
theorem dX2_init_4 : decode cX2_init 4 = .ok (.aload_n 0, 1) := by decide +kernel
theorem dX2_init_5 : decode cX2_init 5 = .ok (.sipush 312, 3) := by decide +kernel
theorem dX2_init_8 : decode cX2_init 8 = .ok (.newarray .int, 2) := by decide +kernel
theorem dX2_init_10 : decode cX2_init 10 = .ok (.putfield 11, 3) := by decide +kernel
theorem dX2_init_13 : decode cX2_init 13 = .ok (.return_, 1) := by decide +kernel
theorem dX2_forget_0 : decode cX2_forget 0 = .ok (.aload_n 0, 1) := by decide +kernel
theorem dX2_forget_1 : decode cX2_forget 1 = .ok (.iconst 0, 1) := by decide +kernel
theorem dX2_forget_2 : decode cX2_forget 2 = .ok (.putfield 15, 3) := by decide +kernel
theorem dX2_forget_5 : decode cX2_forget 5 = .ok (.return_, 1) := by decide +kernel
theorem dX2_keep_0 : decode cX2_keep 0 = .ok (.aload_n 0, 1) := by decide +kernel
theorem dX2_keep_1 : decode cX2_keep 1 = .ok (.getfield 19, 3) := by decide +kernel
theorem dX2_keep_4 : decode cX2_keep 4 = .ok (.aload_n 0, 1) := by decide +kernel
theorem dX2_keep_5 : decode cX2_keep 5 = .ok (.getfield 15, 3) := by decide +kernel
theorem dX2_keep_8 : decode cX2_keep 8 = .ok (.iadd, 1) := by decide +kernel
theorem dX2_keep_9 : decode cX2_keep 9 = .ok (.bipush 24, 2) := by decide +kernel
theorem dX2_keep_11 : decode cX2_keep 11 = .ok (.irem, 1) := by decide +kernel
theorem dX2_keep_12 : decode cX2_keep 12 = .ok (.bipush 13, 2) := by decide +kernel
theorem dX2_keep_14 : decode cX2_keep 14 = .ok (.imul, 1) := by decide +kernel
theorem dX2_keep_15 : decode cX2_keep 15 = .ok (.istore_n 2, 1) := by decide +kernel
theorem dX2_keep_16 : decode cX2_keep 16 = .ok (.aload_n 0, 1) := by decide +kernel
theorem dX2_keep_17 : decode cX2_keep 17 = .ok (.getfield 11, 3) := by decide +kernel
theorem dX2_keep_20 : decode cX2_keep 20 = .ok (.iload_n 2, 1) := by decide +kernel
theorem dX2_keep_21 : decode cX2_keep 21 = .ok (.iconst 0, 1) := by decide +kernel
theorem dX2_keep_22 : decode cX2_keep 22 = .ok (.iadd, 1) := by decide +kernel
theorem dX2_keep_23 : decode cX2_keep 23 = .ok (.aload_n 1, 1) := by decide +kernel
theorem dX2_keep_24 : decode cX2_keep 24 = .ok (.getfield 22, 3) := by decide +kernel
theorem dX2_keep_27 : decode cX2_keep 27 = .ok (.iastore, 1) := by decide +kernel
theorem dX2_keep_28 : decode cX2_keep 28 = .ok (.aload_n 0, 1) := by decide +kernel
theorem dX2_keep_29 : decode cX2_keep 29 = .ok (.getfield 11, 3) := by decide +kernel
theorem dX2_keep_32 : decode cX2_keep 32 = .ok (.iload_n 2, 1) := by decide +kernel
theorem dX2_keep_33 : decode cX2_keep 33 = .ok (.iconst 1, 1) := by decide +kernel
theorem dX2_keep_34 : decode cX2_keep 34 = .ok (.iadd, 1) := by decide +kernel
theorem dX2_keep_35 : decode cX2_keep 35 = .ok (.aload_n 1, 1) := by decide +kernel
theorem dX2_keep_36 : decode cX2_keep 36 = .ok (.getfield 25, 3) := by decide +kernel
theorem dX2_keep_39 : decode cX2_keep 39 = .ok (.iastore, 1) := by decide +kernel
theorem dX2_keep_40 : decode cX2_keep 40 = .ok (.aload_n 1, 1) := by decide +kernel
theorem dX2_keep_41 : decode cX2_keep 41 = .ok (.getfield 28, 3) := by decide +kernel
theorem dX2_keep_44 : decode cX2_keep 44 = .ok (.iconst 0, 1) := by decide +kernel
theorem dX2_keep_45 : decode cX2_keep 45 = .ok (.aload_n 0, 1) := by decide +kernel
theorem dX2_keep_46 : decode cX2_keep 46 = .ok (.getfield 11, 3) := by decide +kernel
theorem dX2_keep_49 : decode cX2_keep 49 = .ok (.iload_n 2, 1) := by decide +kernel
theorem dX2_keep_50 : decode cX2_keep 50 = .ok (.iconst 2, 1) := by decide +kernel
theorem dX2_keep_51 : decode cX2_keep 51 = .ok (.iadd, 1) := by decide +kernel
theorem dX2_keep_52 : decode cX2_keep 52 = .ok (.bipush 6, 2) := by decide +kernel
theorem dX2_keep_54 : decode cX2_keep 54 = .ok (.invokestatic 31, 3) := by decide +kernel
theorem dX2_keep_57 : decode cX2_keep 57 = .ok (.aload_n 1, 1) := by decide +kernel
theorem dX2_keep_58 : decode cX2_keep 58 = .ok (.getfield 37, 3) := by decide +kernel
theorem dX2_keep_61 : decode cX2_keep 61 = .ok (.iconst 0, 1) := by decide +kernel
theorem dX2_keep_62 : decode cX2_keep 62 = .ok (.aload_n 0, 1) := by decide +kernel
theorem dX2_keep_63 : decode cX2_keep 63 = .ok (.getfield 11, 3) := by decide +kernel
theorem dX2_keep_66 : decode cX2_keep 66 = .ok (.iload_n 2, 1) := by decide +kernel
theorem dX2_keep_67 : decode cX2_keep 67 = .ok (.bipush 8, 2) := by decide +kernel
theorem dX2_keep_69 : decode cX2_keep 69 = .ok (.iadd, 1) := by decide +kernel
theorem dX2_keep_70 : decode cX2_keep 70 = .ok (.iconst 5, 1) := by decide +kernel
theorem dX2_keep_71 : decode cX2_keep 71 = .ok (.invokestatic 31, 3) := by decide +kernel
theorem dX2_keep_74 : decode cX2_keep 74 = .ok (.aload_n 0, 1) := by decide +kernel
theorem dX2_keep_75 : decode cX2_keep 75 = .ok (.getfield 15, 3) := by decide +kernel
theorem dX2_keep_78 : decode cX2_keep 78 = .ok (.bipush 24, 2) := by decide +kernel
theorem dX2_keep_80 : decode cX2_keep 80 = .ok (.if_icmp .ge 16, 3) := by decide +kernel
theorem dX2_keep_83 : decode cX2_keep 83 = .ok (.aload_n 0, 1) := by decide +kernel
theorem dX2_keep_84 : decode cX2_keep 84 = .ok (.dup, 1) := by decide +kernel
theorem dX2_keep_85 : decode cX2_keep 85 = .ok (.getfield 15, 3) := by decide +kernel
theorem dX2_keep_88 : decode cX2_keep 88 = .ok (.iconst 1, 1) := by decide +kernel
theorem dX2_keep_89 : decode cX2_keep 89 = .ok (.iadd, 1) := by decide +kernel
theorem dX2_keep_90 : decode cX2_keep 90 = .ok (.putfield 15, 3) := by decide +kernel
theorem dX2_keep_93 : decode cX2_keep 93 = .ok (.goto 16, 3) := by decide +kernel
theorem dX2_keep_96 : decode cX2_keep 96 = .ok (.aload_n 0, 1) := by decide +kernel
theorem dX2_keep_97 : decode cX2_keep 97 = .ok (.aload_n 0, 1) := by decide +kernel
theorem dX2_keep_98 : decode cX2_keep 98 = .ok (.getfield 19, 3) := by decide +kernel
theorem dX2_keep_101 : decode cX2_keep 101 = .ok (.iconst 1, 1) := by decide +kernel
theorem dX2_keep_102 : decode cX2_keep 102 = .ok (.iadd, 1) := by decide +kernel
theorem dX2_keep_103 : decode cX2_keep 103 = .ok (.bipush 24, 2) := by decide +kernel
theorem dX2_keep_105 : decode cX2_keep 105 = .ok (.irem, 1) := by decide +kernel
theorem dX2_keep_106 : decode cX2_keep 106 = .ok (.putfield 19, 3) := by decide +kernel
theorem dX2_keep_109 : decode cX2_keep 109 = .ok (.return_, 1) := by decide +kernel
theorem dX2_takeBack_0 : decode cX2_takeBack 0 = .ok (.aload_n 0, 1) := by decide +kernel
theorem dX2_takeBack_1 : decode cX2_takeBack 1 = .ok (.getfield 15, 3) := by decide +kernel
theorem dX2_takeBack_4 : decode cX2_takeBack 4 = .ok (.ifCond .ne 4, 3) := by decide +kernel
theorem dX2_takeBack_7 : decode cX2_takeBack 7 = .ok (.return_, 1) := by decide +kernel
theorem dX2_takeBack_8 : decode cX2_takeBack 8 = .ok (.aload_n 0, 1) := by decide +kernel
theorem dX2_takeBack_9 : decode cX2_takeBack 9 = .ok (.dup, 1) := by decide +kernel
theorem dX2_takeBack_10 : decode cX2_takeBack 10 = .ok (.getfield 15, 3) := by decide +kernel
theorem dX2_takeBack_13 : decode cX2_takeBack 13 = .ok (.iconst 1, 1) := by decide +kernel
theorem dX2_takeBack_14 : decode cX2_takeBack 14 = .ok (.isub, 1) := by decide +kernel
theorem dX2_takeBack_15 : decode cX2_takeBack 15 = .ok (.putfield 15, 3) := by decide +kernel
theorem dX2_takeBack_18 : decode cX2_takeBack 18 = .ok (.aload_n 0, 1) := by decide +kernel
theorem dX2_takeBack_19 : decode cX2_takeBack 19 = .ok (.getfield 19, 3) := by decide +kernel
theorem dX2_takeBack_22 : decode cX2_takeBack 22 = .ok (.aload_n 0, 1) := by decide +kernel
theorem dX2_takeBack_23 : decode cX2_takeBack 23 = .ok (.getfield 15, 3) := by decide +kernel
theorem dX2_takeBack_26 : decode cX2_takeBack 26 = .ok (.iadd, 1) := by decide +kernel
theorem dX2_takeBack_27 : decode cX2_takeBack 27 = .ok (.bipush 24, 2) := by decide +kernel
theorem dX2_takeBack_29 : decode cX2_takeBack 29 = .ok (.irem, 1) := by decide +kernel
theorem dX2_takeBack_30 : decode cX2_takeBack 30 = .ok (.bipush 13, 2) := by decide +kernel
theorem dX2_takeBack_32 : decode cX2_takeBack 32 = .ok (.imul, 1) := by decide +kernel
theorem dX2_takeBack_33 : decode cX2_takeBack 33 = .ok (.istore_n 2, 1) := by decide +kernel
theorem dX2_takeBack_34 : decode cX2_takeBack 34 = .ok (.aload_n 1, 1) := by decide +kernel
theorem dX2_takeBack_35 : decode cX2_takeBack 35 = .ok (.aload_n 0, 1) := by decide +kernel
theorem dX2_takeBack_36 : decode cX2_takeBack 36 = .ok (.getfield 11, 3) := by decide +kernel
theorem dX2_takeBack_39 : decode cX2_takeBack 39 = .ok (.iload_n 2, 1) := by decide +kernel
theorem dX2_takeBack_40 : decode cX2_takeBack 40 = .ok (.iconst 0, 1) := by decide +kernel
theorem dX2_takeBack_41 : decode cX2_takeBack 41 = .ok (.iadd, 1) := by decide +kernel
theorem dX2_takeBack_42 : decode cX2_takeBack 42 = .ok (.iaload, 1) := by decide +kernel
theorem dX2_takeBack_43 : decode cX2_takeBack 43 = .ok (.putfield 22, 3) := by decide +kernel
theorem dX2_takeBack_46 : decode cX2_takeBack 46 = .ok (.aload_n 1, 1) := by decide +kernel
theorem dX2_takeBack_47 : decode cX2_takeBack 47 = .ok (.aload_n 0, 1) := by decide +kernel
theorem dX2_takeBack_48 : decode cX2_takeBack 48 = .ok (.getfield 11, 3) := by decide +kernel
theorem dX2_takeBack_51 : decode cX2_takeBack 51 = .ok (.iload_n 2, 1) := by decide +kernel
theorem dX2_takeBack_52 : decode cX2_takeBack 52 = .ok (.iconst 1, 1) := by decide +kernel
theorem dX2_takeBack_53 : decode cX2_takeBack 53 = .ok (.iadd, 1) := by decide +kernel
theorem dX2_takeBack_54 : decode cX2_takeBack 54 = .ok (.iaload, 1) := by decide +kernel
theorem dX2_takeBack_55 : decode cX2_takeBack 55 = .ok (.putfield 25, 3) := by decide +kernel
theorem dX2_takeBack_58 : decode cX2_takeBack 58 = .ok (.aload_n 0, 1) := by decide +kernel
theorem dX2_takeBack_59 : decode cX2_takeBack 59 = .ok (.getfield 11, 3) := by decide +kernel
theorem dX2_takeBack_62 : decode cX2_takeBack 62 = .ok (.iload_n 2, 1) := by decide +kernel
theorem dX2_takeBack_63 : decode cX2_takeBack 63 = .ok (.iconst 2, 1) := by decide +kernel
theorem dX2_takeBack_64 : decode cX2_takeBack 64 = .ok (.iadd, 1) := by decide +kernel
theorem dX2_takeBack_65 : decode cX2_takeBack 65 = .ok (.aload_n 1, 1) := by decide +kernel
theorem dX2_takeBack_66 : decode cX2_takeBack 66 = .ok (.getfield 28, 3) := by decide +kernel
theorem dX2_takeBack_69 : decode cX2_takeBack 69 = .ok (.iconst 0, 1) := by decide +kernel
theorem dX2_takeBack_70 : decode cX2_takeBack 70 = .ok (.bipush 6, 2) := by decide +kernel
theorem dX2_takeBack_72 : decode cX2_takeBack 72 = .ok (.invokestatic 31, 3) := by decide +kernel
