theorem dX7_parted_46 : decode cX7_parted 46 = .ok (.ireturn, 1) := by decide +kernel
theorem dX7_parted_47 : decode cX7_parted 47 = .ok (.aload_n 0, 1) := by decide +kernel
theorem dX7_parted_48 : decode cX7_parted 48 = .ok (.invokevirtual 169, 3) := by decide +kernel
theorem dX7_parted_51 : decode cX7_parted 51 = .ok (.istore 4, 2) := by decide +kernel
theorem dX7_parted_53 : decode cX7_parted 53 = .ok (.iconst (-1), 1) := by decide +kernel
theorem dX7_parted_54 : decode cX7_parted 54 = .ok (.istore 5, 2) := by decide +kernel
theorem dX7_parted_56 : decode cX7_parted 56 = .ok (.iconst 0, 1) := by decide +kernel
theorem dX7_parted_57 : decode cX7_parted 57 = .ok (.istore 6, 2) := by decide +kernel
theorem dX7_parted_59 : decode cX7_parted 59 = .ok (.iload 6, 2) := by decide +kernel
theorem dX7_parted_61 : decode cX7_parted 61 = .ok (.iconst 1, 1) := by decide +kernel
theorem dX7_parted_62 : decode cX7_parted 62 = .ok (.aload_n 0, 1) := by decide +kernel
theorem dX7_parted_63 : decode cX7_parted 63 = .ok (.getfield 19, 3) := by decide +kernel
theorem dX7_parted_66 : decode cX7_parted 66 = .ok (.iconst 4, 1) := by decide +kernel
theorem dX7_parted_67 : decode cX7_parted 67 = .ok (.iaload, 1) := by decide +kernel
theorem dX7_parted_68 : decode cX7_parted 68 = .ok (.ishl, 1) := by decide +kernel
theorem dX7_parted_69 : decode cX7_parted 69 = .ok (.if_icmp .ge 72, 3) := by decide +kernel
theorem dX7_parted_72 : decode cX7_parted 72 = .ok (.iload 5, 2) := by decide +kernel
theorem dX7_parted_74 : decode cX7_parted 74 = .ok (.ifCond .lt 16, 3) := by decide +kernel
theorem dX7_parted_77 : decode cX7_parted 77 = .ok (.iload 6, 2) := by decide +kernel
theorem dX7_parted_79 : decode cX7_parted 79 = .ok (.invokestatic 208, 3) := by decide +kernel
theorem dX7_parted_82 : decode cX7_parted 82 = .ok (.iload 5, 2) := by decide +kernel
theorem dX7_parted_84 : decode cX7_parted 84 = .ok (.invokestatic 208, 3) := by decide +kernel
theorem dX7_parted_87 : decode cX7_parted 87 = .ok (.if_icmp .ge 7, 3) := by decide +kernel
theorem dX7_parted_90 : decode cX7_parted 90 = .ok (.iconst 1, 1) := by decide +kernel
theorem dX7_parted_91 : decode cX7_parted 91 = .ok (.goto 4, 3) := by decide +kernel
theorem dX7_parted_94 : decode cX7_parted 94 = .ok (.iconst 0, 1) := by decide +kernel
theorem dX7_parted_95 : decode cX7_parted 95 = .ok (.istore 7, 2) := by decide +kernel
theorem dX7_parted_97 : decode cX7_parted 97 = .ok (.iload 7, 2) := by decide +kernel
theorem dX7_parted_99 : decode cX7_parted 99 = .ok (.ifCond .eq 36, 3) := by decide +kernel
theorem dX7_parted_102 : decode cX7_parted 102 = .ok (.iload 6, 2) := by decide +kernel
theorem dX7_parted_104 : decode cX7_parted 104 = .ok (.iload 4, 2) := by decide +kernel
theorem dX7_parted_106 : decode cX7_parted 106 = .ok (.iconst (-1), 1) := by decide +kernel
theorem dX7_parted_107 : decode cX7_parted 107 = .ok (.ixor, 1) := by decide +kernel
theorem dX7_parted_108 : decode cX7_parted 108 = .ok (.iand, 1) := by decide +kernel
theorem dX7_parted_109 : decode cX7_parted 109 = .ok (.ifCond .ne 26, 3) := by decide +kernel
theorem dX7_parted_112 : decode cX7_parted 112 = .ok (.aload_n 0, 1) := by decide +kernel
theorem dX7_parted_113 : decode cX7_parted 113 = .ok (.iload_n 1, 1) := by decide +kernel
theorem dX7_parted_114 : decode cX7_parted 114 = .ok (.iload 4, 2) := by decide +kernel
theorem dX7_parted_116 : decode cX7_parted 116 = .ok (.iload 6, 2) := by decide +kernel
theorem dX7_parted_118 : decode cX7_parted 118 = .ok (.iconst (-1), 1) := by decide +kernel
theorem dX7_parted_119 : decode cX7_parted 119 = .ok (.ixor, 1) := by decide +kernel
theorem dX7_parted_120 : decode cX7_parted 120 = .ok (.iand, 1) := by decide +kernel
theorem dX7_parted_121 : decode cX7_parted 121 = .ok (.invokevirtual 229, 3) := by decide +kernel
theorem dX7_parted_124 : decode cX7_parted 124 = .ok (.iload_n 2, 1) := by decide +kernel
theorem dX7_parted_125 : decode cX7_parted 125 = .ok (.invokestatic 199, 3) := by decide +kernel
theorem dX7_parted_128 : decode cX7_parted 128 = .ok (.ifCond .ne 7, 3) := by decide +kernel
theorem dX7_parted_131 : decode cX7_parted 131 = .ok (.iload 6, 2) := by decide +kernel
theorem dX7_parted_133 : decode cX7_parted 133 = .ok (.istore 5, 2) := by decide +kernel
theorem dX7_parted_135 : decode cX7_parted 135 = .ok (.iinc 6 1, 3) := by decide +kernel
theorem dX7_parted_138 : decode cX7_parted 138 = .ok (.goto (-79), 3) := by decide +kernel
theorem dX7_parted_141 : decode cX7_parted 141 = .ok (.iload_n 3, 1) := by decide +kernel
theorem dX7_parted_142 : decode cX7_parted 142 = .ok (.ifCond .ne 11, 3) := by decide +kernel
theorem dX7_parted_145 : decode cX7_parted 145 = .ok (.iload 5, 2) := by decide +kernel
theorem dX7_parted_147 : decode cX7_parted 147 = .ok (.invokestatic 208, 3) := by decide +kernel
theorem dX7_parted_150 : decode cX7_parted 150 = .ok (.goto 5, 3) := by decide +kernel
theorem dX7_parted_153 : decode cX7_parted 153 = .ok (.iload 5, 2) := by decide +kernel
theorem dX7_parted_155 : decode cX7_parted 155 = .ok (.ireturn, 1) := by decide +kernel
theorem dX7_coldest_0 : decode cX7_coldest 0 = .ok (.aload_n 0, 1) := by decide +kernel
theorem dX7_coldest_1 : decode cX7_coldest 1 = .ok (.getfield 135, 3) := by decide +kernel
theorem dX7_coldest_4 : decode cX7_coldest 4 = .ok (.ifCond .ne 6, 3) := by decide +kernel
theorem dX7_coldest_7 : decode cX7_coldest 7 = .ok (.ldc 142, 2) := by decide +kernel
theorem dX7_coldest_9 : decode cX7_coldest 9 = .ok (.ireturn, 1) := by decide +kernel
theorem dX7_coldest_10 : decode cX7_coldest 10 = .ok (.iload_n 1, 1) := by decide +kernel
theorem dX7_coldest_11 : decode cX7_coldest 11 = .ok (.i2l, 1) := by decide +kernel
theorem dX7_coldest_12 : decode cX7_coldest 12 = .ok (.lconst 0, 1) := by decide +kernel
theorem dX7_coldest_13 : decode cX7_coldest 13 = .ok (.ldc2_w 183, 3) := by decide +kernel
theorem dX7_coldest_16 : decode cX7_coldest 16 = .ok (.invokestatic 54, 3) := by decide +kernel
theorem dX7_coldest_19 : decode cX7_coldest 19 = .ok (.ifCond .eq 13, 3) := by decide +kernel
theorem dX7_coldest_22 : decode cX7_coldest 22 = .ok (.iload_n 2, 1) := by decide +kernel
theorem dX7_coldest_23 : decode cX7_coldest 23 = .ok (.i2l, 1) := by decide +kernel
theorem dX7_coldest_24 : decode cX7_coldest 24 = .ok (.lconst 0, 1) := by decide +kernel
theorem dX7_coldest_25 : decode cX7_coldest 25 = .ok (.lconst 1, 1) := by decide +kernel
theorem dX7_coldest_26 : decode cX7_coldest 26 = .ok (.invokestatic 54, 3) := by decide +kernel
theorem dX7_coldest_29 : decode cX7_coldest 29 = .ok (.ifCond .ne 6, 3) := by decide +kernel
theorem dX7_coldest_32 : decode cX7_coldest 32 = .ok (.ldc 64, 2) := by decide +kernel
theorem dX7_coldest_34 : decode cX7_coldest 34 = .ok (.ireturn, 1) := by decide +kernel
theorem dX7_coldest_35 : decode cX7_coldest 35 = .ok (.aload_n 0, 1) := by decide +kernel
theorem dX7_coldest_36 : decode cX7_coldest 36 = .ok (.invokevirtual 185, 3) := by decide +kernel
theorem dX7_coldest_39 : decode cX7_coldest 39 = .ok (.aload_n 0, 1) := by decide +kernel
theorem dX7_coldest_40 : decode cX7_coldest 40 = .ok (.iload_n 1, 1) := by decide +kernel
theorem dX7_coldest_41 : decode cX7_coldest 41 = .ok (.invokevirtual 188, 3) := by decide +kernel
theorem dX7_coldest_44 : decode cX7_coldest 44 = .ok (.iconst 0, 1) := by decide +kernel
theorem dX7_coldest_45 : decode cX7_coldest 45 = .ok (.istore_n 3, 1) := by decide +kernel
theorem dX7_coldest_46 : decode cX7_coldest 46 = .ok (.iconst 1, 1) := by decide +kernel
theorem dX7_coldest_47 : decode cX7_coldest 47 = .ok (.istore 4, 2) := by decide +kernel
theorem dX7_coldest_49 : decode cX7_coldest 49 = .ok (.iload 4, 2) := by decide +kernel
theorem dX7_coldest_51 : decode cX7_coldest 51 = .ok (.aload_n 0, 1) := by decide +kernel
theorem dX7_coldest_52 : decode cX7_coldest 52 = .ok (.getfield 19, 3) := by decide +kernel
theorem dX7_coldest_55 : decode cX7_coldest 55 = .ok (.iconst 0, 1) := by decide +kernel
theorem dX7_coldest_56 : decode cX7_coldest 56 = .ok (.iaload, 1) := by decide +kernel
theorem dX7_coldest_57 : decode cX7_coldest 57 = .ok (.if_icmp .ge 38, 3) := by decide +kernel
theorem dX7_coldest_60 : decode cX7_coldest 60 = .ok (.aload_n 0, 1) := by decide +kernel
theorem dX7_coldest_61 : decode cX7_coldest 61 = .ok (.getfield 19, 3) := by decide +kernel
theorem dX7_coldest_64 : decode cX7_coldest 64 = .ok (.bipush 7, 2) := by decide +kernel
theorem dX7_coldest_66 : decode cX7_coldest 66 = .ok (.iload 4, 2) := by decide +kernel
theorem dX7_coldest_68 : decode cX7_coldest 68 = .ok (.iadd, 1) := by decide +kernel
theorem dX7_coldest_69 : decode cX7_coldest 69 = .ok (.iaload, 1) := by decide +kernel
theorem dX7_coldest_70 : decode cX7_coldest 70 = .ok (.aload_n 0, 1) := by decide +kernel
theorem dX7_coldest_71 : decode cX7_coldest 71 = .ok (.getfield 19, 3) := by decide +kernel
theorem dX7_coldest_74 : decode cX7_coldest 74 = .ok (.bipush 7, 2) := by decide +kernel
theorem dX7_coldest_76 : decode cX7_coldest 76 = .ok (.iload_n 3, 1) := by decide +kernel
theorem dX7_coldest_77 : decode cX7_coldest 77 = .ok (.iadd, 1) := by decide +kernel
theorem dX7_coldest_78 : decode cX7_coldest 78 = .ok (.iaload, 1) := by decide +kernel
theorem dX7_coldest_79 : decode cX7_coldest 79 = .ok (.if_icmp .le 8, 3) := by decide +kernel
theorem dX7_coldest_82 : decode cX7_coldest 82 = .ok (.iload 4, 2) := by decide +kernel
theorem dX7_coldest_84 : decode cX7_coldest 84 = .ok (.goto 4, 3) := by decide +kernel
theorem dX7_coldest_87 : decode cX7_coldest 87 = .ok (.iload_n 3, 1) := by decide +kernel
theorem dX7_coldest_88 : decode cX7_coldest 88 = .ok (.istore_n 3, 1) := by decide +kernel
theorem dX7_coldest_89 : decode cX7_coldest 89 = .ok (.iinc 4 1, 3) := by decide +kernel
theorem dX7_coldest_92 : decode cX7_coldest 92 = .ok (.goto (-43), 3) := by decide +kernel
theorem dX7_coldest_95 : decode cX7_coldest 95 = .ok (.aload_n 0, 1) := by decide +kernel
theorem dX7_coldest_96 : decode cX7_coldest 96 = .ok (.getfield 19, 3) := by decide +kernel
theorem dX7_coldest_99 : decode cX7_coldest 99 = .ok (.bipush 7, 2) := by decide +kernel
theorem dX7_coldest_101 : decode cX7_coldest 101 = .ok (.iload_n 3, 1) := by decide +kernel
theorem dX7_coldest_102 : decode cX7_coldest 102 = .ok (.iadd, 1) := by decide +kernel
theorem dX7_coldest_103 : decode cX7_coldest 103 = .ok (.iaload, 1) := by decide +kernel
theorem dX7_coldest_104 : decode cX7_coldest 104 = .ok (.istore 4, 2) := by decide +kernel
theorem dX7_coldest_106 : decode cX7_coldest 106 = .ok (.aload_n 0, 1) := by decide +kernel
theorem dX7_coldest_107 : decode cX7_coldest 107 = .ok (.invokevirtual 192, 3) := by decide +kernel
theorem dX7_coldest_110 : decode cX7_coldest 110 = .ok (.iload_n 2, 1) := by decide +kernel
theorem dX7_coldest_111 : decode cX7_coldest 111 = .ok (.ifCond .ne 7, 3) := by decide +kernel
theorem dX7_coldest_114 : decode cX7_coldest 114 = .ok (.iload_n 3, 1) := by decide +kernel
theorem dX7_coldest_115 : decode cX7_coldest 115 = .ok (.goto 5, 3) := by decide +kernel
theorem dX7_coldest_118 : decode cX7_coldest 118 = .ok (.iload 4, 2) := by decide +kernel
theorem dX7_coldest_120 : decode cX7_coldest 120 = .ok (.ireturn, 1) := by decide +kernel
theorem dX7_guest_0 : decode cX7_guest 0 = .ok (.aload_n 0, 1) := by decide +kernel
theorem dX7_guest_1 : decode cX7_guest 1 = .ok (.getfield 135, 3) := by decide +kernel
theorem dX7_guest_4 : decode cX7_guest 4 = .ok (.ifCond .ne 6, 3) := by decide +kernel
theorem dX7_guest_7 : decode cX7_guest 7 = .ok (.ldc 142, 2) := by decide +kernel
theorem dX7_guest_9 : decode cX7_guest 9 = .ok (.ireturn, 1) := by decide +kernel
theorem dX7_guest_10 : decode cX7_guest 10 = .ok (.aload_n 0, 1) := by decide +kernel
theorem dX7_guest_11 : decode cX7_guest 11 = .ok (.iload_n 1, 1) := by decide +kernel
theorem dX7_guest_12 : decode cX7_guest 12 = .ok (.invokevirtual 175, 3) := by decide +kernel
theorem dX7_guest_15 : decode cX7_guest 15 = .ok (.ifCond .eq 15, 3) := by decide +kernel
theorem dX7_guest_18 : decode cX7_guest 18 = .ok (.aload_n 0, 1) := by decide +kernel
theorem dX7_guest_19 : decode cX7_guest 19 = .ok (.iload_n 1, 1) := by decide +kernel
theorem dX7_guest_20 : decode cX7_guest 20 = .ok (.aload_n 0, 1) := by decide +kernel
theorem dX7_guest_21 : decode cX7_guest 21 = .ok (.invokevirtual 169, 3) := by decide +kernel
theorem dX7_guest_24 : decode cX7_guest 24 = .ok (.invokevirtual 229, 3) := by decide +kernel
theorem dX7_guest_27 : decode cX7_guest 27 = .ok (.goto 5, 3) := by decide +kernel
theorem dX7_guest_30 : decode cX7_guest 30 = .ok (.ldc 64, 2) := by decide +kernel
theorem dX7_guest_32 : decode cX7_guest 32 = .ok (.ireturn, 1) := by decide +kernel
theorem dX7_wind_0 : decode cX7_wind 0 = .ok (.aload_n 0, 1) := by decide +kernel
theorem dX7_wind_1 : decode cX7_wind 1 = .ok (.getfield 135, 3) := by decide +kernel
theorem dX7_wind_4 : decode cX7_wind 4 = .ok (.ifCond .ne 7, 3) := by decide +kernel
theorem dX7_wind_7 : decode cX7_wind 7 = .ok (.ldc2_w 232, 3) := by decide +kernel
theorem dX7_wind_10 : decode cX7_wind 10 = .ok (.lreturn, 1) := by decide +kernel
theorem dX7_wind_11 : decode cX7_wind 11 = .ok (.aload_n 0, 1) := by decide +kernel
theorem dX7_wind_12 : decode cX7_wind 12 = .ok (.iload_n 1, 1) := by decide +kernel
theorem dX7_wind_13 : decode cX7_wind 13 = .ok (.invokevirtual 175, 3) := by decide +kernel
theorem dX7_wind_16 : decode cX7_wind 16 = .ok (.ifCond .eq 25, 3) := by decide +kernel
theorem dX7_wind_19 : decode cX7_wind 19 = .ok (.iload_n 2, 1) := by decide +kernel
theorem dX7_wind_20 : decode cX7_wind 20 = .ok (.i2l, 1) := by decide +kernel
theorem dX7_wind_21 : decode cX7_wind 21 = .ok (.lconst 0, 1) := by decide +kernel
theorem dX7_wind_22 : decode cX7_wind 22 = .ok (.ldc2_w 234, 3) := by decide +kernel
theorem dX7_wind_25 : decode cX7_wind 25 = .ok (.invokestatic 54, 3) := by decide +kernel
theorem dX7_wind_28 : decode cX7_wind 28 = .ok (.ifCond .eq 13, 3) := by decide +kernel
theorem dX7_wind_31 : decode cX7_wind 31 = .ok (.iload_n 3, 1) := by decide +kernel
theorem dX7_wind_32 : decode cX7_wind 32 = .ok (.i2l, 1) := by decide +kernel
theorem dX7_wind_33 : decode cX7_wind 33 = .ok (.lconst 0, 1) := by decide +kernel
theorem dX7_wind_34 : decode cX7_wind 34 = .ok (.lconst 1, 1) := by decide +kernel
theorem dX7_wind_35 : decode cX7_wind 35 = .ok (.invokestatic 54, 3) := by decide +kernel
theorem dX7_wind_38 : decode cX7_wind 38 = .ok (.ifCond .ne 7, 3) := by decide +kernel
theorem dX7_wind_41 : decode cX7_wind 41 = .ok (.ldc2_w 236, 3) := by decide +kernel
theorem dX7_wind_44 : decode cX7_wind 44 = .ok (.lreturn, 1) := by decide +kernel
theorem dX7_wind_45 : decode cX7_wind 45 = .ok (.aload_n 0, 1) := by decide +kernel
theorem dX7_wind_46 : decode cX7_wind 46 = .ok (.invokevirtual 185, 3) := by decide +kernel
theorem dX7_wind_49 : decode cX7_wind 49 = .ok (.aload_n 0, 1) := by decide +kernel
theorem dX7_wind_50 : decode cX7_wind 50 = .ok (.invokevirtual 169, 3) := by decide +kernel
theorem dX7_wind_53 : decode cX7_wind 53 = .ok (.istore 4, 2) := by decide +kernel
theorem dX7_wind_55 : decode cX7_wind 55 = .ok (.lconst 0, 1) := by decide +kernel
theorem dX7_wind_56 : decode cX7_wind 56 = .ok (.lstore 5, 2) := by decide +kernel
theorem dX7_wind_58 : decode cX7_wind 58 = .ok (.lconst 1, 1) := by decide +kernel
theorem dX7_wind_59 : decode cX7_wind 59 = .ok (.lstore 7, 2) := by decide +kernel
theorem dX7_wind_61 : decode cX7_wind 61 = .ok (.iconst 0, 1) := by decide +kernel
theorem dX7_wind_62 : decode cX7_wind 62 = .ok (.istore 9, 2) := by decide +kernel
theorem dX7_wind_64 : decode cX7_wind 64 = .ok (.iload 9, 2) := by decide +kernel
theorem dX7_wind_66 : decode cX7_wind 66 = .ok (.iload 4, 2) := by decide +kernel
theorem dX7_wind_68 : decode cX7_wind 68 = .ok (.invokestatic 208, 3) := by decide +kernel
theorem dX7_wind_71 : decode cX7_wind 71 = .ok (.if_icmp .ge 17, 3) := by decide +kernel
theorem dX7_wind_74 : decode cX7_wind 74 = .ok (.lload 7, 2) := by decide +kernel
theorem dX7_wind_76 : decode cX7_wind 76 = .ok (.ldc2_w 234, 3) := by decide +kernel
theorem dX7_wind_79 : decode cX7_wind 79 = .ok (.lmul, 1) := by decide +kernel
theorem dX7_wind_80 : decode cX7_wind 80 = .ok (.lstore 7, 2) := by decide +kernel
theorem dX7_wind_82 : decode cX7_wind 82 = .ok (.iinc 9 1, 3) := by decide +kernel
theorem dX7_wind_85 : decode cX7_wind 85 = .ok (.goto (-21), 3) := by decide +kernel
theorem dX7_wind_88 : decode cX7_wind 88 = .ok (.iconst 0, 1) := by decide +kernel
theorem dX7_wind_89 : decode cX7_wind 89 = .ok (.istore 9, 2) := by decide +kernel
theorem dX7_wind_91 : decode cX7_wind 91 = .ok (.iload 9, 2) := by decide +kernel
theorem dX7_wind_93 : decode cX7_wind 93 = .ok (.iconst 1, 1) := by decide +kernel
theorem dX7_wind_94 : decode cX7_wind 94 = .ok (.aload_n 0, 1) := by decide +kernel
theorem dX7_wind_95 : decode cX7_wind 95 = .ok (.getfield 19, 3) := by decide +kernel
theorem dX7_wind_98 : decode cX7_wind 98 = .ok (.iconst 4, 1) := by decide +kernel
theorem dX7_wind_99 : decode cX7_wind 99 = .ok (.iaload, 1) := by decide +kernel
theorem dX7_wind_100 : decode cX7_wind 100 = .ok (.ishl, 1) := by decide +kernel
theorem dX7_wind_101 : decode cX7_wind 101 = .ok (.if_icmp .ge 124, 3) := by decide +kernel
theorem dX7_wind_104 : decode cX7_wind 104 = .ok (.iload 9, 2) := by decide +kernel
theorem dX7_wind_106 : decode cX7_wind 106 = .ok (.iload 4, 2) := by decide +kernel
theorem dX7_wind_108 : decode cX7_wind 108 = .ok (.iconst (-1), 1) := by decide +kernel
theorem dX7_wind_109 : decode cX7_wind 109 = .ok (.ixor, 1) := by decide +kernel
theorem dX7_wind_110 : decode cX7_wind 110 = .ok (.iand, 1) := by decide +kernel
theorem dX7_wind_111 : decode cX7_wind 111 = .ok (.ifCond .ne 108, 3) := by decide +kernel
theorem dX7_wind_114 : decode cX7_wind 114 = .ok (.lconst 1, 1) := by decide +kernel
theorem dX7_wind_115 : decode cX7_wind 115 = .ok (.lstore 10, 2) := by decide +kernel
theorem dX7_wind_117 : decode cX7_wind 117 = .ok (.iconst 0, 1) := by decide +kernel
theorem dX7_wind_118 : decode cX7_wind 118 = .ok (.istore 12, 2) := by decide +kernel
theorem dX7_wind_120 : decode cX7_wind 120 = .ok (.iload 12, 2) := by decide +kernel
theorem dX7_wind_122 : decode cX7_wind 122 = .ok (.aload_n 0, 1) := by decide +kernel
theorem dX7_wind_123 : decode cX7_wind 123 = .ok (.getfield 19, 3) := by decide +kernel
theorem dX7_wind_126 : decode cX7_wind 126 = .ok (.iconst 4, 1) := by decide +kernel
theorem dX7_wind_127 : decode cX7_wind 127 = .ok (.iaload, 1) := by decide +kernel
theorem dX7_wind_128 : decode cX7_wind 128 = .ok (.if_icmp .ge 48, 3) := by decide +kernel
theorem dX7_wind_131 : decode cX7_wind 131 = .ok (.lload 10, 2) := by decide +kernel
theorem dX7_wind_133 : decode cX7_wind 133 = .ok (.iload 9, 2) := by decide +kernel
theorem dX7_wind_135 : decode cX7_wind 135 = .ok (.iload 12, 2) := by decide +kernel
theorem dX7_wind_137 : decode cX7_wind 137 = .ok (.invokestatic 199, 3) := by decide +kernel
theorem dX7_wind_140 : decode cX7_wind 140 = .ok (.ifCond .eq 8, 3) := by decide +kernel
theorem dX7_wind_143 : decode cX7_wind 143 = .ok (.iload_n 2, 1) := by decide +kernel
theorem dX7_wind_144 : decode cX7_wind 144 = .ok (.i2l, 1) := by decide +kernel
theorem dX7_wind_145 : decode cX7_wind 145 = .ok (.goto 22, 3) := by decide +kernel
theorem dX7_wind_148 : decode cX7_wind 148 = .ok (.iload 4, 2) := by decide +kernel
theorem dX7_wind_150 : decode cX7_wind 150 = .ok (.iload 12, 2) := by decide +kernel
theorem dX7_wind_152 : decode cX7_wind 152 = .ok (.invokestatic 199, 3) := by decide +kernel
theorem dX7_wind_155 : decode cX7_wind 155 = .ok (.ifCond .eq 11, 3) := by decide +kernel
theorem dX7_wind_158 : decode cX7_wind 158 = .ok (.bipush 10, 2) := by decide +kernel
theorem dX7_wind_160 : decode cX7_wind 160 = .ok (.iload_n 2, 1) := by decide +kernel
theorem dX7_wind_161 : decode cX7_wind 161 = .ok (.isub, 1) := by decide +kernel
theorem dX7_wind_162 : decode cX7_wind 162 = .ok (.i2l, 1) := by decide +kernel
theorem dX7_wind_163 : decode cX7_wind 163 = .ok (.goto 4, 3) := by decide +kernel
theorem dX7_wind_166 : decode cX7_wind 166 = .ok (.lconst 1, 1) := by decide +kernel
theorem dX7_wind_167 : decode cX7_wind 167 = .ok (.lmul, 1) := by decide +kernel
theorem dX7_wind_168 : decode cX7_wind 168 = .ok (.lstore 10, 2) := by decide +kernel
theorem dX7_wind_170 : decode cX7_wind 170 = .ok (.iinc 12 1, 3) := by decide +kernel
theorem dX7_wind_173 : decode cX7_wind 173 = .ok (.goto (-53), 3) := by decide +kernel
theorem dX7_wind_176 : decode cX7_wind 176 = .ok (.aload_n 0, 1) := by decide +kernel
theorem dX7_wind_177 : decode cX7_wind 177 = .ok (.iload 9, 2) := by decide +kernel
theorem dX7_wind_179 : decode cX7_wind 179 = .ok (.invokevirtual 211, 3) := by decide +kernel
theorem dX7_wind_182 : decode cX7_wind 182 = .ok (.aload_n 0, 1) := by decide +kernel
theorem dX7_wind_183 : decode cX7_wind 183 = .ok (.invokevirtual 159, 3) := by decide +kernel
theorem dX7_wind_186 : decode cX7_wind 186 = .ok (.lload 5, 2) := by decide +kernel
theorem dX7_wind_188 : decode cX7_wind 188 = .ok (.aload_n 0, 1) := by decide +kernel
theorem dX7_wind_189 : decode cX7_wind 189 = .ok (.getfield 19, 3) := by decide +kernel
theorem dX7_wind_192 : decode cX7_wind 192 = .ok (.bipush 7, 2) := by decide +kernel
theorem dX7_wind_194 : decode cX7_wind 194 = .ok (.iload_n 1, 1) := by decide +kernel
theorem dX7_wind_195 : decode cX7_wind 195 = .ok (.iadd, 1) := by decide +kernel
theorem dX7_wind_196 : decode cX7_wind 196 = .ok (.iaload, 1) := by decide +kernel
theorem dX7_wind_197 : decode cX7_wind 197 = .ok (.aload_n 0, 1) := by decide +kernel
theorem dX7_wind_198 : decode cX7_wind 198 = .ok (.getfield 19, 3) := by decide +kernel
theorem dX7_wind_201 : decode cX7_wind 201 = .ok (.iconst 3, 1) := by decide +kernel
theorem dX7_wind_202 : decode cX7_wind 202 = .ok (.iaload, 1) := by decide +kernel
theorem dX7_wind_203 : decode cX7_wind 203 = .ok (.if_icmp .le 8, 3) := by decide +kernel
theorem dX7_wind_206 : decode cX7_wind 206 = .ok (.lload 10, 2) := by decide +kernel
theorem dX7_wind_208 : decode cX7_wind 208 = .ok (.goto 4, 3) := by decide +kernel
theorem dX7_wind_211 : decode cX7_wind 211 = .ok (.lconst 0, 1) := by decide +kernel
theorem dX7_wind_212 : decode cX7_wind 212 = .ok (.ladd, 1) := by decide +kernel
theorem dX7_wind_213 : decode cX7_wind 213 = .ok (.lstore 5, 2) := by decide +kernel
theorem dX7_wind_215 : decode cX7_wind 215 = .ok (.aload_n 0, 1) := by decide +kernel
theorem dX7_wind_216 : decode cX7_wind 216 = .ok (.invokevirtual 192, 3) := by decide +kernel
theorem dX7_wind_219 : decode cX7_wind 219 = .ok (.iinc 9 1, 3) := by decide +kernel
theorem dX7_wind_222 : decode cX7_wind 222 = .ok (.goto (-131), 3) := by decide +kernel
theorem dX7_wind_225 : decode cX7_wind 225 = .ok (.lload 5, 2) := by decide +kernel
theorem dX7_wind_227 : decode cX7_wind 227 = .ok (.lstore 9, 2) := by decide +kernel
theorem dX7_wind_229 : decode cX7_wind 229 = .ok (.lload 7, 2) := by decide +kernel
theorem dX7_wind_231 : decode cX7_wind 231 = .ok (.lstore 11, 2) := by decide +kernel
theorem dX7_wind_233 : decode cX7_wind 233 = .ok (.lload 11, 2) := by decide +kernel
theorem dX7_wind_235 : decode cX7_wind 235 = .ok (.lconst 0, 1) := by decide +kernel
theorem dX7_wind_236 : decode cX7_wind 236 = .ok (.lcmp, 1) := by decide +kernel
theorem dX7_wind_237 : decode cX7_wind 237 = .ok (.ifCond .eq 21, 3) := by decide +kernel
theorem dX7_wind_240 : decode cX7_wind 240 = .ok (.lload 9, 2) := by decide +kernel
theorem dX7_wind_242 : decode cX7_wind 242 = .ok (.lload 11, 2) := by decide +kernel
theorem dX7_wind_244 : decode cX7_wind 244 = .ok (.lrem, 1) := by decide +kernel
theorem dX7_wind_245 : decode cX7_wind 245 = .ok (.lstore 13, 2) := by decide +kernel
theorem dX7_wind_247 : decode cX7_wind 247 = .ok (.lload 11, 2) := by decide +kernel
theorem dX7_wind_249 : decode cX7_wind 249 = .ok (.lstore 9, 2) := by decide +kernel
theorem dX7_wind_251 : decode cX7_wind 251 = .ok (.lload 13, 2) := by decide +kernel
theorem dX7_wind_253 : decode cX7_wind 253 = .ok (.lstore 11, 2) := by decide +kernel
theorem dX7_wind_255 : decode cX7_wind 255 = .ok (.goto (-22), 3) := by decide +kernel
theorem dX7_wind_258 : decode cX7_wind 258 = .ok (.iload_n 3, 1) := by decide +kernel
theorem dX7_wind_259 : decode cX7_wind 259 = .ok (.ifCond .ne 11, 3) := by decide +kernel
theorem dX7_wind_262 : decode cX7_wind 262 = .ok (.lload 5, 2) := by decide +kernel
theorem dX7_wind_264 : decode cX7_wind 264 = .ok (.lload 9, 2) := by decide +kernel
theorem dX7_wind_266 : decode cX7_wind 266 = .ok (.ldiv, 1) := by decide +kernel
theorem dX7_wind_267 : decode cX7_wind 267 = .ok (.goto 8, 3) := by decide +kernel
theorem dX7_wind_270 : decode cX7_wind 270 = .ok (.lload 7, 2) := by decide +kernel
theorem dX7_wind_272 : decode cX7_wind 272 = .ok (.lload 9, 2) := by decide +kernel
theorem dX7_wind_274 : decode cX7_wind 274 = .ok (.ldiv, 1) := by decide +kernel
theorem dX7_wind_275 : decode cX7_wind 275 = .ok (.lreturn, 1) := by decide +kernel
theorem dX7_drawn_0 : decode cX7_drawn 0 = .ok (.aload_n 0, 1) := by decide +kernel
theorem dX7_drawn_1 : decode cX7_drawn 1 = .ok (.getfield 135, 3) := by decide +kernel
theorem dX7_drawn_4 : decode cX7_drawn 4 = .ok (.ifCond .ne 6, 3) := by decide +kernel
theorem dX7_drawn_7 : decode cX7_drawn 7 = .ok (.ldc 142, 2) := by decide +kernel
theorem dX7_drawn_9 : decode cX7_drawn 9 = .ok (.ireturn, 1) := by decide +kernel
theorem dX7_drawn_10 : decode cX7_drawn 10 = .ok (.iload_n 1, 1) := by decide +kernel
theorem dX7_drawn_11 : decode cX7_drawn 11 = .ok (.i2l, 1) := by decide +kernel
theorem dX7_drawn_12 : decode cX7_drawn 12 = .ok (.lconst 0, 1) := by decide +kernel
theorem dX7_drawn_13 : decode cX7_drawn 13 = .ok (.ldc2_w 183, 3) := by decide +kernel
theorem dX7_drawn_16 : decode cX7_drawn 16 = .ok (.invokestatic 54, 3) := by decide +kernel
theorem dX7_drawn_19 : decode cX7_drawn 19 = .ok (.ifCond .eq 25, 3) := by decide +kernel
theorem dX7_drawn_22 : decode cX7_drawn 22 = .ok (.iload_n 2, 1) := by decide +kernel
theorem dX7_drawn_23 : decode cX7_drawn 23 = .ok (.i2l, 1) := by decide +kernel
theorem dX7_drawn_24 : decode cX7_drawn 24 = .ok (.lconst 1, 1) := by decide +kernel
theorem dX7_drawn_25 : decode cX7_drawn 25 = .ok (.ldc2_w 238, 3) := by decide +kernel
theorem dX7_drawn_28 : decode cX7_drawn 28 = .ok (.invokestatic 54, 3) := by decide +kernel
theorem dX7_drawn_31 : decode cX7_drawn 31 = .ok (.ifCond .eq 13, 3) := by decide +kernel
theorem dX7_drawn_34 : decode cX7_drawn 34 = .ok (.iload_n 3, 1) := by decide +kernel
theorem dX7_drawn_35 : decode cX7_drawn 35 = .ok (.i2l, 1) := by decide +kernel
theorem dX7_drawn_36 : decode cX7_drawn 36 = .ok (.lconst 0, 1) := by decide +kernel
theorem dX7_drawn_37 : decode cX7_drawn 37 = .ok (.lconst 1, 1) := by decide +kernel
theorem dX7_drawn_38 : decode cX7_drawn 38 = .ok (.invokestatic 54, 3) := by decide +kernel
theorem dX7_drawn_41 : decode cX7_drawn 41 = .ok (.ifCond .ne 6, 3) := by decide +kernel
theorem dX7_drawn_44 : decode cX7_drawn 44 = .ok (.ldc 64, 2) := by decide +kernel
theorem dX7_drawn_46 : decode cX7_drawn 46 = .ok (.ireturn, 1) := by decide +kernel
theorem dX7_drawn_47 : decode cX7_drawn 47 = .ok (.aload_n 0, 1) := by decide +kernel
theorem dX7_drawn_48 : decode cX7_drawn 48 = .ok (.invokevirtual 185, 3) := by decide +kernel
theorem dX7_drawn_51 : decode cX7_drawn 51 = .ok (.iload_n 2, 1) := by decide +kernel
theorem dX7_drawn_52 : decode cX7_drawn 52 = .ok (.i2l, 1) := by decide +kernel
theorem dX7_drawn_53 : decode cX7_drawn 53 = .ok (.lstore 4, 2) := by decide +kernel
theorem dX7_drawn_55 : decode cX7_drawn 55 = .ok (.iconst 0, 1) := by decide +kernel
theorem dX7_drawn_56 : decode cX7_drawn 56 = .ok (.istore 6, 2) := by decide +kernel
theorem dX7_drawn_58 : decode cX7_drawn 58 = .ok (.iconst 0, 1) := by decide +kernel
theorem dX7_drawn_59 : decode cX7_drawn 59 = .ok (.istore 7, 2) := by decide +kernel
theorem dX7_drawn_61 : decode cX7_drawn 61 = .ok (.iload 7, 2) := by decide +kernel
theorem dX7_drawn_63 : decode cX7_drawn 63 = .ok (.iload_n 1, 1) := by decide +kernel
theorem dX7_drawn_64 : decode cX7_drawn 64 = .ok (.if_icmp .ge 68, 3) := by decide +kernel
theorem dX7_drawn_67 : decode cX7_drawn 67 = .ok (.lload 4, 2) := by decide +kernel
theorem dX7_drawn_69 : decode cX7_drawn 69 = .ok (.ldc2_w 240, 3) := by decide +kernel
theorem dX7_drawn_72 : decode cX7_drawn 72 = .ok (.lmul, 1) := by decide +kernel
theorem dX7_drawn_73 : decode cX7_drawn 73 = .ok (.ldc2_w 242, 3) := by decide +kernel
theorem dX7_drawn_76 : decode cX7_drawn 76 = .ok (.lrem, 1) := by decide +kernel
theorem dX7_drawn_77 : decode cX7_drawn 77 = .ok (.lstore 4, 2) := by decide +kernel
theorem dX7_drawn_79 : decode cX7_drawn 79 = .ok (.aload_n 0, 1) := by decide +kernel
theorem dX7_drawn_80 : decode cX7_drawn 80 = .ok (.getfield 19, 3) := by decide +kernel
theorem dX7_drawn_83 : decode cX7_drawn 83 = .ok (.iconst 4, 1) := by decide +kernel
theorem dX7_drawn_84 : decode cX7_drawn 84 = .ok (.iaload, 1) := by decide +kernel
theorem dX7_drawn_85 : decode cX7_drawn 85 = .ok (.ifCond .le 20, 3) := by decide +kernel
theorem dX7_drawn_88 : decode cX7_drawn 88 = .ok (.aload_n 0, 1) := by decide +kernel
theorem dX7_drawn_89 : decode cX7_drawn 89 = .ok (.iconst 1, 1) := by decide +kernel
theorem dX7_drawn_90 : decode cX7_drawn 90 = .ok (.lload 4, 2) := by decide +kernel
theorem dX7_drawn_92 : decode cX7_drawn 92 = .ok (.aload_n 0, 1) := by decide +kernel
theorem dX7_drawn_93 : decode cX7_drawn 93 = .ok (.getfield 19, 3) := by decide +kernel
theorem dX7_drawn_96 : decode cX7_drawn 96 = .ok (.iconst 4, 1) := by decide +kernel
theorem dX7_drawn_97 : decode cX7_drawn 97 = .ok (.iaload, 1) := by decide +kernel
theorem dX7_drawn_98 : decode cX7_drawn 98 = .ok (.i2l, 1) := by decide +kernel
theorem dX7_drawn_99 : decode cX7_drawn 99 = .ok (.lrem, 1) := by decide +kernel
theorem dX7_drawn_100 : decode cX7_drawn 100 = .ok (.l2i, 1) := by decide +kernel
theorem dX7_drawn_101 : decode cX7_drawn 101 = .ok (.ishl, 1) := by decide +kernel
theorem dX7_drawn_102 : decode cX7_drawn 102 = .ok (.invokevirtual 211, 3) := by decide +kernel
theorem dX7_drawn_105 : decode cX7_drawn 105 = .ok (.aload_n 0, 1) := by decide +kernel
theorem dX7_drawn_106 : decode cX7_drawn 106 = .ok (.invokevirtual 159, 3) := by decide +kernel
theorem dX7_drawn_109 : decode cX7_drawn 109 = .ok (.iload 6, 2) := by decide +kernel
theorem dX7_drawn_111 : decode cX7_drawn 111 = .ok (.aload_n 0, 1) := by decide +kernel
theorem dX7_drawn_112 : decode cX7_drawn 112 = .ok (.invokevirtual 195, 3) := by decide +kernel
theorem dX7_drawn_115 : decode cX7_drawn 115 = .ok (.ifCond .ge 7, 3) := by decide +kernel
theorem dX7_drawn_118 : decode cX7_drawn 118 = .ok (.iconst 0, 1) := by decide +kernel
theorem dX7_drawn_119 : decode cX7_drawn 119 = .ok (.goto 4, 3) := by decide +kernel
theorem dX7_drawn_122 : decode cX7_drawn 122 = .ok (.iconst 1, 1) := by decide +kernel
theorem dX7_drawn_123 : decode cX7_drawn 123 = .ok (.iadd, 1) := by decide +kernel
theorem dX7_drawn_124 : decode cX7_drawn 124 = .ok (.istore 6, 2) := by decide +kernel
theorem dX7_drawn_126 : decode cX7_drawn 126 = .ok (.iinc 7 1, 3) := by decide +kernel
theorem dX7_drawn_129 : decode cX7_drawn 129 = .ok (.goto (-68), 3) := by decide +kernel
theorem dX7_drawn_132 : decode cX7_drawn 132 = .ok (.aload_n 0, 1) := by decide +kernel
theorem dX7_drawn_133 : decode cX7_drawn 133 = .ok (.invokevirtual 162, 3) := by decide +kernel
theorem dX7_drawn_136 : decode cX7_drawn 136 = .ok (.istore 7, 2) := by decide +kernel
theorem dX7_drawn_138 : decode cX7_drawn 138 = .ok (.aload_n 0, 1) := by decide +kernel
theorem dX7_drawn_139 : decode cX7_drawn 139 = .ok (.invokevirtual 192, 3) := by decide +kernel
theorem dX7_drawn_142 : decode cX7_drawn 142 = .ok (.iload_n 3, 1) := by decide +kernel
theorem dX7_drawn_143 : decode cX7_drawn 143 = .ok (.ifCond .ne 8, 3) := by decide +kernel
theorem dX7_drawn_146 : decode cX7_drawn 146 = .ok (.iload 7, 2) := by decide +kernel
theorem dX7_drawn_148 : decode cX7_drawn 148 = .ok (.goto 5, 3) := by decide +kernel
theorem dX7_drawn_151 : decode cX7_drawn 151 = .ok (.iload 6, 2) := by decide +kernel
theorem dX7_drawn_153 : decode cX7_drawn 153 = .ok (.ireturn, 1) := by decide +kernel
theorem dX7_image_0 : decode cX7_image 0 = .ok (.iload_n 1, 1) := by decide +kernel
theorem dX7_image_1 : decode cX7_image 1 = .ok (.i2l, 1) := by decide +kernel
theorem dX7_image_2 : decode cX7_image 2 = .ok (.lconst 0, 1) := by decide +kernel
theorem dX7_image_3 : decode cX7_image 3 = .ok (.lconst 1, 1) := by decide +kernel
theorem dX7_image_4 : decode cX7_image 4 = .ok (.invokestatic 54, 3) := by decide +kernel
theorem dX7_image_7 : decode cX7_image 7 = .ok (.ifCond .ne 6, 3) := by decide +kernel
theorem dX7_image_10 : decode cX7_image 10 = .ok (.ldc 64, 2) := by decide +kernel
theorem dX7_image_12 : decode cX7_image 12 = .ok (.ireturn, 1) := by decide +kernel
theorem dX7_image_13 : decode cX7_image 13 = .ok (.aload_n 0, 1) := by decide +kernel
theorem dX7_image_14 : decode cX7_image 14 = .ok (.getfield 135, 3) := by decide +kernel
theorem dX7_image_17 : decode cX7_image 17 = .ok (.ifCond .ne 6, 3) := by decide +kernel
theorem dX7_image_20 : decode cX7_image 20 = .ok (.ldc 142, 2) := by decide +kernel
theorem dX7_image_22 : decode cX7_image 22 = .ok (.ireturn, 1) := by decide +kernel
theorem dX7_image_23 : decode cX7_image 23 = .ok (.iconst 0, 1) := by decide +kernel
theorem dX7_image_24 : decode cX7_image 24 = .ok (.istore_n 2, 1) := by decide +kernel
theorem dX7_image_25 : decode cX7_image 25 = .ok (.iload_n 2, 1) := by decide +kernel
theorem dX7_image_26 : decode cX7_image 26 = .ok (.bipush 52, 2) := by decide +kernel
theorem dX7_image_28 : decode cX7_image 28 = .ok (.if_icmp .ge 26, 3) := by decide +kernel
theorem dX7_image_31 : decode cX7_image 31 = .ok (.aload_n 0, 1) := by decide +kernel
theorem dX7_image_32 : decode cX7_image 32 = .ok (.getfield 41, 3) := by decide +kernel
theorem dX7_image_35 : decode cX7_image 35 = .ok (.bipush 52, 2) := by decide +kernel
theorem dX7_image_37 : decode cX7_image 37 = .ok (.iload_n 1, 1) := by decide +kernel
theorem dX7_image_38 : decode cX7_image 38 = .ok (.imul, 1) := by decide +kernel
theorem dX7_image_39 : decode cX7_image 39 = .ok (.iload_n 2, 1) := by decide +kernel
theorem dX7_image_40 : decode cX7_image 40 = .ok (.iadd, 1) := by decide +kernel
theorem dX7_image_41 : decode cX7_image 41 = .ok (.aload_n 0, 1) := by decide +kernel
theorem dX7_image_42 : decode cX7_image 42 = .ok (.getfield 19, 3) := by decide +kernel
theorem dX7_image_45 : decode cX7_image 45 = .ok (.iload_n 2, 1) := by decide +kernel
theorem dX7_image_46 : decode cX7_image 46 = .ok (.iaload, 1) := by decide +kernel
theorem dX7_image_47 : decode cX7_image 47 = .ok (.iastore, 1) := by decide +kernel
theorem dX7_image_48 : decode cX7_image 48 = .ok (.iinc 2 1, 3) := by decide +kernel
theorem dX7_image_51 : decode cX7_image 51 = .ok (.goto (-26), 3) := by decide +kernel
theorem dX7_image_54 : decode cX7_image 54 = .ok (.aload_n 0, 1) := by decide +kernel
theorem dX7_image_55 : decode cX7_image 55 = .ok (.getfield 37, 3) := by decide +kernel
theorem dX7_image_58 : decode cX7_image 58 = .ok (.iload_n 1, 1) := by decide +kernel
theorem dX7_image_59 : decode cX7_image 59 = .ok (.iconst 1, 1) := by decide +kernel
theorem dX7_image_60 : decode cX7_image 60 = .ok (.bastore, 1) := by decide +kernel
theorem dX7_image_61 : decode cX7_image 61 = .ok (.iconst 1, 1) := by decide +kernel
theorem dX7_image_62 : decode cX7_image 62 = .ok (.ireturn, 1) := by decide +kernel
theorem dX7_restore_0 : decode cX7_restore 0 = .ok (.iload_n 1, 1) := by decide +kernel
theorem dX7_restore_1 : decode cX7_restore 1 = .ok (.i2l, 1) := by decide +kernel
theorem dX7_restore_2 : decode cX7_restore 2 = .ok (.lconst 0, 1) := by decide +kernel
theorem dX7_restore_3 : decode cX7_restore 3 = .ok (.lconst 1, 1) := by decide +kernel
theorem dX7_restore_4 : decode cX7_restore 4 = .ok (.invokestatic 54, 3) := by decide +kernel
theorem dX7_restore_7 : decode cX7_restore 7 = .ok (.ifCond .ne 6, 3) := by decide +kernel
theorem dX7_restore_10 : decode cX7_restore 10 = .ok (.ldc 64, 2) := by decide +kernel
theorem dX7_restore_12 : decode cX7_restore 12 = .ok (.ireturn, 1) := by decide +kernel
theorem dX7_restore_13 : decode cX7_restore 13 = .ok (.aload_n 0, 1) := by decide +kernel
theorem dX7_restore_14 : decode cX7_restore 14 = .ok (.getfield 37, 3) := by decide +kernel
theorem dX7_restore_17 : decode cX7_restore 17 = .ok (.iload_n 1, 1) := by decide +kernel
theorem dX7_restore_18 : decode cX7_restore 18 = .ok (.baload, 1) := by decide +kernel
theorem dX7_restore_19 : decode cX7_restore 19 = .ok (.ifCond .ne 6, 3) := by decide +kernel
theorem dX7_restore_22 : decode cX7_restore 22 = .ok (.ldc 142, 2) := by decide +kernel
theorem dX7_restore_24 : decode cX7_restore 24 = .ok (.ireturn, 1) := by decide +kernel
theorem dX7_restore_25 : decode cX7_restore 25 = .ok (.iconst 0, 1) := by decide +kernel
theorem dX7_restore_26 : decode cX7_restore 26 = .ok (.istore_n 2, 1) := by decide +kernel
theorem dX7_restore_27 : decode cX7_restore 27 = .ok (.iload_n 2, 1) := by decide +kernel
theorem dX7_restore_28 : decode cX7_restore 28 = .ok (.bipush 52, 2) := by decide +kernel
theorem dX7_restore_30 : decode cX7_restore 30 = .ok (.if_icmp .ge 26, 3) := by decide +kernel
theorem dX7_restore_33 : decode cX7_restore 33 = .ok (.aload_n 0, 1) := by decide +kernel
theorem dX7_restore_34 : decode cX7_restore 34 = .ok (.getfield 19, 3) := by decide +kernel
theorem dX7_restore_37 : decode cX7_restore 37 = .ok (.iload_n 2, 1) := by decide +kernel
theorem dX7_restore_38 : decode cX7_restore 38 = .ok (.aload_n 0, 1) := by decide +kernel
theorem dX7_restore_39 : decode cX7_restore 39 = .ok (.getfield 41, 3) := by decide +kernel
theorem dX7_restore_42 : decode cX7_restore 42 = .ok (.bipush 52, 2) := by decide +kernel
theorem dX7_restore_44 : decode cX7_restore 44 = .ok (.iload_n 1, 1) := by decide +kernel
theorem dX7_restore_45 : decode cX7_restore 45 = .ok (.imul, 1) := by decide +kernel
theorem dX7_restore_46 : decode cX7_restore 46 = .ok (.iload_n 2, 1) := by decide +kernel
theorem dX7_restore_47 : decode cX7_restore 47 = .ok (.iadd, 1) := by decide +kernel
theorem dX7_restore_48 : decode cX7_restore 48 = .ok (.iaload, 1) := by decide +kernel
theorem dX7_restore_49 : decode cX7_restore 49 = .ok (.iastore, 1) := by decide +kernel
theorem dX7_restore_50 : decode cX7_restore 50 = .ok (.iinc 2 1, 3) := by decide +kernel
theorem dX7_restore_53 : decode cX7_restore 53 = .ok (.goto (-26), 3) := by decide +kernel
theorem dX7_restore_56 : decode cX7_restore 56 = .ok (.aload_n 0, 1) := by decide +kernel
theorem dX7_restore_57 : decode cX7_restore 57 = .ok (.iconst 0, 1) := by decide +kernel
theorem dX7_restore_58 : decode cX7_restore 58 = .ok (.putfield 139, 3) := by decide +kernel
theorem dX7_restore_61 : decode cX7_restore 61 = .ok (.iconst 1, 1) := by decide +kernel
theorem dX7_restore_62 : decode cX7_restore 62 = .ok (.ireturn, 1) := by decide +kernel
theorem dX7_kind_0 : decode cX7_kind 0 = .ok (.aload_n 0, 1) := by decide +kernel
theorem dX7_kind_1 : decode cX7_kind 1 = .ok (.iload_n 1, 1) := by decide +kernel
theorem dX7_kind_2 : decode cX7_kind 2 = .ok (.invokevirtual 172, 3) := by decide +kernel
theorem dX7_kind_5 : decode cX7_kind 5 = .ok (.ifCond .eq 15, 3) := by decide +kernel
theorem dX7_kind_8 : decode cX7_kind 8 = .ok (.aload_n 0, 1) := by decide +kernel
theorem dX7_kind_9 : decode cX7_kind 9 = .ok (.getfield 19, 3) := by decide +kernel
theorem dX7_kind_12 : decode cX7_kind 12 = .ok (.bipush 37, 2) := by decide +kernel
theorem dX7_kind_14 : decode cX7_kind 14 = .ok (.iload_n 1, 1) := by decide +kernel
theorem dX7_kind_15 : decode cX7_kind 15 = .ok (.iadd, 1) := by decide +kernel
theorem dX7_kind_16 : decode cX7_kind 16 = .ok (.iaload, 1) := by decide +kernel
theorem dX7_kind_17 : decode cX7_kind 17 = .ok (.goto 5, 3) := by decide +kernel
theorem dX7_kind_20 : decode cX7_kind 20 = .ok (.ldc 64, 2) := by decide +kernel
theorem dX7_kind_22 : decode cX7_kind 22 = .ok (.ireturn, 1) := by decide +kernel
theorem dX7_isKind_0 : decode cX7_isKind 0 = .ok (.iload_n 1, 1) := by decide +kernel
theorem dX7_isKind_1 : decode cX7_isKind 1 = .ok (.ifCond .eq 28, 3) := by decide +kernel
theorem dX7_isKind_4 : decode cX7_isKind 4 = .ok (.iload_n 0, 1) := by decide +kernel
theorem dX7_isKind_5 : decode cX7_isKind 5 = .ok (.iload_n 1, 1) := by decide +kernel
theorem dX7_isKind_6 : decode cX7_isKind 6 = .ok (.if_icmp .eq 23, 3) := by decide +kernel
theorem dX7_isKind_9 : decode cX7_isKind 9 = .ok (.iload_n 1, 1) := by decide +kernel
theorem dX7_isKind_10 : decode cX7_isKind 10 = .ok (.iconst 1, 1) := by decide +kernel
theorem dX7_isKind_11 : decode cX7_isKind 11 = .ok (.if_icmp .ne 8, 3) := by decide +kernel
theorem dX7_isKind_14 : decode cX7_isKind 14 = .ok (.iload_n 0, 1) := by decide +kernel
theorem dX7_isKind_15 : decode cX7_isKind 15 = .ok (.iconst 4, 1) := by decide +kernel
theorem dX7_isKind_16 : decode cX7_isKind 16 = .ok (.if_icmp .lt 13, 3) := by decide +kernel
theorem dX7_isKind_19 : decode cX7_isKind 19 = .ok (.iload_n 1, 1) := by decide +kernel
theorem dX7_isKind_20 : decode cX7_isKind 20 = .ok (.iconst 4, 1) := by decide +kernel
theorem dX7_isKind_21 : decode cX7_isKind 21 = .ok (.if_icmp .ne 12, 3) := by decide +kernel
theorem dX7_isKind_24 : decode cX7_isKind 24 = .ok (.iload_n 0, 1) := by decide +kernel
theorem dX7_isKind_25 : decode cX7_isKind 25 = .ok (.iconst 5, 1) := by decide +kernel
theorem dX7_isKind_26 : decode cX7_isKind 26 = .ok (.if_icmp .ne 7, 3) := by decide +kernel
theorem dX7_isKind_29 : decode cX7_isKind 29 = .ok (.iconst 1, 1) := by decide +kernel
theorem dX7_isKind_30 : decode cX7_isKind 30 = .ok (.goto 4, 3) := by decide +kernel
theorem dX7_isKind_33 : decode cX7_isKind 33 = .ok (.iconst 0, 1) := by decide +kernel
theorem dX7_isKind_34 : decode cX7_isKind 34 = .ok (.ireturn, 1) := by decide +kernel
theorem dX7_as_0 : decode cX7_as 0 = .ok (.aload_n 0, 1) := by decide +kernel
theorem dX7_as_1 : decode cX7_as 1 = .ok (.iload_n 1, 1) := by decide +kernel
theorem dX7_as_2 : decode cX7_as 2 = .ok (.invokevirtual 172, 3) := by decide +kernel
theorem dX7_as_5 : decode cX7_as 5 = .ok (.ifCond .eq 15, 3) := by decide +kernel
theorem dX7_as_8 : decode cX7_as 8 = .ok (.iload_n 2, 1) := by decide +kernel
theorem dX7_as_9 : decode cX7_as 9 = .ok (.i2l, 1) := by decide +kernel
theorem dX7_as_10 : decode cX7_as 10 = .ok (.lconst 0, 1) := by decide +kernel
theorem dX7_as_11 : decode cX7_as 11 = .ok (.ldc2_w 244, 3) := by decide +kernel
theorem dX7_as_14 : decode cX7_as 14 = .ok (.invokestatic 54, 3) := by decide +kernel
theorem dX7_as_17 : decode cX7_as 17 = .ok (.ifCond .ne 6, 3) := by decide +kernel
theorem dX7_as_20 : decode cX7_as 20 = .ok (.ldc 64, 2) := by decide +kernel
theorem dX7_as_22 : decode cX7_as 22 = .ok (.ireturn, 1) := by decide +kernel
theorem dX7_as_23 : decode cX7_as 23 = .ok (.aload_n 0, 1) := by decide +kernel
theorem dX7_as_24 : decode cX7_as 24 = .ok (.getfield 19, 3) := by decide +kernel
theorem dX7_as_27 : decode cX7_as 27 = .ok (.bipush 37, 2) := by decide +kernel
theorem dX7_as_29 : decode cX7_as 29 = .ok (.iload_n 1, 1) := by decide +kernel
theorem dX7_as_30 : decode cX7_as 30 = .ok (.iadd, 1) := by decide +kernel
theorem dX7_as_31 : decode cX7_as 31 = .ok (.iaload, 1) := by decide +kernel
theorem dX7_as_32 : decode cX7_as 32 = .ok (.iload_n 2, 1) := by decide +kernel
theorem dX7_as_33 : decode cX7_as 33 = .ok (.invokestatic 246, 3) := by decide +kernel
theorem dX7_as_36 : decode cX7_as 36 = .ok (.ifCond .eq 11, 3) := by decide +kernel
theorem dX7_as_39 : decode cX7_as 39 = .ok (.aload_n 0, 1) := by decide +kernel
theorem dX7_as_40 : decode cX7_as 40 = .ok (.iload_n 1, 1) := by decide +kernel
theorem dX7_as_41 : decode cX7_as 41 = .ok (.invokevirtual 69, 3) := by decide +kernel
theorem dX7_as_44 : decode cX7_as 44 = .ok (.goto 8, 3) := by decide +kernel
theorem dX7_as_47 : decode cX7_as 47 = .ok (.aload_n 0, 1) := by decide +kernel
theorem dX7_as_48 : decode cX7_as 48 = .ok (.iconst 3, 1) := by decide +kernel
theorem dX7_as_49 : decode cX7_as 49 = .ok (.invokevirtual 65, 3) := by decide +kernel
theorem dX7_as_52 : decode cX7_as 52 = .ok (.ireturn, 1) := by decide +kernel
theorem dX7_begin_0 : decode cX7_begin 0 = .ok (.aload_n 0, 1) := by decide +kernel
theorem dX7_begin_1 : decode cX7_begin 1 = .ok (.getfield 249, 3) := by decide +kernel
theorem dX7_begin_4 : decode cX7_begin 4 = .ok (.bipush 16, 2) := by decide +kernel
theorem dX7_begin_6 : decode cX7_begin 6 = .ok (.if_icmp .ge 23, 3) := by decide +kernel
theorem dX7_begin_9 : decode cX7_begin 9 = .ok (.aload_n 0, 1) := by decide +kernel
theorem dX7_begin_10 : decode cX7_begin 10 = .ok (.getfield 44, 3) := by decide +kernel
theorem dX7_begin_13 : decode cX7_begin 13 = .ok (.aload_n 0, 1) := by decide +kernel
theorem dX7_begin_14 : decode cX7_begin 14 = .ok (.getfield 249, 3) := by decide +kernel
theorem dX7_begin_17 : decode cX7_begin 17 = .ok (.iload_n 1, 1) := by decide +kernel
theorem dX7_begin_18 : decode cX7_begin 18 = .ok (.iastore, 1) := by decide +kernel
theorem dX7_begin_19 : decode cX7_begin 19 = .ok (.aload_n 0, 1) := by decide +kernel
theorem dX7_begin_20 : decode cX7_begin 20 = .ok (.dup, 1) := by decide +kernel
theorem dX7_begin_21 : decode cX7_begin 21 = .ok (.getfield 249, 3) := by decide +kernel
theorem dX7_begin_24 : decode cX7_begin 24 = .ok (.iconst 1, 1) := by decide +kernel
theorem dX7_begin_25 : decode cX7_begin 25 = .ok (.iadd, 1) := by decide +kernel
theorem dX7_begin_26 : decode cX7_begin 26 = .ok (.putfield 249, 3) := by decide +kernel
theorem dX7_begin_29 : decode cX7_begin 29 = .ok (.return_, 1) := by decide +kernel
theorem dX7_lent_0 : decode cX7_lent 0 = .ok (.aload_n 0, 1) := by decide +kernel
theorem dX7_lent_1 : decode cX7_lent 1 = .ok (.iload_n 2, 1) := by decide +kernel
theorem dX7_lent_2 : decode cX7_lent 2 = .ok (.invokevirtual 252, 3) := by decide +kernel
theorem dX7_lent_5 : decode cX7_lent 5 = .ok (.iload_n 2, 1) := by decide +kernel
theorem dX7_lent_6 : decode cX7_lent 6 = .ok (.bipush 10, 2) := by decide +kernel
theorem dX7_lent_8 : decode cX7_lent 8 = .ok (.if_icmp .ne 15, 3) := by decide +kernel
theorem dX7_lent_11 : decode cX7_lent 11 = .ok (.aload_n 0, 1) := by decide +kernel
theorem dX7_lent_12 : decode cX7_lent 12 = .ok (.getfield 19, 3) := by decide +kernel
theorem dX7_lent_15 : decode cX7_lent 15 = .ok (.bipush 47, 2) := by decide +kernel
theorem dX7_lent_17 : decode cX7_lent 17 = .ok (.iload_n 1, 1) := by decide +kernel
theorem dX7_lent_18 : decode cX7_lent 18 = .ok (.iadd, 1) := by decide +kernel
theorem dX7_lent_19 : decode cX7_lent 19 = .ok (.iaload, 1) := by decide +kernel
theorem dX7_lent_20 : decode cX7_lent 20 = .ok (.goto 4, 3) := by decide +kernel
theorem dX7_lent_23 : decode cX7_lent 23 = .ok (.iload_n 1, 1) := by decide +kernel
theorem dX7_lent_24 : decode cX7_lent 24 = .ok (.ireturn, 1) := by decide +kernel
theorem dX7_readMark_0 : decode cX7_readMark 0 = .ok (.aload_n 0, 1) := by decide +kernel
theorem dX7_readMark_1 : decode cX7_readMark 1 = .ok (.bipush 21, 2) := by decide +kernel
theorem dX7_readMark_3 : decode cX7_readMark 3 = .ok (.invokevirtual 252, 3) := by decide +kernel
theorem dX7_readMark_6 : decode cX7_readMark 6 = .ok (.aload_n 0, 1) := by decide +kernel
theorem dX7_readMark_7 : decode cX7_readMark 7 = .ok (.iload_n 1, 1) := by decide +kernel
theorem dX7_readMark_8 : decode cX7_readMark 8 = .ok (.bipush 20, 2) := by decide +kernel
theorem dX7_readMark_10 : decode cX7_readMark 10 = .ok (.invokevirtual 255, 3) := by decide +kernel
theorem dX7_readMark_13 : decode cX7_readMark 13 = .ok (.aload_n 0, 1) := by decide +kernel
theorem dX7_readMark_14 : decode cX7_readMark 14 = .ok (.getfield 19, 3) := by decide +kernel
theorem dX7_readMark_17 : decode cX7_readMark 17 = .ok (.bipush 42, 2) := by decide +kernel
theorem dX7_readMark_19 : decode cX7_readMark 19 = .ok (.iload_n 1, 1) := by decide +kernel
theorem dX7_readMark_20 : decode cX7_readMark 20 = .ok (.iadd, 1) := by decide +kernel
theorem dX7_readMark_21 : decode cX7_readMark 21 = .ok (.iaload, 1) := by decide +kernel
theorem dX7_readMark_22 : decode cX7_readMark 22 = .ok (.iadd, 1) := by decide +kernel
theorem dX7_readMark_23 : decode cX7_readMark 23 = .ok (.ireturn, 1) := by decide +kernel
theorem dX7_fireSize_0 : decode cX7_fireSize 0 = .ok (.aload_n 0, 1) := by decide +kernel
theorem dX7_fireSize_1 : decode cX7_fireSize 1 = .ok (.bipush 13, 2) := by decide +kernel
theorem dX7_fireSize_3 : decode cX7_fireSize 3 = .ok (.invokevirtual 252, 3) := by decide +kernel
theorem dX7_fireSize_6 : decode cX7_fireSize 6 = .ok (.aload_n 0, 1) := by decide +kernel
theorem dX7_fireSize_7 : decode cX7_fireSize 7 = .ok (.iload_n 1, 1) := by decide +kernel
theorem dX7_fireSize_8 : decode cX7_fireSize 8 = .ok (.bipush 10, 2) := by decide +kernel
theorem dX7_fireSize_10 : decode cX7_fireSize 10 = .ok (.invokevirtual 255, 3) := by decide +kernel
theorem dX7_fireSize_13 : decode cX7_fireSize 13 = .ok (.bipush 100, 2) := by decide +kernel
theorem dX7_fireSize_15 : decode cX7_fireSize 15 = .ok (.isub, 1) := by decide +kernel
theorem dX7_fireSize_16 : decode cX7_fireSize 16 = .ok (.ireturn, 1) := by decide +kernel
theorem dX7_sizeOfFire_0 : decode cX7_sizeOfFire 0 = .ok (.aload_n 0, 1) := by decide +kernel
theorem dX7_sizeOfFire_1 : decode cX7_sizeOfFire 1 = .ok (.getfield 19, 3) := by decide +kernel
theorem dX7_sizeOfFire_4 : decode cX7_sizeOfFire 4 = .ok (.bipush 37, 2) := by decide +kernel
theorem dX7_sizeOfFire_6 : decode cX7_sizeOfFire 6 = .ok (.iload_n 1, 1) := by decide +kernel
theorem dX7_sizeOfFire_7 : decode cX7_sizeOfFire 7 = .ok (.iadd, 1) := by decide +kernel
theorem dX7_sizeOfFire_8 : decode cX7_sizeOfFire 8 = .ok (.iaload, 1) := by decide +kernel
theorem dX7_sizeOfFire_9 : decode cX7_sizeOfFire 9 = .ok (.iconst 5, 1) := by decide +kernel
theorem dX7_sizeOfFire_10 : decode cX7_sizeOfFire 10 = .ok (.if_icmp .ne 17, 3) := by decide +kernel
theorem dX7_sizeOfFire_13 : decode cX7_sizeOfFire 13 = .ok (.aload_n 0, 1) := by decide +kernel
theorem dX7_sizeOfFire_14 : decode cX7_sizeOfFire 14 = .ok (.bipush 14, 2) := by decide +kernel
theorem dX7_sizeOfFire_16 : decode cX7_sizeOfFire 16 = .ok (.invokevirtual 252, 3) := by decide +kernel
theorem dX7_sizeOfFire_19 : decode cX7_sizeOfFire 19 = .ok (.iconst 2, 1) := by decide +kernel
theorem dX7_sizeOfFire_20 : decode cX7_sizeOfFire 20 = .ok (.aload_n 0, 1) := by decide +kernel
theorem dX7_sizeOfFire_21 : decode cX7_sizeOfFire 21 = .ok (.iload_n 1, 1) := by decide +kernel
theorem dX7_sizeOfFire_22 : decode cX7_sizeOfFire 22 = .ok (.invokevirtual 258, 3) := by decide +kernel
theorem dX7_sizeOfFire_25 : decode cX7_sizeOfFire 25 = .ok (.imul, 1) := by decide +kernel
theorem dX7_sizeOfFire_26 : decode cX7_sizeOfFire 26 = .ok (.ireturn, 1) := by decide +kernel
theorem dX7_sizeOfFire_27 : decode cX7_sizeOfFire 27 = .ok (.aload_n 0, 1) := by decide +kernel
theorem dX7_sizeOfFire_28 : decode cX7_sizeOfFire 28 = .ok (.iload_n 1, 1) := by decide +kernel
theorem dX7_sizeOfFire_29 : decode cX7_sizeOfFire 29 = .ok (.invokevirtual 258, 3) := by decide +kernel
theorem dX7_sizeOfFire_32 : decode cX7_sizeOfFire 32 = .ok (.ireturn, 1) := by decide +kernel
theorem dX7_markOf_0 : decode cX7_markOf 0 = .ok (.aload_n 0, 1) := by decide +kernel
theorem dX7_markOf_1 : decode cX7_markOf 1 = .ok (.getfield 19, 3) := by decide +kernel
theorem dX7_markOf_4 : decode cX7_markOf 4 = .ok (.bipush 37, 2) := by decide +kernel
theorem dX7_markOf_6 : decode cX7_markOf 6 = .ok (.iload_n 1, 1) := by decide +kernel
theorem dX7_markOf_7 : decode cX7_markOf 7 = .ok (.iadd, 1) := by decide +kernel
theorem dX7_markOf_8 : decode cX7_markOf 8 = .ok (.iaload, 1) := by decide +kernel
theorem dX7_markOf_9 : decode cX7_markOf 9 = .ok (.istore_n 2, 1) := by decide +kernel
theorem dX7_markOf_10 : decode cX7_markOf 10 = .ok (.iload_n 2, 1) := by decide +kernel
theorem dX7_markOf_11 : decode cX7_markOf 11 = .ok (.iconst 2, 1) := by decide +kernel
theorem dX7_markOf_12 : decode cX7_markOf 12 = .ok (.if_icmp .ne 17, 3) := by decide +kernel
theorem dX7_markOf_15 : decode cX7_markOf 15 = .ok (.aload_n 0, 1) := by decide +kernel
theorem dX7_markOf_16 : decode cX7_markOf 16 = .ok (.bipush 24, 2) := by decide +kernel
theorem dX7_markOf_18 : decode cX7_markOf 18 = .ok (.invokevirtual 252, 3) := by decide +kernel
theorem dX7_markOf_21 : decode cX7_markOf 21 = .ok (.iconst 2, 1) := by decide +kernel
theorem dX7_markOf_22 : decode cX7_markOf 22 = .ok (.aload_n 0, 1) := by decide +kernel
theorem dX7_markOf_23 : decode cX7_markOf 23 = .ok (.iload_n 1, 1) := by decide +kernel
theorem dX7_markOf_24 : decode cX7_markOf 24 = .ok (.invokevirtual 261, 3) := by decide +kernel
theorem dX7_markOf_27 : decode cX7_markOf 27 = .ok (.imul, 1) := by decide +kernel
theorem dX7_markOf_28 : decode cX7_markOf 28 = .ok (.ireturn, 1) := by decide +kernel
theorem dX7_markOf_29 : decode cX7_markOf 29 = .ok (.iload_n 2, 1) := by decide +kernel
theorem dX7_markOf_30 : decode cX7_markOf 30 = .ok (.iconst 3, 1) := by decide +kernel
theorem dX7_markOf_31 : decode cX7_markOf 31 = .ok (.if_icmp .ne 19, 3) := by decide +kernel
theorem dX7_markOf_34 : decode cX7_markOf 34 = .ok (.aload_n 0, 1) := by decide +kernel
theorem dX7_markOf_35 : decode cX7_markOf 35 = .ok (.bipush 22, 2) := by decide +kernel
theorem dX7_markOf_37 : decode cX7_markOf 37 = .ok (.invokevirtual 252, 3) := by decide +kernel
theorem dX7_markOf_40 : decode cX7_markOf 40 = .ok (.aload_n 0, 1) := by decide +kernel
theorem dX7_markOf_41 : decode cX7_markOf 41 = .ok (.iload_n 1, 1) := by decide +kernel
theorem dX7_markOf_42 : decode cX7_markOf 42 = .ok (.invokevirtual 261, 3) := by decide +kernel
theorem dX7_markOf_45 : decode cX7_markOf 45 = .ok (.sipush 1000, 3) := by decide +kernel
theorem dX7_markOf_48 : decode cX7_markOf 48 = .ok (.isub, 1) := by decide +kernel
theorem dX7_markOf_49 : decode cX7_markOf 49 = .ok (.ireturn, 1) := by decide +kernel
theorem dX7_markOf_50 : decode cX7_markOf 50 = .ok (.iload_n 2, 1) := by decide +kernel
theorem dX7_markOf_51 : decode cX7_markOf 51 = .ok (.iconst 1, 1) := by decide +kernel
theorem dX7_markOf_52 : decode cX7_markOf 52 = .ok (.if_icmp .ne 9, 3) := by decide +kernel
theorem dX7_markOf_55 : decode cX7_markOf 55 = .ok (.aload_n 0, 1) := by decide +kernel
theorem dX7_markOf_56 : decode cX7_markOf 56 = .ok (.iload_n 1, 1) := by decide +kernel
theorem dX7_markOf_57 : decode cX7_markOf 57 = .ok (.invokevirtual 261, 3) := by decide +kernel
theorem dX7_markOf_60 : decode cX7_markOf 60 = .ok (.ireturn, 1) := by decide +kernel
theorem dX7_markOf_61 : decode cX7_markOf 61 = .ok (.aload_n 0, 1) := by decide +kernel
theorem dX7_markOf_62 : decode cX7_markOf 62 = .ok (.bipush 23, 2) := by decide +kernel
theorem dX7_markOf_64 : decode cX7_markOf 64 = .ok (.invokevirtual 252, 3) := by decide +kernel
theorem dX7_markOf_67 : decode cX7_markOf 67 = .ok (.aload_n 0, 1) := by decide +kernel
theorem dX7_markOf_68 : decode cX7_markOf 68 = .ok (.iload_n 1, 1) := by decide +kernel
theorem dX7_markOf_69 : decode cX7_markOf 69 = .ok (.bipush 20, 2) := by decide +kernel
theorem dX7_markOf_71 : decode cX7_markOf 71 = .ok (.invokevirtual 255, 3) := by decide +kernel
theorem dX7_markOf_74 : decode cX7_markOf 74 = .ok (.istore_n 3, 1) := by decide +kernel
theorem dX7_markOf_75 : decode cX7_markOf 75 = .ok (.iload_n 3, 1) := by decide +kernel
theorem dX7_markOf_76 : decode cX7_markOf 76 = .ok (.aload_n 0, 1) := by decide +kernel
theorem dX7_markOf_77 : decode cX7_markOf 77 = .ok (.iload_n 1, 1) := by decide +kernel
theorem dX7_markOf_78 : decode cX7_markOf 78 = .ok (.invokevirtual 264, 3) := by decide +kernel
theorem dX7_markOf_81 : decode cX7_markOf 81 = .ok (.isub, 1) := by decide +kernel
theorem dX7_markOf_82 : decode cX7_markOf 82 = .ok (.ireturn, 1) := by decide +kernel
theorem dX7_readSize_0 : decode cX7_readSize 0 = .ok (.aload_n 0, 1) := by decide +kernel
theorem dX7_readSize_1 : decode cX7_readSize 1 = .ok (.bipush 11, 2) := by decide +kernel
theorem dX7_readSize_3 : decode cX7_readSize 3 = .ok (.invokevirtual 252, 3) := by decide +kernel
theorem dX7_readSize_6 : decode cX7_readSize 6 = .ok (.aload_n 0, 1) := by decide +kernel
theorem dX7_readSize_7 : decode cX7_readSize 7 = .ok (.iload_n 1, 1) := by decide +kernel
theorem dX7_readSize_8 : decode cX7_readSize 8 = .ok (.bipush 10, 2) := by decide +kernel
theorem dX7_readSize_10 : decode cX7_readSize 10 = .ok (.invokevirtual 255, 3) := by decide +kernel
theorem dX7_readSize_13 : decode cX7_readSize 13 = .ok (.istore_n 2, 1) := by decide +kernel
theorem dX7_readSize_14 : decode cX7_readSize 14 = .ok (.iload_n 2, 1) := by decide +kernel
theorem dX7_readSize_15 : decode cX7_readSize 15 = .ok (.aload_n 0, 1) := by decide +kernel
theorem dX7_readSize_16 : decode cX7_readSize 16 = .ok (.iload_n 1, 1) := by decide +kernel
theorem dX7_readSize_17 : decode cX7_readSize 17 = .ok (.invokevirtual 267, 3) := by decide +kernel
theorem dX7_readSize_20 : decode cX7_readSize 20 = .ok (.iadd, 1) := by decide +kernel
theorem dX7_readSize_21 : decode cX7_readSize 21 = .ok (.ireturn, 1) := by decide +kernel
theorem dX7_sizeOf_0 : decode cX7_sizeOf 0 = .ok (.aload_n 0, 1) := by decide +kernel
theorem dX7_sizeOf_1 : decode cX7_sizeOf 1 = .ok (.getfield 19, 3) := by decide +kernel
theorem dX7_sizeOf_4 : decode cX7_sizeOf 4 = .ok (.bipush 37, 2) := by decide +kernel
theorem dX7_sizeOf_6 : decode cX7_sizeOf 6 = .ok (.iload_n 1, 1) := by decide +kernel
theorem dX7_sizeOf_7 : decode cX7_sizeOf 7 = .ok (.iadd, 1) := by decide +kernel
theorem dX7_sizeOf_8 : decode cX7_sizeOf 8 = .ok (.iaload, 1) := by decide +kernel
theorem dX7_sizeOf_9 : decode cX7_sizeOf 9 = .ok (.istore_n 2, 1) := by decide +kernel
theorem dX7_sizeOf_10 : decode cX7_sizeOf 10 = .ok (.iload_n 2, 1) := by decide +kernel
theorem dX7_sizeOf_11 : decode cX7_sizeOf 11 = .ok (.iconst 2, 1) := by decide +kernel
theorem dX7_sizeOf_12 : decode cX7_sizeOf 12 = .ok (.if_icmp .ne 16, 3) := by decide +kernel
theorem dX7_sizeOf_15 : decode cX7_sizeOf 15 = .ok (.aload_n 0, 1) := by decide +kernel
theorem dX7_sizeOf_16 : decode cX7_sizeOf 16 = .ok (.bipush 12, 2) := by decide +kernel
theorem dX7_sizeOf_18 : decode cX7_sizeOf 18 = .ok (.invokevirtual 252, 3) := by decide +kernel
theorem dX7_sizeOf_21 : decode cX7_sizeOf 21 = .ok (.aload_n 0, 1) := by decide +kernel
theorem dX7_sizeOf_22 : decode cX7_sizeOf 22 = .ok (.iload_n 1, 1) := by decide +kernel
theorem dX7_sizeOf_23 : decode cX7_sizeOf 23 = .ok (.invokevirtual 270, 3) := by decide +kernel
theorem dX7_sizeOf_26 : decode cX7_sizeOf 26 = .ok (.ineg, 1) := by decide +kernel
theorem dX7_sizeOf_27 : decode cX7_sizeOf 27 = .ok (.ireturn, 1) := by decide +kernel
theorem dX7_sizeOf_28 : decode cX7_sizeOf 28 = .ok (.iload_n 2, 1) := by decide +kernel
theorem dX7_sizeOf_29 : decode cX7_sizeOf 29 = .ok (.iconst 4, 1) := by decide +kernel
theorem dX7_sizeOf_30 : decode cX7_sizeOf 30 = .ok (.if_icmp .lt 11, 3) := by decide +kernel
theorem dX7_sizeOf_33 : decode cX7_sizeOf 33 = .ok (.aload_n 0, 1) := by decide +kernel
theorem dX7_sizeOf_34 : decode cX7_sizeOf 34 = .ok (.iload_n 1, 1) := by decide +kernel
theorem dX7_sizeOf_35 : decode cX7_sizeOf 35 = .ok (.invokevirtual 264, 3) := by decide +kernel
theorem dX7_sizeOf_38 : decode cX7_sizeOf 38 = .ok (.goto 8, 3) := by decide +kernel
theorem dX7_sizeOf_41 : decode cX7_sizeOf 41 = .ok (.aload_n 0, 1) := by decide +kernel
theorem dX7_sizeOf_42 : decode cX7_sizeOf 42 = .ok (.iload_n 1, 1) := by decide +kernel
theorem dX7_sizeOf_43 : decode cX7_sizeOf 43 = .ok (.invokevirtual 270, 3) := by decide +kernel
theorem dX7_sizeOf_46 : decode cX7_sizeOf 46 = .ok (.ireturn, 1) := by decide +kernel
theorem dX7_ask_0 : decode cX7_ask 0 = .ok (.aload_n 0, 1) := by decide +kernel
theorem dX7_ask_1 : decode cX7_ask 1 = .ok (.iload_n 1, 1) := by decide +kernel
theorem dX7_ask_2 : decode cX7_ask 2 = .ok (.invokevirtual 172, 3) := by decide +kernel
theorem dX7_ask_5 : decode cX7_ask 5 = .ok (.ifCond .eq 13, 3) := by decide +kernel
theorem dX7_ask_8 : decode cX7_ask 8 = .ok (.iload_n 2, 1) := by decide +kernel
theorem dX7_ask_9 : decode cX7_ask 9 = .ok (.i2l, 1) := by decide +kernel
theorem dX7_ask_10 : decode cX7_ask 10 = .ok (.lconst 0, 1) := by decide +kernel
theorem dX7_ask_11 : decode cX7_ask 11 = .ok (.lconst 1, 1) := by decide +kernel
theorem dX7_ask_12 : decode cX7_ask 12 = .ok (.invokestatic 54, 3) := by decide +kernel
theorem dX7_ask_15 : decode cX7_ask 15 = .ok (.ifCond .ne 6, 3) := by decide +kernel
theorem dX7_ask_18 : decode cX7_ask 18 = .ok (.ldc 64, 2) := by decide +kernel
theorem dX7_ask_20 : decode cX7_ask 20 = .ok (.ireturn, 1) := by decide +kernel
theorem dX7_ask_21 : decode cX7_ask 21 = .ok (.aload_n 0, 1) := by decide +kernel
theorem dX7_ask_22 : decode cX7_ask 22 = .ok (.iconst 0, 1) := by decide +kernel
theorem dX7_ask_23 : decode cX7_ask 23 = .ok (.putfield 249, 3) := by decide +kernel
theorem dX7_ask_26 : decode cX7_ask 26 = .ok (.iload_n 2, 1) := by decide +kernel
theorem dX7_ask_27 : decode cX7_ask 27 = .ok (.ifCond .ne 11, 3) := by decide +kernel
theorem dX7_ask_30 : decode cX7_ask 30 = .ok (.aload_n 0, 1) := by decide +kernel
theorem dX7_ask_31 : decode cX7_ask 31 = .ok (.iload_n 1, 1) := by decide +kernel
theorem dX7_ask_32 : decode cX7_ask 32 = .ok (.invokevirtual 273, 3) := by decide +kernel
theorem dX7_ask_35 : decode cX7_ask 35 = .ok (.goto 8, 3) := by decide +kernel
theorem dX7_ask_38 : decode cX7_ask 38 = .ok (.aload_n 0, 1) := by decide +kernel
theorem dX7_ask_39 : decode cX7_ask 39 = .ok (.iload_n 1, 1) := by decide +kernel
theorem dX7_ask_40 : decode cX7_ask 40 = .ok (.invokevirtual 267, 3) := by decide +kernel
theorem dX7_ask_43 : decode cX7_ask 43 = .ok (.ireturn, 1) := by decide +kernel
theorem dX7_trace_0 : decode cX7_trace 0 = .ok (.iload_n 1, 1) := by decide +kernel
theorem dX7_trace_1 : decode cX7_trace 1 = .ok (.i2l, 1) := by decide +kernel
theorem dX7_trace_2 : decode cX7_trace 2 = .ok (.lconst 0, 1) := by decide +kernel
theorem dX7_trace_3 : decode cX7_trace 3 = .ok (.aload_n 0, 1) := by decide +kernel
theorem dX7_trace_4 : decode cX7_trace 4 = .ok (.getfield 249, 3) := by decide +kernel
theorem dX7_trace_7 : decode cX7_trace 7 = .ok (.iconst 1, 1) := by decide +kernel
theorem dX7_trace_8 : decode cX7_trace 8 = .ok (.isub, 1) := by decide +kernel
theorem dX7_trace_9 : decode cX7_trace 9 = .ok (.i2l, 1) := by decide +kernel
theorem dX7_trace_10 : decode cX7_trace 10 = .ok (.invokestatic 54, 3) := by decide +kernel
theorem dX7_trace_13 : decode cX7_trace 13 = .ok (.ifCond .eq 12, 3) := by decide +kernel
theorem dX7_trace_16 : decode cX7_trace 16 = .ok (.aload_n 0, 1) := by decide +kernel
theorem dX7_trace_17 : decode cX7_trace 17 = .ok (.getfield 44, 3) := by decide +kernel
theorem dX7_trace_20 : decode cX7_trace 20 = .ok (.iload_n 1, 1) := by decide +kernel
theorem dX7_trace_21 : decode cX7_trace 21 = .ok (.iaload, 1) := by decide +kernel
theorem dX7_trace_22 : decode cX7_trace 22 = .ok (.goto 5, 3) := by decide +kernel
theorem dX7_trace_25 : decode cX7_trace 25 = .ok (.ldc 198, 2) := by decide +kernel
theorem dX7_trace_27 : decode cX7_trace 27 = .ok (.ireturn, 1) := by decide +kernel
theorem dX7_count_0 : decode cX7_count 0 = .ok (.iconst 0, 1) := by decide +kernel
theorem dX7_count_1 : decode cX7_count 1 = .ok (.istore_n 2, 1) := by decide +kernel
theorem dX7_count_2 : decode cX7_count 2 = .ok (.iconst 0, 1) := by decide +kernel
theorem dX7_count_3 : decode cX7_count 3 = .ok (.istore_n 3, 1) := by decide +kernel
theorem dX7_count_4 : decode cX7_count 4 = .ok (.iload_n 3, 1) := by decide +kernel
theorem dX7_count_5 : decode cX7_count 5 = .ok (.bipush 8, 2) := by decide +kernel
theorem dX7_count_7 : decode cX7_count 7 = .ok (.if_icmp .ge 26, 3) := by decide +kernel
theorem dX7_count_10 : decode cX7_count 10 = .ok (.iload_n 2, 1) := by decide +kernel
theorem dX7_count_11 : decode cX7_count 11 = .ok (.aload_n 0, 1) := by decide +kernel
theorem dX7_count_12 : decode cX7_count 12 = .ok (.getfield 13, 3) := by decide +kernel
theorem dX7_count_15 : decode cX7_count 15 = .ok (.iload_n 3, 1) := by decide +kernel
theorem dX7_count_16 : decode cX7_count 16 = .ok (.iaload, 1) := by decide +kernel
theorem dX7_count_17 : decode cX7_count 17 = .ok (.ifCond .lt 7, 3) := by decide +kernel
theorem dX7_count_20 : decode cX7_count 20 = .ok (.iconst 1, 1) := by decide +kernel
theorem dX7_count_21 : decode cX7_count 21 = .ok (.goto 4, 3) := by decide +kernel
theorem dX7_count_24 : decode cX7_count 24 = .ok (.iconst 0, 1) := by decide +kernel
theorem dX7_count_25 : decode cX7_count 25 = .ok (.iadd, 1) := by decide +kernel
theorem dX7_count_26 : decode cX7_count 26 = .ok (.istore_n 2, 1) := by decide +kernel
theorem dX7_count_27 : decode cX7_count 27 = .ok (.iinc 3 1, 3) := by decide +kernel
theorem dX7_count_30 : decode cX7_count 30 = .ok (.goto (-26), 3) := by decide +kernel
theorem dX7_count_33 : decode cX7_count 33 = .ok (.iload_n 1, 1) := by decide +kernel
theorem dX7_count_34 : decode cX7_count 34 = .ok (.tableswitch 101 0 8 #[50, 52, 59, 66, 73, 81, 86, 91, 96], 50) := by decide +kernel
theorem dX7_count_84 : decode cX7_count 84 = .ok (.iload_n 2, 1) := by decide +kernel
theorem dX7_count_85 : decode cX7_count 85 = .ok (.ireturn, 1) := by decide +kernel
theorem dX7_count_86 : decode cX7_count 86 = .ok (.aload_n 0, 1) := by decide +kernel
theorem dX7_count_87 : decode cX7_count 87 = .ok (.getfield 19, 3) := by decide +kernel
theorem dX7_count_90 : decode cX7_count 90 = .ok (.iconst 0, 1) := by decide +kernel
theorem dX7_count_91 : decode cX7_count 91 = .ok (.iaload, 1) := by decide +kernel
theorem dX7_count_92 : decode cX7_count 92 = .ok (.ireturn, 1) := by decide +kernel
theorem dX7_count_93 : decode cX7_count 93 = .ok (.aload_n 0, 1) := by decide +kernel
theorem dX7_count_94 : decode cX7_count 94 = .ok (.getfield 19, 3) := by decide +kernel
theorem dX7_count_97 : decode cX7_count 97 = .ok (.iconst 4, 1) := by decide +kernel
theorem dX7_count_98 : decode cX7_count 98 = .ok (.iaload, 1) := by decide +kernel
theorem dX7_count_99 : decode cX7_count 99 = .ok (.ireturn, 1) := by decide +kernel
theorem dX7_count_100 : decode cX7_count 100 = .ok (.aload_n 0, 1) := by decide +kernel
theorem dX7_count_101 : decode cX7_count 101 = .ok (.getfield 19, 3) := by decide +kernel
theorem dX7_count_104 : decode cX7_count 104 = .ok (.iconst 5, 1) := by decide +kernel
theorem dX7_count_105 : decode cX7_count 105 = .ok (.iaload, 1) := by decide +kernel
theorem dX7_count_106 : decode cX7_count 106 = .ok (.ireturn, 1) := by decide +kernel
theorem dX7_count_107 : decode cX7_count 107 = .ok (.aload_n 0, 1) := by decide +kernel
theorem dX7_count_108 : decode cX7_count 108 = .ok (.getfield 19, 3) := by decide +kernel
theorem dX7_count_111 : decode cX7_count 111 = .ok (.bipush 6, 2) := by decide +kernel
theorem dX7_count_113 : decode cX7_count 113 = .ok (.iaload, 1) := by decide +kernel
theorem dX7_count_114 : decode cX7_count 114 = .ok (.ireturn, 1) := by decide +kernel
theorem dX7_count_115 : decode cX7_count 115 = .ok (.aload_n 0, 1) := by decide +kernel
theorem dX7_count_116 : decode cX7_count 116 = .ok (.invokevirtual 162, 3) := by decide +kernel
theorem dX7_count_119 : decode cX7_count 119 = .ok (.ireturn, 1) := by decide +kernel
theorem dX7_count_120 : decode cX7_count 120 = .ok (.aload_n 0, 1) := by decide +kernel
theorem dX7_count_121 : decode cX7_count 121 = .ok (.invokevirtual 169, 3) := by decide +kernel
theorem dX7_count_124 : decode cX7_count 124 = .ok (.ireturn, 1) := by decide +kernel
theorem dX7_count_125 : decode cX7_count 125 = .ok (.aload_n 0, 1) := by decide +kernel
theorem dX7_count_126 : decode cX7_count 126 = .ok (.getfield 139, 3) := by decide +kernel
theorem dX7_count_129 : decode cX7_count 129 = .ok (.ireturn, 1) := by decide +kernel
theorem dX7_count_130 : decode cX7_count 130 = .ok (.aload_n 0, 1) := by decide +kernel
theorem dX7_count_131 : decode cX7_count 131 = .ok (.getfield 78, 3) := by decide +kernel
theorem dX7_count_134 : decode cX7_count 134 = .ok (.ireturn, 1) := by decide +kernel
theorem dX7_count_135 : decode cX7_count 135 = .ok (.ldc 64, 2) := by decide +kernel
theorem dX7_count_137 : decode cX7_count 137 = .ok (.ireturn, 1) := by decide +kernel
theorem dX7_status_0 : decode cX7_status 0 = .ok (.aload_n 0, 1) := by decide +kernel
theorem dX7_status_1 : decode cX7_status 1 = .ok (.getfield 47, 3) := by decide +kernel
theorem dX7_status_4 : decode cX7_status 4 = .ok (.ireturn, 1) := by decide +kernel
theorem dJ6_bitCount_0f7a4_0 : decode cJ6_bitCount_0f7a4 0 = .ok (.iload_n 0, 1) := by decide +kernel
theorem dJ6_bitCount_0f7a4_1 : decode cJ6_bitCount_0f7a4 1 = .ok (.iload_n 0, 1) := by decide +kernel
theorem dJ6_bitCount_0f7a4_2 : decode cJ6_bitCount_0f7a4 2 = .ok (.iconst 1, 1) := by decide +kernel
theorem dJ6_bitCount_0f7a4_3 : decode cJ6_bitCount_0f7a4 3 = .ok (.iushr, 1) := by decide +kernel
theorem dJ6_bitCount_0f7a4_4 : decode cJ6_bitCount_0f7a4 4 = .ok (.ldc_w 265, 3) := by decide +kernel
theorem dJ6_bitCount_0f7a4_7 : decode cJ6_bitCount_0f7a4 7 = .ok (.iand, 1) := by decide +kernel
theorem dJ6_bitCount_0f7a4_8 : decode cJ6_bitCount_0f7a4 8 = .ok (.isub, 1) := by decide +kernel
theorem dJ6_bitCount_0f7a4_9 : decode cJ6_bitCount_0f7a4 9 = .ok (.istore_n 0, 1) := by decide +kernel
theorem dJ6_bitCount_0f7a4_10 : decode cJ6_bitCount_0f7a4 10 = .ok (.iload_n 0, 1) := by decide +kernel
theorem dJ6_bitCount_0f7a4_11 : decode cJ6_bitCount_0f7a4 11 = .ok (.ldc_w 266, 3) := by decide +kernel
theorem dJ6_bitCount_0f7a4_14 : decode cJ6_bitCount_0f7a4 14 = .ok (.iand, 1) := by decide +kernel
theorem dJ6_bitCount_0f7a4_15 : decode cJ6_bitCount_0f7a4 15 = .ok (.iload_n 0, 1) := by decide +kernel
theorem dJ6_bitCount_0f7a4_16 : decode cJ6_bitCount_0f7a4 16 = .ok (.iconst 2, 1) := by decide +kernel
theorem dJ6_bitCount_0f7a4_17 : decode cJ6_bitCount_0f7a4 17 = .ok (.iushr, 1) := by decide +kernel
theorem dJ6_bitCount_0f7a4_18 : decode cJ6_bitCount_0f7a4 18 = .ok (.ldc_w 266, 3) := by decide +kernel
theorem dJ6_bitCount_0f7a4_21 : decode cJ6_bitCount_0f7a4 21 = .ok (.iand, 1) := by decide +kernel
theorem dJ6_bitCount_0f7a4_22 : decode cJ6_bitCount_0f7a4 22 = .ok (.iadd, 1) := by decide +kernel
theorem dJ6_bitCount_0f7a4_23 : decode cJ6_bitCount_0f7a4 23 = .ok (.istore_n 0, 1) := by decide +kernel
theorem dJ6_bitCount_0f7a4_24 : decode cJ6_bitCount_0f7a4 24 = .ok (.iload_n 0, 1) := by decide +kernel
theorem dJ6_bitCount_0f7a4_25 : decode cJ6_bitCount_0f7a4 25 = .ok (.iload_n 0, 1) := by decide +kernel
theorem dJ6_bitCount_0f7a4_26 : decode cJ6_bitCount_0f7a4 26 = .ok (.iconst 4, 1) := by decide +kernel
theorem dJ6_bitCount_0f7a4_27 : decode cJ6_bitCount_0f7a4 27 = .ok (.iushr, 1) := by decide +kernel
theorem dJ6_bitCount_0f7a4_28 : decode cJ6_bitCount_0f7a4 28 = .ok (.iadd, 1) := by decide +kernel
theorem dJ6_bitCount_0f7a4_29 : decode cJ6_bitCount_0f7a4 29 = .ok (.ldc_w 267, 3) := by decide +kernel
theorem dJ6_bitCount_0f7a4_32 : decode cJ6_bitCount_0f7a4 32 = .ok (.iand, 1) := by decide +kernel
theorem dJ6_bitCount_0f7a4_33 : decode cJ6_bitCount_0f7a4 33 = .ok (.istore_n 0, 1) := by decide +kernel
theorem dJ6_bitCount_0f7a4_34 : decode cJ6_bitCount_0f7a4 34 = .ok (.iload_n 0, 1) := by decide +kernel
theorem dJ6_bitCount_0f7a4_35 : decode cJ6_bitCount_0f7a4 35 = .ok (.iload_n 0, 1) := by decide +kernel
theorem dJ6_bitCount_0f7a4_36 : decode cJ6_bitCount_0f7a4 36 = .ok (.bipush 8, 2) := by decide +kernel
theorem dJ6_bitCount_0f7a4_38 : decode cJ6_bitCount_0f7a4 38 = .ok (.iushr, 1) := by decide +kernel
theorem dJ6_bitCount_0f7a4_39 : decode cJ6_bitCount_0f7a4 39 = .ok (.iadd, 1) := by decide +kernel
theorem dJ6_bitCount_0f7a4_40 : decode cJ6_bitCount_0f7a4 40 = .ok (.istore_n 0, 1) := by decide +kernel
theorem dJ6_bitCount_0f7a4_41 : decode cJ6_bitCount_0f7a4 41 = .ok (.iload_n 0, 1) := by decide +kernel
theorem dJ6_bitCount_0f7a4_42 : decode cJ6_bitCount_0f7a4 42 = .ok (.iload_n 0, 1) := by decide +kernel
theorem dJ6_bitCount_0f7a4_43 : decode cJ6_bitCount_0f7a4 43 = .ok (.bipush 16, 2) := by decide +kernel
theorem dJ6_bitCount_0f7a4_45 : decode cJ6_bitCount_0f7a4 45 = .ok (.iushr, 1) := by decide +kernel
theorem dJ6_bitCount_0f7a4_46 : decode cJ6_bitCount_0f7a4 46 = .ok (.iadd, 1) := by decide +kernel
theorem dJ6_bitCount_0f7a4_47 : decode cJ6_bitCount_0f7a4 47 = .ok (.istore_n 0, 1) := by decide +kernel
theorem dJ6_bitCount_0f7a4_48 : decode cJ6_bitCount_0f7a4 48 = .ok (.iload_n 0, 1) := by decide +kernel
theorem dJ6_bitCount_0f7a4_49 : decode cJ6_bitCount_0f7a4 49 = .ok (.bipush 63, 2) := by decide +kernel
theorem dJ6_bitCount_0f7a4_51 : decode cJ6_bitCount_0f7a4 51 = .ok (.iand, 1) := by decide +kernel
theorem dJ6_bitCount_0f7a4_52 : decode cJ6_bitCount_0f7a4 52 = .ok (.ireturn, 1) := by decide +kernel
theorem dJ9_max_7cf53_0 : decode cJ9_max_7cf53 0 = .ok (.iload_n 0, 1) := by decide +kernel
theorem dJ9_max_7cf53_1 : decode cJ9_max_7cf53 1 = .ok (.iload_n 1, 1) := by decide +kernel
theorem dJ9_max_7cf53_2 : decode cJ9_max_7cf53 2 = .ok (.if_icmp .lt 7, 3) := by decide +kernel
theorem dJ9_max_7cf53_5 : decode cJ9_max_7cf53 5 = .ok (.iload_n 0, 1) := by decide +kernel
theorem dJ9_max_7cf53_6 : decode cJ9_max_7cf53 6 = .ok (.goto 4, 3) := by decide +kernel
theorem dJ9_max_7cf53_9 : decode cJ9_max_7cf53 9 = .ok (.iload_n 1, 1) := by decide +kernel
theorem dJ9_max_7cf53_10 : decode cJ9_max_7cf53 10 = .ok (.ireturn, 1) := by decide +kernel
theorem dJ9_max_f86c9_0 : decode cJ9_max_f86c9 0 = .ok (.lload_n 0, 1) := by decide +kernel
theorem dJ9_max_f86c9_1 : decode cJ9_max_f86c9 1 = .ok (.lload_n 2, 1) := by decide +kernel
theorem dJ9_max_f86c9_2 : decode cJ9_max_f86c9 2 = .ok (.lcmp, 1) := by decide +kernel
theorem dJ9_max_f86c9_3 : decode cJ9_max_f86c9 3 = .ok (.ifCond .lt 7, 3) := by decide +kernel
theorem dJ9_max_f86c9_6 : decode cJ9_max_f86c9 6 = .ok (.lload_n 0, 1) := by decide +kernel
theorem dJ9_max_f86c9_7 : decode cJ9_max_f86c9 7 = .ok (.goto 4, 3) := by decide +kernel
theorem dJ9_max_f86c9_10 : decode cJ9_max_f86c9 10 = .ok (.lload_n 2, 1) := by decide +kernel
theorem dJ9_max_f86c9_11 : decode cJ9_max_f86c9 11 = .ok (.lreturn, 1) := by decide +kernel
theorem dJ9_min_7cf53_0 : decode cJ9_min_7cf53 0 = .ok (.iload_n 0, 1) := by decide +kernel
theorem dJ9_min_7cf53_1 : decode cJ9_min_7cf53 1 = .ok (.iload_n 1, 1) := by decide +kernel
theorem dJ9_min_7cf53_2 : decode cJ9_min_7cf53 2 = .ok (.if_icmp .gt 7, 3) := by decide +kernel
theorem dJ9_min_7cf53_5 : decode cJ9_min_7cf53 5 = .ok (.iload_n 0, 1) := by decide +kernel
theorem dJ9_min_7cf53_6 : decode cJ9_min_7cf53 6 = .ok (.goto 4, 3) := by decide +kernel
theorem dJ9_min_7cf53_9 : decode cJ9_min_7cf53 9 = .ok (.iload_n 1, 1) := by decide +kernel
theorem dJ9_min_7cf53_10 : decode cJ9_min_7cf53 10 = .ok (.ireturn, 1) := by decide +kernel
theorem dL_law_0 : decode cL_law 0 = .ok (.new 7, 3) := by decide +kernel
theorem dL_law_3 : decode cL_law 3 = .ok (.dup, 1) := by decide +kernel
theorem dL_law_4 : decode cL_law 4 = .ok (.invokespecial 9, 3) := by decide +kernel
theorem dL_law_7 : decode cL_law 7 = .ok (.astore_n 1, 1) := by decide +kernel
theorem dL_law_8 : decode cL_law 8 = .ok (.new 10, 3) := by decide +kernel
theorem dL_law_11 : decode cL_law 11 = .ok (.dup, 1) := by decide +kernel
theorem dL_law_12 : decode cL_law 12 = .ok (.invokespecial 12, 3) := by decide +kernel
theorem dL_law_15 : decode cL_law 15 = .ok (.astore_n 2, 1) := by decide +kernel
theorem dL_law_16 : decode cL_law 16 = .ok (.iconst 0, 1) := by decide +kernel
theorem dL_law_17 : decode cL_law 17 = .ok (.istore_n 3, 1) := by decide +kernel
theorem dL_law_18 : decode cL_law 18 = .ok (.iload_n 3, 1) := by decide +kernel
theorem dL_law_19 : decode cL_law 19 = .ok (.aload_n 0, 1) := by decide +kernel
theorem dL_law_20 : decode cL_law 20 = .ok (.arraylength, 1) := by decide +kernel
theorem dL_law_21 : decode cL_law 21 = .ok (.bipush 6, 2) := by decide +kernel
theorem dL_law_23 : decode cL_law 23 = .ok (.isub, 1) := by decide +kernel
theorem dL_law_24 : decode cL_law 24 = .ok (.if_icmp .gt 1306, 3) := by decide +kernel
theorem dL_law_27 : decode cL_law 27 = .ok (.aload_n 0, 1) := by decide +kernel
theorem dL_law_28 : decode cL_law 28 = .ok (.iload_n 3, 1) := by decide +kernel
theorem dL_law_29 : decode cL_law 29 = .ok (.iaload, 1) := by decide +kernel
theorem dL_law_30 : decode cL_law 30 = .ok (.bipush 63, 2) := by decide +kernel
theorem dL_law_32 : decode cL_law 32 = .ok (.iand, 1) := by decide +kernel
theorem dL_law_33 : decode cL_law 33 = .ok (.tableswitch 1291 0 34 #[155, 198, 241, 304, 327, 350, 363, 376, 389, 412, 445, 478, 511, 544, 577, 610, 633, 656, 719, 772, 815, 858, 911, 954, 987, 1010, 1054, 1097, 1120, 1143, 1166, 1199, 1232, 1255, 1278], 155) := by decide +kernel
theorem dL_law_188 : decode cL_law 188 = .ok (.aload_n 1, 1) := by decide +kernel
theorem dL_law_189 : decode cL_law 189 = .ok (.aload_n 0, 1) := by decide +kernel
theorem dL_law_190 : decode cL_law 190 = .ok (.iload_n 3, 1) := by decide +kernel
theorem dL_law_191 : decode cL_law 191 = .ok (.iconst 1, 1) := by decide +kernel
theorem dL_law_192 : decode cL_law 192 = .ok (.iadd, 1) := by decide +kernel
theorem dL_law_193 : decode cL_law 193 = .ok (.iaload, 1) := by decide +kernel
theorem dL_law_194 : decode cL_law 194 = .ok (.aload_n 0, 1) := by decide +kernel
theorem dL_law_195 : decode cL_law 195 = .ok (.iload_n 3, 1) := by decide +kernel
theorem dL_law_196 : decode cL_law 196 = .ok (.iconst 2, 1) := by decide +kernel
theorem dL_law_197 : decode cL_law 197 = .ok (.iadd, 1) := by decide +kernel
theorem dL_law_198 : decode cL_law 198 = .ok (.iaload, 1) := by decide +kernel
theorem dL_law_199 : decode cL_law 199 = .ok (.aload_n 0, 1) := by decide +kernel
theorem dL_law_200 : decode cL_law 200 = .ok (.iload_n 3, 1) := by decide +kernel
theorem dL_law_201 : decode cL_law 201 = .ok (.iconst 3, 1) := by decide +kernel
theorem dL_law_202 : decode cL_law 202 = .ok (.iadd, 1) := by decide +kernel
theorem dL_law_203 : decode cL_law 203 = .ok (.iaload, 1) := by decide +kernel
theorem dL_law_204 : decode cL_law 204 = .ok (.invokevirtual 13, 3) := by decide +kernel
theorem dL_law_207 : decode cL_law 207 = .ok (.aload_n 2, 1) := by decide +kernel
theorem dL_law_208 : decode cL_law 208 = .ok (.aload_n 0, 1) := by decide +kernel
theorem dL_law_209 : decode cL_law 209 = .ok (.iload_n 3, 1) := by decide +kernel
theorem dL_law_210 : decode cL_law 210 = .ok (.iconst 1, 1) := by decide +kernel
theorem dL_law_211 : decode cL_law 211 = .ok (.iadd, 1) := by decide +kernel
theorem dL_law_212 : decode cL_law 212 = .ok (.iaload, 1) := by decide +kernel
theorem dL_law_213 : decode cL_law 213 = .ok (.aload_n 0, 1) := by decide +kernel
theorem dL_law_214 : decode cL_law 214 = .ok (.iload_n 3, 1) := by decide +kernel
theorem dL_law_215 : decode cL_law 215 = .ok (.iconst 2, 1) := by decide +kernel
theorem dL_law_216 : decode cL_law 216 = .ok (.iadd, 1) := by decide +kernel
theorem dL_law_217 : decode cL_law 217 = .ok (.iaload, 1) := by decide +kernel
theorem dL_law_218 : decode cL_law 218 = .ok (.aload_n 0, 1) := by decide +kernel
theorem dL_law_219 : decode cL_law 219 = .ok (.iload_n 3, 1) := by decide +kernel
theorem dL_law_220 : decode cL_law 220 = .ok (.iconst 3, 1) := by decide +kernel
theorem dL_law_221 : decode cL_law 221 = .ok (.iadd, 1) := by decide +kernel
theorem dL_law_222 : decode cL_law 222 = .ok (.iaload, 1) := by decide +kernel
theorem dL_law_223 : decode cL_law 223 = .ok (.invokevirtual 17, 3) := by decide +kernel
theorem dL_law_226 : decode cL_law 226 = .ok (.if_icmp .eq 1098, 3) := by decide +kernel
theorem dL_law_229 : decode cL_law 229 = .ok (.iconst 0, 1) := by decide +kernel
theorem dL_law_230 : decode cL_law 230 = .ok (.ireturn, 1) := by decide +kernel
theorem dL_law_231 : decode cL_law 231 = .ok (.aload_n 1, 1) := by decide +kernel
theorem dL_law_232 : decode cL_law 232 = .ok (.aload_n 0, 1) := by decide +kernel
theorem dL_law_233 : decode cL_law 233 = .ok (.iload_n 3, 1) := by decide +kernel
theorem dL_law_234 : decode cL_law 234 = .ok (.iconst 1, 1) := by decide +kernel
theorem dL_law_235 : decode cL_law 235 = .ok (.iadd, 1) := by decide +kernel
theorem dL_law_236 : decode cL_law 236 = .ok (.iaload, 1) := by decide +kernel
theorem dL_law_237 : decode cL_law 237 = .ok (.aload_n 0, 1) := by decide +kernel
theorem dL_law_238 : decode cL_law 238 = .ok (.iload_n 3, 1) := by decide +kernel
theorem dL_law_239 : decode cL_law 239 = .ok (.iconst 2, 1) := by decide +kernel
theorem dL_law_240 : decode cL_law 240 = .ok (.iadd, 1) := by decide +kernel
theorem dL_law_241 : decode cL_law 241 = .ok (.iaload, 1) := by decide +kernel
theorem dL_law_242 : decode cL_law 242 = .ok (.aload_n 0, 1) := by decide +kernel
theorem dL_law_243 : decode cL_law 243 = .ok (.iload_n 3, 1) := by decide +kernel
theorem dL_law_244 : decode cL_law 244 = .ok (.iconst 3, 1) := by decide +kernel
theorem dL_law_245 : decode cL_law 245 = .ok (.iadd, 1) := by decide +kernel
theorem dL_law_246 : decode cL_law 246 = .ok (.iaload, 1) := by decide +kernel
theorem dL_law_247 : decode cL_law 247 = .ok (.invokevirtual 18, 3) := by decide +kernel
theorem dL_law_250 : decode cL_law 250 = .ok (.aload_n 2, 1) := by decide +kernel
theorem dL_law_251 : decode cL_law 251 = .ok (.aload_n 0, 1) := by decide +kernel
theorem dL_law_252 : decode cL_law 252 = .ok (.iload_n 3, 1) := by decide +kernel
theorem dL_law_253 : decode cL_law 253 = .ok (.iconst 1, 1) := by decide +kernel
theorem dL_law_254 : decode cL_law 254 = .ok (.iadd, 1) := by decide +kernel
theorem dL_law_255 : decode cL_law 255 = .ok (.iaload, 1) := by decide +kernel
theorem dL_law_256 : decode cL_law 256 = .ok (.aload_n 0, 1) := by decide +kernel
theorem dL_law_257 : decode cL_law 257 = .ok (.iload_n 3, 1) := by decide +kernel
theorem dL_law_258 : decode cL_law 258 = .ok (.iconst 2, 1) := by decide +kernel
theorem dL_law_259 : decode cL_law 259 = .ok (.iadd, 1) := by decide +kernel
theorem dL_law_260 : decode cL_law 260 = .ok (.iaload, 1) := by decide +kernel
theorem dL_law_261 : decode cL_law 261 = .ok (.aload_n 0, 1) := by decide +kernel
theorem dL_law_262 : decode cL_law 262 = .ok (.iload_n 3, 1) := by decide +kernel
theorem dL_law_263 : decode cL_law 263 = .ok (.iconst 3, 1) := by decide +kernel
theorem dL_law_264 : decode cL_law 264 = .ok (.iadd, 1) := by decide +kernel
theorem dL_law_265 : decode cL_law 265 = .ok (.iaload, 1) := by decide +kernel
theorem dL_law_266 : decode cL_law 266 = .ok (.invokevirtual 21, 3) := by decide +kernel
theorem dL_law_269 : decode cL_law 269 = .ok (.if_icmp .eq 1055, 3) := by decide +kernel
theorem dL_law_272 : decode cL_law 272 = .ok (.iconst 0, 1) := by decide +kernel
theorem dL_law_273 : decode cL_law 273 = .ok (.ireturn, 1) := by decide +kernel
theorem dL_law_274 : decode cL_law 274 = .ok (.aload_n 1, 1) := by decide +kernel
theorem dL_law_275 : decode cL_law 275 = .ok (.aload_n 0, 1) := by decide +kernel
theorem dL_law_276 : decode cL_law 276 = .ok (.iload_n 3, 1) := by decide +kernel
theorem dL_law_277 : decode cL_law 277 = .ok (.iconst 1, 1) := by decide +kernel
theorem dL_law_278 : decode cL_law 278 = .ok (.iadd, 1) := by decide +kernel
theorem dL_law_279 : decode cL_law 279 = .ok (.iaload, 1) := by decide +kernel
theorem dL_law_280 : decode cL_law 280 = .ok (.aload_n 0, 1) := by decide +kernel
theorem dL_law_281 : decode cL_law 281 = .ok (.iload_n 3, 1) := by decide +kernel
theorem dL_law_282 : decode cL_law 282 = .ok (.iconst 2, 1) := by decide +kernel
theorem dL_law_283 : decode cL_law 283 = .ok (.iadd, 1) := by decide +kernel
theorem dL_law_284 : decode cL_law 284 = .ok (.iaload, 1) := by decide +kernel
theorem dL_law_285 : decode cL_law 285 = .ok (.aload_n 0, 1) := by decide +kernel
theorem dL_law_286 : decode cL_law 286 = .ok (.iload_n 3, 1) := by decide +kernel
theorem dL_law_287 : decode cL_law 287 = .ok (.iconst 3, 1) := by decide +kernel
theorem dL_law_288 : decode cL_law 288 = .ok (.iadd, 1) := by decide +kernel
theorem dL_law_289 : decode cL_law 289 = .ok (.iaload, 1) := by decide +kernel
theorem dL_law_290 : decode cL_law 290 = .ok (.aload_n 0, 1) := by decide +kernel
theorem dL_law_291 : decode cL_law 291 = .ok (.iload_n 3, 1) := by decide +kernel
theorem dL_law_292 : decode cL_law 292 = .ok (.iconst 4, 1) := by decide +kernel
theorem dL_law_293 : decode cL_law 293 = .ok (.iadd, 1) := by decide +kernel
theorem dL_law_294 : decode cL_law 294 = .ok (.iaload, 1) := by decide +kernel
theorem dL_law_295 : decode cL_law 295 = .ok (.aload_n 0, 1) := by decide +kernel
theorem dL_law_296 : decode cL_law 296 = .ok (.iload_n 3, 1) := by decide +kernel
theorem dL_law_297 : decode cL_law 297 = .ok (.iconst 5, 1) := by decide +kernel
theorem dL_law_298 : decode cL_law 298 = .ok (.iadd, 1) := by decide +kernel
theorem dL_law_299 : decode cL_law 299 = .ok (.iaload, 1) := by decide +kernel
theorem dL_law_300 : decode cL_law 300 = .ok (.invokevirtual 22, 3) := by decide +kernel
theorem dL_law_303 : decode cL_law 303 = .ok (.aload_n 2, 1) := by decide +kernel
theorem dL_law_304 : decode cL_law 304 = .ok (.aload_n 0, 1) := by decide +kernel
theorem dL_law_305 : decode cL_law 305 = .ok (.iload_n 3, 1) := by decide +kernel
theorem dL_law_306 : decode cL_law 306 = .ok (.iconst 1, 1) := by decide +kernel
theorem dL_law_307 : decode cL_law 307 = .ok (.iadd, 1) := by decide +kernel
theorem dL_law_308 : decode cL_law 308 = .ok (.iaload, 1) := by decide +kernel
theorem dL_law_309 : decode cL_law 309 = .ok (.aload_n 0, 1) := by decide +kernel
theorem dL_law_310 : decode cL_law 310 = .ok (.iload_n 3, 1) := by decide +kernel
theorem dL_law_311 : decode cL_law 311 = .ok (.iconst 2, 1) := by decide +kernel
theorem dL_law_312 : decode cL_law 312 = .ok (.iadd, 1) := by decide +kernel
theorem dL_law_313 : decode cL_law 313 = .ok (.iaload, 1) := by decide +kernel
theorem dL_law_314 : decode cL_law 314 = .ok (.aload_n 0, 1) := by decide +kernel
theorem dL_law_315 : decode cL_law 315 = .ok (.iload_n 3, 1) := by decide +kernel
theorem dL_law_316 : decode cL_law 316 = .ok (.iconst 3, 1) := by decide +kernel
theorem dL_law_317 : decode cL_law 317 = .ok (.iadd, 1) := by decide +kernel
theorem dL_law_318 : decode cL_law 318 = .ok (.iaload, 1) := by decide +kernel
theorem dL_law_319 : decode cL_law 319 = .ok (.aload_n 0, 1) := by decide +kernel
theorem dL_law_320 : decode cL_law 320 = .ok (.iload_n 3, 1) := by decide +kernel
theorem dL_law_321 : decode cL_law 321 = .ok (.iconst 4, 1) := by decide +kernel
theorem dL_law_322 : decode cL_law 322 = .ok (.iadd, 1) := by decide +kernel
theorem dL_law_323 : decode cL_law 323 = .ok (.iaload, 1) := by decide +kernel
theorem dL_law_324 : decode cL_law 324 = .ok (.aload_n 0, 1) := by decide +kernel
theorem dL_law_325 : decode cL_law 325 = .ok (.iload_n 3, 1) := by decide +kernel
theorem dL_law_326 : decode cL_law 326 = .ok (.iconst 5, 1) := by decide +kernel
theorem dL_law_327 : decode cL_law 327 = .ok (.iadd, 1) := by decide +kernel
