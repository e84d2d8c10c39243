theorem dX7_room_88 : decode cX7_room 88 = .ok (.aload_n 0, 1) := by decide +kernel
theorem dX7_room_89 : decode cX7_room 89 = .ok (.getfield 19, 3) := by decide +kernel
theorem dX7_room_92 : decode cX7_room 92 = .ok (.iconst 4, 1) := by decide +kernel
theorem dX7_room_93 : decode cX7_room 93 = .ok (.iaload, 1) := by decide +kernel
theorem dX7_room_94 : decode cX7_room 94 = .ok (.if_icmp .ge 50, 3) := by decide +kernel
theorem dX7_room_97 : decode cX7_room 97 = .ok (.iload 4, 2) := by decide +kernel
theorem dX7_room_99 : decode cX7_room 99 = .ok (.aload_n 0, 1) := by decide +kernel
theorem dX7_room_100 : decode cX7_room 100 = .ok (.getfield 19, 3) := by decide +kernel
theorem dX7_room_103 : decode cX7_room 103 = .ok (.bipush 13, 2) := by decide +kernel
theorem dX7_room_105 : decode cX7_room 105 = .ok (.iload 5, 2) := by decide +kernel
theorem dX7_room_107 : decode cX7_room 107 = .ok (.iadd, 1) := by decide +kernel
theorem dX7_room_108 : decode cX7_room 108 = .ok (.iaload, 1) := by decide +kernel
theorem dX7_room_109 : decode cX7_room 109 = .ok (.iload_n 1, 1) := by decide +kernel
theorem dX7_room_110 : decode cX7_room 110 = .ok (.if_icmp .eq 17, 3) := by decide +kernel
theorem dX7_room_113 : decode cX7_room 113 = .ok (.aload_n 0, 1) := by decide +kernel
theorem dX7_room_114 : decode cX7_room 114 = .ok (.getfield 19, 3) := by decide +kernel
theorem dX7_room_117 : decode cX7_room 117 = .ok (.bipush 21, 2) := by decide +kernel
theorem dX7_room_119 : decode cX7_room 119 = .ok (.iload 5, 2) := by decide +kernel
theorem dX7_room_121 : decode cX7_room 121 = .ok (.iadd, 1) := by decide +kernel
theorem dX7_room_122 : decode cX7_room 122 = .ok (.iaload, 1) := by decide +kernel
theorem dX7_room_123 : decode cX7_room 123 = .ok (.iload_n 1, 1) := by decide +kernel
theorem dX7_room_124 : decode cX7_room 124 = .ok (.if_icmp .ne 10, 3) := by decide +kernel
theorem dX7_room_127 : decode cX7_room 127 = .ok (.iconst 1, 1) := by decide +kernel
theorem dX7_room_128 : decode cX7_room 128 = .ok (.iload 5, 2) := by decide +kernel
theorem dX7_room_130 : decode cX7_room 130 = .ok (.ishl, 1) := by decide +kernel
theorem dX7_room_131 : decode cX7_room 131 = .ok (.goto 4, 3) := by decide +kernel
theorem dX7_room_134 : decode cX7_room 134 = .ok (.iconst 0, 1) := by decide +kernel
theorem dX7_room_135 : decode cX7_room 135 = .ok (.ior, 1) := by decide +kernel
theorem dX7_room_136 : decode cX7_room 136 = .ok (.istore 4, 2) := by decide +kernel
theorem dX7_room_138 : decode cX7_room 138 = .ok (.iinc 5 1, 3) := by decide +kernel
theorem dX7_room_141 : decode cX7_room 141 = .ok (.goto (-55), 3) := by decide +kernel
theorem dX7_room_144 : decode cX7_room 144 = .ok (.iload_n 2, 1) := by decide +kernel
theorem dX7_room_145 : decode cX7_room 145 = .ok (.tableswitch 73 0 3 #[31, 41, 43, 58], 31) := by decide +kernel
theorem dX7_room_176 : decode cX7_room 176 = .ok (.aload_n 0, 1) := by decide +kernel
theorem dX7_room_177 : decode cX7_room 177 = .ok (.getfield 19, 3) := by decide +kernel
theorem dX7_room_180 : decode cX7_room 180 = .ok (.bipush 7, 2) := by decide +kernel
theorem dX7_room_182 : decode cX7_room 182 = .ok (.iload_n 1, 1) := by decide +kernel
theorem dX7_room_183 : decode cX7_room 183 = .ok (.iadd, 1) := by decide +kernel
theorem dX7_room_184 : decode cX7_room 184 = .ok (.iaload, 1) := by decide +kernel
theorem dX7_room_185 : decode cX7_room 185 = .ok (.ireturn, 1) := by decide +kernel
theorem dX7_room_186 : decode cX7_room 186 = .ok (.iload_n 3, 1) := by decide +kernel
theorem dX7_room_187 : decode cX7_room 187 = .ok (.ireturn, 1) := by decide +kernel
theorem dX7_room_188 : decode cX7_room 188 = .ok (.aload_n 0, 1) := by decide +kernel
theorem dX7_room_189 : decode cX7_room 189 = .ok (.iload_n 1, 1) := by decide +kernel
theorem dX7_room_190 : decode cX7_room 190 = .ok (.iconst 0, 1) := by decide +kernel
theorem dX7_room_191 : decode cX7_room 191 = .ok (.invokevirtual 143, 3) := by decide +kernel
theorem dX7_room_194 : decode cX7_room 194 = .ok (.ifCond .eq 7, 3) := by decide +kernel
theorem dX7_room_197 : decode cX7_room 197 = .ok (.iconst 1, 1) := by decide +kernel
theorem dX7_room_198 : decode cX7_room 198 = .ok (.goto 4, 3) := by decide +kernel
theorem dX7_room_201 : decode cX7_room 201 = .ok (.iconst 0, 1) := by decide +kernel
theorem dX7_room_202 : decode cX7_room 202 = .ok (.ireturn, 1) := by decide +kernel
theorem dX7_room_203 : decode cX7_room 203 = .ok (.aload_n 0, 1) := by decide +kernel
theorem dX7_room_204 : decode cX7_room 204 = .ok (.iload_n 1, 1) := by decide +kernel
theorem dX7_room_205 : decode cX7_room 205 = .ok (.iconst 1, 1) := by decide +kernel
theorem dX7_room_206 : decode cX7_room 206 = .ok (.invokevirtual 143, 3) := by decide +kernel
theorem dX7_room_209 : decode cX7_room 209 = .ok (.ifCond .eq 7, 3) := by decide +kernel
theorem dX7_room_212 : decode cX7_room 212 = .ok (.iconst 1, 1) := by decide +kernel
theorem dX7_room_213 : decode cX7_room 213 = .ok (.goto 4, 3) := by decide +kernel
theorem dX7_room_216 : decode cX7_room 216 = .ok (.iconst 0, 1) := by decide +kernel
theorem dX7_room_217 : decode cX7_room 217 = .ok (.ireturn, 1) := by decide +kernel
theorem dX7_room_218 : decode cX7_room 218 = .ok (.iload 4, 2) := by decide +kernel
theorem dX7_room_220 : decode cX7_room 220 = .ok (.ireturn, 1) := by decide +kernel
theorem dX7_doorHas_0 : decode cX7_doorHas 0 = .ok (.aload_n 0, 1) := by decide +kernel
theorem dX7_doorHas_1 : decode cX7_doorHas 1 = .ok (.iload_n 1, 1) := by decide +kernel
theorem dX7_doorHas_2 : decode cX7_doorHas 2 = .ok (.invokevirtual 166, 3) := by decide +kernel
theorem dX7_doorHas_5 : decode cX7_doorHas 5 = .ok (.ifCond .eq 15, 3) := by decide +kernel
theorem dX7_doorHas_8 : decode cX7_doorHas 8 = .ok (.iload_n 2, 1) := by decide +kernel
theorem dX7_doorHas_9 : decode cX7_doorHas 9 = .ok (.i2l, 1) := by decide +kernel
theorem dX7_doorHas_10 : decode cX7_doorHas 10 = .ok (.lconst 0, 1) := by decide +kernel
theorem dX7_doorHas_11 : decode cX7_doorHas 11 = .ok (.ldc2_w 62, 3) := by decide +kernel
theorem dX7_doorHas_14 : decode cX7_doorHas 14 = .ok (.invokestatic 54, 3) := by decide +kernel
theorem dX7_doorHas_17 : decode cX7_doorHas 17 = .ok (.ifCond .ne 6, 3) := by decide +kernel
theorem dX7_doorHas_20 : decode cX7_doorHas 20 = .ok (.ldc 64, 2) := by decide +kernel
theorem dX7_doorHas_22 : decode cX7_doorHas 22 = .ok (.ireturn, 1) := by decide +kernel
theorem dX7_doorHas_23 : decode cX7_doorHas 23 = .ok (.iload_n 2, 1) := by decide +kernel
theorem dX7_doorHas_24 : decode cX7_doorHas 24 = .ok (.ifCond .ne 15, 3) := by decide +kernel
theorem dX7_doorHas_27 : decode cX7_doorHas 27 = .ok (.aload_n 0, 1) := by decide +kernel
theorem dX7_doorHas_28 : decode cX7_doorHas 28 = .ok (.getfield 19, 3) := by decide +kernel
theorem dX7_doorHas_31 : decode cX7_doorHas 31 = .ok (.bipush 13, 2) := by decide +kernel
theorem dX7_doorHas_33 : decode cX7_doorHas 33 = .ok (.iload_n 1, 1) := by decide +kernel
theorem dX7_doorHas_34 : decode cX7_doorHas 34 = .ok (.iadd, 1) := by decide +kernel
theorem dX7_doorHas_35 : decode cX7_doorHas 35 = .ok (.iaload, 1) := by decide +kernel
theorem dX7_doorHas_36 : decode cX7_doorHas 36 = .ok (.goto 29, 3) := by decide +kernel
theorem dX7_doorHas_39 : decode cX7_doorHas 39 = .ok (.iload_n 2, 1) := by decide +kernel
theorem dX7_doorHas_40 : decode cX7_doorHas 40 = .ok (.iconst 1, 1) := by decide +kernel
theorem dX7_doorHas_41 : decode cX7_doorHas 41 = .ok (.if_icmp .ne 15, 3) := by decide +kernel
theorem dX7_doorHas_44 : decode cX7_doorHas 44 = .ok (.aload_n 0, 1) := by decide +kernel
theorem dX7_doorHas_45 : decode cX7_doorHas 45 = .ok (.getfield 19, 3) := by decide +kernel
theorem dX7_doorHas_48 : decode cX7_doorHas 48 = .ok (.bipush 21, 2) := by decide +kernel
theorem dX7_doorHas_50 : decode cX7_doorHas 50 = .ok (.iload_n 1, 1) := by decide +kernel
theorem dX7_doorHas_51 : decode cX7_doorHas 51 = .ok (.iadd, 1) := by decide +kernel
theorem dX7_doorHas_52 : decode cX7_doorHas 52 = .ok (.iaload, 1) := by decide +kernel
theorem dX7_doorHas_53 : decode cX7_doorHas 53 = .ok (.goto 12, 3) := by decide +kernel
theorem dX7_doorHas_56 : decode cX7_doorHas 56 = .ok (.aload_n 0, 1) := by decide +kernel
theorem dX7_doorHas_57 : decode cX7_doorHas 57 = .ok (.getfield 19, 3) := by decide +kernel
theorem dX7_doorHas_60 : decode cX7_doorHas 60 = .ok (.bipush 29, 2) := by decide +kernel
theorem dX7_doorHas_62 : decode cX7_doorHas 62 = .ok (.iload_n 1, 1) := by decide +kernel
theorem dX7_doorHas_63 : decode cX7_doorHas 63 = .ok (.iadd, 1) := by decide +kernel
theorem dX7_doorHas_64 : decode cX7_doorHas 64 = .ok (.iaload, 1) := by decide +kernel
theorem dX7_doorHas_65 : decode cX7_doorHas 65 = .ok (.ireturn, 1) := by decide +kernel
theorem dX7_isCold_0 : decode cX7_isCold 0 = .ok (.aload_n 0, 1) := by decide +kernel
theorem dX7_isCold_1 : decode cX7_isCold 1 = .ok (.getfield 19, 3) := by decide +kernel
theorem dX7_isCold_4 : decode cX7_isCold 4 = .ok (.bipush 7, 2) := by decide +kernel
theorem dX7_isCold_6 : decode cX7_isCold 6 = .ok (.aload_n 0, 1) := by decide +kernel
theorem dX7_isCold_7 : decode cX7_isCold 7 = .ok (.getfield 19, 3) := by decide +kernel
theorem dX7_isCold_10 : decode cX7_isCold 10 = .ok (.bipush 42, 2) := by decide +kernel
theorem dX7_isCold_12 : decode cX7_isCold 12 = .ok (.iload_n 1, 1) := by decide +kernel
theorem dX7_isCold_13 : decode cX7_isCold 13 = .ok (.iadd, 1) := by decide +kernel
theorem dX7_isCold_14 : decode cX7_isCold 14 = .ok (.iaload, 1) := by decide +kernel
theorem dX7_isCold_15 : decode cX7_isCold 15 = .ok (.iadd, 1) := by decide +kernel
theorem dX7_isCold_16 : decode cX7_isCold 16 = .ok (.iaload, 1) := by decide +kernel
theorem dX7_isCold_17 : decode cX7_isCold 17 = .ok (.aload_n 0, 1) := by decide +kernel
theorem dX7_isCold_18 : decode cX7_isCold 18 = .ok (.getfield 19, 3) := by decide +kernel
theorem dX7_isCold_21 : decode cX7_isCold 21 = .ok (.iconst 3, 1) := by decide +kernel
theorem dX7_isCold_22 : decode cX7_isCold 22 = .ok (.iaload, 1) := by decide +kernel
theorem dX7_isCold_23 : decode cX7_isCold 23 = .ok (.if_icmp .le 7, 3) := by decide +kernel
theorem dX7_isCold_26 : decode cX7_isCold 26 = .ok (.iconst 1, 1) := by decide +kernel
theorem dX7_isCold_27 : decode cX7_isCold 27 = .ok (.goto 4, 3) := by decide +kernel
theorem dX7_isCold_30 : decode cX7_isCold 30 = .ok (.iconst 0, 1) := by decide +kernel
theorem dX7_isCold_31 : decode cX7_isCold 31 = .ok (.ireturn, 1) := by decide +kernel
theorem dX7_sitter_0 : decode cX7_sitter 0 = .ok (.aload_n 0, 1) := by decide +kernel
theorem dX7_sitter_1 : decode cX7_sitter 1 = .ok (.iload_n 1, 1) := by decide +kernel
theorem dX7_sitter_2 : decode cX7_sitter 2 = .ok (.invokevirtual 172, 3) := by decide +kernel
theorem dX7_sitter_5 : decode cX7_sitter 5 = .ok (.ifCond .eq 15, 3) := by decide +kernel
theorem dX7_sitter_8 : decode cX7_sitter 8 = .ok (.iload_n 2, 1) := by decide +kernel
theorem dX7_sitter_9 : decode cX7_sitter 9 = .ok (.i2l, 1) := by decide +kernel
theorem dX7_sitter_10 : decode cX7_sitter 10 = .ok (.lconst 0, 1) := by decide +kernel
theorem dX7_sitter_11 : decode cX7_sitter 11 = .ok (.ldc2_w 62, 3) := by decide +kernel
theorem dX7_sitter_14 : decode cX7_sitter 14 = .ok (.invokestatic 54, 3) := by decide +kernel
theorem dX7_sitter_17 : decode cX7_sitter 17 = .ok (.ifCond .ne 6, 3) := by decide +kernel
theorem dX7_sitter_20 : decode cX7_sitter 20 = .ok (.ldc 64, 2) := by decide +kernel
theorem dX7_sitter_22 : decode cX7_sitter 22 = .ok (.ireturn, 1) := by decide +kernel
theorem dX7_sitter_23 : decode cX7_sitter 23 = .ok (.iload_n 2, 1) := by decide +kernel
theorem dX7_sitter_24 : decode cX7_sitter 24 = .ok (.ifCond .ne 15, 3) := by decide +kernel
theorem dX7_sitter_27 : decode cX7_sitter 27 = .ok (.aload_n 0, 1) := by decide +kernel
theorem dX7_sitter_28 : decode cX7_sitter 28 = .ok (.getfield 19, 3) := by decide +kernel
theorem dX7_sitter_31 : decode cX7_sitter 31 = .ok (.bipush 42, 2) := by decide +kernel
theorem dX7_sitter_33 : decode cX7_sitter 33 = .ok (.iload_n 1, 1) := by decide +kernel
theorem dX7_sitter_34 : decode cX7_sitter 34 = .ok (.iadd, 1) := by decide +kernel
theorem dX7_sitter_35 : decode cX7_sitter 35 = .ok (.iaload, 1) := by decide +kernel
theorem dX7_sitter_36 : decode cX7_sitter 36 = .ok (.goto 33, 3) := by decide +kernel
theorem dX7_sitter_39 : decode cX7_sitter 39 = .ok (.iload_n 2, 1) := by decide +kernel
theorem dX7_sitter_40 : decode cX7_sitter 40 = .ok (.iconst 1, 1) := by decide +kernel
theorem dX7_sitter_41 : decode cX7_sitter 41 = .ok (.if_icmp .ne 15, 3) := by decide +kernel
theorem dX7_sitter_44 : decode cX7_sitter 44 = .ok (.aload_n 0, 1) := by decide +kernel
theorem dX7_sitter_45 : decode cX7_sitter 45 = .ok (.getfield 19, 3) := by decide +kernel
theorem dX7_sitter_48 : decode cX7_sitter 48 = .ok (.bipush 47, 2) := by decide +kernel
theorem dX7_sitter_50 : decode cX7_sitter 50 = .ok (.iload_n 1, 1) := by decide +kernel
theorem dX7_sitter_51 : decode cX7_sitter 51 = .ok (.iadd, 1) := by decide +kernel
theorem dX7_sitter_52 : decode cX7_sitter 52 = .ok (.iaload, 1) := by decide +kernel
theorem dX7_sitter_53 : decode cX7_sitter 53 = .ok (.goto 16, 3) := by decide +kernel
theorem dX7_sitter_56 : decode cX7_sitter 56 = .ok (.aload_n 0, 1) := by decide +kernel
theorem dX7_sitter_57 : decode cX7_sitter 57 = .ok (.iload_n 1, 1) := by decide +kernel
theorem dX7_sitter_58 : decode cX7_sitter 58 = .ok (.invokevirtual 180, 3) := by decide +kernel
theorem dX7_sitter_61 : decode cX7_sitter 61 = .ok (.ifCond .eq 7, 3) := by decide +kernel
theorem dX7_sitter_64 : decode cX7_sitter 64 = .ok (.iconst 1, 1) := by decide +kernel
theorem dX7_sitter_65 : decode cX7_sitter 65 = .ok (.goto 4, 3) := by decide +kernel
theorem dX7_sitter_68 : decode cX7_sitter 68 = .ok (.iconst 0, 1) := by decide +kernel
theorem dX7_sitter_69 : decode cX7_sitter 69 = .ok (.ireturn, 1) := by decide +kernel
theorem dX7_putAside_0 : decode cX7_putAside 0 = .ok (.iconst 0, 1) := by decide +kernel
theorem dX7_putAside_1 : decode cX7_putAside 1 = .ok (.istore_n 1, 1) := by decide +kernel
theorem dX7_putAside_2 : decode cX7_putAside 2 = .ok (.iload_n 1, 1) := by decide +kernel
theorem dX7_putAside_3 : decode cX7_putAside 3 = .ok (.bipush 52, 2) := by decide +kernel
theorem dX7_putAside_5 : decode cX7_putAside 5 = .ok (.if_icmp .ge 21, 3) := by decide +kernel
theorem dX7_putAside_8 : decode cX7_putAside 8 = .ok (.aload_n 0, 1) := by decide +kernel
theorem dX7_putAside_9 : decode cX7_putAside 9 = .ok (.getfield 34, 3) := by decide +kernel
theorem dX7_putAside_12 : decode cX7_putAside 12 = .ok (.iload_n 1, 1) := by decide +kernel
theorem dX7_putAside_13 : decode cX7_putAside 13 = .ok (.aload_n 0, 1) := by decide +kernel
theorem dX7_putAside_14 : decode cX7_putAside 14 = .ok (.getfield 19, 3) := by decide +kernel
theorem dX7_putAside_17 : decode cX7_putAside 17 = .ok (.iload_n 1, 1) := by decide +kernel
theorem dX7_putAside_18 : decode cX7_putAside 18 = .ok (.iaload, 1) := by decide +kernel
theorem dX7_putAside_19 : decode cX7_putAside 19 = .ok (.iastore, 1) := by decide +kernel
theorem dX7_putAside_20 : decode cX7_putAside 20 = .ok (.iinc 1 1, 3) := by decide +kernel
theorem dX7_putAside_23 : decode cX7_putAside 23 = .ok (.goto (-21), 3) := by decide +kernel
theorem dX7_putAside_26 : decode cX7_putAside 26 = .ok (.return_, 1) := by decide +kernel
theorem dX7_takeBack_0 : decode cX7_takeBack 0 = .ok (.iconst 0, 1) := by decide +kernel
theorem dX7_takeBack_1 : decode cX7_takeBack 1 = .ok (.istore_n 1, 1) := by decide +kernel
theorem dX7_takeBack_2 : decode cX7_takeBack 2 = .ok (.iload_n 1, 1) := by decide +kernel
theorem dX7_takeBack_3 : decode cX7_takeBack 3 = .ok (.bipush 52, 2) := by decide +kernel
theorem dX7_takeBack_5 : decode cX7_takeBack 5 = .ok (.if_icmp .ge 21, 3) := by decide +kernel
theorem dX7_takeBack_8 : decode cX7_takeBack 8 = .ok (.aload_n 0, 1) := by decide +kernel
theorem dX7_takeBack_9 : decode cX7_takeBack 9 = .ok (.getfield 19, 3) := by decide +kernel
theorem dX7_takeBack_12 : decode cX7_takeBack 12 = .ok (.iload_n 1, 1) := by decide +kernel
theorem dX7_takeBack_13 : decode cX7_takeBack 13 = .ok (.aload_n 0, 1) := by decide +kernel
theorem dX7_takeBack_14 : decode cX7_takeBack 14 = .ok (.getfield 34, 3) := by decide +kernel
theorem dX7_takeBack_17 : decode cX7_takeBack 17 = .ok (.iload_n 1, 1) := by decide +kernel
theorem dX7_takeBack_18 : decode cX7_takeBack 18 = .ok (.iaload, 1) := by decide +kernel
theorem dX7_takeBack_19 : decode cX7_takeBack 19 = .ok (.iastore, 1) := by decide +kernel
theorem dX7_takeBack_20 : decode cX7_takeBack 20 = .ok (.iinc 1 1, 3) := by decide +kernel
theorem dX7_takeBack_23 : decode cX7_takeBack 23 = .ok (.goto (-21), 3) := by decide +kernel
theorem dX7_takeBack_26 : decode cX7_takeBack 26 = .ok (.return_, 1) := by decide +kernel
theorem dX7_goOn_0 : decode cX7_goOn 0 = .ok (.iconst 0, 1) := by decide +kernel
theorem dX7_goOn_1 : decode cX7_goOn 1 = .ok (.istore_n 2, 1) := by decide +kernel
theorem dX7_goOn_2 : decode cX7_goOn 2 = .ok (.iload_n 2, 1) := by decide +kernel
theorem dX7_goOn_3 : decode cX7_goOn 3 = .ok (.iload_n 1, 1) := by decide +kernel
theorem dX7_goOn_4 : decode cX7_goOn 4 = .ok (.if_icmp .ge 13, 3) := by decide +kernel
theorem dX7_goOn_7 : decode cX7_goOn 7 = .ok (.aload_n 0, 1) := by decide +kernel
theorem dX7_goOn_8 : decode cX7_goOn 8 = .ok (.invokevirtual 159, 3) := by decide +kernel
theorem dX7_goOn_11 : decode cX7_goOn 11 = .ok (.iinc 2 1, 3) := by decide +kernel
theorem dX7_goOn_14 : decode cX7_goOn 14 = .ok (.goto (-12), 3) := by decide +kernel
theorem dX7_goOn_17 : decode cX7_goOn 17 = .ok (.return_, 1) := by decide +kernel
theorem dX7_ahead_0 : decode cX7_ahead 0 = .ok (.aload_n 0, 1) := by decide +kernel
theorem dX7_ahead_1 : decode cX7_ahead 1 = .ok (.getfield 135, 3) := by decide +kernel
theorem dX7_ahead_4 : decode cX7_ahead 4 = .ok (.ifCond .ne 6, 3) := by decide +kernel
theorem dX7_ahead_7 : decode cX7_ahead 7 = .ok (.ldc 142, 2) := by decide +kernel
theorem dX7_ahead_9 : decode cX7_ahead 9 = .ok (.ireturn, 1) := by decide +kernel
theorem dX7_ahead_10 : decode cX7_ahead 10 = .ok (.iload_n 1, 1) := by decide +kernel
theorem dX7_ahead_11 : decode cX7_ahead 11 = .ok (.i2l, 1) := by decide +kernel
theorem dX7_ahead_12 : decode cX7_ahead 12 = .ok (.lconst 0, 1) := by decide +kernel
theorem dX7_ahead_13 : decode cX7_ahead 13 = .ok (.ldc2_w 183, 3) := by decide +kernel
theorem dX7_ahead_16 : decode cX7_ahead 16 = .ok (.invokestatic 54, 3) := by decide +kernel
theorem dX7_ahead_19 : decode cX7_ahead 19 = .ok (.ifCond .eq 11, 3) := by decide +kernel
theorem dX7_ahead_22 : decode cX7_ahead 22 = .ok (.aload_n 0, 1) := by decide +kernel
theorem dX7_ahead_23 : decode cX7_ahead 23 = .ok (.iload_n 2, 1) := by decide +kernel
theorem dX7_ahead_24 : decode cX7_ahead 24 = .ok (.invokevirtual 175, 3) := by decide +kernel
theorem dX7_ahead_27 : decode cX7_ahead 27 = .ok (.ifCond .ne 6, 3) := by decide +kernel
theorem dX7_ahead_30 : decode cX7_ahead 30 = .ok (.ldc 64, 2) := by decide +kernel
theorem dX7_ahead_32 : decode cX7_ahead 32 = .ok (.ireturn, 1) := by decide +kernel
theorem dX7_ahead_33 : decode cX7_ahead 33 = .ok (.aload_n 0, 1) := by decide +kernel
theorem dX7_ahead_34 : decode cX7_ahead 34 = .ok (.invokevirtual 185, 3) := by decide +kernel
theorem dX7_ahead_37 : decode cX7_ahead 37 = .ok (.aload_n 0, 1) := by decide +kernel
theorem dX7_ahead_38 : decode cX7_ahead 38 = .ok (.iload_n 1, 1) := by decide +kernel
theorem dX7_ahead_39 : decode cX7_ahead 39 = .ok (.invokevirtual 188, 3) := by decide +kernel
theorem dX7_ahead_42 : decode cX7_ahead 42 = .ok (.aload_n 0, 1) := by decide +kernel
theorem dX7_ahead_43 : decode cX7_ahead 43 = .ok (.getfield 19, 3) := by decide +kernel
theorem dX7_ahead_46 : decode cX7_ahead 46 = .ok (.bipush 7, 2) := by decide +kernel
theorem dX7_ahead_48 : decode cX7_ahead 48 = .ok (.iload_n 2, 1) := by decide +kernel
theorem dX7_ahead_49 : decode cX7_ahead 49 = .ok (.iadd, 1) := by decide +kernel
theorem dX7_ahead_50 : decode cX7_ahead 50 = .ok (.iaload, 1) := by decide +kernel
theorem dX7_ahead_51 : decode cX7_ahead 51 = .ok (.istore_n 3, 1) := by decide +kernel
theorem dX7_ahead_52 : decode cX7_ahead 52 = .ok (.aload_n 0, 1) := by decide +kernel
theorem dX7_ahead_53 : decode cX7_ahead 53 = .ok (.invokevirtual 192, 3) := by decide +kernel
theorem dX7_ahead_56 : decode cX7_ahead 56 = .ok (.iload_n 3, 1) := by decide +kernel
theorem dX7_ahead_57 : decode cX7_ahead 57 = .ok (.ireturn, 1) := by decide +kernel
theorem dX7_allAhead_0 : decode cX7_allAhead 0 = .ok (.aload_n 0, 1) := by decide +kernel
theorem dX7_allAhead_1 : decode cX7_allAhead 1 = .ok (.getfield 135, 3) := by decide +kernel
theorem dX7_allAhead_4 : decode cX7_allAhead 4 = .ok (.ifCond .ne 6, 3) := by decide +kernel
theorem dX7_allAhead_7 : decode cX7_allAhead 7 = .ok (.ldc 142, 2) := by decide +kernel
theorem dX7_allAhead_9 : decode cX7_allAhead 9 = .ok (.ireturn, 1) := by decide +kernel
theorem dX7_allAhead_10 : decode cX7_allAhead 10 = .ok (.iload_n 1, 1) := by decide +kernel
theorem dX7_allAhead_11 : decode cX7_allAhead 11 = .ok (.i2l, 1) := by decide +kernel
theorem dX7_allAhead_12 : decode cX7_allAhead 12 = .ok (.lconst 0, 1) := by decide +kernel
theorem dX7_allAhead_13 : decode cX7_allAhead 13 = .ok (.ldc2_w 183, 3) := by decide +kernel
theorem dX7_allAhead_16 : decode cX7_allAhead 16 = .ok (.invokestatic 54, 3) := by decide +kernel
theorem dX7_allAhead_19 : decode cX7_allAhead 19 = .ok (.ifCond .ne 6, 3) := by decide +kernel
theorem dX7_allAhead_22 : decode cX7_allAhead 22 = .ok (.ldc 64, 2) := by decide +kernel
theorem dX7_allAhead_24 : decode cX7_allAhead 24 = .ok (.ireturn, 1) := by decide +kernel
theorem dX7_allAhead_25 : decode cX7_allAhead 25 = .ok (.aload_n 0, 1) := by decide +kernel
theorem dX7_allAhead_26 : decode cX7_allAhead 26 = .ok (.invokevirtual 185, 3) := by decide +kernel
theorem dX7_allAhead_29 : decode cX7_allAhead 29 = .ok (.aload_n 0, 1) := by decide +kernel
theorem dX7_allAhead_30 : decode cX7_allAhead 30 = .ok (.iload_n 1, 1) := by decide +kernel
theorem dX7_allAhead_31 : decode cX7_allAhead 31 = .ok (.invokevirtual 188, 3) := by decide +kernel
theorem dX7_allAhead_34 : decode cX7_allAhead 34 = .ok (.aload_n 0, 1) := by decide +kernel
theorem dX7_allAhead_35 : decode cX7_allAhead 35 = .ok (.invokevirtual 162, 3) := by decide +kernel
theorem dX7_allAhead_38 : decode cX7_allAhead 38 = .ok (.istore_n 2, 1) := by decide +kernel
theorem dX7_allAhead_39 : decode cX7_allAhead 39 = .ok (.aload_n 0, 1) := by decide +kernel
theorem dX7_allAhead_40 : decode cX7_allAhead 40 = .ok (.invokevirtual 192, 3) := by decide +kernel
theorem dX7_allAhead_43 : decode cX7_allAhead 43 = .ok (.iload_n 2, 1) := by decide +kernel
theorem dX7_allAhead_44 : decode cX7_allAhead 44 = .ok (.ireturn, 1) := by decide +kernel
theorem dX7_firstCold_0 : decode cX7_firstCold 0 = .ok (.iconst 0, 1) := by decide +kernel
theorem dX7_firstCold_1 : decode cX7_firstCold 1 = .ok (.istore_n 1, 1) := by decide +kernel
theorem dX7_firstCold_2 : decode cX7_firstCold 2 = .ok (.iload_n 1, 1) := by decide +kernel
theorem dX7_firstCold_3 : decode cX7_firstCold 3 = .ok (.aload_n 0, 1) := by decide +kernel
theorem dX7_firstCold_4 : decode cX7_firstCold 4 = .ok (.getfield 19, 3) := by decide +kernel
theorem dX7_firstCold_7 : decode cX7_firstCold 7 = .ok (.iconst 5, 1) := by decide +kernel
theorem dX7_firstCold_8 : decode cX7_firstCold 8 = .ok (.iaload, 1) := by decide +kernel
theorem dX7_firstCold_9 : decode cX7_firstCold 9 = .ok (.if_icmp .ge 19, 3) := by decide +kernel
theorem dX7_firstCold_12 : decode cX7_firstCold 12 = .ok (.aload_n 0, 1) := by decide +kernel
theorem dX7_firstCold_13 : decode cX7_firstCold 13 = .ok (.iload_n 1, 1) := by decide +kernel
theorem dX7_firstCold_14 : decode cX7_firstCold 14 = .ok (.invokevirtual 180, 3) := by decide +kernel
theorem dX7_firstCold_17 : decode cX7_firstCold 17 = .ok (.ifCond .eq 5, 3) := by decide +kernel
theorem dX7_firstCold_20 : decode cX7_firstCold 20 = .ok (.iload_n 1, 1) := by decide +kernel
theorem dX7_firstCold_21 : decode cX7_firstCold 21 = .ok (.ireturn, 1) := by decide +kernel
theorem dX7_firstCold_22 : decode cX7_firstCold 22 = .ok (.iinc 1 1, 3) := by decide +kernel
theorem dX7_firstCold_25 : decode cX7_firstCold 25 = .ok (.goto (-23), 3) := by decide +kernel
theorem dX7_firstCold_28 : decode cX7_firstCold 28 = .ok (.iconst (-1), 1) := by decide +kernel
theorem dX7_firstCold_29 : decode cX7_firstCold 29 = .ok (.ireturn, 1) := by decide +kernel
theorem dX7_shivers_0 : decode cX7_shivers 0 = .ok (.aload_n 0, 1) := by decide +kernel
theorem dX7_shivers_1 : decode cX7_shivers 1 = .ok (.getfield 135, 3) := by decide +kernel
theorem dX7_shivers_4 : decode cX7_shivers 4 = .ok (.ifCond .ne 6, 3) := by decide +kernel
theorem dX7_shivers_7 : decode cX7_shivers 7 = .ok (.ldc 142, 2) := by decide +kernel
theorem dX7_shivers_9 : decode cX7_shivers 9 = .ok (.ireturn, 1) := by decide +kernel
theorem dX7_shivers_10 : decode cX7_shivers 10 = .ok (.iload_n 1, 1) := by decide +kernel
theorem dX7_shivers_11 : decode cX7_shivers 11 = .ok (.i2l, 1) := by decide +kernel
theorem dX7_shivers_12 : decode cX7_shivers 12 = .ok (.lconst 0, 1) := by decide +kernel
theorem dX7_shivers_13 : decode cX7_shivers 13 = .ok (.lconst 1, 1) := by decide +kernel
theorem dX7_shivers_14 : decode cX7_shivers 14 = .ok (.invokestatic 54, 3) := by decide +kernel
theorem dX7_shivers_17 : decode cX7_shivers 17 = .ok (.ifCond .ne 6, 3) := by decide +kernel
theorem dX7_shivers_20 : decode cX7_shivers 20 = .ok (.ldc 64, 2) := by decide +kernel
theorem dX7_shivers_22 : decode cX7_shivers 22 = .ok (.ireturn, 1) := by decide +kernel
theorem dX7_shivers_23 : decode cX7_shivers 23 = .ok (.aload_n 0, 1) := by decide +kernel
theorem dX7_shivers_24 : decode cX7_shivers 24 = .ok (.invokevirtual 185, 3) := by decide +kernel
theorem dX7_shivers_27 : decode cX7_shivers 27 = .ok (.iconst 0, 1) := by decide +kernel
theorem dX7_shivers_28 : decode cX7_shivers 28 = .ok (.istore_n 2, 1) := by decide +kernel
theorem dX7_shivers_29 : decode cX7_shivers 29 = .ok (.aload_n 0, 1) := by decide +kernel
theorem dX7_shivers_30 : decode cX7_shivers 30 = .ok (.invokevirtual 195, 3) := by decide +kernel
theorem dX7_shivers_33 : decode cX7_shivers 33 = .ok (.istore_n 3, 1) := by decide +kernel
theorem dX7_shivers_34 : decode cX7_shivers 34 = .ok (.iload_n 3, 1) := by decide +kernel
theorem dX7_shivers_35 : decode cX7_shivers 35 = .ok (.ifCond .ge 24, 3) := by decide +kernel
theorem dX7_shivers_38 : decode cX7_shivers 38 = .ok (.iload_n 2, 1) := by decide +kernel
theorem dX7_shivers_39 : decode cX7_shivers 39 = .ok (.bipush 60, 2) := by decide +kernel
theorem dX7_shivers_41 : decode cX7_shivers 41 = .ok (.if_icmp .ge 18, 3) := by decide +kernel
theorem dX7_shivers_44 : decode cX7_shivers 44 = .ok (.aload_n 0, 1) := by decide +kernel
theorem dX7_shivers_45 : decode cX7_shivers 45 = .ok (.invokevirtual 159, 3) := by decide +kernel
theorem dX7_shivers_48 : decode cX7_shivers 48 = .ok (.iinc 2 1, 3) := by decide +kernel
theorem dX7_shivers_51 : decode cX7_shivers 51 = .ok (.aload_n 0, 1) := by decide +kernel
theorem dX7_shivers_52 : decode cX7_shivers 52 = .ok (.invokevirtual 195, 3) := by decide +kernel
theorem dX7_shivers_55 : decode cX7_shivers 55 = .ok (.istore_n 3, 1) := by decide +kernel
theorem dX7_shivers_56 : decode cX7_shivers 56 = .ok (.goto (-22), 3) := by decide +kernel
theorem dX7_shivers_59 : decode cX7_shivers 59 = .ok (.aload_n 0, 1) := by decide +kernel
theorem dX7_shivers_60 : decode cX7_shivers 60 = .ok (.invokevirtual 192, 3) := by decide +kernel
theorem dX7_shivers_63 : decode cX7_shivers 63 = .ok (.iload_n 3, 1) := by decide +kernel
theorem dX7_shivers_64 : decode cX7_shivers 64 = .ok (.ifCond .ge 8, 3) := by decide +kernel
theorem dX7_shivers_67 : decode cX7_shivers 67 = .ok (.ldc 198, 2) := by decide +kernel
theorem dX7_shivers_69 : decode cX7_shivers 69 = .ok (.goto 12, 3) := by decide +kernel
theorem dX7_shivers_72 : decode cX7_shivers 72 = .ok (.iload_n 1, 1) := by decide +kernel
theorem dX7_shivers_73 : decode cX7_shivers 73 = .ok (.ifCond .ne 7, 3) := by decide +kernel
theorem dX7_shivers_76 : decode cX7_shivers 76 = .ok (.iload_n 2, 1) := by decide +kernel
theorem dX7_shivers_77 : decode cX7_shivers 77 = .ok (.goto 4, 3) := by decide +kernel
theorem dX7_shivers_80 : decode cX7_shivers 80 = .ok (.iload_n 3, 1) := by decide +kernel
theorem dX7_shivers_81 : decode cX7_shivers 81 = .ok (.ireturn, 1) := by decide +kernel
theorem dX7_areRooms_0 : decode cX7_areRooms 0 = .ok (.iload_n 1, 1) := by decide +kernel
theorem dX7_areRooms_1 : decode cX7_areRooms 1 = .ok (.i2l, 1) := by decide +kernel
theorem dX7_areRooms_2 : decode cX7_areRooms 2 = .ok (.lconst 0, 1) := by decide +kernel
theorem dX7_areRooms_3 : decode cX7_areRooms 3 = .ok (.iconst 1, 1) := by decide +kernel
theorem dX7_areRooms_4 : decode cX7_areRooms 4 = .ok (.aload_n 0, 1) := by decide +kernel
theorem dX7_areRooms_5 : decode cX7_areRooms 5 = .ok (.getfield 19, 3) := by decide +kernel
theorem dX7_areRooms_8 : decode cX7_areRooms 8 = .ok (.iconst 0, 1) := by decide +kernel
theorem dX7_areRooms_9 : decode cX7_areRooms 9 = .ok (.iaload, 1) := by decide +kernel
theorem dX7_areRooms_10 : decode cX7_areRooms 10 = .ok (.ishl, 1) := by decide +kernel
theorem dX7_areRooms_11 : decode cX7_areRooms 11 = .ok (.iconst 1, 1) := by decide +kernel
theorem dX7_areRooms_12 : decode cX7_areRooms 12 = .ok (.isub, 1) := by decide +kernel
theorem dX7_areRooms_13 : decode cX7_areRooms 13 = .ok (.i2l, 1) := by decide +kernel
theorem dX7_areRooms_14 : decode cX7_areRooms 14 = .ok (.invokestatic 54, 3) := by decide +kernel
theorem dX7_areRooms_17 : decode cX7_areRooms 17 = .ok (.ireturn, 1) := by decide +kernel
theorem dX7_turn_0 : decode cX7_turn 0 = .ok (.iconst 0, 1) := by decide +kernel
theorem dX7_turn_1 : decode cX7_turn 1 = .ok (.istore_n 2, 1) := by decide +kernel
theorem dX7_turn_2 : decode cX7_turn 2 = .ok (.iload_n 2, 1) := by decide +kernel
theorem dX7_turn_3 : decode cX7_turn 3 = .ok (.aload_n 0, 1) := by decide +kernel
theorem dX7_turn_4 : decode cX7_turn 4 = .ok (.getfield 19, 3) := by decide +kernel
theorem dX7_turn_7 : decode cX7_turn 7 = .ok (.iconst 4, 1) := by decide +kernel
theorem dX7_turn_8 : decode cX7_turn 8 = .ok (.iaload, 1) := by decide +kernel
theorem dX7_turn_9 : decode cX7_turn 9 = .ok (.if_icmp .ge 49, 3) := by decide +kernel
theorem dX7_turn_12 : decode cX7_turn 12 = .ok (.aload_n 0, 1) := by decide +kernel
theorem dX7_turn_13 : decode cX7_turn 13 = .ok (.getfield 19, 3) := by decide +kernel
theorem dX7_turn_16 : decode cX7_turn 16 = .ok (.bipush 29, 2) := by decide +kernel
theorem dX7_turn_18 : decode cX7_turn 18 = .ok (.iload_n 2, 1) := by decide +kernel
theorem dX7_turn_19 : decode cX7_turn 19 = .ok (.iadd, 1) := by decide +kernel
theorem dX7_turn_20 : decode cX7_turn 20 = .ok (.iload_n 1, 1) := by decide +kernel
theorem dX7_turn_21 : decode cX7_turn 21 = .ok (.iload_n 2, 1) := by decide +kernel
theorem dX7_turn_22 : decode cX7_turn 22 = .ok (.invokestatic 199, 3) := by decide +kernel
theorem dX7_turn_25 : decode cX7_turn 25 = .ok (.ifCond .eq 17, 3) := by decide +kernel
theorem dX7_turn_28 : decode cX7_turn 28 = .ok (.iconst 1, 1) := by decide +kernel
theorem dX7_turn_29 : decode cX7_turn 29 = .ok (.aload_n 0, 1) := by decide +kernel
theorem dX7_turn_30 : decode cX7_turn 30 = .ok (.getfield 19, 3) := by decide +kernel
theorem dX7_turn_33 : decode cX7_turn 33 = .ok (.bipush 29, 2) := by decide +kernel
theorem dX7_turn_35 : decode cX7_turn 35 = .ok (.iload_n 2, 1) := by decide +kernel
theorem dX7_turn_36 : decode cX7_turn 36 = .ok (.iadd, 1) := by decide +kernel
theorem dX7_turn_37 : decode cX7_turn 37 = .ok (.iaload, 1) := by decide +kernel
theorem dX7_turn_38 : decode cX7_turn 38 = .ok (.isub, 1) := by decide +kernel
theorem dX7_turn_39 : decode cX7_turn 39 = .ok (.goto 12, 3) := by decide +kernel
theorem dX7_turn_42 : decode cX7_turn 42 = .ok (.aload_n 0, 1) := by decide +kernel
theorem dX7_turn_43 : decode cX7_turn 43 = .ok (.getfield 19, 3) := by decide +kernel
theorem dX7_turn_46 : decode cX7_turn 46 = .ok (.bipush 29, 2) := by decide +kernel
theorem dX7_turn_48 : decode cX7_turn 48 = .ok (.iload_n 2, 1) := by decide +kernel
theorem dX7_turn_49 : decode cX7_turn 49 = .ok (.iadd, 1) := by decide +kernel
theorem dX7_turn_50 : decode cX7_turn 50 = .ok (.iaload, 1) := by decide +kernel
theorem dX7_turn_51 : decode cX7_turn 51 = .ok (.iastore, 1) := by decide +kernel
theorem dX7_turn_52 : decode cX7_turn 52 = .ok (.iinc 2 1, 3) := by decide +kernel
theorem dX7_turn_55 : decode cX7_turn 55 = .ok (.goto (-53), 3) := by decide +kernel
theorem dX7_turn_58 : decode cX7_turn 58 = .ok (.return_, 1) := by decide +kernel
theorem dX7_coldRooms_0 : decode cX7_coldRooms 0 = .ok (.iconst 0, 1) := by decide +kernel
theorem dX7_coldRooms_1 : decode cX7_coldRooms 1 = .ok (.istore_n 2, 1) := by decide +kernel
theorem dX7_coldRooms_2 : decode cX7_coldRooms 2 = .ok (.iconst 0, 1) := by decide +kernel
theorem dX7_coldRooms_3 : decode cX7_coldRooms 3 = .ok (.istore_n 3, 1) := by decide +kernel
theorem dX7_coldRooms_4 : decode cX7_coldRooms 4 = .ok (.iload_n 3, 1) := by decide +kernel
theorem dX7_coldRooms_5 : decode cX7_coldRooms 5 = .ok (.aload_n 0, 1) := by decide +kernel
theorem dX7_coldRooms_6 : decode cX7_coldRooms 6 = .ok (.getfield 19, 3) := by decide +kernel
theorem dX7_coldRooms_9 : decode cX7_coldRooms 9 = .ok (.iconst 0, 1) := by decide +kernel
theorem dX7_coldRooms_10 : decode cX7_coldRooms 10 = .ok (.iaload, 1) := by decide +kernel
theorem dX7_coldRooms_11 : decode cX7_coldRooms 11 = .ok (.if_icmp .ge 32, 3) := by decide +kernel
theorem dX7_coldRooms_14 : decode cX7_coldRooms 14 = .ok (.iload_n 2, 1) := by decide +kernel
theorem dX7_coldRooms_15 : decode cX7_coldRooms 15 = .ok (.aload_n 0, 1) := by decide +kernel
theorem dX7_coldRooms_16 : decode cX7_coldRooms 16 = .ok (.getfield 19, 3) := by decide +kernel
theorem dX7_coldRooms_19 : decode cX7_coldRooms 19 = .ok (.bipush 7, 2) := by decide +kernel
theorem dX7_coldRooms_21 : decode cX7_coldRooms 21 = .ok (.iload_n 3, 1) := by decide +kernel
theorem dX7_coldRooms_22 : decode cX7_coldRooms 22 = .ok (.iadd, 1) := by decide +kernel
theorem dX7_coldRooms_23 : decode cX7_coldRooms 23 = .ok (.iaload, 1) := by decide +kernel
theorem dX7_coldRooms_24 : decode cX7_coldRooms 24 = .ok (.iload_n 1, 1) := by decide +kernel
theorem dX7_coldRooms_25 : decode cX7_coldRooms 25 = .ok (.if_icmp .lt 9, 3) := by decide +kernel
theorem dX7_coldRooms_28 : decode cX7_coldRooms 28 = .ok (.iconst 1, 1) := by decide +kernel
theorem dX7_coldRooms_29 : decode cX7_coldRooms 29 = .ok (.iload_n 3, 1) := by decide +kernel
theorem dX7_coldRooms_30 : decode cX7_coldRooms 30 = .ok (.ishl, 1) := by decide +kernel
theorem dX7_coldRooms_31 : decode cX7_coldRooms 31 = .ok (.goto 4, 3) := by decide +kernel
theorem dX7_coldRooms_34 : decode cX7_coldRooms 34 = .ok (.iconst 0, 1) := by decide +kernel
theorem dX7_coldRooms_35 : decode cX7_coldRooms 35 = .ok (.ior, 1) := by decide +kernel
theorem dX7_coldRooms_36 : decode cX7_coldRooms 36 = .ok (.istore_n 2, 1) := by decide +kernel
theorem dX7_coldRooms_37 : decode cX7_coldRooms 37 = .ok (.iinc 3 1, 3) := by decide +kernel
theorem dX7_coldRooms_40 : decode cX7_coldRooms 40 = .ok (.goto (-36), 3) := by decide +kernel
theorem dX7_coldRooms_43 : decode cX7_coldRooms 43 = .ok (.iload_n 2, 1) := by decide +kernel
theorem dX7_coldRooms_44 : decode cX7_coldRooms 44 = .ok (.ireturn, 1) := by decide +kernel
theorem dX7_moved_0 : decode cX7_moved 0 = .ok (.aload_n 0, 1) := by decide +kernel
theorem dX7_moved_1 : decode cX7_moved 1 = .ok (.getfield 135, 3) := by decide +kernel
theorem dX7_moved_4 : decode cX7_moved 4 = .ok (.ifCond .ne 6, 3) := by decide +kernel
theorem dX7_moved_7 : decode cX7_moved 7 = .ok (.ldc 142, 2) := by decide +kernel
theorem dX7_moved_9 : decode cX7_moved 9 = .ok (.ireturn, 1) := by decide +kernel
theorem dX7_moved_10 : decode cX7_moved 10 = .ok (.aload_n 0, 1) := by decide +kernel
theorem dX7_moved_11 : decode cX7_moved 11 = .ok (.iload_n 1, 1) := by decide +kernel
theorem dX7_moved_12 : decode cX7_moved 12 = .ok (.invokevirtual 203, 3) := by decide +kernel
theorem dX7_moved_15 : decode cX7_moved 15 = .ok (.ifCond .eq 53, 3) := by decide +kernel
theorem dX7_moved_18 : decode cX7_moved 18 = .ok (.aload_n 0, 1) := by decide +kernel
theorem dX7_moved_19 : decode cX7_moved 19 = .ok (.iload_n 2, 1) := by decide +kernel
theorem dX7_moved_20 : decode cX7_moved 20 = .ok (.invokevirtual 203, 3) := by decide +kernel
theorem dX7_moved_23 : decode cX7_moved 23 = .ok (.ifCond .eq 45, 3) := by decide +kernel
theorem dX7_moved_26 : decode cX7_moved 26 = .ok (.iload_n 1, 1) := by decide +kernel
theorem dX7_moved_27 : decode cX7_moved 27 = .ok (.iload_n 2, 1) := by decide +kernel
theorem dX7_moved_28 : decode cX7_moved 28 = .ok (.iand, 1) := by decide +kernel
theorem dX7_moved_29 : decode cX7_moved 29 = .ok (.ifCond .ne 39, 3) := by decide +kernel
theorem dX7_moved_32 : decode cX7_moved 32 = .ok (.iload_n 3, 1) := by decide +kernel
theorem dX7_moved_33 : decode cX7_moved 33 = .ok (.i2l, 1) := by decide +kernel
theorem dX7_moved_34 : decode cX7_moved 34 = .ok (.lconst 1, 1) := by decide +kernel
theorem dX7_moved_35 : decode cX7_moved 35 = .ok (.ldc2_w 206, 3) := by decide +kernel
theorem dX7_moved_38 : decode cX7_moved 38 = .ok (.invokestatic 54, 3) := by decide +kernel
theorem dX7_moved_41 : decode cX7_moved 41 = .ok (.ifCond .eq 27, 3) := by decide +kernel
theorem dX7_moved_44 : decode cX7_moved 44 = .ok (.iload 4, 2) := by decide +kernel
theorem dX7_moved_46 : decode cX7_moved 46 = .ok (.i2l, 1) := by decide +kernel
theorem dX7_moved_47 : decode cX7_moved 47 = .ok (.lconst 1, 1) := by decide +kernel
theorem dX7_moved_48 : decode cX7_moved 48 = .ok (.ldc2_w 154, 3) := by decide +kernel
theorem dX7_moved_51 : decode cX7_moved 51 = .ok (.invokestatic 54, 3) := by decide +kernel
theorem dX7_moved_54 : decode cX7_moved 54 = .ok (.ifCond .eq 14, 3) := by decide +kernel
theorem dX7_moved_57 : decode cX7_moved 57 = .ok (.iload 5, 2) := by decide +kernel
theorem dX7_moved_59 : decode cX7_moved 59 = .ok (.i2l, 1) := by decide +kernel
theorem dX7_moved_60 : decode cX7_moved 60 = .ok (.lconst 0, 1) := by decide +kernel
theorem dX7_moved_61 : decode cX7_moved 61 = .ok (.lconst 1, 1) := by decide +kernel
theorem dX7_moved_62 : decode cX7_moved 62 = .ok (.invokestatic 54, 3) := by decide +kernel
theorem dX7_moved_65 : decode cX7_moved 65 = .ok (.ifCond .ne 6, 3) := by decide +kernel
theorem dX7_moved_68 : decode cX7_moved 68 = .ok (.ldc 64, 2) := by decide +kernel
theorem dX7_moved_70 : decode cX7_moved 70 = .ok (.ireturn, 1) := by decide +kernel
theorem dX7_moved_71 : decode cX7_moved 71 = .ok (.aload_n 0, 1) := by decide +kernel
theorem dX7_moved_72 : decode cX7_moved 72 = .ok (.invokevirtual 185, 3) := by decide +kernel
theorem dX7_moved_75 : decode cX7_moved 75 = .ok (.iconst (-1), 1) := by decide +kernel
theorem dX7_moved_76 : decode cX7_moved 76 = .ok (.istore 6, 2) := by decide +kernel
theorem dX7_moved_78 : decode cX7_moved 78 = .ok (.iconst 0, 1) := by decide +kernel
theorem dX7_moved_79 : decode cX7_moved 79 = .ok (.istore 7, 2) := by decide +kernel
theorem dX7_moved_81 : decode cX7_moved 81 = .ok (.iload 7, 2) := by decide +kernel
theorem dX7_moved_83 : decode cX7_moved 83 = .ok (.iconst 1, 1) := by decide +kernel
theorem dX7_moved_84 : decode cX7_moved 84 = .ok (.aload_n 0, 1) := by decide +kernel
theorem dX7_moved_85 : decode cX7_moved 85 = .ok (.getfield 19, 3) := by decide +kernel
theorem dX7_moved_88 : decode cX7_moved 88 = .ok (.iconst 4, 1) := by decide +kernel
theorem dX7_moved_89 : decode cX7_moved 89 = .ok (.iaload, 1) := by decide +kernel
theorem dX7_moved_90 : decode cX7_moved 90 = .ok (.ishl, 1) := by decide +kernel
theorem dX7_moved_91 : decode cX7_moved 91 = .ok (.if_icmp .ge 75, 3) := by decide +kernel
theorem dX7_moved_94 : decode cX7_moved 94 = .ok (.iload 6, 2) := by decide +kernel
theorem dX7_moved_96 : decode cX7_moved 96 = .ok (.ifCond .lt 16, 3) := by decide +kernel
theorem dX7_moved_99 : decode cX7_moved 99 = .ok (.iload 7, 2) := by decide +kernel
theorem dX7_moved_101 : decode cX7_moved 101 = .ok (.invokestatic 208, 3) := by decide +kernel
theorem dX7_moved_104 : decode cX7_moved 104 = .ok (.iload 6, 2) := by decide +kernel
theorem dX7_moved_106 : decode cX7_moved 106 = .ok (.invokestatic 208, 3) := by decide +kernel
theorem dX7_moved_109 : decode cX7_moved 109 = .ok (.if_icmp .ge 51, 3) := by decide +kernel
theorem dX7_moved_112 : decode cX7_moved 112 = .ok (.aload_n 0, 1) := by decide +kernel
theorem dX7_moved_113 : decode cX7_moved 113 = .ok (.iload 7, 2) := by decide +kernel
theorem dX7_moved_115 : decode cX7_moved 115 = .ok (.invokevirtual 211, 3) := by decide +kernel
theorem dX7_moved_118 : decode cX7_moved 118 = .ok (.aload_n 0, 1) := by decide +kernel
theorem dX7_moved_119 : decode cX7_moved 119 = .ok (.iload 4, 2) := by decide +kernel
theorem dX7_moved_121 : decode cX7_moved 121 = .ok (.invokevirtual 188, 3) := by decide +kernel
theorem dX7_moved_124 : decode cX7_moved 124 = .ok (.aload_n 0, 1) := by decide +kernel
theorem dX7_moved_125 : decode cX7_moved 125 = .ok (.iload_n 3, 1) := by decide +kernel
theorem dX7_moved_126 : decode cX7_moved 126 = .ok (.invokevirtual 214, 3) := by decide +kernel
theorem dX7_moved_129 : decode cX7_moved 129 = .ok (.istore 8, 2) := by decide +kernel
theorem dX7_moved_131 : decode cX7_moved 131 = .ok (.iload_n 1, 1) := by decide +kernel
theorem dX7_moved_132 : decode cX7_moved 132 = .ok (.iload 8, 2) := by decide +kernel
theorem dX7_moved_134 : decode cX7_moved 134 = .ok (.iconst (-1), 1) := by decide +kernel
theorem dX7_moved_135 : decode cX7_moved 135 = .ok (.ixor, 1) := by decide +kernel
theorem dX7_moved_136 : decode cX7_moved 136 = .ok (.iand, 1) := by decide +kernel
theorem dX7_moved_137 : decode cX7_moved 137 = .ok (.ifCond .ne 15, 3) := by decide +kernel
theorem dX7_moved_140 : decode cX7_moved 140 = .ok (.iload_n 2, 1) := by decide +kernel
theorem dX7_moved_141 : decode cX7_moved 141 = .ok (.iload 8, 2) := by decide +kernel
theorem dX7_moved_143 : decode cX7_moved 143 = .ok (.iand, 1) := by decide +kernel
theorem dX7_moved_144 : decode cX7_moved 144 = .ok (.ifCond .ne 8, 3) := by decide +kernel
theorem dX7_moved_147 : decode cX7_moved 147 = .ok (.iload 7, 2) := by decide +kernel
theorem dX7_moved_149 : decode cX7_moved 149 = .ok (.goto 5, 3) := by decide +kernel
theorem dX7_moved_152 : decode cX7_moved 152 = .ok (.iload 6, 2) := by decide +kernel
theorem dX7_moved_154 : decode cX7_moved 154 = .ok (.istore 6, 2) := by decide +kernel
theorem dX7_moved_156 : decode cX7_moved 156 = .ok (.aload_n 0, 1) := by decide +kernel
theorem dX7_moved_157 : decode cX7_moved 157 = .ok (.invokevirtual 192, 3) := by decide +kernel
theorem dX7_moved_160 : decode cX7_moved 160 = .ok (.iinc 7 1, 3) := by decide +kernel
theorem dX7_moved_163 : decode cX7_moved 163 = .ok (.goto (-82), 3) := by decide +kernel
theorem dX7_moved_166 : decode cX7_moved 166 = .ok (.iload 6, 2) := by decide +kernel
theorem dX7_moved_168 : decode cX7_moved 168 = .ok (.ifCond .ge 8, 3) := by decide +kernel
theorem dX7_moved_171 : decode cX7_moved 171 = .ok (.ldc 198, 2) := by decide +kernel
theorem dX7_moved_173 : decode cX7_moved 173 = .ok (.goto 18, 3) := by decide +kernel
theorem dX7_moved_176 : decode cX7_moved 176 = .ok (.iload 5, 2) := by decide +kernel
theorem dX7_moved_178 : decode cX7_moved 178 = .ok (.ifCond .ne 11, 3) := by decide +kernel
theorem dX7_moved_181 : decode cX7_moved 181 = .ok (.iload 6, 2) := by decide +kernel
theorem dX7_moved_183 : decode cX7_moved 183 = .ok (.invokestatic 208, 3) := by decide +kernel
theorem dX7_moved_186 : decode cX7_moved 186 = .ok (.goto 5, 3) := by decide +kernel
theorem dX7_moved_189 : decode cX7_moved 189 = .ok (.iload 6, 2) := by decide +kernel
theorem dX7_moved_191 : decode cX7_moved 191 = .ok (.ireturn, 1) := by decide +kernel
theorem dX7_sitWhere_0 : decode cX7_sitWhere 0 = .ok (.aload_n 0, 1) := by decide +kernel
theorem dX7_sitWhere_1 : decode cX7_sitWhere 1 = .ok (.iload_n 1, 1) := by decide +kernel
theorem dX7_sitWhere_2 : decode cX7_sitWhere 2 = .ok (.invokevirtual 172, 3) := by decide +kernel
theorem dX7_sitWhere_5 : decode cX7_sitWhere 5 = .ok (.ifCond .eq 34, 3) := by decide +kernel
theorem dX7_sitWhere_8 : decode cX7_sitWhere 8 = .ok (.aload_n 0, 1) := by decide +kernel
theorem dX7_sitWhere_9 : decode cX7_sitWhere 9 = .ok (.iload_n 2, 1) := by decide +kernel
theorem dX7_sitWhere_10 : decode cX7_sitWhere 10 = .ok (.invokevirtual 175, 3) := by decide +kernel
theorem dX7_sitWhere_13 : decode cX7_sitWhere 13 = .ok (.ifCond .eq 26, 3) := by decide +kernel
theorem dX7_sitWhere_16 : decode cX7_sitWhere 16 = .ok (.iload_n 3, 1) := by decide +kernel
theorem dX7_sitWhere_17 : decode cX7_sitWhere 17 = .ok (.i2l, 1) := by decide +kernel
theorem dX7_sitWhere_18 : decode cX7_sitWhere 18 = .ok (.lconst 1, 1) := by decide +kernel
theorem dX7_sitWhere_19 : decode cX7_sitWhere 19 = .ok (.ldc2_w 154, 3) := by decide +kernel
theorem dX7_sitWhere_22 : decode cX7_sitWhere 22 = .ok (.invokestatic 54, 3) := by decide +kernel
theorem dX7_sitWhere_25 : decode cX7_sitWhere 25 = .ok (.ifCond .eq 14, 3) := by decide +kernel
theorem dX7_sitWhere_28 : decode cX7_sitWhere 28 = .ok (.iload 4, 2) := by decide +kernel
theorem dX7_sitWhere_30 : decode cX7_sitWhere 30 = .ok (.i2l, 1) := by decide +kernel
theorem dX7_sitWhere_31 : decode cX7_sitWhere 31 = .ok (.lconst 0, 1) := by decide +kernel
theorem dX7_sitWhere_32 : decode cX7_sitWhere 32 = .ok (.lconst 1, 1) := by decide +kernel
theorem dX7_sitWhere_33 : decode cX7_sitWhere 33 = .ok (.invokestatic 54, 3) := by decide +kernel
theorem dX7_sitWhere_36 : decode cX7_sitWhere 36 = .ok (.ifCond .ne 6, 3) := by decide +kernel
theorem dX7_sitWhere_39 : decode cX7_sitWhere 39 = .ok (.ldc 64, 2) := by decide +kernel
theorem dX7_sitWhere_41 : decode cX7_sitWhere 41 = .ok (.ireturn, 1) := by decide +kernel
theorem dX7_sitWhere_42 : decode cX7_sitWhere 42 = .ok (.aload_n 0, 1) := by decide +kernel
theorem dX7_sitWhere_43 : decode cX7_sitWhere 43 = .ok (.invokevirtual 185, 3) := by decide +kernel
theorem dX7_sitWhere_46 : decode cX7_sitWhere 46 = .ok (.iconst (-1), 1) := by decide +kernel
theorem dX7_sitWhere_47 : decode cX7_sitWhere 47 = .ok (.istore 5, 2) := by decide +kernel
theorem dX7_sitWhere_49 : decode cX7_sitWhere 49 = .ok (.iconst 0, 1) := by decide +kernel
theorem dX7_sitWhere_50 : decode cX7_sitWhere 50 = .ok (.istore 6, 2) := by decide +kernel
theorem dX7_sitWhere_52 : decode cX7_sitWhere 52 = .ok (.iconst 0, 1) := by decide +kernel
theorem dX7_sitWhere_53 : decode cX7_sitWhere 53 = .ok (.istore 7, 2) := by decide +kernel
theorem dX7_sitWhere_55 : decode cX7_sitWhere 55 = .ok (.iload 7, 2) := by decide +kernel
theorem dX7_sitWhere_57 : decode cX7_sitWhere 57 = .ok (.aload_n 0, 1) := by decide +kernel
theorem dX7_sitWhere_58 : decode cX7_sitWhere 58 = .ok (.getfield 19, 3) := by decide +kernel
theorem dX7_sitWhere_61 : decode cX7_sitWhere 61 = .ok (.iconst 0, 1) := by decide +kernel
theorem dX7_sitWhere_62 : decode cX7_sitWhere 62 = .ok (.iaload, 1) := by decide +kernel
theorem dX7_sitWhere_63 : decode cX7_sitWhere 63 = .ok (.if_icmp .ge 60, 3) := by decide +kernel
theorem dX7_sitWhere_66 : decode cX7_sitWhere 66 = .ok (.aload_n 0, 1) := by decide +kernel
theorem dX7_sitWhere_67 : decode cX7_sitWhere 67 = .ok (.getfield 19, 3) := by decide +kernel
theorem dX7_sitWhere_70 : decode cX7_sitWhere 70 = .ok (.bipush 42, 2) := by decide +kernel
theorem dX7_sitWhere_72 : decode cX7_sitWhere 72 = .ok (.iload_n 1, 1) := by decide +kernel
theorem dX7_sitWhere_73 : decode cX7_sitWhere 73 = .ok (.iadd, 1) := by decide +kernel
theorem dX7_sitWhere_74 : decode cX7_sitWhere 74 = .ok (.iload 7, 2) := by decide +kernel
theorem dX7_sitWhere_76 : decode cX7_sitWhere 76 = .ok (.iastore, 1) := by decide +kernel
theorem dX7_sitWhere_77 : decode cX7_sitWhere 77 = .ok (.aload_n 0, 1) := by decide +kernel
theorem dX7_sitWhere_78 : decode cX7_sitWhere 78 = .ok (.iload_n 3, 1) := by decide +kernel
theorem dX7_sitWhere_79 : decode cX7_sitWhere 79 = .ok (.invokevirtual 188, 3) := by decide +kernel
theorem dX7_sitWhere_82 : decode cX7_sitWhere 82 = .ok (.aload_n 0, 1) := by decide +kernel
theorem dX7_sitWhere_83 : decode cX7_sitWhere 83 = .ok (.getfield 19, 3) := by decide +kernel
theorem dX7_sitWhere_86 : decode cX7_sitWhere 86 = .ok (.bipush 7, 2) := by decide +kernel
theorem dX7_sitWhere_88 : decode cX7_sitWhere 88 = .ok (.iload_n 2, 1) := by decide +kernel
theorem dX7_sitWhere_89 : decode cX7_sitWhere 89 = .ok (.iadd, 1) := by decide +kernel
theorem dX7_sitWhere_90 : decode cX7_sitWhere 90 = .ok (.iaload, 1) := by decide +kernel
theorem dX7_sitWhere_91 : decode cX7_sitWhere 91 = .ok (.istore 8, 2) := by decide +kernel
theorem dX7_sitWhere_93 : decode cX7_sitWhere 93 = .ok (.aload_n 0, 1) := by decide +kernel
theorem dX7_sitWhere_94 : decode cX7_sitWhere 94 = .ok (.invokevirtual 192, 3) := by decide +kernel
theorem dX7_sitWhere_97 : decode cX7_sitWhere 97 = .ok (.iload 5, 2) := by decide +kernel
theorem dX7_sitWhere_99 : decode cX7_sitWhere 99 = .ok (.ifCond .lt 10, 3) := by decide +kernel
theorem dX7_sitWhere_102 : decode cX7_sitWhere 102 = .ok (.iload 8, 2) := by decide +kernel
theorem dX7_sitWhere_104 : decode cX7_sitWhere 104 = .ok (.iload 6, 2) := by decide +kernel
theorem dX7_sitWhere_106 : decode cX7_sitWhere 106 = .ok (.if_icmp .ge 11, 3) := by decide +kernel
theorem dX7_sitWhere_109 : decode cX7_sitWhere 109 = .ok (.iload 7, 2) := by decide +kernel
theorem dX7_sitWhere_111 : decode cX7_sitWhere 111 = .ok (.istore 5, 2) := by decide +kernel
theorem dX7_sitWhere_113 : decode cX7_sitWhere 113 = .ok (.iload 8, 2) := by decide +kernel
theorem dX7_sitWhere_115 : decode cX7_sitWhere 115 = .ok (.istore 6, 2) := by decide +kernel
theorem dX7_sitWhere_117 : decode cX7_sitWhere 117 = .ok (.iinc 7 1, 3) := by decide +kernel
theorem dX7_sitWhere_120 : decode cX7_sitWhere 120 = .ok (.goto (-65), 3) := by decide +kernel
theorem dX7_sitWhere_123 : decode cX7_sitWhere 123 = .ok (.iload 4, 2) := by decide +kernel
theorem dX7_sitWhere_125 : decode cX7_sitWhere 125 = .ok (.ifCond .ne 8, 3) := by decide +kernel
theorem dX7_sitWhere_128 : decode cX7_sitWhere 128 = .ok (.iload 5, 2) := by decide +kernel
theorem dX7_sitWhere_130 : decode cX7_sitWhere 130 = .ok (.goto 5, 3) := by decide +kernel
theorem dX7_sitWhere_133 : decode cX7_sitWhere 133 = .ok (.iload 6, 2) := by decide +kernel
theorem dX7_sitWhere_135 : decode cX7_sitWhere 135 = .ok (.ireturn, 1) := by decide +kernel
theorem dX7_coldIn_0 : decode cX7_coldIn 0 = .ok (.iconst 0, 1) := by decide +kernel
theorem dX7_coldIn_1 : decode cX7_coldIn 1 = .ok (.istore_n 3, 1) := by decide +kernel
theorem dX7_coldIn_2 : decode cX7_coldIn 2 = .ok (.aload_n 0, 1) := by decide +kernel
theorem dX7_coldIn_3 : decode cX7_coldIn 3 = .ok (.getfield 19, 3) := by decide +kernel
theorem dX7_coldIn_6 : decode cX7_coldIn 6 = .ok (.bipush 7, 2) := by decide +kernel
theorem dX7_coldIn_8 : decode cX7_coldIn 8 = .ok (.iload_n 1, 1) := by decide +kernel
theorem dX7_coldIn_9 : decode cX7_coldIn 9 = .ok (.iadd, 1) := by decide +kernel
theorem dX7_coldIn_10 : decode cX7_coldIn 10 = .ok (.iaload, 1) := by decide +kernel
theorem dX7_coldIn_11 : decode cX7_coldIn 11 = .ok (.iload_n 2, 1) := by decide +kernel
theorem dX7_coldIn_12 : decode cX7_coldIn 12 = .ok (.if_icmp .ge 19, 3) := by decide +kernel
theorem dX7_coldIn_15 : decode cX7_coldIn 15 = .ok (.iload_n 3, 1) := by decide +kernel
theorem dX7_coldIn_16 : decode cX7_coldIn 16 = .ok (.bipush 40, 2) := by decide +kernel
theorem dX7_coldIn_18 : decode cX7_coldIn 18 = .ok (.if_icmp .gt 13, 3) := by decide +kernel
theorem dX7_coldIn_21 : decode cX7_coldIn 21 = .ok (.aload_n 0, 1) := by decide +kernel
theorem dX7_coldIn_22 : decode cX7_coldIn 22 = .ok (.invokevirtual 159, 3) := by decide +kernel
theorem dX7_coldIn_25 : decode cX7_coldIn 25 = .ok (.iinc 3 1, 3) := by decide +kernel
theorem dX7_coldIn_28 : decode cX7_coldIn 28 = .ok (.goto (-26), 3) := by decide +kernel
theorem dX7_coldIn_31 : decode cX7_coldIn 31 = .ok (.aload_n 0, 1) := by decide +kernel
theorem dX7_coldIn_32 : decode cX7_coldIn 32 = .ok (.invokevirtual 192, 3) := by decide +kernel
theorem dX7_coldIn_35 : decode cX7_coldIn 35 = .ok (.iload_n 3, 1) := by decide +kernel
theorem dX7_coldIn_36 : decode cX7_coldIn 36 = .ok (.ireturn, 1) := by decide +kernel
theorem dX7_led_0 : decode cX7_led 0 = .ok (.aload_n 0, 1) := by decide +kernel
theorem dX7_led_1 : decode cX7_led 1 = .ok (.getfield 135, 3) := by decide +kernel
theorem dX7_led_4 : decode cX7_led 4 = .ok (.ifCond .ne 6, 3) := by decide +kernel
theorem dX7_led_7 : decode cX7_led 7 = .ok (.ldc 142, 2) := by decide +kernel
theorem dX7_led_9 : decode cX7_led 9 = .ok (.ireturn, 1) := by decide +kernel
theorem dX7_led_10 : decode cX7_led 10 = .ok (.aload_n 0, 1) := by decide +kernel
theorem dX7_led_11 : decode cX7_led 11 = .ok (.iload_n 1, 1) := by decide +kernel
theorem dX7_led_12 : decode cX7_led 12 = .ok (.invokevirtual 175, 3) := by decide +kernel
theorem dX7_led_15 : decode cX7_led 15 = .ok (.ifCond .eq 25, 3) := by decide +kernel
theorem dX7_led_18 : decode cX7_led 18 = .ok (.iload_n 2, 1) := by decide +kernel
theorem dX7_led_19 : decode cX7_led 19 = .ok (.i2l, 1) := by decide +kernel
theorem dX7_led_20 : decode cX7_led 20 = .ok (.lconst 1, 1) := by decide +kernel
theorem dX7_led_21 : decode cX7_led 21 = .ok (.ldc2_w 206, 3) := by decide +kernel
theorem dX7_led_24 : decode cX7_led 24 = .ok (.invokestatic 54, 3) := by decide +kernel
theorem dX7_led_27 : decode cX7_led 27 = .ok (.ifCond .eq 13, 3) := by decide +kernel
theorem dX7_led_30 : decode cX7_led 30 = .ok (.iload_n 3, 1) := by decide +kernel
theorem dX7_led_31 : decode cX7_led 31 = .ok (.i2l, 1) := by decide +kernel
theorem dX7_led_32 : decode cX7_led 32 = .ok (.lconst 0, 1) := by decide +kernel
theorem dX7_led_33 : decode cX7_led 33 = .ok (.lconst 1, 1) := by decide +kernel
theorem dX7_led_34 : decode cX7_led 34 = .ok (.invokestatic 54, 3) := by decide +kernel
theorem dX7_led_37 : decode cX7_led 37 = .ok (.ifCond .ne 6, 3) := by decide +kernel
theorem dX7_led_40 : decode cX7_led 40 = .ok (.ldc 64, 2) := by decide +kernel
theorem dX7_led_42 : decode cX7_led 42 = .ok (.ireturn, 1) := by decide +kernel
theorem dX7_led_43 : decode cX7_led 43 = .ok (.aload_n 0, 1) := by decide +kernel
theorem dX7_led_44 : decode cX7_led 44 = .ok (.invokevirtual 185, 3) := by decide +kernel
theorem dX7_led_47 : decode cX7_led 47 = .ok (.aload_n 0, 1) := by decide +kernel
theorem dX7_led_48 : decode cX7_led 48 = .ok (.iload_n 1, 1) := by decide +kernel
theorem dX7_led_49 : decode cX7_led 49 = .ok (.iload_n 2, 1) := by decide +kernel
theorem dX7_led_50 : decode cX7_led 50 = .ok (.invokevirtual 217, 3) := by decide +kernel
theorem dX7_led_53 : decode cX7_led 53 = .ok (.istore 4, 2) := by decide +kernel
theorem dX7_led_55 : decode cX7_led 55 = .ok (.ldc 198, 2) := by decide +kernel
theorem dX7_led_57 : decode cX7_led 57 = .ok (.istore 5, 2) := by decide +kernel
theorem dX7_led_59 : decode cX7_led 59 = .ok (.iconst 0, 1) := by decide +kernel
theorem dX7_led_60 : decode cX7_led 60 = .ok (.istore 6, 2) := by decide +kernel
theorem dX7_led_62 : decode cX7_led 62 = .ok (.iload 6, 2) := by decide +kernel
theorem dX7_led_64 : decode cX7_led 64 = .ok (.aload_n 0, 1) := by decide +kernel
theorem dX7_led_65 : decode cX7_led 65 = .ok (.getfield 19, 3) := by decide +kernel
theorem dX7_led_68 : decode cX7_led 68 = .ok (.iconst 5, 1) := by decide +kernel
theorem dX7_led_69 : decode cX7_led 69 = .ok (.iaload, 1) := by decide +kernel
theorem dX7_led_70 : decode cX7_led 70 = .ok (.aload_n 0, 1) := by decide +kernel
theorem dX7_led_71 : decode cX7_led 71 = .ok (.getfield 19, 3) := by decide +kernel
theorem dX7_led_74 : decode cX7_led 74 = .ok (.iconst 0, 1) := by decide +kernel
theorem dX7_led_75 : decode cX7_led 75 = .ok (.iaload, 1) := by decide +kernel
theorem dX7_led_76 : decode cX7_led 76 = .ok (.imul, 1) := by decide +kernel
theorem dX7_led_77 : decode cX7_led 77 = .ok (.if_icmp .ge 78, 3) := by decide +kernel
theorem dX7_led_80 : decode cX7_led 80 = .ok (.aload_n 0, 1) := by decide +kernel
theorem dX7_led_81 : decode cX7_led 81 = .ok (.getfield 19, 3) := by decide +kernel
theorem dX7_led_84 : decode cX7_led 84 = .ok (.bipush 42, 2) := by decide +kernel
theorem dX7_led_86 : decode cX7_led 86 = .ok (.iload 6, 2) := by decide +kernel
theorem dX7_led_88 : decode cX7_led 88 = .ok (.aload_n 0, 1) := by decide +kernel
theorem dX7_led_89 : decode cX7_led 89 = .ok (.getfield 19, 3) := by decide +kernel
theorem dX7_led_92 : decode cX7_led 92 = .ok (.iconst 0, 1) := by decide +kernel
theorem dX7_led_93 : decode cX7_led 93 = .ok (.iaload, 1) := by decide +kernel
theorem dX7_led_94 : decode cX7_led 94 = .ok (.idiv, 1) := by decide +kernel
theorem dX7_led_95 : decode cX7_led 95 = .ok (.iadd, 1) := by decide +kernel
theorem dX7_led_96 : decode cX7_led 96 = .ok (.iload 6, 2) := by decide +kernel
theorem dX7_led_98 : decode cX7_led 98 = .ok (.aload_n 0, 1) := by decide +kernel
theorem dX7_led_99 : decode cX7_led 99 = .ok (.getfield 19, 3) := by decide +kernel
theorem dX7_led_102 : decode cX7_led 102 = .ok (.iconst 0, 1) := by decide +kernel
theorem dX7_led_103 : decode cX7_led 103 = .ok (.iaload, 1) := by decide +kernel
theorem dX7_led_104 : decode cX7_led 104 = .ok (.irem, 1) := by decide +kernel
theorem dX7_led_105 : decode cX7_led 105 = .ok (.iastore, 1) := by decide +kernel
theorem dX7_led_106 : decode cX7_led 106 = .ok (.aload_n 0, 1) := by decide +kernel
theorem dX7_led_107 : decode cX7_led 107 = .ok (.iload_n 1, 1) := by decide +kernel
theorem dX7_led_108 : decode cX7_led 108 = .ok (.iload_n 2, 1) := by decide +kernel
theorem dX7_led_109 : decode cX7_led 109 = .ok (.invokevirtual 217, 3) := by decide +kernel
theorem dX7_led_112 : decode cX7_led 112 = .ok (.istore 7, 2) := by decide +kernel
theorem dX7_led_114 : decode cX7_led 114 = .ok (.iload 7, 2) := by decide +kernel
theorem dX7_led_116 : decode cX7_led 116 = .ok (.iload 4, 2) := by decide +kernel
theorem dX7_led_118 : decode cX7_led 118 = .ok (.if_icmp .ge 31, 3) := by decide +kernel
theorem dX7_led_121 : decode cX7_led 121 = .ok (.iload 7, 2) := by decide +kernel
theorem dX7_led_123 : decode cX7_led 123 = .ok (.istore 4, 2) := by decide +kernel
theorem dX7_led_125 : decode cX7_led 125 = .ok (.bipush 10, 2) := by decide +kernel
theorem dX7_led_127 : decode cX7_led 127 = .ok (.iload 6, 2) := by decide +kernel
theorem dX7_led_129 : decode cX7_led 129 = .ok (.aload_n 0, 1) := by decide +kernel
theorem dX7_led_130 : decode cX7_led 130 = .ok (.getfield 19, 3) := by decide +kernel
theorem dX7_led_133 : decode cX7_led 133 = .ok (.iconst 0, 1) := by decide +kernel
theorem dX7_led_134 : decode cX7_led 134 = .ok (.iaload, 1) := by decide +kernel
theorem dX7_led_135 : decode cX7_led 135 = .ok (.idiv, 1) := by decide +kernel
theorem dX7_led_136 : decode cX7_led 136 = .ok (.imul, 1) := by decide +kernel
theorem dX7_led_137 : decode cX7_led 137 = .ok (.iload 6, 2) := by decide +kernel
theorem dX7_led_139 : decode cX7_led 139 = .ok (.aload_n 0, 1) := by decide +kernel
theorem dX7_led_140 : decode cX7_led 140 = .ok (.getfield 19, 3) := by decide +kernel
theorem dX7_led_143 : decode cX7_led 143 = .ok (.iconst 0, 1) := by decide +kernel
theorem dX7_led_144 : decode cX7_led 144 = .ok (.iaload, 1) := by decide +kernel
theorem dX7_led_145 : decode cX7_led 145 = .ok (.irem, 1) := by decide +kernel
theorem dX7_led_146 : decode cX7_led 146 = .ok (.iadd, 1) := by decide +kernel
theorem dX7_led_147 : decode cX7_led 147 = .ok (.istore 5, 2) := by decide +kernel
theorem dX7_led_149 : decode cX7_led 149 = .ok (.iinc 6 1, 3) := by decide +kernel
theorem dX7_led_152 : decode cX7_led 152 = .ok (.goto (-90), 3) := by decide +kernel
theorem dX7_led_155 : decode cX7_led 155 = .ok (.iload 4, 2) := by decide +kernel
theorem dX7_led_157 : decode cX7_led 157 = .ok (.bipush 40, 2) := by decide +kernel
theorem dX7_led_159 : decode cX7_led 159 = .ok (.if_icmp .le 8, 3) := by decide +kernel
theorem dX7_led_162 : decode cX7_led 162 = .ok (.ldc 198, 2) := by decide +kernel
theorem dX7_led_164 : decode cX7_led 164 = .ok (.goto 14, 3) := by decide +kernel
theorem dX7_led_167 : decode cX7_led 167 = .ok (.iload_n 3, 1) := by decide +kernel
theorem dX7_led_168 : decode cX7_led 168 = .ok (.ifCond .ne 8, 3) := by decide +kernel
theorem dX7_led_171 : decode cX7_led 171 = .ok (.iload 4, 2) := by decide +kernel
theorem dX7_led_173 : decode cX7_led 173 = .ok (.goto 5, 3) := by decide +kernel
theorem dX7_led_176 : decode cX7_led 176 = .ok (.iload 5, 2) := by decide +kernel
theorem dX7_led_178 : decode cX7_led 178 = .ok (.ireturn, 1) := by decide +kernel
theorem dX7_lacks_0 : decode cX7_lacks 0 = .ok (.aload_n 0, 1) := by decide +kernel
theorem dX7_lacks_1 : decode cX7_lacks 1 = .ok (.getfield 13, 3) := by decide +kernel
theorem dX7_lacks_4 : decode cX7_lacks 4 = .ok (.iload_n 1, 1) := by decide +kernel
theorem dX7_lacks_5 : decode cX7_lacks 5 = .ok (.iaload, 1) := by decide +kernel
theorem dX7_lacks_6 : decode cX7_lacks 6 = .ok (.ifCond .ge 9, 3) := by decide +kernel
theorem dX7_lacks_9 : decode cX7_lacks 9 = .ok (.aload_n 0, 1) := by decide +kernel
theorem dX7_lacks_10 : decode cX7_lacks 10 = .ok (.iconst 1, 1) := by decide +kernel
theorem dX7_lacks_11 : decode cX7_lacks 11 = .ok (.invokevirtual 65, 3) := by decide +kernel
theorem dX7_lacks_14 : decode cX7_lacks 14 = .ok (.ireturn, 1) := by decide +kernel
theorem dX7_lacks_15 : decode cX7_lacks 15 = .ok (.iload_n 2, 1) := by decide +kernel
theorem dX7_lacks_16 : decode cX7_lacks 16 = .ok (.i2l, 1) := by decide +kernel
theorem dX7_lacks_17 : decode cX7_lacks 17 = .ok (.lconst 0, 1) := by decide +kernel
theorem dX7_lacks_18 : decode cX7_lacks 18 = .ok (.aload_n 0, 1) := by decide +kernel
theorem dX7_lacks_19 : decode cX7_lacks 19 = .ok (.getfield 13, 3) := by decide +kernel
theorem dX7_lacks_22 : decode cX7_lacks 22 = .ok (.iload_n 1, 1) := by decide +kernel
theorem dX7_lacks_23 : decode cX7_lacks 23 = .ok (.iaload, 1) := by decide +kernel
theorem dX7_lacks_24 : decode cX7_lacks 24 = .ok (.iload_n 3, 1) := by decide +kernel
theorem dX7_lacks_25 : decode cX7_lacks 25 = .ok (.isub, 1) := by decide +kernel
theorem dX7_lacks_26 : decode cX7_lacks 26 = .ok (.i2l, 1) := by decide +kernel
theorem dX7_lacks_27 : decode cX7_lacks 27 = .ok (.invokestatic 54, 3) := by decide +kernel
theorem dX7_lacks_30 : decode cX7_lacks 30 = .ok (.ifCond .eq 7, 3) := by decide +kernel
theorem dX7_lacks_33 : decode cX7_lacks 33 = .ok (.iconst 0, 1) := by decide +kernel
theorem dX7_lacks_34 : decode cX7_lacks 34 = .ok (.goto 8, 3) := by decide +kernel
theorem dX7_lacks_37 : decode cX7_lacks 37 = .ok (.aload_n 0, 1) := by decide +kernel
theorem dX7_lacks_38 : decode cX7_lacks 38 = .ok (.iconst 2, 1) := by decide +kernel
theorem dX7_lacks_39 : decode cX7_lacks 39 = .ok (.invokevirtual 65, 3) := by decide +kernel
theorem dX7_lacks_42 : decode cX7_lacks 42 = .ok (.ireturn, 1) := by decide +kernel
theorem dX7_isSo_0 : decode cX7_isSo 0 = .ok (.iconst 1, 1) := by decide +kernel
theorem dX7_isSo_1 : decode cX7_isSo 1 = .ok (.istore_n 3, 1) := by decide +kernel
theorem dX7_isSo_2 : decode cX7_isSo 2 = .ok (.iconst 0, 1) := by decide +kernel
theorem dX7_isSo_3 : decode cX7_isSo 3 = .ok (.istore 4, 2) := by decide +kernel
theorem dX7_isSo_5 : decode cX7_isSo 5 = .ok (.iload 4, 2) := by decide +kernel
theorem dX7_isSo_7 : decode cX7_isSo 7 = .ok (.iload_n 2, 1) := by decide +kernel
theorem dX7_isSo_8 : decode cX7_isSo 8 = .ok (.aload_n 0, 1) := by decide +kernel
theorem dX7_isSo_9 : decode cX7_isSo 9 = .ok (.getfield 19, 3) := by decide +kernel
theorem dX7_isSo_12 : decode cX7_isSo 12 = .ok (.iconst 0, 1) := by decide +kernel
theorem dX7_isSo_13 : decode cX7_isSo 13 = .ok (.iaload, 1) := by decide +kernel
theorem dX7_isSo_14 : decode cX7_isSo 14 = .ok (.imul, 1) := by decide +kernel
theorem dX7_isSo_15 : decode cX7_isSo 15 = .ok (.if_icmp .ge 64, 3) := by decide +kernel
theorem dX7_isSo_18 : decode cX7_isSo 18 = .ok (.iload 4, 2) := by decide +kernel
theorem dX7_isSo_20 : decode cX7_isSo 20 = .ok (.aload_n 0, 1) := by decide +kernel
theorem dX7_isSo_21 : decode cX7_isSo 21 = .ok (.getfield 19, 3) := by decide +kernel
theorem dX7_isSo_24 : decode cX7_isSo 24 = .ok (.iconst 0, 1) := by decide +kernel
theorem dX7_isSo_25 : decode cX7_isSo 25 = .ok (.iaload, 1) := by decide +kernel
theorem dX7_isSo_26 : decode cX7_isSo 26 = .ok (.irem, 1) := by decide +kernel
theorem dX7_isSo_27 : decode cX7_isSo 27 = .ok (.ifCond .ne 7, 3) := by decide +kernel
theorem dX7_isSo_30 : decode cX7_isSo 30 = .ok (.aload_n 0, 1) := by decide +kernel
theorem dX7_isSo_31 : decode cX7_isSo 31 = .ok (.invokevirtual 159, 3) := by decide +kernel
theorem dX7_isSo_34 : decode cX7_isSo 34 = .ok (.iload_n 3, 1) := by decide +kernel
theorem dX7_isSo_35 : decode cX7_isSo 35 = .ok (.ifCond .eq 36, 3) := by decide +kernel
theorem dX7_isSo_38 : decode cX7_isSo 38 = .ok (.aload_n 0, 1) := by decide +kernel
theorem dX7_isSo_39 : decode cX7_isSo 39 = .ok (.getfield 16, 3) := by decide +kernel
theorem dX7_isSo_42 : decode cX7_isSo 42 = .ok (.iload_n 1, 1) := by decide +kernel
theorem dX7_isSo_43 : decode cX7_isSo 43 = .ok (.iload 4, 2) := by decide +kernel
theorem dX7_isSo_45 : decode cX7_isSo 45 = .ok (.iadd, 1) := by decide +kernel
theorem dX7_isSo_46 : decode cX7_isSo 46 = .ok (.iaload, 1) := by decide +kernel
theorem dX7_isSo_47 : decode cX7_isSo 47 = .ok (.aload_n 0, 1) := by decide +kernel
theorem dX7_isSo_48 : decode cX7_isSo 48 = .ok (.getfield 19, 3) := by decide +kernel
theorem dX7_isSo_51 : decode cX7_isSo 51 = .ok (.bipush 7, 2) := by decide +kernel
theorem dX7_isSo_53 : decode cX7_isSo 53 = .ok (.iload 4, 2) := by decide +kernel
theorem dX7_isSo_55 : decode cX7_isSo 55 = .ok (.aload_n 0, 1) := by decide +kernel
theorem dX7_isSo_56 : decode cX7_isSo 56 = .ok (.getfield 19, 3) := by decide +kernel
theorem dX7_isSo_59 : decode cX7_isSo 59 = .ok (.iconst 0, 1) := by decide +kernel
theorem dX7_isSo_60 : decode cX7_isSo 60 = .ok (.iaload, 1) := by decide +kernel
theorem dX7_isSo_61 : decode cX7_isSo 61 = .ok (.irem, 1) := by decide +kernel
theorem dX7_isSo_62 : decode cX7_isSo 62 = .ok (.iadd, 1) := by decide +kernel
theorem dX7_isSo_63 : decode cX7_isSo 63 = .ok (.iaload, 1) := by decide +kernel
theorem dX7_isSo_64 : decode cX7_isSo 64 = .ok (.if_icmp .ne 7, 3) := by decide +kernel
theorem dX7_isSo_67 : decode cX7_isSo 67 = .ok (.iconst 1, 1) := by decide +kernel
theorem dX7_isSo_68 : decode cX7_isSo 68 = .ok (.goto 4, 3) := by decide +kernel
theorem dX7_isSo_71 : decode cX7_isSo 71 = .ok (.iconst 0, 1) := by decide +kernel
theorem dX7_isSo_72 : decode cX7_isSo 72 = .ok (.istore_n 3, 1) := by decide +kernel
theorem dX7_isSo_73 : decode cX7_isSo 73 = .ok (.iinc 4 1, 3) := by decide +kernel
theorem dX7_isSo_76 : decode cX7_isSo 76 = .ok (.goto (-71), 3) := by decide +kernel
theorem dX7_isSo_79 : decode cX7_isSo 79 = .ok (.aload_n 0, 1) := by decide +kernel
theorem dX7_isSo_80 : decode cX7_isSo 80 = .ok (.invokevirtual 192, 3) := by decide +kernel
theorem dX7_isSo_83 : decode cX7_isSo 83 = .ok (.iload_n 3, 1) := by decide +kernel
theorem dX7_isSo_84 : decode cX7_isSo 84 = .ok (.ireturn, 1) := by decide +kernel
theorem dX7_came_0 : decode cX7_came 0 = .ok (.aload_n 0, 1) := by decide +kernel
theorem dX7_came_1 : decode cX7_came 1 = .ok (.getfield 135, 3) := by decide +kernel
theorem dX7_came_4 : decode cX7_came 4 = .ok (.ifCond .ne 6, 3) := by decide +kernel
theorem dX7_came_7 : decode cX7_came 7 = .ok (.ldc 142, 2) := by decide +kernel
theorem dX7_came_9 : decode cX7_came 9 = .ok (.ireturn, 1) := by decide +kernel
theorem dX7_came_10 : decode cX7_came 10 = .ok (.iload_n 1, 1) := by decide +kernel
theorem dX7_came_11 : decode cX7_came 11 = .ok (.invokestatic 58, 3) := by decide +kernel
theorem dX7_came_14 : decode cX7_came 14 = .ok (.ifCond .eq 15, 3) := by decide +kernel
theorem dX7_came_17 : decode cX7_came 17 = .ok (.iload_n 3, 1) := by decide +kernel
theorem dX7_came_18 : decode cX7_came 18 = .ok (.i2l, 1) := by decide +kernel
theorem dX7_came_19 : decode cX7_came 19 = .ok (.lconst 1, 1) := by decide +kernel
theorem dX7_came_20 : decode cX7_came 20 = .ok (.ldc2_w 220, 3) := by decide +kernel
theorem dX7_came_23 : decode cX7_came 23 = .ok (.invokestatic 54, 3) := by decide +kernel
theorem dX7_came_26 : decode cX7_came 26 = .ok (.ifCond .ne 6, 3) := by decide +kernel
theorem dX7_came_29 : decode cX7_came 29 = .ok (.ldc 64, 2) := by decide +kernel
theorem dX7_came_31 : decode cX7_came 31 = .ok (.ireturn, 1) := by decide +kernel
theorem dX7_came_32 : decode cX7_came 32 = .ok (.aload_n 0, 1) := by decide +kernel
theorem dX7_came_33 : decode cX7_came 33 = .ok (.iload_n 1, 1) := by decide +kernel
theorem dX7_came_34 : decode cX7_came 34 = .ok (.iload_n 2, 1) := by decide +kernel
theorem dX7_came_35 : decode cX7_came 35 = .ok (.iload_n 3, 1) := by decide +kernel
theorem dX7_came_36 : decode cX7_came 36 = .ok (.aload_n 0, 1) := by decide +kernel
theorem dX7_came_37 : decode cX7_came 37 = .ok (.getfield 19, 3) := by decide +kernel
theorem dX7_came_40 : decode cX7_came 40 = .ok (.iconst 0, 1) := by decide +kernel
theorem dX7_came_41 : decode cX7_came 41 = .ok (.iaload, 1) := by decide +kernel
theorem dX7_came_42 : decode cX7_came 42 = .ok (.imul, 1) := by decide +kernel
theorem dX7_came_43 : decode cX7_came 43 = .ok (.invokevirtual 222, 3) := by decide +kernel
theorem dX7_came_46 : decode cX7_came 46 = .ok (.istore 4, 2) := by decide +kernel
theorem dX7_came_48 : decode cX7_came 48 = .ok (.iload 4, 2) := by decide +kernel
theorem dX7_came_50 : decode cX7_came 50 = .ok (.ifCond .ge 6, 3) := by decide +kernel
theorem dX7_came_53 : decode cX7_came 53 = .ok (.iload 4, 2) := by decide +kernel
theorem dX7_came_55 : decode cX7_came 55 = .ok (.ireturn, 1) := by decide +kernel
theorem dX7_came_56 : decode cX7_came 56 = .ok (.aload_n 0, 1) := by decide +kernel
theorem dX7_came_57 : decode cX7_came 57 = .ok (.invokevirtual 185, 3) := by decide +kernel
theorem dX7_came_60 : decode cX7_came 60 = .ok (.iconst 0, 1) := by decide +kernel
theorem dX7_came_61 : decode cX7_came 61 = .ok (.istore 5, 2) := by decide +kernel
theorem dX7_came_63 : decode cX7_came 63 = .ok (.iconst 0, 1) := by decide +kernel
theorem dX7_came_64 : decode cX7_came 64 = .ok (.istore 6, 2) := by decide +kernel
theorem dX7_came_66 : decode cX7_came 66 = .ok (.iload 6, 2) := by decide +kernel
theorem dX7_came_68 : decode cX7_came 68 = .ok (.aload_n 0, 1) := by decide +kernel
theorem dX7_came_69 : decode cX7_came 69 = .ok (.getfield 34, 3) := by decide +kernel
theorem dX7_came_72 : decode cX7_came 72 = .ok (.iconst 0, 1) := by decide +kernel
theorem dX7_came_73 : decode cX7_came 73 = .ok (.iaload, 1) := by decide +kernel
theorem dX7_came_74 : decode cX7_came 74 = .ok (.if_icmp .ge 44, 3) := by decide +kernel
theorem dX7_came_77 : decode cX7_came 77 = .ok (.aload_n 0, 1) := by decide +kernel
theorem dX7_came_78 : decode cX7_came 78 = .ok (.getfield 19, 3) := by decide +kernel
theorem dX7_came_81 : decode cX7_came 81 = .ok (.iconst 1, 1) := by decide +kernel
theorem dX7_came_82 : decode cX7_came 82 = .ok (.iload 6, 2) := by decide +kernel
theorem dX7_came_84 : decode cX7_came 84 = .ok (.iastore, 1) := by decide +kernel
theorem dX7_came_85 : decode cX7_came 85 = .ok (.iload 5, 2) := by decide +kernel
theorem dX7_came_87 : decode cX7_came 87 = .ok (.aload_n 0, 1) := by decide +kernel
theorem dX7_came_88 : decode cX7_came 88 = .ok (.bipush 40, 2) := by decide +kernel
theorem dX7_came_90 : decode cX7_came 90 = .ok (.iload_n 1, 1) := by decide +kernel
theorem dX7_came_91 : decode cX7_came 91 = .ok (.imul, 1) := by decide +kernel
theorem dX7_came_92 : decode cX7_came 92 = .ok (.iload_n 2, 1) := by decide +kernel
theorem dX7_came_93 : decode cX7_came 93 = .ok (.iadd, 1) := by decide +kernel
theorem dX7_came_94 : decode cX7_came 94 = .ok (.iload_n 3, 1) := by decide +kernel
theorem dX7_came_95 : decode cX7_came 95 = .ok (.invokevirtual 226, 3) := by decide +kernel
theorem dX7_came_98 : decode cX7_came 98 = .ok (.ifCond .eq 10, 3) := by decide +kernel
theorem dX7_came_101 : decode cX7_came 101 = .ok (.iconst 1, 1) := by decide +kernel
theorem dX7_came_102 : decode cX7_came 102 = .ok (.iload 6, 2) := by decide +kernel
theorem dX7_came_104 : decode cX7_came 104 = .ok (.ishl, 1) := by decide +kernel
theorem dX7_came_105 : decode cX7_came 105 = .ok (.goto 4, 3) := by decide +kernel
theorem dX7_came_108 : decode cX7_came 108 = .ok (.iconst 0, 1) := by decide +kernel
theorem dX7_came_109 : decode cX7_came 109 = .ok (.ior, 1) := by decide +kernel
theorem dX7_came_110 : decode cX7_came 110 = .ok (.istore 5, 2) := by decide +kernel
theorem dX7_came_112 : decode cX7_came 112 = .ok (.iinc 6 1, 3) := by decide +kernel
theorem dX7_came_115 : decode cX7_came 115 = .ok (.goto (-49), 3) := by decide +kernel
theorem dX7_came_118 : decode cX7_came 118 = .ok (.aload_n 0, 1) := by decide +kernel
theorem dX7_came_119 : decode cX7_came 119 = .ok (.iload 5, 2) := by decide +kernel
theorem dX7_came_121 : decode cX7_came 121 = .ok (.invokevirtual 69, 3) := by decide +kernel
theorem dX7_came_124 : decode cX7_came 124 = .ok (.ireturn, 1) := by decide +kernel
theorem dX7_who_0 : decode cX7_who 0 = .ok (.aload_n 0, 1) := by decide +kernel
theorem dX7_who_1 : decode cX7_who 1 = .ok (.iload_n 1, 1) := by decide +kernel
theorem dX7_who_2 : decode cX7_who 2 = .ok (.invokevirtual 172, 3) := by decide +kernel
theorem dX7_who_5 : decode cX7_who 5 = .ok (.ifCond .eq 23, 3) := by decide +kernel
theorem dX7_who_8 : decode cX7_who 8 = .ok (.iload_n 2, 1) := by decide +kernel
theorem dX7_who_9 : decode cX7_who 9 = .ok (.invokestatic 58, 3) := by decide +kernel
theorem dX7_who_12 : decode cX7_who 12 = .ok (.ifCond .eq 16, 3) := by decide +kernel
theorem dX7_who_15 : decode cX7_who 15 = .ok (.iload 4, 2) := by decide +kernel
theorem dX7_who_17 : decode cX7_who 17 = .ok (.i2l, 1) := by decide +kernel
theorem dX7_who_18 : decode cX7_who 18 = .ok (.lconst 1, 1) := by decide +kernel
theorem dX7_who_19 : decode cX7_who 19 = .ok (.ldc2_w 220, 3) := by decide +kernel
theorem dX7_who_22 : decode cX7_who 22 = .ok (.invokestatic 54, 3) := by decide +kernel
theorem dX7_who_25 : decode cX7_who 25 = .ok (.ifCond .ne 6, 3) := by decide +kernel
theorem dX7_who_28 : decode cX7_who 28 = .ok (.ldc 64, 2) := by decide +kernel
theorem dX7_who_30 : decode cX7_who 30 = .ok (.ireturn, 1) := by decide +kernel
theorem dX7_who_31 : decode cX7_who 31 = .ok (.aload_n 0, 1) := by decide +kernel
theorem dX7_who_32 : decode cX7_who 32 = .ok (.iload_n 2, 1) := by decide +kernel
theorem dX7_who_33 : decode cX7_who 33 = .ok (.iload_n 3, 1) := by decide +kernel
theorem dX7_who_34 : decode cX7_who 34 = .ok (.iload 4, 2) := by decide +kernel
theorem dX7_who_36 : decode cX7_who 36 = .ok (.aload_n 0, 1) := by decide +kernel
theorem dX7_who_37 : decode cX7_who 37 = .ok (.getfield 19, 3) := by decide +kernel
theorem dX7_who_40 : decode cX7_who 40 = .ok (.iconst 0, 1) := by decide +kernel
theorem dX7_who_41 : decode cX7_who 41 = .ok (.iaload, 1) := by decide +kernel
theorem dX7_who_42 : decode cX7_who 42 = .ok (.imul, 1) := by decide +kernel
theorem dX7_who_43 : decode cX7_who 43 = .ok (.invokevirtual 222, 3) := by decide +kernel
theorem dX7_who_46 : decode cX7_who 46 = .ok (.istore 5, 2) := by decide +kernel
theorem dX7_who_48 : decode cX7_who 48 = .ok (.iload 5, 2) := by decide +kernel
theorem dX7_who_50 : decode cX7_who 50 = .ok (.ifCond .ge 6, 3) := by decide +kernel
theorem dX7_who_53 : decode cX7_who 53 = .ok (.iload 5, 2) := by decide +kernel
theorem dX7_who_55 : decode cX7_who 55 = .ok (.ireturn, 1) := by decide +kernel
theorem dX7_who_56 : decode cX7_who 56 = .ok (.aload_n 0, 1) := by decide +kernel
theorem dX7_who_57 : decode cX7_who 57 = .ok (.invokevirtual 185, 3) := by decide +kernel
theorem dX7_who_60 : decode cX7_who 60 = .ok (.iconst 0, 1) := by decide +kernel
theorem dX7_who_61 : decode cX7_who 61 = .ok (.istore 6, 2) := by decide +kernel
theorem dX7_who_63 : decode cX7_who 63 = .ok (.iconst 1, 1) := by decide +kernel
theorem dX7_who_64 : decode cX7_who 64 = .ok (.istore 7, 2) := by decide +kernel
theorem dX7_who_66 : decode cX7_who 66 = .ok (.iload 7, 2) := by decide +kernel
theorem dX7_who_68 : decode cX7_who 68 = .ok (.iconst 5, 1) := by decide +kernel
theorem dX7_who_69 : decode cX7_who 69 = .ok (.if_icmp .gt 48, 3) := by decide +kernel
theorem dX7_who_72 : decode cX7_who 72 = .ok (.aload_n 0, 1) := by decide +kernel
theorem dX7_who_73 : decode cX7_who 73 = .ok (.getfield 19, 3) := by decide +kernel
theorem dX7_who_76 : decode cX7_who 76 = .ok (.bipush 37, 2) := by decide +kernel
theorem dX7_who_78 : decode cX7_who 78 = .ok (.iload_n 1, 1) := by decide +kernel
theorem dX7_who_79 : decode cX7_who 79 = .ok (.iadd, 1) := by decide +kernel
theorem dX7_who_80 : decode cX7_who 80 = .ok (.iload 7, 2) := by decide +kernel
theorem dX7_who_82 : decode cX7_who 82 = .ok (.iastore, 1) := by decide +kernel
theorem dX7_who_83 : decode cX7_who 83 = .ok (.iload 6, 2) := by decide +kernel
theorem dX7_who_85 : decode cX7_who 85 = .ok (.aload_n 0, 1) := by decide +kernel
theorem dX7_who_86 : decode cX7_who 86 = .ok (.bipush 40, 2) := by decide +kernel
theorem dX7_who_88 : decode cX7_who 88 = .ok (.iload_n 2, 1) := by decide +kernel
theorem dX7_who_89 : decode cX7_who 89 = .ok (.imul, 1) := by decide +kernel
theorem dX7_who_90 : decode cX7_who 90 = .ok (.iload_n 3, 1) := by decide +kernel
theorem dX7_who_91 : decode cX7_who 91 = .ok (.iadd, 1) := by decide +kernel
theorem dX7_who_92 : decode cX7_who 92 = .ok (.iload 4, 2) := by decide +kernel
theorem dX7_who_94 : decode cX7_who 94 = .ok (.invokevirtual 226, 3) := by decide +kernel
theorem dX7_who_97 : decode cX7_who 97 = .ok (.ifCond .eq 10, 3) := by decide +kernel
theorem dX7_who_100 : decode cX7_who 100 = .ok (.iconst 1, 1) := by decide +kernel
theorem dX7_who_101 : decode cX7_who 101 = .ok (.iload 7, 2) := by decide +kernel
theorem dX7_who_103 : decode cX7_who 103 = .ok (.ishl, 1) := by decide +kernel
theorem dX7_who_104 : decode cX7_who 104 = .ok (.goto 4, 3) := by decide +kernel
theorem dX7_who_107 : decode cX7_who 107 = .ok (.iconst 0, 1) := by decide +kernel
theorem dX7_who_108 : decode cX7_who 108 = .ok (.ior, 1) := by decide +kernel
theorem dX7_who_109 : decode cX7_who 109 = .ok (.istore 6, 2) := by decide +kernel
theorem dX7_who_111 : decode cX7_who 111 = .ok (.iinc 7 1, 3) := by decide +kernel
theorem dX7_who_114 : decode cX7_who 114 = .ok (.goto (-48), 3) := by decide +kernel
theorem dX7_who_117 : decode cX7_who 117 = .ok (.aload_n 0, 1) := by decide +kernel
theorem dX7_who_118 : decode cX7_who 118 = .ok (.iload 6, 2) := by decide +kernel
theorem dX7_who_120 : decode cX7_who 120 = .ok (.invokevirtual 69, 3) := by decide +kernel
theorem dX7_who_123 : decode cX7_who 123 = .ok (.ireturn, 1) := by decide +kernel
theorem dX7_reachBy_0 : decode cX7_reachBy 0 = .ok (.iconst 1, 1) := by decide +kernel
theorem dX7_reachBy_1 : decode cX7_reachBy 1 = .ok (.iload_n 1, 1) := by decide +kernel
theorem dX7_reachBy_2 : decode cX7_reachBy 2 = .ok (.ishl, 1) := by decide +kernel
theorem dX7_reachBy_3 : decode cX7_reachBy 3 = .ok (.istore_n 3, 1) := by decide +kernel
theorem dX7_reachBy_4 : decode cX7_reachBy 4 = .ok (.iconst 0, 1) := by decide +kernel
theorem dX7_reachBy_5 : decode cX7_reachBy 5 = .ok (.istore 4, 2) := by decide +kernel
theorem dX7_reachBy_7 : decode cX7_reachBy 7 = .ok (.iload 4, 2) := by decide +kernel
theorem dX7_reachBy_9 : decode cX7_reachBy 9 = .ok (.bipush 64, 2) := by decide +kernel
theorem dX7_reachBy_11 : decode cX7_reachBy 11 = .ok (.if_icmp .ge 97, 3) := by decide +kernel
theorem dX7_reachBy_14 : decode cX7_reachBy 14 = .ok (.iload 4, 2) := by decide +kernel
theorem dX7_reachBy_16 : decode cX7_reachBy 16 = .ok (.bipush 8, 2) := by decide +kernel
theorem dX7_reachBy_18 : decode cX7_reachBy 18 = .ok (.irem, 1) := by decide +kernel
theorem dX7_reachBy_19 : decode cX7_reachBy 19 = .ok (.istore 5, 2) := by decide +kernel
theorem dX7_reachBy_21 : decode cX7_reachBy 21 = .ok (.iload_n 2, 1) := by decide +kernel
theorem dX7_reachBy_22 : decode cX7_reachBy 22 = .ok (.iload 5, 2) := by decide +kernel
theorem dX7_reachBy_24 : decode cX7_reachBy 24 = .ok (.invokestatic 199, 3) := by decide +kernel
theorem dX7_reachBy_27 : decode cX7_reachBy 27 = .ok (.ifCond .eq 75, 3) := by decide +kernel
theorem dX7_reachBy_30 : decode cX7_reachBy 30 = .ok (.iload_n 3, 1) := by decide +kernel
theorem dX7_reachBy_31 : decode cX7_reachBy 31 = .ok (.iload_n 3, 1) := by decide +kernel
theorem dX7_reachBy_32 : decode cX7_reachBy 32 = .ok (.aload_n 0, 1) := by decide +kernel
theorem dX7_reachBy_33 : decode cX7_reachBy 33 = .ok (.getfield 19, 3) := by decide +kernel
theorem dX7_reachBy_36 : decode cX7_reachBy 36 = .ok (.bipush 13, 2) := by decide +kernel
theorem dX7_reachBy_38 : decode cX7_reachBy 38 = .ok (.iload 5, 2) := by decide +kernel
theorem dX7_reachBy_40 : decode cX7_reachBy 40 = .ok (.iadd, 1) := by decide +kernel
theorem dX7_reachBy_41 : decode cX7_reachBy 41 = .ok (.iaload, 1) := by decide +kernel
theorem dX7_reachBy_42 : decode cX7_reachBy 42 = .ok (.invokestatic 199, 3) := by decide +kernel
theorem dX7_reachBy_45 : decode cX7_reachBy 45 = .ok (.ifCond .eq 18, 3) := by decide +kernel
theorem dX7_reachBy_48 : decode cX7_reachBy 48 = .ok (.iconst 1, 1) := by decide +kernel
theorem dX7_reachBy_49 : decode cX7_reachBy 49 = .ok (.aload_n 0, 1) := by decide +kernel
theorem dX7_reachBy_50 : decode cX7_reachBy 50 = .ok (.getfield 19, 3) := by decide +kernel
theorem dX7_reachBy_53 : decode cX7_reachBy 53 = .ok (.bipush 21, 2) := by decide +kernel
theorem dX7_reachBy_55 : decode cX7_reachBy 55 = .ok (.iload 5, 2) := by decide +kernel
theorem dX7_reachBy_57 : decode cX7_reachBy 57 = .ok (.iadd, 1) := by decide +kernel
theorem dX7_reachBy_58 : decode cX7_reachBy 58 = .ok (.iaload, 1) := by decide +kernel
theorem dX7_reachBy_59 : decode cX7_reachBy 59 = .ok (.ishl, 1) := by decide +kernel
theorem dX7_reachBy_60 : decode cX7_reachBy 60 = .ok (.goto 4, 3) := by decide +kernel
theorem dX7_reachBy_63 : decode cX7_reachBy 63 = .ok (.iconst 0, 1) := by decide +kernel
theorem dX7_reachBy_64 : decode cX7_reachBy 64 = .ok (.ior, 1) := by decide +kernel
theorem dX7_reachBy_65 : decode cX7_reachBy 65 = .ok (.istore_n 3, 1) := by decide +kernel
theorem dX7_reachBy_66 : decode cX7_reachBy 66 = .ok (.iload_n 3, 1) := by decide +kernel
theorem dX7_reachBy_67 : decode cX7_reachBy 67 = .ok (.iload_n 3, 1) := by decide +kernel
theorem dX7_reachBy_68 : decode cX7_reachBy 68 = .ok (.aload_n 0, 1) := by decide +kernel
theorem dX7_reachBy_69 : decode cX7_reachBy 69 = .ok (.getfield 19, 3) := by decide +kernel
theorem dX7_reachBy_72 : decode cX7_reachBy 72 = .ok (.bipush 21, 2) := by decide +kernel
theorem dX7_reachBy_74 : decode cX7_reachBy 74 = .ok (.iload 5, 2) := by decide +kernel
theorem dX7_reachBy_76 : decode cX7_reachBy 76 = .ok (.iadd, 1) := by decide +kernel
theorem dX7_reachBy_77 : decode cX7_reachBy 77 = .ok (.iaload, 1) := by decide +kernel
theorem dX7_reachBy_78 : decode cX7_reachBy 78 = .ok (.invokestatic 199, 3) := by decide +kernel
theorem dX7_reachBy_81 : decode cX7_reachBy 81 = .ok (.ifCond .eq 18, 3) := by decide +kernel
theorem dX7_reachBy_84 : decode cX7_reachBy 84 = .ok (.iconst 1, 1) := by decide +kernel
theorem dX7_reachBy_85 : decode cX7_reachBy 85 = .ok (.aload_n 0, 1) := by decide +kernel
theorem dX7_reachBy_86 : decode cX7_reachBy 86 = .ok (.getfield 19, 3) := by decide +kernel
theorem dX7_reachBy_89 : decode cX7_reachBy 89 = .ok (.bipush 13, 2) := by decide +kernel
theorem dX7_reachBy_91 : decode cX7_reachBy 91 = .ok (.iload 5, 2) := by decide +kernel
theorem dX7_reachBy_93 : decode cX7_reachBy 93 = .ok (.iadd, 1) := by decide +kernel
theorem dX7_reachBy_94 : decode cX7_reachBy 94 = .ok (.iaload, 1) := by decide +kernel
theorem dX7_reachBy_95 : decode cX7_reachBy 95 = .ok (.ishl, 1) := by decide +kernel
theorem dX7_reachBy_96 : decode cX7_reachBy 96 = .ok (.goto 4, 3) := by decide +kernel
theorem dX7_reachBy_99 : decode cX7_reachBy 99 = .ok (.iconst 0, 1) := by decide +kernel
theorem dX7_reachBy_100 : decode cX7_reachBy 100 = .ok (.ior, 1) := by decide +kernel
theorem dX7_reachBy_101 : decode cX7_reachBy 101 = .ok (.istore_n 3, 1) := by decide +kernel
theorem dX7_reachBy_102 : decode cX7_reachBy 102 = .ok (.iinc 4 1, 3) := by decide +kernel
theorem dX7_reachBy_105 : decode cX7_reachBy 105 = .ok (.goto (-98), 3) := by decide +kernel
theorem dX7_reachBy_108 : decode cX7_reachBy 108 = .ok (.iload_n 3, 1) := by decide +kernel
theorem dX7_reachBy_109 : decode cX7_reachBy 109 = .ok (.ireturn, 1) := by decide +kernel
theorem dX7_parted_0 : decode cX7_parted 0 = .ok (.aload_n 0, 1) := by decide +kernel
theorem dX7_parted_1 : decode cX7_parted 1 = .ok (.getfield 135, 3) := by decide +kernel
theorem dX7_parted_4 : decode cX7_parted 4 = .ok (.ifCond .ne 6, 3) := by decide +kernel
theorem dX7_parted_7 : decode cX7_parted 7 = .ok (.ldc 142, 2) := by decide +kernel
theorem dX7_parted_9 : decode cX7_parted 9 = .ok (.ireturn, 1) := by decide +kernel
theorem dX7_parted_10 : decode cX7_parted 10 = .ok (.aload_n 0, 1) := by decide +kernel
theorem dX7_parted_11 : decode cX7_parted 11 = .ok (.iload_n 1, 1) := by decide +kernel
theorem dX7_parted_12 : decode cX7_parted 12 = .ok (.invokevirtual 175, 3) := by decide +kernel
theorem dX7_parted_15 : decode cX7_parted 15 = .ok (.ifCond .eq 21, 3) := by decide +kernel
theorem dX7_parted_18 : decode cX7_parted 18 = .ok (.aload_n 0, 1) := by decide +kernel
theorem dX7_parted_19 : decode cX7_parted 19 = .ok (.iload_n 2, 1) := by decide +kernel
theorem dX7_parted_20 : decode cX7_parted 20 = .ok (.invokevirtual 175, 3) := by decide +kernel
theorem dX7_parted_23 : decode cX7_parted 23 = .ok (.ifCond .eq 13, 3) := by decide +kernel
theorem dX7_parted_26 : decode cX7_parted 26 = .ok (.iload_n 3, 1) := by decide +kernel
theorem dX7_parted_27 : decode cX7_parted 27 = .ok (.i2l, 1) := by decide +kernel
theorem dX7_parted_28 : decode cX7_parted 28 = .ok (.lconst 0, 1) := by decide +kernel
theorem dX7_parted_29 : decode cX7_parted 29 = .ok (.lconst 1, 1) := by decide +kernel
theorem dX7_parted_30 : decode cX7_parted 30 = .ok (.invokestatic 54, 3) := by decide +kernel
theorem dX7_parted_33 : decode cX7_parted 33 = .ok (.ifCond .ne 6, 3) := by decide +kernel
theorem dX7_parted_36 : decode cX7_parted 36 = .ok (.ldc 64, 2) := by decide +kernel
theorem dX7_parted_38 : decode cX7_parted 38 = .ok (.ireturn, 1) := by decide +kernel
theorem dX7_parted_39 : decode cX7_parted 39 = .ok (.iload_n 1, 1) := by decide +kernel
theorem dX7_parted_40 : decode cX7_parted 40 = .ok (.iload_n 2, 1) := by decide +kernel
theorem dX7_parted_41 : decode cX7_parted 41 = .ok (.if_icmp .ne 6, 3) := by decide +kernel
theorem dX7_parted_44 : decode cX7_parted 44 = .ok (.ldc 198, 2) := by decide +kernel
