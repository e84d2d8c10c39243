theorem dX7_nextToken_164 : decode cX7_nextToken 164 = .ok (.getfield 25, 3) := by decide +kernel
theorem dX7_nextToken_167 : decode cX7_nextToken 167 = .ok (.aload_n 0, 1) := by decide +kernel
theorem dX7_nextToken_168 : decode cX7_nextToken 168 = .ok (.getfield 82, 3) := by decide +kernel
theorem dX7_nextToken_171 : decode cX7_nextToken 171 = .ok (.iaload, 1) := by decide +kernel
theorem dX7_nextToken_172 : decode cX7_nextToken 172 = .ok (.putfield 91, 3) := by decide +kernel
theorem dX7_nextToken_175 : decode cX7_nextToken 175 = .ok (.aload_n 0, 1) := by decide +kernel
theorem dX7_nextToken_176 : decode cX7_nextToken 176 = .ok (.aload_n 0, 1) := by decide +kernel
theorem dX7_nextToken_177 : decode cX7_nextToken 177 = .ok (.getfield 91, 3) := by decide +kernel
theorem dX7_nextToken_180 : decode cX7_nextToken 180 = .ok (.i2l, 1) := by decide +kernel
theorem dX7_nextToken_181 : decode cX7_nextToken 181 = .ok (.ldc2_w 98, 3) := by decide +kernel
theorem dX7_nextToken_184 : decode cX7_nextToken 184 = .ok (.ldc2_w 100, 3) := by decide +kernel
theorem dX7_nextToken_187 : decode cX7_nextToken 187 = .ok (.invokestatic 54, 3) := by decide +kernel
theorem dX7_nextToken_190 : decode cX7_nextToken 190 = .ok (.ifCond .ne 21, 3) := by decide +kernel
theorem dX7_nextToken_193 : decode cX7_nextToken 193 = .ok (.aload_n 0, 1) := by decide +kernel
theorem dX7_nextToken_194 : decode cX7_nextToken 194 = .ok (.getfield 91, 3) := by decide +kernel
theorem dX7_nextToken_197 : decode cX7_nextToken 197 = .ok (.bipush 44, 2) := by decide +kernel
theorem dX7_nextToken_199 : decode cX7_nextToken 199 = .ok (.if_icmp .eq 12, 3) := by decide +kernel
theorem dX7_nextToken_202 : decode cX7_nextToken 202 = .ok (.aload_n 0, 1) := by decide +kernel
theorem dX7_nextToken_203 : decode cX7_nextToken 203 = .ok (.getfield 91, 3) := by decide +kernel
theorem dX7_nextToken_206 : decode cX7_nextToken 206 = .ok (.bipush 59, 2) := by decide +kernel
theorem dX7_nextToken_208 : decode cX7_nextToken 208 = .ok (.if_icmp .ne 7, 3) := by decide +kernel
theorem dX7_nextToken_211 : decode cX7_nextToken 211 = .ok (.iconst 1, 1) := by decide +kernel
theorem dX7_nextToken_212 : decode cX7_nextToken 212 = .ok (.goto 4, 3) := by decide +kernel
theorem dX7_nextToken_215 : decode cX7_nextToken 215 = .ok (.iconst 0, 1) := by decide +kernel
theorem dX7_nextToken_216 : decode cX7_nextToken 216 = .ok (.putfield 88, 3) := by decide +kernel
theorem dX7_nextToken_219 : decode cX7_nextToken 219 = .ok (.aload_n 0, 1) := by decide +kernel
theorem dX7_nextToken_220 : decode cX7_nextToken 220 = .ok (.dup, 1) := by decide +kernel
theorem dX7_nextToken_221 : decode cX7_nextToken 221 = .ok (.getfield 82, 3) := by decide +kernel
theorem dX7_nextToken_224 : decode cX7_nextToken 224 = .ok (.iconst 1, 1) := by decide +kernel
theorem dX7_nextToken_225 : decode cX7_nextToken 225 = .ok (.iadd, 1) := by decide +kernel
theorem dX7_nextToken_226 : decode cX7_nextToken 226 = .ok (.putfield 82, 3) := by decide +kernel
theorem dX7_nextToken_229 : decode cX7_nextToken 229 = .ok (.return_, 1) := by decide +kernel
theorem dX7_faults_0 : decode cX7_faults 0 = .ok (.aload_n 0, 1) := by decide +kernel
theorem dX7_faults_1 : decode cX7_faults 1 = .ok (.iload_n 1, 1) := by decide +kernel
theorem dX7_faults_2 : decode cX7_faults 2 = .ok (.putfield 102, 3) := by decide +kernel
theorem dX7_faults_5 : decode cX7_faults 5 = .ok (.iconst 0, 1) := by decide +kernel
theorem dX7_faults_6 : decode cX7_faults 6 = .ok (.ireturn, 1) := by decide +kernel
theorem dX7_isLetter_0 : decode cX7_isLetter 0 = .ok (.aload_n 0, 1) := by decide +kernel
theorem dX7_isLetter_1 : decode cX7_isLetter 1 = .ok (.getfield 88, 3) := by decide +kernel
theorem dX7_isLetter_4 : decode cX7_isLetter 4 = .ok (.iconst 1, 1) := by decide +kernel
theorem dX7_isLetter_5 : decode cX7_isLetter 5 = .ok (.if_icmp .ne 15, 3) := by decide +kernel
theorem dX7_isLetter_8 : decode cX7_isLetter 8 = .ok (.aload_n 0, 1) := by decide +kernel
theorem dX7_isLetter_9 : decode cX7_isLetter 9 = .ok (.getfield 91, 3) := by decide +kernel
theorem dX7_isLetter_12 : decode cX7_isLetter 12 = .ok (.iload_n 1, 1) := by decide +kernel
theorem dX7_isLetter_13 : decode cX7_isLetter 13 = .ok (.if_icmp .ne 7, 3) := by decide +kernel
theorem dX7_isLetter_16 : decode cX7_isLetter 16 = .ok (.iconst 1, 1) := by decide +kernel
theorem dX7_isLetter_17 : decode cX7_isLetter 17 = .ok (.goto 4, 3) := by decide +kernel
theorem dX7_isLetter_20 : decode cX7_isLetter 20 = .ok (.iconst 0, 1) := by decide +kernel
theorem dX7_isLetter_21 : decode cX7_isLetter 21 = .ok (.ireturn, 1) := by decide +kernel
theorem dX7_takes_0 : decode cX7_takes 0 = .ok (.aload_n 0, 1) := by decide +kernel
theorem dX7_takes_1 : decode cX7_takes 1 = .ok (.iload_n 1, 1) := by decide +kernel
theorem dX7_takes_2 : decode cX7_takes 2 = .ok (.invokevirtual 105, 3) := by decide +kernel
theorem dX7_takes_5 : decode cX7_takes 5 = .ok (.ifCond .ne 9, 3) := by decide +kernel
theorem dX7_takes_8 : decode cX7_takes 8 = .ok (.aload_n 0, 1) := by decide +kernel
theorem dX7_takes_9 : decode cX7_takes 9 = .ok (.iconst 1, 1) := by decide +kernel
theorem dX7_takes_10 : decode cX7_takes 10 = .ok (.invokevirtual 108, 3) := by decide +kernel
theorem dX7_takes_13 : decode cX7_takes 13 = .ok (.ireturn, 1) := by decide +kernel
theorem dX7_takes_14 : decode cX7_takes 14 = .ok (.aload_n 0, 1) := by decide +kernel
theorem dX7_takes_15 : decode cX7_takes 15 = .ok (.invokevirtual 111, 3) := by decide +kernel
theorem dX7_takes_18 : decode cX7_takes 18 = .ok (.iconst 1, 1) := by decide +kernel
theorem dX7_takes_19 : decode cX7_takes 19 = .ok (.ireturn, 1) := by decide +kernel
theorem dX7_takesNumber_0 : decode cX7_takesNumber 0 = .ok (.aload_n 0, 1) := by decide +kernel
theorem dX7_takesNumber_1 : decode cX7_takesNumber 1 = .ok (.getfield 88, 3) := by decide +kernel
theorem dX7_takesNumber_4 : decode cX7_takesNumber 4 = .ok (.iconst 2, 1) := by decide +kernel
theorem dX7_takesNumber_5 : decode cX7_takesNumber 5 = .ok (.if_icmp .ne 18, 3) := by decide +kernel
theorem dX7_takesNumber_8 : decode cX7_takesNumber 8 = .ok (.aload_n 0, 1) := by decide +kernel
theorem dX7_takesNumber_9 : decode cX7_takesNumber 9 = .ok (.getfield 91, 3) := by decide +kernel
theorem dX7_takesNumber_12 : decode cX7_takesNumber 12 = .ok (.i2l, 1) := by decide +kernel
theorem dX7_takesNumber_13 : decode cX7_takesNumber 13 = .ok (.iload_n 1, 1) := by decide +kernel
theorem dX7_takesNumber_14 : decode cX7_takesNumber 14 = .ok (.i2l, 1) := by decide +kernel
theorem dX7_takesNumber_15 : decode cX7_takesNumber 15 = .ok (.iload_n 2, 1) := by decide +kernel
theorem dX7_takesNumber_16 : decode cX7_takesNumber 16 = .ok (.i2l, 1) := by decide +kernel
theorem dX7_takesNumber_17 : decode cX7_takesNumber 17 = .ok (.invokestatic 54, 3) := by decide +kernel
theorem dX7_takesNumber_20 : decode cX7_takesNumber 20 = .ok (.ifCond .ne 21, 3) := by decide +kernel
theorem dX7_takesNumber_23 : decode cX7_takesNumber 23 = .ok (.aload_n 0, 1) := by decide +kernel
theorem dX7_takesNumber_24 : decode cX7_takesNumber 24 = .ok (.aload_n 0, 1) := by decide +kernel
theorem dX7_takesNumber_25 : decode cX7_takesNumber 25 = .ok (.getfield 88, 3) := by decide +kernel
theorem dX7_takesNumber_28 : decode cX7_takesNumber 28 = .ok (.iconst 2, 1) := by decide +kernel
theorem dX7_takesNumber_29 : decode cX7_takesNumber 29 = .ok (.if_icmp .ne 7, 3) := by decide +kernel
theorem dX7_takesNumber_32 : decode cX7_takesNumber 32 = .ok (.iconst 2, 1) := by decide +kernel
theorem dX7_takesNumber_33 : decode cX7_takesNumber 33 = .ok (.goto 4, 3) := by decide +kernel
theorem dX7_takesNumber_36 : decode cX7_takesNumber 36 = .ok (.iconst 1, 1) := by decide +kernel
theorem dX7_takesNumber_37 : decode cX7_takesNumber 37 = .ok (.invokevirtual 108, 3) := by decide +kernel
theorem dX7_takesNumber_40 : decode cX7_takesNumber 40 = .ok (.ireturn, 1) := by decide +kernel
theorem dX7_takesNumber_41 : decode cX7_takesNumber 41 = .ok (.aload_n 0, 1) := by decide +kernel
theorem dX7_takesNumber_42 : decode cX7_takesNumber 42 = .ok (.getfield 28, 3) := by decide +kernel
theorem dX7_takesNumber_45 : decode cX7_takesNumber 45 = .ok (.iload_n 3, 1) := by decide +kernel
theorem dX7_takesNumber_46 : decode cX7_takesNumber 46 = .ok (.aload_n 0, 1) := by decide +kernel
theorem dX7_takesNumber_47 : decode cX7_takesNumber 47 = .ok (.getfield 91, 3) := by decide +kernel
theorem dX7_takesNumber_50 : decode cX7_takesNumber 50 = .ok (.iastore, 1) := by decide +kernel
theorem dX7_takesNumber_51 : decode cX7_takesNumber 51 = .ok (.aload_n 0, 1) := by decide +kernel
theorem dX7_takesNumber_52 : decode cX7_takesNumber 52 = .ok (.invokevirtual 111, 3) := by decide +kernel
theorem dX7_takesNumber_55 : decode cX7_takesNumber 55 = .ok (.aload_n 0, 1) := by decide +kernel
theorem dX7_takesNumber_56 : decode cX7_takesNumber 56 = .ok (.iload 4, 2) := by decide +kernel
theorem dX7_takesNumber_58 : decode cX7_takesNumber 58 = .ok (.invokevirtual 114, 3) := by decide +kernel
theorem dX7_takesNumber_61 : decode cX7_takesNumber 61 = .ok (.ireturn, 1) := by decide +kernel
theorem dX7_readDoor_0 : decode cX7_readDoor 0 = .ok (.aload_n 0, 1) := by decide +kernel
theorem dX7_readDoor_1 : decode cX7_readDoor 1 = .ok (.getfield 28, 3) := by decide +kernel
theorem dX7_readDoor_4 : decode cX7_readDoor 4 = .ok (.iconst 4, 1) := by decide +kernel
theorem dX7_readDoor_5 : decode cX7_readDoor 5 = .ok (.iaload, 1) := by decide +kernel
theorem dX7_readDoor_6 : decode cX7_readDoor 6 = .ok (.istore_n 1, 1) := by decide +kernel
theorem dX7_readDoor_7 : decode cX7_readDoor 7 = .ok (.iload_n 1, 1) := by decide +kernel
theorem dX7_readDoor_8 : decode cX7_readDoor 8 = .ok (.bipush 8, 2) := by decide +kernel
theorem dX7_readDoor_10 : decode cX7_readDoor 10 = .ok (.if_icmp .eq 12, 3) := by decide +kernel
theorem dX7_readDoor_13 : decode cX7_readDoor 13 = .ok (.aload_n 0, 1) := by decide +kernel
theorem dX7_readDoor_14 : decode cX7_readDoor 14 = .ok (.getfield 28, 3) := by decide +kernel
theorem dX7_readDoor_17 : decode cX7_readDoor 17 = .ok (.iconst 5, 1) := by decide +kernel
theorem dX7_readDoor_18 : decode cX7_readDoor 18 = .ok (.iaload, 1) := by decide +kernel
theorem dX7_readDoor_19 : decode cX7_readDoor 19 = .ok (.ifCond .le 22, 3) := by decide +kernel
theorem dX7_readDoor_22 : decode cX7_readDoor 22 = .ok (.aload_n 0, 1) := by decide +kernel
theorem dX7_readDoor_23 : decode cX7_readDoor 23 = .ok (.aload_n 0, 1) := by decide +kernel
theorem dX7_readDoor_24 : decode cX7_readDoor 24 = .ok (.getfield 28, 3) := by decide +kernel
theorem dX7_readDoor_27 : decode cX7_readDoor 27 = .ok (.iconst 5, 1) := by decide +kernel
theorem dX7_readDoor_28 : decode cX7_readDoor 28 = .ok (.iaload, 1) := by decide +kernel
theorem dX7_readDoor_29 : decode cX7_readDoor 29 = .ok (.ifCond .le 7, 3) := by decide +kernel
theorem dX7_readDoor_32 : decode cX7_readDoor 32 = .ok (.iconst 1, 1) := by decide +kernel
theorem dX7_readDoor_33 : decode cX7_readDoor 33 = .ok (.goto 4, 3) := by decide +kernel
theorem dX7_readDoor_36 : decode cX7_readDoor 36 = .ok (.iconst 3, 1) := by decide +kernel
theorem dX7_readDoor_37 : decode cX7_readDoor 37 = .ok (.invokevirtual 108, 3) := by decide +kernel
theorem dX7_readDoor_40 : decode cX7_readDoor 40 = .ok (.ireturn, 1) := by decide +kernel
theorem dX7_readDoor_41 : decode cX7_readDoor 41 = .ok (.aload_n 0, 1) := by decide +kernel
theorem dX7_readDoor_42 : decode cX7_readDoor 42 = .ok (.invokevirtual 111, 3) := by decide +kernel
theorem dX7_readDoor_45 : decode cX7_readDoor 45 = .ok (.aload_n 0, 1) := by decide +kernel
theorem dX7_readDoor_46 : decode cX7_readDoor 46 = .ok (.iconst 0, 1) := by decide +kernel
theorem dX7_readDoor_47 : decode cX7_readDoor 47 = .ok (.aload_n 0, 1) := by decide +kernel
theorem dX7_readDoor_48 : decode cX7_readDoor 48 = .ok (.getfield 28, 3) := by decide +kernel
theorem dX7_readDoor_51 : decode cX7_readDoor 51 = .ok (.iconst 0, 1) := by decide +kernel
theorem dX7_readDoor_52 : decode cX7_readDoor 52 = .ok (.iaload, 1) := by decide +kernel
theorem dX7_readDoor_53 : decode cX7_readDoor 53 = .ok (.iconst 1, 1) := by decide +kernel
theorem dX7_readDoor_54 : decode cX7_readDoor 54 = .ok (.isub, 1) := by decide +kernel
theorem dX7_readDoor_55 : decode cX7_readDoor 55 = .ok (.bipush 13, 2) := by decide +kernel
theorem dX7_readDoor_57 : decode cX7_readDoor 57 = .ok (.iload_n 1, 1) := by decide +kernel
theorem dX7_readDoor_58 : decode cX7_readDoor 58 = .ok (.iadd, 1) := by decide +kernel
theorem dX7_readDoor_59 : decode cX7_readDoor 59 = .ok (.bipush 44, 2) := by decide +kernel
theorem dX7_readDoor_61 : decode cX7_readDoor 61 = .ok (.invokevirtual 117, 3) := by decide +kernel
theorem dX7_readDoor_64 : decode cX7_readDoor 64 = .ok (.ifCond .ne 5, 3) := by decide +kernel
theorem dX7_readDoor_67 : decode cX7_readDoor 67 = .ok (.iconst 0, 1) := by decide +kernel
theorem dX7_readDoor_68 : decode cX7_readDoor 68 = .ok (.ireturn, 1) := by decide +kernel
theorem dX7_readDoor_69 : decode cX7_readDoor 69 = .ok (.aload_n 0, 1) := by decide +kernel
theorem dX7_readDoor_70 : decode cX7_readDoor 70 = .ok (.getfield 88, 3) := by decide +kernel
theorem dX7_readDoor_73 : decode cX7_readDoor 73 = .ok (.iconst 2, 1) := by decide +kernel
theorem dX7_readDoor_74 : decode cX7_readDoor 74 = .ok (.if_icmp .ne 25, 3) := by decide +kernel
theorem dX7_readDoor_77 : decode cX7_readDoor 77 = .ok (.aload_n 0, 1) := by decide +kernel
theorem dX7_readDoor_78 : decode cX7_readDoor 78 = .ok (.getfield 91, 3) := by decide +kernel
theorem dX7_readDoor_81 : decode cX7_readDoor 81 = .ok (.aload_n 0, 1) := by decide +kernel
theorem dX7_readDoor_82 : decode cX7_readDoor 82 = .ok (.getfield 28, 3) := by decide +kernel
theorem dX7_readDoor_85 : decode cX7_readDoor 85 = .ok (.bipush 13, 2) := by decide +kernel
theorem dX7_readDoor_87 : decode cX7_readDoor 87 = .ok (.iload_n 1, 1) := by decide +kernel
theorem dX7_readDoor_88 : decode cX7_readDoor 88 = .ok (.iadd, 1) := by decide +kernel
theorem dX7_readDoor_89 : decode cX7_readDoor 89 = .ok (.iaload, 1) := by decide +kernel
theorem dX7_readDoor_90 : decode cX7_readDoor 90 = .ok (.if_icmp .ne 9, 3) := by decide +kernel
theorem dX7_readDoor_93 : decode cX7_readDoor 93 = .ok (.aload_n 0, 1) := by decide +kernel
theorem dX7_readDoor_94 : decode cX7_readDoor 94 = .ok (.iconst 2, 1) := by decide +kernel
theorem dX7_readDoor_95 : decode cX7_readDoor 95 = .ok (.invokevirtual 108, 3) := by decide +kernel
theorem dX7_readDoor_98 : decode cX7_readDoor 98 = .ok (.ireturn, 1) := by decide +kernel
theorem dX7_readDoor_99 : decode cX7_readDoor 99 = .ok (.aload_n 0, 1) := by decide +kernel
theorem dX7_readDoor_100 : decode cX7_readDoor 100 = .ok (.getfield 28, 3) := by decide +kernel
theorem dX7_readDoor_103 : decode cX7_readDoor 103 = .ok (.iconst 4, 1) := by decide +kernel
theorem dX7_readDoor_104 : decode cX7_readDoor 104 = .ok (.dup2, 1) := by decide +kernel
theorem dX7_readDoor_105 : decode cX7_readDoor 105 = .ok (.iaload, 1) := by decide +kernel
theorem dX7_readDoor_106 : decode cX7_readDoor 106 = .ok (.iconst 1, 1) := by decide +kernel
theorem dX7_readDoor_107 : decode cX7_readDoor 107 = .ok (.iadd, 1) := by decide +kernel
theorem dX7_readDoor_108 : decode cX7_readDoor 108 = .ok (.iastore, 1) := by decide +kernel
theorem dX7_readDoor_109 : decode cX7_readDoor 109 = .ok (.aload_n 0, 1) := by decide +kernel
theorem dX7_readDoor_110 : decode cX7_readDoor 110 = .ok (.iconst 0, 1) := by decide +kernel
theorem dX7_readDoor_111 : decode cX7_readDoor 111 = .ok (.aload_n 0, 1) := by decide +kernel
theorem dX7_readDoor_112 : decode cX7_readDoor 112 = .ok (.getfield 28, 3) := by decide +kernel
theorem dX7_readDoor_115 : decode cX7_readDoor 115 = .ok (.iconst 0, 1) := by decide +kernel
theorem dX7_readDoor_116 : decode cX7_readDoor 116 = .ok (.iaload, 1) := by decide +kernel
theorem dX7_readDoor_117 : decode cX7_readDoor 117 = .ok (.iconst 1, 1) := by decide +kernel
theorem dX7_readDoor_118 : decode cX7_readDoor 118 = .ok (.isub, 1) := by decide +kernel
theorem dX7_readDoor_119 : decode cX7_readDoor 119 = .ok (.bipush 21, 2) := by decide +kernel
theorem dX7_readDoor_121 : decode cX7_readDoor 121 = .ok (.iload_n 1, 1) := by decide +kernel
theorem dX7_readDoor_122 : decode cX7_readDoor 122 = .ok (.iadd, 1) := by decide +kernel
theorem dX7_readDoor_123 : decode cX7_readDoor 123 = .ok (.bipush 44, 2) := by decide +kernel
theorem dX7_readDoor_125 : decode cX7_readDoor 125 = .ok (.invokevirtual 117, 3) := by decide +kernel
theorem dX7_readDoor_128 : decode cX7_readDoor 128 = .ok (.ifCond .eq 22, 3) := by decide +kernel
theorem dX7_readDoor_131 : decode cX7_readDoor 131 = .ok (.aload_n 0, 1) := by decide +kernel
theorem dX7_readDoor_132 : decode cX7_readDoor 132 = .ok (.iconst 0, 1) := by decide +kernel
theorem dX7_readDoor_133 : decode cX7_readDoor 133 = .ok (.iconst 1, 1) := by decide +kernel
theorem dX7_readDoor_134 : decode cX7_readDoor 134 = .ok (.bipush 29, 2) := by decide +kernel
theorem dX7_readDoor_136 : decode cX7_readDoor 136 = .ok (.iload_n 1, 1) := by decide +kernel
theorem dX7_readDoor_137 : decode cX7_readDoor 137 = .ok (.iadd, 1) := by decide +kernel
theorem dX7_readDoor_138 : decode cX7_readDoor 138 = .ok (.bipush 59, 2) := by decide +kernel
theorem dX7_readDoor_140 : decode cX7_readDoor 140 = .ok (.invokevirtual 117, 3) := by decide +kernel
theorem dX7_readDoor_143 : decode cX7_readDoor 143 = .ok (.ifCond .eq 7, 3) := by decide +kernel
theorem dX7_readDoor_146 : decode cX7_readDoor 146 = .ok (.iconst 1, 1) := by decide +kernel
theorem dX7_readDoor_147 : decode cX7_readDoor 147 = .ok (.goto 4, 3) := by decide +kernel
theorem dX7_readDoor_150 : decode cX7_readDoor 150 = .ok (.iconst 0, 1) := by decide +kernel
theorem dX7_readDoor_151 : decode cX7_readDoor 151 = .ok (.ireturn, 1) := by decide +kernel
theorem dX7_readSitter_0 : decode cX7_readSitter 0 = .ok (.aload_n 0, 1) := by decide +kernel
theorem dX7_readSitter_1 : decode cX7_readSitter 1 = .ok (.getfield 28, 3) := by decide +kernel
theorem dX7_readSitter_4 : decode cX7_readSitter 4 = .ok (.iconst 5, 1) := by decide +kernel
theorem dX7_readSitter_5 : decode cX7_readSitter 5 = .ok (.iaload, 1) := by decide +kernel
theorem dX7_readSitter_6 : decode cX7_readSitter 6 = .ok (.istore_n 2, 1) := by decide +kernel
theorem dX7_readSitter_7 : decode cX7_readSitter 7 = .ok (.iload_n 2, 1) := by decide +kernel
theorem dX7_readSitter_8 : decode cX7_readSitter 8 = .ok (.iconst 5, 1) := by decide +kernel
theorem dX7_readSitter_9 : decode cX7_readSitter 9 = .ok (.if_icmp .ne 9, 3) := by decide +kernel
theorem dX7_readSitter_12 : decode cX7_readSitter 12 = .ok (.aload_n 0, 1) := by decide +kernel
theorem dX7_readSitter_13 : decode cX7_readSitter 13 = .ok (.iconst 3, 1) := by decide +kernel
theorem dX7_readSitter_14 : decode cX7_readSitter 14 = .ok (.invokevirtual 108, 3) := by decide +kernel
theorem dX7_readSitter_17 : decode cX7_readSitter 17 = .ok (.ireturn, 1) := by decide +kernel
theorem dX7_readSitter_18 : decode cX7_readSitter 18 = .ok (.aload_n 0, 1) := by decide +kernel
theorem dX7_readSitter_19 : decode cX7_readSitter 19 = .ok (.invokevirtual 111, 3) := by decide +kernel
theorem dX7_readSitter_22 : decode cX7_readSitter 22 = .ok (.aload_n 0, 1) := by decide +kernel
theorem dX7_readSitter_23 : decode cX7_readSitter 23 = .ok (.getfield 28, 3) := by decide +kernel
theorem dX7_readSitter_26 : decode cX7_readSitter 26 = .ok (.bipush 37, 2) := by decide +kernel
theorem dX7_readSitter_28 : decode cX7_readSitter 28 = .ok (.iload_n 2, 1) := by decide +kernel
theorem dX7_readSitter_29 : decode cX7_readSitter 29 = .ok (.iadd, 1) := by decide +kernel
theorem dX7_readSitter_30 : decode cX7_readSitter 30 = .ok (.iload_n 1, 1) := by decide +kernel
theorem dX7_readSitter_31 : decode cX7_readSitter 31 = .ok (.iastore, 1) := by decide +kernel
theorem dX7_readSitter_32 : decode cX7_readSitter 32 = .ok (.aload_n 0, 1) := by decide +kernel
theorem dX7_readSitter_33 : decode cX7_readSitter 33 = .ok (.getfield 28, 3) := by decide +kernel
theorem dX7_readSitter_36 : decode cX7_readSitter 36 = .ok (.iconst 5, 1) := by decide +kernel
theorem dX7_readSitter_37 : decode cX7_readSitter 37 = .ok (.dup2, 1) := by decide +kernel
theorem dX7_readSitter_38 : decode cX7_readSitter 38 = .ok (.iaload, 1) := by decide +kernel
theorem dX7_readSitter_39 : decode cX7_readSitter 39 = .ok (.iconst 1, 1) := by decide +kernel
theorem dX7_readSitter_40 : decode cX7_readSitter 40 = .ok (.iadd, 1) := by decide +kernel
theorem dX7_readSitter_41 : decode cX7_readSitter 41 = .ok (.iastore, 1) := by decide +kernel
theorem dX7_readSitter_42 : decode cX7_readSitter 42 = .ok (.aload_n 0, 1) := by decide +kernel
theorem dX7_readSitter_43 : decode cX7_readSitter 43 = .ok (.iconst 0, 1) := by decide +kernel
theorem dX7_readSitter_44 : decode cX7_readSitter 44 = .ok (.aload_n 0, 1) := by decide +kernel
theorem dX7_readSitter_45 : decode cX7_readSitter 45 = .ok (.getfield 28, 3) := by decide +kernel
theorem dX7_readSitter_48 : decode cX7_readSitter 48 = .ok (.iconst 0, 1) := by decide +kernel
theorem dX7_readSitter_49 : decode cX7_readSitter 49 = .ok (.iaload, 1) := by decide +kernel
theorem dX7_readSitter_50 : decode cX7_readSitter 50 = .ok (.iconst 1, 1) := by decide +kernel
theorem dX7_readSitter_51 : decode cX7_readSitter 51 = .ok (.isub, 1) := by decide +kernel
theorem dX7_readSitter_52 : decode cX7_readSitter 52 = .ok (.bipush 42, 2) := by decide +kernel
theorem dX7_readSitter_54 : decode cX7_readSitter 54 = .ok (.iload_n 2, 1) := by decide +kernel
theorem dX7_readSitter_55 : decode cX7_readSitter 55 = .ok (.iadd, 1) := by decide +kernel
theorem dX7_readSitter_56 : decode cX7_readSitter 56 = .ok (.bipush 44, 2) := by decide +kernel
theorem dX7_readSitter_58 : decode cX7_readSitter 58 = .ok (.invokevirtual 117, 3) := by decide +kernel
theorem dX7_readSitter_61 : decode cX7_readSitter 61 = .ok (.ifCond .eq 23, 3) := by decide +kernel
theorem dX7_readSitter_64 : decode cX7_readSitter 64 = .ok (.aload_n 0, 1) := by decide +kernel
theorem dX7_readSitter_65 : decode cX7_readSitter 65 = .ok (.iconst 0, 1) := by decide +kernel
theorem dX7_readSitter_66 : decode cX7_readSitter 66 = .ok (.bipush 20, 2) := by decide +kernel
theorem dX7_readSitter_68 : decode cX7_readSitter 68 = .ok (.bipush 47, 2) := by decide +kernel
theorem dX7_readSitter_70 : decode cX7_readSitter 70 = .ok (.iload_n 2, 1) := by decide +kernel
theorem dX7_readSitter_71 : decode cX7_readSitter 71 = .ok (.iadd, 1) := by decide +kernel
theorem dX7_readSitter_72 : decode cX7_readSitter 72 = .ok (.bipush 59, 2) := by decide +kernel
theorem dX7_readSitter_74 : decode cX7_readSitter 74 = .ok (.invokevirtual 117, 3) := by decide +kernel
theorem dX7_readSitter_77 : decode cX7_readSitter 77 = .ok (.ifCond .eq 7, 3) := by decide +kernel
theorem dX7_readSitter_80 : decode cX7_readSitter 80 = .ok (.iconst 1, 1) := by decide +kernel
theorem dX7_readSitter_81 : decode cX7_readSitter 81 = .ok (.goto 4, 3) := by decide +kernel
theorem dX7_readSitter_84 : decode cX7_readSitter 84 = .ok (.iconst 0, 1) := by decide +kernel
theorem dX7_readSitter_85 : decode cX7_readSitter 85 = .ok (.ireturn, 1) := by decide +kernel
theorem dX7_readHouse_0 : decode cX7_readHouse 0 = .ok (.aload_n 0, 1) := by decide +kernel
theorem dX7_readHouse_1 : decode cX7_readHouse 1 = .ok (.iconst 0, 1) := by decide +kernel
theorem dX7_readHouse_2 : decode cX7_readHouse 2 = .ok (.putfield 82, 3) := by decide +kernel
theorem dX7_readHouse_5 : decode cX7_readHouse 5 = .ok (.iconst 0, 1) := by decide +kernel
theorem dX7_readHouse_6 : decode cX7_readHouse 6 = .ok (.istore_n 1, 1) := by decide +kernel
theorem dX7_readHouse_7 : decode cX7_readHouse 7 = .ok (.iload_n 1, 1) := by decide +kernel
theorem dX7_readHouse_8 : decode cX7_readHouse 8 = .ok (.bipush 52, 2) := by decide +kernel
theorem dX7_readHouse_10 : decode cX7_readHouse 10 = .ok (.if_icmp .ge 16, 3) := by decide +kernel
theorem dX7_readHouse_13 : decode cX7_readHouse 13 = .ok (.aload_n 0, 1) := by decide +kernel
theorem dX7_readHouse_14 : decode cX7_readHouse 14 = .ok (.getfield 28, 3) := by decide +kernel
theorem dX7_readHouse_17 : decode cX7_readHouse 17 = .ok (.iload_n 1, 1) := by decide +kernel
theorem dX7_readHouse_18 : decode cX7_readHouse 18 = .ok (.iconst 0, 1) := by decide +kernel
theorem dX7_readHouse_19 : decode cX7_readHouse 19 = .ok (.iastore, 1) := by decide +kernel
theorem dX7_readHouse_20 : decode cX7_readHouse 20 = .ok (.iinc 1 1, 3) := by decide +kernel
theorem dX7_readHouse_23 : decode cX7_readHouse 23 = .ok (.goto (-16), 3) := by decide +kernel
theorem dX7_readHouse_26 : decode cX7_readHouse 26 = .ok (.aload_n 0, 1) := by decide +kernel
theorem dX7_readHouse_27 : decode cX7_readHouse 27 = .ok (.invokevirtual 111, 3) := by decide +kernel
theorem dX7_readHouse_30 : decode cX7_readHouse 30 = .ok (.aload_n 0, 1) := by decide +kernel
theorem dX7_readHouse_31 : decode cX7_readHouse 31 = .ok (.bipush 110, 2) := by decide +kernel
theorem dX7_readHouse_33 : decode cX7_readHouse 33 = .ok (.invokevirtual 114, 3) := by decide +kernel
theorem dX7_readHouse_36 : decode cX7_readHouse 36 = .ok (.ifCond .eq 61, 3) := by decide +kernel
theorem dX7_readHouse_39 : decode cX7_readHouse 39 = .ok (.aload_n 0, 1) := by decide +kernel
theorem dX7_readHouse_40 : decode cX7_readHouse 40 = .ok (.iconst 1, 1) := by decide +kernel
theorem dX7_readHouse_41 : decode cX7_readHouse 41 = .ok (.bipush 6, 2) := by decide +kernel
theorem dX7_readHouse_43 : decode cX7_readHouse 43 = .ok (.iconst 0, 1) := by decide +kernel
theorem dX7_readHouse_44 : decode cX7_readHouse 44 = .ok (.bipush 44, 2) := by decide +kernel
theorem dX7_readHouse_46 : decode cX7_readHouse 46 = .ok (.invokevirtual 117, 3) := by decide +kernel
theorem dX7_readHouse_49 : decode cX7_readHouse 49 = .ok (.ifCond .eq 48, 3) := by decide +kernel
theorem dX7_readHouse_52 : decode cX7_readHouse 52 = .ok (.aload_n 0, 1) := by decide +kernel
theorem dX7_readHouse_53 : decode cX7_readHouse 53 = .ok (.iconst 0, 1) := by decide +kernel
theorem dX7_readHouse_54 : decode cX7_readHouse 54 = .ok (.aload_n 0, 1) := by decide +kernel
theorem dX7_readHouse_55 : decode cX7_readHouse 55 = .ok (.getfield 28, 3) := by decide +kernel
theorem dX7_readHouse_58 : decode cX7_readHouse 58 = .ok (.iconst 0, 1) := by decide +kernel
theorem dX7_readHouse_59 : decode cX7_readHouse 59 = .ok (.iaload, 1) := by decide +kernel
theorem dX7_readHouse_60 : decode cX7_readHouse 60 = .ok (.iconst 1, 1) := by decide +kernel
theorem dX7_readHouse_61 : decode cX7_readHouse 61 = .ok (.isub, 1) := by decide +kernel
theorem dX7_readHouse_62 : decode cX7_readHouse 62 = .ok (.iconst 1, 1) := by decide +kernel
theorem dX7_readHouse_63 : decode cX7_readHouse 63 = .ok (.bipush 44, 2) := by decide +kernel
theorem dX7_readHouse_65 : decode cX7_readHouse 65 = .ok (.invokevirtual 117, 3) := by decide +kernel
theorem dX7_readHouse_68 : decode cX7_readHouse 68 = .ok (.ifCond .eq 29, 3) := by decide +kernel
theorem dX7_readHouse_71 : decode cX7_readHouse 71 = .ok (.aload_n 0, 1) := by decide +kernel
theorem dX7_readHouse_72 : decode cX7_readHouse 72 = .ok (.iconst 0, 1) := by decide +kernel
theorem dX7_readHouse_73 : decode cX7_readHouse 73 = .ok (.bipush 40, 2) := by decide +kernel
theorem dX7_readHouse_75 : decode cX7_readHouse 75 = .ok (.iconst 2, 1) := by decide +kernel
theorem dX7_readHouse_76 : decode cX7_readHouse 76 = .ok (.bipush 44, 2) := by decide +kernel
theorem dX7_readHouse_78 : decode cX7_readHouse 78 = .ok (.invokevirtual 117, 3) := by decide +kernel
theorem dX7_readHouse_81 : decode cX7_readHouse 81 = .ok (.ifCond .eq 16, 3) := by decide +kernel
theorem dX7_readHouse_84 : decode cX7_readHouse 84 = .ok (.aload_n 0, 1) := by decide +kernel
theorem dX7_readHouse_85 : decode cX7_readHouse 85 = .ok (.iconst 0, 1) := by decide +kernel
theorem dX7_readHouse_86 : decode cX7_readHouse 86 = .ok (.bipush 99, 2) := by decide +kernel
theorem dX7_readHouse_88 : decode cX7_readHouse 88 = .ok (.iconst 3, 1) := by decide +kernel
theorem dX7_readHouse_89 : decode cX7_readHouse 89 = .ok (.bipush 59, 2) := by decide +kernel
theorem dX7_readHouse_91 : decode cX7_readHouse 91 = .ok (.invokevirtual 117, 3) := by decide +kernel
theorem dX7_readHouse_94 : decode cX7_readHouse 94 = .ok (.ifCond .ne 5, 3) := by decide +kernel
theorem dX7_readHouse_97 : decode cX7_readHouse 97 = .ok (.iconst 0, 1) := by decide +kernel
theorem dX7_readHouse_98 : decode cX7_readHouse 98 = .ok (.ireturn, 1) := by decide +kernel
theorem dX7_readHouse_99 : decode cX7_readHouse 99 = .ok (.iconst 1, 1) := by decide +kernel
theorem dX7_readHouse_100 : decode cX7_readHouse 100 = .ok (.istore_n 1, 1) := by decide +kernel
theorem dX7_readHouse_101 : decode cX7_readHouse 101 = .ok (.iload_n 1, 1) := by decide +kernel
theorem dX7_readHouse_102 : decode cX7_readHouse 102 = .ok (.ifCond .eq 115, 3) := by decide +kernel
theorem dX7_readHouse_105 : decode cX7_readHouse 105 = .ok (.aload_n 0, 1) := by decide +kernel
theorem dX7_readHouse_106 : decode cX7_readHouse 106 = .ok (.getfield 88, 3) := by decide +kernel
theorem dX7_readHouse_109 : decode cX7_readHouse 109 = .ok (.iconst 3, 1) := by decide +kernel
theorem dX7_readHouse_110 : decode cX7_readHouse 110 = .ok (.if_icmp .eq 107, 3) := by decide +kernel
theorem dX7_readHouse_113 : decode cX7_readHouse 113 = .ok (.aload_n 0, 1) := by decide +kernel
theorem dX7_readHouse_114 : decode cX7_readHouse 114 = .ok (.bipush 114, 2) := by decide +kernel
theorem dX7_readHouse_116 : decode cX7_readHouse 116 = .ok (.invokevirtual 105, 3) := by decide +kernel
theorem dX7_readHouse_119 : decode cX7_readHouse 119 = .ok (.ifCond .eq 7, 3) := by decide +kernel
theorem dX7_readHouse_122 : decode cX7_readHouse 122 = .ok (.iconst 1, 1) := by decide +kernel
theorem dX7_readHouse_123 : decode cX7_readHouse 123 = .ok (.goto 56, 3) := by decide +kernel
theorem dX7_readHouse_126 : decode cX7_readHouse 126 = .ok (.aload_n 0, 1) := by decide +kernel
theorem dX7_readHouse_127 : decode cX7_readHouse 127 = .ok (.bipush 112, 2) := by decide +kernel
theorem dX7_readHouse_129 : decode cX7_readHouse 129 = .ok (.invokevirtual 105, 3) := by decide +kernel
theorem dX7_readHouse_132 : decode cX7_readHouse 132 = .ok (.ifCond .eq 7, 3) := by decide +kernel
theorem dX7_readHouse_135 : decode cX7_readHouse 135 = .ok (.iconst 2, 1) := by decide +kernel
theorem dX7_readHouse_136 : decode cX7_readHouse 136 = .ok (.goto 43, 3) := by decide +kernel
theorem dX7_readHouse_139 : decode cX7_readHouse 139 = .ok (.aload_n 0, 1) := by decide +kernel
theorem dX7_readHouse_140 : decode cX7_readHouse 140 = .ok (.bipush 116, 2) := by decide +kernel
theorem dX7_readHouse_142 : decode cX7_readHouse 142 = .ok (.invokevirtual 105, 3) := by decide +kernel
theorem dX7_readHouse_145 : decode cX7_readHouse 145 = .ok (.ifCond .eq 7, 3) := by decide +kernel
theorem dX7_readHouse_148 : decode cX7_readHouse 148 = .ok (.iconst 3, 1) := by decide +kernel
theorem dX7_readHouse_149 : decode cX7_readHouse 149 = .ok (.goto 30, 3) := by decide +kernel
theorem dX7_readHouse_152 : decode cX7_readHouse 152 = .ok (.aload_n 0, 1) := by decide +kernel
theorem dX7_readHouse_153 : decode cX7_readHouse 153 = .ok (.bipush 102, 2) := by decide +kernel
theorem dX7_readHouse_155 : decode cX7_readHouse 155 = .ok (.invokevirtual 105, 3) := by decide +kernel
theorem dX7_readHouse_158 : decode cX7_readHouse 158 = .ok (.ifCond .eq 7, 3) := by decide +kernel
theorem dX7_readHouse_161 : decode cX7_readHouse 161 = .ok (.iconst 4, 1) := by decide +kernel
theorem dX7_readHouse_162 : decode cX7_readHouse 162 = .ok (.goto 17, 3) := by decide +kernel
theorem dX7_readHouse_165 : decode cX7_readHouse 165 = .ok (.aload_n 0, 1) := by decide +kernel
theorem dX7_readHouse_166 : decode cX7_readHouse 166 = .ok (.bipush 105, 2) := by decide +kernel
theorem dX7_readHouse_168 : decode cX7_readHouse 168 = .ok (.invokevirtual 105, 3) := by decide +kernel
theorem dX7_readHouse_171 : decode cX7_readHouse 171 = .ok (.ifCond .eq 7, 3) := by decide +kernel
theorem dX7_readHouse_174 : decode cX7_readHouse 174 = .ok (.iconst 5, 1) := by decide +kernel
theorem dX7_readHouse_175 : decode cX7_readHouse 175 = .ok (.goto 4, 3) := by decide +kernel
theorem dX7_readHouse_178 : decode cX7_readHouse 178 = .ok (.iconst 0, 1) := by decide +kernel
theorem dX7_readHouse_179 : decode cX7_readHouse 179 = .ok (.istore_n 2, 1) := by decide +kernel
theorem dX7_readHouse_180 : decode cX7_readHouse 180 = .ok (.iload_n 2, 1) := by decide +kernel
theorem dX7_readHouse_181 : decode cX7_readHouse 181 = .ok (.ifCond .le 11, 3) := by decide +kernel
theorem dX7_readHouse_184 : decode cX7_readHouse 184 = .ok (.aload_n 0, 1) := by decide +kernel
theorem dX7_readHouse_185 : decode cX7_readHouse 185 = .ok (.iload_n 2, 1) := by decide +kernel
theorem dX7_readHouse_186 : decode cX7_readHouse 186 = .ok (.invokevirtual 121, 3) := by decide +kernel
theorem dX7_readHouse_189 : decode cX7_readHouse 189 = .ok (.goto 24, 3) := by decide +kernel
theorem dX7_readHouse_192 : decode cX7_readHouse 192 = .ok (.aload_n 0, 1) := by decide +kernel
theorem dX7_readHouse_193 : decode cX7_readHouse 193 = .ok (.bipush 100, 2) := by decide +kernel
theorem dX7_readHouse_195 : decode cX7_readHouse 195 = .ok (.invokevirtual 105, 3) := by decide +kernel
theorem dX7_readHouse_198 : decode cX7_readHouse 198 = .ok (.ifCond .eq 10, 3) := by decide +kernel
theorem dX7_readHouse_201 : decode cX7_readHouse 201 = .ok (.aload_n 0, 1) := by decide +kernel
theorem dX7_readHouse_202 : decode cX7_readHouse 202 = .ok (.invokevirtual 124, 3) := by decide +kernel
theorem dX7_readHouse_205 : decode cX7_readHouse 205 = .ok (.goto 8, 3) := by decide +kernel
theorem dX7_readHouse_208 : decode cX7_readHouse 208 = .ok (.aload_n 0, 1) := by decide +kernel
theorem dX7_readHouse_209 : decode cX7_readHouse 209 = .ok (.iconst 1, 1) := by decide +kernel
theorem dX7_readHouse_210 : decode cX7_readHouse 210 = .ok (.invokevirtual 108, 3) := by decide +kernel
theorem dX7_readHouse_213 : decode cX7_readHouse 213 = .ok (.istore_n 1, 1) := by decide +kernel
theorem dX7_readHouse_214 : decode cX7_readHouse 214 = .ok (.goto (-113), 3) := by decide +kernel
theorem dX7_readHouse_217 : decode cX7_readHouse 217 = .ok (.iload_n 1, 1) := by decide +kernel
theorem dX7_readHouse_218 : decode cX7_readHouse 218 = .ok (.ireturn, 1) := by decide +kernel
theorem dX7_house_0 : decode cX7_house 0 = .ok (.aload_n 0, 1) := by decide +kernel
theorem dX7_house_1 : decode cX7_house 1 = .ok (.invokevirtual 128, 3) := by decide +kernel
theorem dX7_house_4 : decode cX7_house 4 = .ok (.istore_n 1, 1) := by decide +kernel
theorem dX7_house_5 : decode cX7_house 5 = .ok (.aload_n 0, 1) := by decide +kernel
theorem dX7_house_6 : decode cX7_house 6 = .ok (.iconst 0, 1) := by decide +kernel
theorem dX7_house_7 : decode cX7_house 7 = .ok (.putfield 78, 3) := by decide +kernel
theorem dX7_house_10 : decode cX7_house 10 = .ok (.iload_n 1, 1) := by decide +kernel
theorem dX7_house_11 : decode cX7_house 11 = .ok (.ifCond .ne 19, 3) := by decide +kernel
theorem dX7_house_14 : decode cX7_house 14 = .ok (.aload_n 0, 1) := by decide +kernel
theorem dX7_house_15 : decode cX7_house 15 = .ok (.aload_n 0, 1) := by decide +kernel
theorem dX7_house_16 : decode cX7_house 16 = .ok (.getfield 102, 3) := by decide +kernel
theorem dX7_house_19 : decode cX7_house 19 = .ok (.putfield 131, 3) := by decide +kernel
theorem dX7_house_22 : decode cX7_house 22 = .ok (.ldc 134, 2) := by decide +kernel
theorem dX7_house_24 : decode cX7_house 24 = .ok (.aload_n 0, 1) := by decide +kernel
theorem dX7_house_25 : decode cX7_house 25 = .ok (.getfield 85, 3) := by decide +kernel
theorem dX7_house_28 : decode cX7_house 28 = .ok (.isub, 1) := by decide +kernel
theorem dX7_house_29 : decode cX7_house 29 = .ok (.ireturn, 1) := by decide +kernel
theorem dX7_house_30 : decode cX7_house 30 = .ok (.iconst 0, 1) := by decide +kernel
theorem dX7_house_31 : decode cX7_house 31 = .ok (.istore_n 2, 1) := by decide +kernel
theorem dX7_house_32 : decode cX7_house 32 = .ok (.iload_n 2, 1) := by decide +kernel
theorem dX7_house_33 : decode cX7_house 33 = .ok (.bipush 52, 2) := by decide +kernel
theorem dX7_house_35 : decode cX7_house 35 = .ok (.if_icmp .ge 21, 3) := by decide +kernel
theorem dX7_house_38 : decode cX7_house 38 = .ok (.aload_n 0, 1) := by decide +kernel
theorem dX7_house_39 : decode cX7_house 39 = .ok (.getfield 19, 3) := by decide +kernel
theorem dX7_house_42 : decode cX7_house 42 = .ok (.iload_n 2, 1) := by decide +kernel
theorem dX7_house_43 : decode cX7_house 43 = .ok (.aload_n 0, 1) := by decide +kernel
theorem dX7_house_44 : decode cX7_house 44 = .ok (.getfield 28, 3) := by decide +kernel
theorem dX7_house_47 : decode cX7_house 47 = .ok (.iload_n 2, 1) := by decide +kernel
theorem dX7_house_48 : decode cX7_house 48 = .ok (.iaload, 1) := by decide +kernel
theorem dX7_house_49 : decode cX7_house 49 = .ok (.iastore, 1) := by decide +kernel
theorem dX7_house_50 : decode cX7_house 50 = .ok (.iinc 2 1, 3) := by decide +kernel
theorem dX7_house_53 : decode cX7_house 53 = .ok (.goto (-21), 3) := by decide +kernel
theorem dX7_house_56 : decode cX7_house 56 = .ok (.aload_n 0, 1) := by decide +kernel
theorem dX7_house_57 : decode cX7_house 57 = .ok (.iconst 1, 1) := by decide +kernel
theorem dX7_house_58 : decode cX7_house 58 = .ok (.putfield 135, 3) := by decide +kernel
theorem dX7_house_61 : decode cX7_house 61 = .ok (.aload_n 0, 1) := by decide +kernel
theorem dX7_house_62 : decode cX7_house 62 = .ok (.iconst 0, 1) := by decide +kernel
theorem dX7_house_63 : decode cX7_house 63 = .ok (.putfield 139, 3) := by decide +kernel
theorem dX7_house_66 : decode cX7_house 66 = .ok (.aload_n 0, 1) := by decide +kernel
theorem dX7_house_67 : decode cX7_house 67 = .ok (.getfield 19, 3) := by decide +kernel
theorem dX7_house_70 : decode cX7_house 70 = .ok (.iconst 5, 1) := by decide +kernel
theorem dX7_house_71 : decode cX7_house 71 = .ok (.iaload, 1) := by decide +kernel
theorem dX7_house_72 : decode cX7_house 72 = .ok (.ireturn, 1) := by decide +kernel
theorem dX7_fault_0 : decode cX7_fault 0 = .ok (.aload_n 0, 1) := by decide +kernel
theorem dX7_fault_1 : decode cX7_fault 1 = .ok (.getfield 131, 3) := by decide +kernel
theorem dX7_fault_4 : decode cX7_fault 4 = .ok (.ireturn, 1) := by decide +kernel
theorem dX7_note_0 : decode cX7_note 0 = .ok (.aload_n 0, 1) := by decide +kernel
theorem dX7_note_1 : decode cX7_note 1 = .ok (.getfield 139, 3) := by decide +kernel
theorem dX7_note_4 : decode cX7_note 4 = .ok (.bipush 24, 2) := by decide +kernel
theorem dX7_note_6 : decode cX7_note 6 = .ok (.if_icmp .ne 43, 3) := by decide +kernel
theorem dX7_note_9 : decode cX7_note 9 = .ok (.iconst 0, 1) := by decide +kernel
theorem dX7_note_10 : decode cX7_note 10 = .ok (.istore_n 1, 1) := by decide +kernel
theorem dX7_note_11 : decode cX7_note 11 = .ok (.iload_n 1, 1) := by decide +kernel
theorem dX7_note_12 : decode cX7_note 12 = .ok (.sipush 1196, 3) := by decide +kernel
theorem dX7_note_15 : decode cX7_note 15 = .ok (.if_icmp .ge 24, 3) := by decide +kernel
theorem dX7_note_18 : decode cX7_note 18 = .ok (.aload_n 0, 1) := by decide +kernel
theorem dX7_note_19 : decode cX7_note 19 = .ok (.getfield 31, 3) := by decide +kernel
theorem dX7_note_22 : decode cX7_note 22 = .ok (.iload_n 1, 1) := by decide +kernel
theorem dX7_note_23 : decode cX7_note 23 = .ok (.aload_n 0, 1) := by decide +kernel
theorem dX7_note_24 : decode cX7_note 24 = .ok (.getfield 31, 3) := by decide +kernel
theorem dX7_note_27 : decode cX7_note 27 = .ok (.iload_n 1, 1) := by decide +kernel
theorem dX7_note_28 : decode cX7_note 28 = .ok (.bipush 52, 2) := by decide +kernel
theorem dX7_note_30 : decode cX7_note 30 = .ok (.iadd, 1) := by decide +kernel
theorem dX7_note_31 : decode cX7_note 31 = .ok (.iaload, 1) := by decide +kernel
theorem dX7_note_32 : decode cX7_note 32 = .ok (.iastore, 1) := by decide +kernel
theorem dX7_note_33 : decode cX7_note 33 = .ok (.iinc 1 1, 3) := by decide +kernel
theorem dX7_note_36 : decode cX7_note 36 = .ok (.goto (-25), 3) := by decide +kernel
theorem dX7_note_39 : decode cX7_note 39 = .ok (.aload_n 0, 1) := by decide +kernel
theorem dX7_note_40 : decode cX7_note 40 = .ok (.dup, 1) := by decide +kernel
theorem dX7_note_41 : decode cX7_note 41 = .ok (.getfield 139, 3) := by decide +kernel
theorem dX7_note_44 : decode cX7_note 44 = .ok (.iconst 1, 1) := by decide +kernel
theorem dX7_note_45 : decode cX7_note 45 = .ok (.isub, 1) := by decide +kernel
theorem dX7_note_46 : decode cX7_note 46 = .ok (.putfield 139, 3) := by decide +kernel
theorem dX7_note_49 : decode cX7_note 49 = .ok (.iconst 0, 1) := by decide +kernel
theorem dX7_note_50 : decode cX7_note 50 = .ok (.istore_n 1, 1) := by decide +kernel
theorem dX7_note_51 : decode cX7_note 51 = .ok (.iload_n 1, 1) := by decide +kernel
theorem dX7_note_52 : decode cX7_note 52 = .ok (.bipush 52, 2) := by decide +kernel
theorem dX7_note_54 : decode cX7_note 54 = .ok (.if_icmp .ge 29, 3) := by decide +kernel
theorem dX7_note_57 : decode cX7_note 57 = .ok (.aload_n 0, 1) := by decide +kernel
theorem dX7_note_58 : decode cX7_note 58 = .ok (.getfield 31, 3) := by decide +kernel
theorem dX7_note_61 : decode cX7_note 61 = .ok (.bipush 52, 2) := by decide +kernel
theorem dX7_note_63 : decode cX7_note 63 = .ok (.aload_n 0, 1) := by decide +kernel
theorem dX7_note_64 : decode cX7_note 64 = .ok (.getfield 139, 3) := by decide +kernel
theorem dX7_note_67 : decode cX7_note 67 = .ok (.imul, 1) := by decide +kernel
theorem dX7_note_68 : decode cX7_note 68 = .ok (.iload_n 1, 1) := by decide +kernel
theorem dX7_note_69 : decode cX7_note 69 = .ok (.iadd, 1) := by decide +kernel
theorem dX7_note_70 : decode cX7_note 70 = .ok (.aload_n 0, 1) := by decide +kernel
theorem dX7_note_71 : decode cX7_note 71 = .ok (.getfield 19, 3) := by decide +kernel
theorem dX7_note_74 : decode cX7_note 74 = .ok (.iload_n 1, 1) := by decide +kernel
theorem dX7_note_75 : decode cX7_note 75 = .ok (.iaload, 1) := by decide +kernel
theorem dX7_note_76 : decode cX7_note 76 = .ok (.iastore, 1) := by decide +kernel
theorem dX7_note_77 : decode cX7_note 77 = .ok (.iinc 1 1, 3) := by decide +kernel
theorem dX7_note_80 : decode cX7_note 80 = .ok (.goto (-29), 3) := by decide +kernel
theorem dX7_note_83 : decode cX7_note 83 = .ok (.aload_n 0, 1) := by decide +kernel
theorem dX7_note_84 : decode cX7_note 84 = .ok (.dup, 1) := by decide +kernel
theorem dX7_note_85 : decode cX7_note 85 = .ok (.getfield 139, 3) := by decide +kernel
theorem dX7_note_88 : decode cX7_note 88 = .ok (.iconst 1, 1) := by decide +kernel
theorem dX7_note_89 : decode cX7_note 89 = .ok (.iadd, 1) := by decide +kernel
theorem dX7_note_90 : decode cX7_note 90 = .ok (.putfield 139, 3) := by decide +kernel
theorem dX7_note_93 : decode cX7_note 93 = .ok (.return_, 1) := by decide +kernel
theorem dX7_undo_0 : decode cX7_undo 0 = .ok (.aload_n 0, 1) := by decide +kernel
theorem dX7_undo_1 : decode cX7_undo 1 = .ok (.getfield 139, 3) := by decide +kernel
theorem dX7_undo_4 : decode cX7_undo 4 = .ok (.ifCond .ne 6, 3) := by decide +kernel
theorem dX7_undo_7 : decode cX7_undo 7 = .ok (.ldc 142, 2) := by decide +kernel
theorem dX7_undo_9 : decode cX7_undo 9 = .ok (.ireturn, 1) := by decide +kernel
theorem dX7_undo_10 : decode cX7_undo 10 = .ok (.aload_n 0, 1) := by decide +kernel
theorem dX7_undo_11 : decode cX7_undo 11 = .ok (.dup, 1) := by decide +kernel
theorem dX7_undo_12 : decode cX7_undo 12 = .ok (.getfield 139, 3) := by decide +kernel
theorem dX7_undo_15 : decode cX7_undo 15 = .ok (.iconst 1, 1) := by decide +kernel
theorem dX7_undo_16 : decode cX7_undo 16 = .ok (.isub, 1) := by decide +kernel
theorem dX7_undo_17 : decode cX7_undo 17 = .ok (.putfield 139, 3) := by decide +kernel
theorem dX7_undo_20 : decode cX7_undo 20 = .ok (.iconst 0, 1) := by decide +kernel
theorem dX7_undo_21 : decode cX7_undo 21 = .ok (.istore_n 1, 1) := by decide +kernel
theorem dX7_undo_22 : decode cX7_undo 22 = .ok (.iload_n 1, 1) := by decide +kernel
theorem dX7_undo_23 : decode cX7_undo 23 = .ok (.bipush 52, 2) := by decide +kernel
theorem dX7_undo_25 : decode cX7_undo 25 = .ok (.if_icmp .ge 29, 3) := by decide +kernel
theorem dX7_undo_28 : decode cX7_undo 28 = .ok (.aload_n 0, 1) := by decide +kernel
theorem dX7_undo_29 : decode cX7_undo 29 = .ok (.getfield 19, 3) := by decide +kernel
theorem dX7_undo_32 : decode cX7_undo 32 = .ok (.iload_n 1, 1) := by decide +kernel
theorem dX7_undo_33 : decode cX7_undo 33 = .ok (.aload_n 0, 1) := by decide +kernel
theorem dX7_undo_34 : decode cX7_undo 34 = .ok (.getfield 31, 3) := by decide +kernel
theorem dX7_undo_37 : decode cX7_undo 37 = .ok (.bipush 52, 2) := by decide +kernel
theorem dX7_undo_39 : decode cX7_undo 39 = .ok (.aload_n 0, 1) := by decide +kernel
theorem dX7_undo_40 : decode cX7_undo 40 = .ok (.getfield 139, 3) := by decide +kernel
theorem dX7_undo_43 : decode cX7_undo 43 = .ok (.imul, 1) := by decide +kernel
theorem dX7_undo_44 : decode cX7_undo 44 = .ok (.iload_n 1, 1) := by decide +kernel
theorem dX7_undo_45 : decode cX7_undo 45 = .ok (.iadd, 1) := by decide +kernel
theorem dX7_undo_46 : decode cX7_undo 46 = .ok (.iaload, 1) := by decide +kernel
theorem dX7_undo_47 : decode cX7_undo 47 = .ok (.iastore, 1) := by decide +kernel
theorem dX7_undo_48 : decode cX7_undo 48 = .ok (.iinc 1 1, 3) := by decide +kernel
theorem dX7_undo_51 : decode cX7_undo 51 = .ok (.goto (-29), 3) := by decide +kernel
theorem dX7_undo_54 : decode cX7_undo 54 = .ok (.aload_n 0, 1) := by decide +kernel
theorem dX7_undo_55 : decode cX7_undo 55 = .ok (.getfield 139, 3) := by decide +kernel
theorem dX7_undo_58 : decode cX7_undo 58 = .ok (.ireturn, 1) := by decide +kernel
theorem dX7_bound_0 : decode cX7_bound 0 = .ok (.iload_n 0, 1) := by decide +kernel
theorem dX7_bound_1 : decode cX7_bound 1 = .ok (.ifCond .ge 7, 3) := by decide +kernel
theorem dX7_bound_4 : decode cX7_bound 4 = .ok (.iconst 0, 1) := by decide +kernel
theorem dX7_bound_5 : decode cX7_bound 5 = .ok (.goto 17, 3) := by decide +kernel
theorem dX7_bound_8 : decode cX7_bound 8 = .ok (.iload_n 0, 1) := by decide +kernel
theorem dX7_bound_9 : decode cX7_bound 9 = .ok (.sipush 999, 3) := by decide +kernel
theorem dX7_bound_12 : decode cX7_bound 12 = .ok (.if_icmp .le 9, 3) := by decide +kernel
theorem dX7_bound_15 : decode cX7_bound 15 = .ok (.sipush 999, 3) := by decide +kernel
theorem dX7_bound_18 : decode cX7_bound 18 = .ok (.goto 4, 3) := by decide +kernel
theorem dX7_bound_21 : decode cX7_bound 21 = .ok (.iload_n 0, 1) := by decide +kernel
theorem dX7_bound_22 : decode cX7_bound 22 = .ok (.ireturn, 1) := by decide +kernel
theorem dX7_isKept_0 : decode cX7_isKept 0 = .ok (.iconst 0, 1) := by decide +kernel
theorem dX7_isKept_1 : decode cX7_isKept 1 = .ok (.istore_n 3, 1) := by decide +kernel
theorem dX7_isKept_2 : decode cX7_isKept 2 = .ok (.iconst 0, 1) := by decide +kernel
theorem dX7_isKept_3 : decode cX7_isKept 3 = .ok (.istore 4, 2) := by decide +kernel
theorem dX7_isKept_5 : decode cX7_isKept 5 = .ok (.iload 4, 2) := by decide +kernel
theorem dX7_isKept_7 : decode cX7_isKept 7 = .ok (.aload_n 0, 1) := by decide +kernel
theorem dX7_isKept_8 : decode cX7_isKept 8 = .ok (.getfield 19, 3) := by decide +kernel
theorem dX7_isKept_11 : decode cX7_isKept 11 = .ok (.iconst 5, 1) := by decide +kernel
theorem dX7_isKept_12 : decode cX7_isKept 12 = .ok (.iaload, 1) := by decide +kernel
theorem dX7_isKept_13 : decode cX7_isKept 13 = .ok (.if_icmp .ge 61, 3) := by decide +kernel
theorem dX7_isKept_16 : decode cX7_isKept 16 = .ok (.aload_n 0, 1) := by decide +kernel
theorem dX7_isKept_17 : decode cX7_isKept 17 = .ok (.getfield 19, 3) := by decide +kernel
theorem dX7_isKept_20 : decode cX7_isKept 20 = .ok (.bipush 37, 2) := by decide +kernel
theorem dX7_isKept_22 : decode cX7_isKept 22 = .ok (.iload 4, 2) := by decide +kernel
theorem dX7_isKept_24 : decode cX7_isKept 24 = .ok (.iadd, 1) := by decide +kernel
theorem dX7_isKept_25 : decode cX7_isKept 25 = .ok (.iaload, 1) := by decide +kernel
theorem dX7_isKept_26 : decode cX7_isKept 26 = .ok (.istore 5, 2) := by decide +kernel
theorem dX7_isKept_28 : decode cX7_isKept 28 = .ok (.iload_n 3, 1) := by decide +kernel
theorem dX7_isKept_29 : decode cX7_isKept 29 = .ok (.ifCond .ne 33, 3) := by decide +kernel
theorem dX7_isKept_32 : decode cX7_isKept 32 = .ok (.aload_n 0, 1) := by decide +kernel
theorem dX7_isKept_33 : decode cX7_isKept 33 = .ok (.getfield 19, 3) := by decide +kernel
theorem dX7_isKept_36 : decode cX7_isKept 36 = .ok (.bipush 42, 2) := by decide +kernel
theorem dX7_isKept_38 : decode cX7_isKept 38 = .ok (.iload 4, 2) := by decide +kernel
theorem dX7_isKept_40 : decode cX7_isKept 40 = .ok (.iadd, 1) := by decide +kernel
theorem dX7_isKept_41 : decode cX7_isKept 41 = .ok (.iaload, 1) := by decide +kernel
theorem dX7_isKept_42 : decode cX7_isKept 42 = .ok (.iload_n 1, 1) := by decide +kernel
theorem dX7_isKept_43 : decode cX7_isKept 43 = .ok (.if_icmp .ne 23, 3) := by decide +kernel
theorem dX7_isKept_46 : decode cX7_isKept 46 = .ok (.iload 5, 2) := by decide +kernel
theorem dX7_isKept_48 : decode cX7_isKept 48 = .ok (.iconst 2, 1) := by decide +kernel
theorem dX7_isKept_49 : decode cX7_isKept 49 = .ok (.if_icmp .eq 13, 3) := by decide +kernel
theorem dX7_isKept_52 : decode cX7_isKept 52 = .ok (.iload_n 2, 1) := by decide +kernel
theorem dX7_isKept_53 : decode cX7_isKept 53 = .ok (.ifCond .ne 13, 3) := by decide +kernel
theorem dX7_isKept_56 : decode cX7_isKept 56 = .ok (.iload 5, 2) := by decide +kernel
theorem dX7_isKept_58 : decode cX7_isKept 58 = .ok (.iconst 4, 1) := by decide +kernel
theorem dX7_isKept_59 : decode cX7_isKept 59 = .ok (.if_icmp .ge 7, 3) := by decide +kernel
theorem dX7_isKept_62 : decode cX7_isKept 62 = .ok (.iconst 1, 1) := by decide +kernel
theorem dX7_isKept_63 : decode cX7_isKept 63 = .ok (.goto 4, 3) := by decide +kernel
theorem dX7_isKept_66 : decode cX7_isKept 66 = .ok (.iconst 0, 1) := by decide +kernel
theorem dX7_isKept_67 : decode cX7_isKept 67 = .ok (.istore_n 3, 1) := by decide +kernel
theorem dX7_isKept_68 : decode cX7_isKept 68 = .ok (.iinc 4 1, 3) := by decide +kernel
theorem dX7_isKept_71 : decode cX7_isKept 71 = .ok (.goto (-66), 3) := by decide +kernel
theorem dX7_isKept_74 : decode cX7_isKept 74 = .ok (.iload_n 3, 1) := by decide +kernel
theorem dX7_isKept_75 : decode cX7_isKept 75 = .ok (.ireturn, 1) := by decide +kernel
theorem dX7_flow_0 : decode cX7_flow 0 = .ok (.aload_n 0, 1) := by decide +kernel
theorem dX7_flow_1 : decode cX7_flow 1 = .ok (.getfield 19, 3) := by decide +kernel
theorem dX7_flow_4 : decode cX7_flow 4 = .ok (.bipush 7, 2) := by decide +kernel
theorem dX7_flow_6 : decode cX7_flow 6 = .ok (.iload_n 1, 1) := by decide +kernel
theorem dX7_flow_7 : decode cX7_flow 7 = .ok (.iadd, 1) := by decide +kernel
theorem dX7_flow_8 : decode cX7_flow 8 = .ok (.iaload, 1) := by decide +kernel
theorem dX7_flow_9 : decode cX7_flow 9 = .ok (.aload_n 0, 1) := by decide +kernel
theorem dX7_flow_10 : decode cX7_flow 10 = .ok (.getfield 19, 3) := by decide +kernel
theorem dX7_flow_13 : decode cX7_flow 13 = .ok (.bipush 7, 2) := by decide +kernel
theorem dX7_flow_15 : decode cX7_flow 15 = .ok (.iload_n 2, 1) := by decide +kernel
theorem dX7_flow_16 : decode cX7_flow 16 = .ok (.iadd, 1) := by decide +kernel
theorem dX7_flow_17 : decode cX7_flow 17 = .ok (.iaload, 1) := by decide +kernel
theorem dX7_flow_18 : decode cX7_flow 18 = .ok (.isub, 1) := by decide +kernel
theorem dX7_flow_19 : decode cX7_flow 19 = .ok (.iconst 4, 1) := by decide +kernel
theorem dX7_flow_20 : decode cX7_flow 20 = .ok (.idiv, 1) := by decide +kernel
theorem dX7_flow_21 : decode cX7_flow 21 = .ok (.istore_n 3, 1) := by decide +kernel
theorem dX7_flow_22 : decode cX7_flow 22 = .ok (.aload_n 0, 1) := by decide +kernel
theorem dX7_flow_23 : decode cX7_flow 23 = .ok (.iload_n 1, 1) := by decide +kernel
theorem dX7_flow_24 : decode cX7_flow 24 = .ok (.iconst 1, 1) := by decide +kernel
theorem dX7_flow_25 : decode cX7_flow 25 = .ok (.invokevirtual 143, 3) := by decide +kernel
theorem dX7_flow_28 : decode cX7_flow 28 = .ok (.ifCond .eq 7, 3) := by decide +kernel
theorem dX7_flow_31 : decode cX7_flow 31 = .ok (.iconst 0, 1) := by decide +kernel
theorem dX7_flow_32 : decode cX7_flow 32 = .ok (.goto 19, 3) := by decide +kernel
theorem dX7_flow_35 : decode cX7_flow 35 = .ok (.aload_n 0, 1) := by decide +kernel
theorem dX7_flow_36 : decode cX7_flow 36 = .ok (.iload_n 1, 1) := by decide +kernel
theorem dX7_flow_37 : decode cX7_flow 37 = .ok (.iconst 0, 1) := by decide +kernel
theorem dX7_flow_38 : decode cX7_flow 38 = .ok (.invokevirtual 143, 3) := by decide +kernel
theorem dX7_flow_41 : decode cX7_flow 41 = .ok (.ifCond .eq 9, 3) := by decide +kernel
theorem dX7_flow_44 : decode cX7_flow 44 = .ok (.iload_n 3, 1) := by decide +kernel
theorem dX7_flow_45 : decode cX7_flow 45 = .ok (.iconst 2, 1) := by decide +kernel
theorem dX7_flow_46 : decode cX7_flow 46 = .ok (.idiv, 1) := by decide +kernel
theorem dX7_flow_47 : decode cX7_flow 47 = .ok (.goto 4, 3) := by decide +kernel
theorem dX7_flow_50 : decode cX7_flow 50 = .ok (.iload_n 3, 1) := by decide +kernel
theorem dX7_flow_51 : decode cX7_flow 51 = .ok (.istore_n 3, 1) := by decide +kernel
theorem dX7_flow_52 : decode cX7_flow 52 = .ok (.aload_n 0, 1) := by decide +kernel
theorem dX7_flow_53 : decode cX7_flow 53 = .ok (.getfield 19, 3) := by decide +kernel
theorem dX7_flow_56 : decode cX7_flow 56 = .ok (.bipush 7, 2) := by decide +kernel
theorem dX7_flow_58 : decode cX7_flow 58 = .ok (.iload_n 1, 1) := by decide +kernel
theorem dX7_flow_59 : decode cX7_flow 59 = .ok (.iadd, 1) := by decide +kernel
theorem dX7_flow_60 : decode cX7_flow 60 = .ok (.dup2, 1) := by decide +kernel
theorem dX7_flow_61 : decode cX7_flow 61 = .ok (.iaload, 1) := by decide +kernel
theorem dX7_flow_62 : decode cX7_flow 62 = .ok (.iload_n 3, 1) := by decide +kernel
theorem dX7_flow_63 : decode cX7_flow 63 = .ok (.isub, 1) := by decide +kernel
theorem dX7_flow_64 : decode cX7_flow 64 = .ok (.iastore, 1) := by decide +kernel
theorem dX7_flow_65 : decode cX7_flow 65 = .ok (.aload_n 0, 1) := by decide +kernel
theorem dX7_flow_66 : decode cX7_flow 66 = .ok (.getfield 19, 3) := by decide +kernel
theorem dX7_flow_69 : decode cX7_flow 69 = .ok (.bipush 7, 2) := by decide +kernel
theorem dX7_flow_71 : decode cX7_flow 71 = .ok (.iload_n 2, 1) := by decide +kernel
theorem dX7_flow_72 : decode cX7_flow 72 = .ok (.iadd, 1) := by decide +kernel
theorem dX7_flow_73 : decode cX7_flow 73 = .ok (.dup2, 1) := by decide +kernel
theorem dX7_flow_74 : decode cX7_flow 74 = .ok (.iaload, 1) := by decide +kernel
theorem dX7_flow_75 : decode cX7_flow 75 = .ok (.iload_n 3, 1) := by decide +kernel
theorem dX7_flow_76 : decode cX7_flow 76 = .ok (.iadd, 1) := by decide +kernel
theorem dX7_flow_77 : decode cX7_flow 77 = .ok (.iastore, 1) := by decide +kernel
theorem dX7_flow_78 : decode cX7_flow 78 = .ok (.return_, 1) := by decide +kernel
theorem dX7_oneHour_0 : decode cX7_oneHour 0 = .ok (.aload_n 0, 1) := by decide +kernel
theorem dX7_oneHour_1 : decode cX7_oneHour 1 = .ok (.getfield 19, 3) := by decide +kernel
theorem dX7_oneHour_4 : decode cX7_oneHour 4 = .ok (.bipush 7, 2) := by decide +kernel
theorem dX7_oneHour_6 : decode cX7_oneHour 6 = .ok (.aload_n 0, 1) := by decide +kernel
theorem dX7_oneHour_7 : decode cX7_oneHour 7 = .ok (.getfield 19, 3) := by decide +kernel
theorem dX7_oneHour_10 : decode cX7_oneHour 10 = .ok (.iconst 1, 1) := by decide +kernel
theorem dX7_oneHour_11 : decode cX7_oneHour 11 = .ok (.iaload, 1) := by decide +kernel
theorem dX7_oneHour_12 : decode cX7_oneHour 12 = .ok (.iadd, 1) := by decide +kernel
theorem dX7_oneHour_13 : decode cX7_oneHour 13 = .ok (.aload_n 0, 1) := by decide +kernel
theorem dX7_oneHour_14 : decode cX7_oneHour 14 = .ok (.getfield 19, 3) := by decide +kernel
theorem dX7_oneHour_17 : decode cX7_oneHour 17 = .ok (.bipush 7, 2) := by decide +kernel
theorem dX7_oneHour_19 : decode cX7_oneHour 19 = .ok (.aload_n 0, 1) := by decide +kernel
theorem dX7_oneHour_20 : decode cX7_oneHour 20 = .ok (.getfield 19, 3) := by decide +kernel
theorem dX7_oneHour_23 : decode cX7_oneHour 23 = .ok (.iconst 1, 1) := by decide +kernel
theorem dX7_oneHour_24 : decode cX7_oneHour 24 = .ok (.iaload, 1) := by decide +kernel
theorem dX7_oneHour_25 : decode cX7_oneHour 25 = .ok (.iadd, 1) := by decide +kernel
theorem dX7_oneHour_26 : decode cX7_oneHour 26 = .ok (.iaload, 1) := by decide +kernel
theorem dX7_oneHour_27 : decode cX7_oneHour 27 = .ok (.aload_n 0, 1) := by decide +kernel
theorem dX7_oneHour_28 : decode cX7_oneHour 28 = .ok (.getfield 19, 3) := by decide +kernel
theorem dX7_oneHour_31 : decode cX7_oneHour 31 = .ok (.iconst 2, 1) := by decide +kernel
theorem dX7_oneHour_32 : decode cX7_oneHour 32 = .ok (.iaload, 1) := by decide +kernel
theorem dX7_oneHour_33 : decode cX7_oneHour 33 = .ok (.iadd, 1) := by decide +kernel
theorem dX7_oneHour_34 : decode cX7_oneHour 34 = .ok (.invokestatic 147, 3) := by decide +kernel
theorem dX7_oneHour_37 : decode cX7_oneHour 37 = .ok (.iastore, 1) := by decide +kernel
theorem dX7_oneHour_38 : decode cX7_oneHour 38 = .ok (.iconst 0, 1) := by decide +kernel
theorem dX7_oneHour_39 : decode cX7_oneHour 39 = .ok (.istore_n 1, 1) := by decide +kernel
theorem dX7_oneHour_40 : decode cX7_oneHour 40 = .ok (.iload_n 1, 1) := by decide +kernel
theorem dX7_oneHour_41 : decode cX7_oneHour 41 = .ok (.aload_n 0, 1) := by decide +kernel
theorem dX7_oneHour_42 : decode cX7_oneHour 42 = .ok (.getfield 19, 3) := by decide +kernel
theorem dX7_oneHour_45 : decode cX7_oneHour 45 = .ok (.iconst 4, 1) := by decide +kernel
theorem dX7_oneHour_46 : decode cX7_oneHour 46 = .ok (.iaload, 1) := by decide +kernel
theorem dX7_oneHour_47 : decode cX7_oneHour 47 = .ok (.if_icmp .ge 91, 3) := by decide +kernel
theorem dX7_oneHour_50 : decode cX7_oneHour 50 = .ok (.aload_n 0, 1) := by decide +kernel
theorem dX7_oneHour_51 : decode cX7_oneHour 51 = .ok (.getfield 19, 3) := by decide +kernel
theorem dX7_oneHour_54 : decode cX7_oneHour 54 = .ok (.bipush 13, 2) := by decide +kernel
theorem dX7_oneHour_56 : decode cX7_oneHour 56 = .ok (.iload_n 1, 1) := by decide +kernel
theorem dX7_oneHour_57 : decode cX7_oneHour 57 = .ok (.iadd, 1) := by decide +kernel
theorem dX7_oneHour_58 : decode cX7_oneHour 58 = .ok (.iaload, 1) := by decide +kernel
theorem dX7_oneHour_59 : decode cX7_oneHour 59 = .ok (.istore_n 2, 1) := by decide +kernel
theorem dX7_oneHour_60 : decode cX7_oneHour 60 = .ok (.aload_n 0, 1) := by decide +kernel
theorem dX7_oneHour_61 : decode cX7_oneHour 61 = .ok (.getfield 19, 3) := by decide +kernel
theorem dX7_oneHour_64 : decode cX7_oneHour 64 = .ok (.bipush 21, 2) := by decide +kernel
theorem dX7_oneHour_66 : decode cX7_oneHour 66 = .ok (.iload_n 1, 1) := by decide +kernel
theorem dX7_oneHour_67 : decode cX7_oneHour 67 = .ok (.iadd, 1) := by decide +kernel
theorem dX7_oneHour_68 : decode cX7_oneHour 68 = .ok (.iaload, 1) := by decide +kernel
theorem dX7_oneHour_69 : decode cX7_oneHour 69 = .ok (.istore_n 3, 1) := by decide +kernel
theorem dX7_oneHour_70 : decode cX7_oneHour 70 = .ok (.aload_n 0, 1) := by decide +kernel
theorem dX7_oneHour_71 : decode cX7_oneHour 71 = .ok (.getfield 19, 3) := by decide +kernel
theorem dX7_oneHour_74 : decode cX7_oneHour 74 = .ok (.bipush 29, 2) := by decide +kernel
theorem dX7_oneHour_76 : decode cX7_oneHour 76 = .ok (.iload_n 1, 1) := by decide +kernel
theorem dX7_oneHour_77 : decode cX7_oneHour 77 = .ok (.iadd, 1) := by decide +kernel
theorem dX7_oneHour_78 : decode cX7_oneHour 78 = .ok (.iaload, 1) := by decide +kernel
theorem dX7_oneHour_79 : decode cX7_oneHour 79 = .ok (.iconst 1, 1) := by decide +kernel
theorem dX7_oneHour_80 : decode cX7_oneHour 80 = .ok (.if_icmp .ne 33, 3) := by decide +kernel
theorem dX7_oneHour_83 : decode cX7_oneHour 83 = .ok (.aload_n 0, 1) := by decide +kernel
theorem dX7_oneHour_84 : decode cX7_oneHour 84 = .ok (.getfield 19, 3) := by decide +kernel
theorem dX7_oneHour_87 : decode cX7_oneHour 87 = .ok (.bipush 7, 2) := by decide +kernel
theorem dX7_oneHour_89 : decode cX7_oneHour 89 = .ok (.iload_n 2, 1) := by decide +kernel
theorem dX7_oneHour_90 : decode cX7_oneHour 90 = .ok (.iadd, 1) := by decide +kernel
theorem dX7_oneHour_91 : decode cX7_oneHour 91 = .ok (.iaload, 1) := by decide +kernel
theorem dX7_oneHour_92 : decode cX7_oneHour 92 = .ok (.aload_n 0, 1) := by decide +kernel
theorem dX7_oneHour_93 : decode cX7_oneHour 93 = .ok (.getfield 19, 3) := by decide +kernel
theorem dX7_oneHour_96 : decode cX7_oneHour 96 = .ok (.bipush 7, 2) := by decide +kernel
theorem dX7_oneHour_98 : decode cX7_oneHour 98 = .ok (.iload_n 3, 1) := by decide +kernel
theorem dX7_oneHour_99 : decode cX7_oneHour 99 = .ok (.iadd, 1) := by decide +kernel
theorem dX7_oneHour_100 : decode cX7_oneHour 100 = .ok (.iaload, 1) := by decide +kernel
theorem dX7_oneHour_101 : decode cX7_oneHour 101 = .ok (.if_icmp .le 12, 3) := by decide +kernel
theorem dX7_oneHour_104 : decode cX7_oneHour 104 = .ok (.aload_n 0, 1) := by decide +kernel
theorem dX7_oneHour_105 : decode cX7_oneHour 105 = .ok (.iload_n 2, 1) := by decide +kernel
theorem dX7_oneHour_106 : decode cX7_oneHour 106 = .ok (.iload_n 3, 1) := by decide +kernel
theorem dX7_oneHour_107 : decode cX7_oneHour 107 = .ok (.invokevirtual 150, 3) := by decide +kernel
theorem dX7_oneHour_110 : decode cX7_oneHour 110 = .ok (.goto 22, 3) := by decide +kernel
theorem dX7_oneHour_113 : decode cX7_oneHour 113 = .ok (.aload_n 0, 1) := by decide +kernel
theorem dX7_oneHour_114 : decode cX7_oneHour 114 = .ok (.getfield 19, 3) := by decide +kernel
theorem dX7_oneHour_117 : decode cX7_oneHour 117 = .ok (.bipush 29, 2) := by decide +kernel
theorem dX7_oneHour_119 : decode cX7_oneHour 119 = .ok (.iload_n 1, 1) := by decide +kernel
theorem dX7_oneHour_120 : decode cX7_oneHour 120 = .ok (.iadd, 1) := by decide +kernel
theorem dX7_oneHour_121 : decode cX7_oneHour 121 = .ok (.iaload, 1) := by decide +kernel
theorem dX7_oneHour_122 : decode cX7_oneHour 122 = .ok (.iconst 1, 1) := by decide +kernel
theorem dX7_oneHour_123 : decode cX7_oneHour 123 = .ok (.if_icmp .ne 9, 3) := by decide +kernel
theorem dX7_oneHour_126 : decode cX7_oneHour 126 = .ok (.aload_n 0, 1) := by decide +kernel
theorem dX7_oneHour_127 : decode cX7_oneHour 127 = .ok (.iload_n 3, 1) := by decide +kernel
theorem dX7_oneHour_128 : decode cX7_oneHour 128 = .ok (.iload_n 2, 1) := by decide +kernel
theorem dX7_oneHour_129 : decode cX7_oneHour 129 = .ok (.invokevirtual 150, 3) := by decide +kernel
theorem dX7_oneHour_132 : decode cX7_oneHour 132 = .ok (.iinc 1 1, 3) := by decide +kernel
theorem dX7_oneHour_135 : decode cX7_oneHour 135 = .ok (.goto (-95), 3) := by decide +kernel
theorem dX7_oneHour_138 : decode cX7_oneHour 138 = .ok (.iconst 0, 1) := by decide +kernel
theorem dX7_oneHour_139 : decode cX7_oneHour 139 = .ok (.istore_n 1, 1) := by decide +kernel
theorem dX7_oneHour_140 : decode cX7_oneHour 140 = .ok (.iload_n 1, 1) := by decide +kernel
theorem dX7_oneHour_141 : decode cX7_oneHour 141 = .ok (.aload_n 0, 1) := by decide +kernel
theorem dX7_oneHour_142 : decode cX7_oneHour 142 = .ok (.getfield 19, 3) := by decide +kernel
theorem dX7_oneHour_145 : decode cX7_oneHour 145 = .ok (.iconst 5, 1) := by decide +kernel
theorem dX7_oneHour_146 : decode cX7_oneHour 146 = .ok (.iaload, 1) := by decide +kernel
theorem dX7_oneHour_147 : decode cX7_oneHour 147 = .ok (.if_icmp .ge 93, 3) := by decide +kernel
theorem dX7_oneHour_150 : decode cX7_oneHour 150 = .ok (.aload_n 0, 1) := by decide +kernel
theorem dX7_oneHour_151 : decode cX7_oneHour 151 = .ok (.getfield 19, 3) := by decide +kernel
theorem dX7_oneHour_154 : decode cX7_oneHour 154 = .ok (.bipush 37, 2) := by decide +kernel
theorem dX7_oneHour_156 : decode cX7_oneHour 156 = .ok (.iload_n 1, 1) := by decide +kernel
theorem dX7_oneHour_157 : decode cX7_oneHour 157 = .ok (.iadd, 1) := by decide +kernel
theorem dX7_oneHour_158 : decode cX7_oneHour 158 = .ok (.iaload, 1) := by decide +kernel
theorem dX7_oneHour_159 : decode cX7_oneHour 159 = .ok (.istore_n 2, 1) := by decide +kernel
theorem dX7_oneHour_160 : decode cX7_oneHour 160 = .ok (.aload_n 0, 1) := by decide +kernel
theorem dX7_oneHour_161 : decode cX7_oneHour 161 = .ok (.getfield 19, 3) := by decide +kernel
theorem dX7_oneHour_164 : decode cX7_oneHour 164 = .ok (.bipush 47, 2) := by decide +kernel
theorem dX7_oneHour_166 : decode cX7_oneHour 166 = .ok (.iload_n 1, 1) := by decide +kernel
theorem dX7_oneHour_167 : decode cX7_oneHour 167 = .ok (.iadd, 1) := by decide +kernel
theorem dX7_oneHour_168 : decode cX7_oneHour 168 = .ok (.iaload, 1) := by decide +kernel
theorem dX7_oneHour_169 : decode cX7_oneHour 169 = .ok (.istore_n 3, 1) := by decide +kernel
theorem dX7_oneHour_170 : decode cX7_oneHour 170 = .ok (.bipush 7, 2) := by decide +kernel
theorem dX7_oneHour_172 : decode cX7_oneHour 172 = .ok (.aload_n 0, 1) := by decide +kernel
theorem dX7_oneHour_173 : decode cX7_oneHour 173 = .ok (.getfield 19, 3) := by decide +kernel
theorem dX7_oneHour_176 : decode cX7_oneHour 176 = .ok (.bipush 42, 2) := by decide +kernel
theorem dX7_oneHour_178 : decode cX7_oneHour 178 = .ok (.iload_n 1, 1) := by decide +kernel
theorem dX7_oneHour_179 : decode cX7_oneHour 179 = .ok (.iadd, 1) := by decide +kernel
theorem dX7_oneHour_180 : decode cX7_oneHour 180 = .ok (.iaload, 1) := by decide +kernel
theorem dX7_oneHour_181 : decode cX7_oneHour 181 = .ok (.iadd, 1) := by decide +kernel
theorem dX7_oneHour_182 : decode cX7_oneHour 182 = .ok (.istore 4, 2) := by decide +kernel
theorem dX7_oneHour_184 : decode cX7_oneHour 184 = .ok (.aload_n 0, 1) := by decide +kernel
theorem dX7_oneHour_185 : decode cX7_oneHour 185 = .ok (.getfield 19, 3) := by decide +kernel
theorem dX7_oneHour_188 : decode cX7_oneHour 188 = .ok (.iload 4, 2) := by decide +kernel
theorem dX7_oneHour_190 : decode cX7_oneHour 190 = .ok (.aload_n 0, 1) := by decide +kernel
theorem dX7_oneHour_191 : decode cX7_oneHour 191 = .ok (.getfield 19, 3) := by decide +kernel
theorem dX7_oneHour_194 : decode cX7_oneHour 194 = .ok (.iload 4, 2) := by decide +kernel
theorem dX7_oneHour_196 : decode cX7_oneHour 196 = .ok (.iaload, 1) := by decide +kernel
theorem dX7_oneHour_197 : decode cX7_oneHour 197 = .ok (.iload_n 2, 1) := by decide +kernel
theorem dX7_oneHour_198 : decode cX7_oneHour 198 = .ok (.iconst 5, 1) := by decide +kernel
theorem dX7_oneHour_199 : decode cX7_oneHour 199 = .ok (.if_icmp .ne 7, 3) := by decide +kernel
theorem dX7_oneHour_202 : decode cX7_oneHour 202 = .ok (.iload_n 3, 1) := by decide +kernel
theorem dX7_oneHour_203 : decode cX7_oneHour 203 = .ok (.goto 26, 3) := by decide +kernel
theorem dX7_oneHour_206 : decode cX7_oneHour 206 = .ok (.iload_n 2, 1) := by decide +kernel
theorem dX7_oneHour_207 : decode cX7_oneHour 207 = .ok (.iconst 4, 1) := by decide +kernel
theorem dX7_oneHour_208 : decode cX7_oneHour 208 = .ok (.if_icmp .ne 10, 3) := by decide +kernel
theorem dX7_oneHour_211 : decode cX7_oneHour 211 = .ok (.bipush (-2), 2) := by decide +kernel
theorem dX7_oneHour_213 : decode cX7_oneHour 213 = .ok (.iload_n 3, 1) := by decide +kernel
theorem dX7_oneHour_214 : decode cX7_oneHour 214 = .ok (.imul, 1) := by decide +kernel
theorem dX7_oneHour_215 : decode cX7_oneHour 215 = .ok (.goto 14, 3) := by decide +kernel
theorem dX7_oneHour_218 : decode cX7_oneHour 218 = .ok (.iload_n 2, 1) := by decide +kernel
theorem dX7_oneHour_219 : decode cX7_oneHour 219 = .ok (.iconst 3, 1) := by decide +kernel
theorem dX7_oneHour_220 : decode cX7_oneHour 220 = .ok (.if_icmp .ne 8, 3) := by decide +kernel
theorem dX7_oneHour_223 : decode cX7_oneHour 223 = .ok (.iload_n 3, 1) := by decide +kernel
theorem dX7_oneHour_224 : decode cX7_oneHour 224 = .ok (.ineg, 1) := by decide +kernel
theorem dX7_oneHour_225 : decode cX7_oneHour 225 = .ok (.goto 4, 3) := by decide +kernel
theorem dX7_oneHour_228 : decode cX7_oneHour 228 = .ok (.iconst 0, 1) := by decide +kernel
theorem dX7_oneHour_229 : decode cX7_oneHour 229 = .ok (.iadd, 1) := by decide +kernel
theorem dX7_oneHour_230 : decode cX7_oneHour 230 = .ok (.invokestatic 147, 3) := by decide +kernel
theorem dX7_oneHour_233 : decode cX7_oneHour 233 = .ok (.iastore, 1) := by decide +kernel
theorem dX7_oneHour_234 : decode cX7_oneHour 234 = .ok (.iinc 1 1, 3) := by decide +kernel
theorem dX7_oneHour_237 : decode cX7_oneHour 237 = .ok (.goto (-97), 3) := by decide +kernel
theorem dX7_oneHour_240 : decode cX7_oneHour 240 = .ok (.aload_n 0, 1) := by decide +kernel
theorem dX7_oneHour_241 : decode cX7_oneHour 241 = .ok (.getfield 19, 3) := by decide +kernel
theorem dX7_oneHour_244 : decode cX7_oneHour 244 = .ok (.bipush 6, 2) := by decide +kernel
theorem dX7_oneHour_246 : decode cX7_oneHour 246 = .ok (.dup2, 1) := by decide +kernel
theorem dX7_oneHour_247 : decode cX7_oneHour 247 = .ok (.iaload, 1) := by decide +kernel
theorem dX7_oneHour_248 : decode cX7_oneHour 248 = .ok (.iconst 1, 1) := by decide +kernel
theorem dX7_oneHour_249 : decode cX7_oneHour 249 = .ok (.iadd, 1) := by decide +kernel
theorem dX7_oneHour_250 : decode cX7_oneHour 250 = .ok (.iastore, 1) := by decide +kernel
theorem dX7_oneHour_251 : decode cX7_oneHour 251 = .ok (.return_, 1) := by decide +kernel
theorem dX7_allCold_0 : decode cX7_allCold 0 = .ok (.iconst 0, 1) := by decide +kernel
theorem dX7_allCold_1 : decode cX7_allCold 1 = .ok (.istore_n 1, 1) := by decide +kernel
theorem dX7_allCold_2 : decode cX7_allCold 2 = .ok (.iconst 0, 1) := by decide +kernel
theorem dX7_allCold_3 : decode cX7_allCold 3 = .ok (.istore_n 2, 1) := by decide +kernel
theorem dX7_allCold_4 : decode cX7_allCold 4 = .ok (.iload_n 2, 1) := by decide +kernel
theorem dX7_allCold_5 : decode cX7_allCold 5 = .ok (.aload_n 0, 1) := by decide +kernel
theorem dX7_allCold_6 : decode cX7_allCold 6 = .ok (.getfield 19, 3) := by decide +kernel
theorem dX7_allCold_9 : decode cX7_allCold 9 = .ok (.iconst 0, 1) := by decide +kernel
theorem dX7_allCold_10 : decode cX7_allCold 10 = .ok (.iaload, 1) := by decide +kernel
theorem dX7_allCold_11 : decode cX7_allCold 11 = .ok (.if_icmp .ge 21, 3) := by decide +kernel
theorem dX7_allCold_14 : decode cX7_allCold 14 = .ok (.iload_n 1, 1) := by decide +kernel
theorem dX7_allCold_15 : decode cX7_allCold 15 = .ok (.aload_n 0, 1) := by decide +kernel
theorem dX7_allCold_16 : decode cX7_allCold 16 = .ok (.getfield 19, 3) := by decide +kernel
theorem dX7_allCold_19 : decode cX7_allCold 19 = .ok (.bipush 7, 2) := by decide +kernel
theorem dX7_allCold_21 : decode cX7_allCold 21 = .ok (.iload_n 2, 1) := by decide +kernel
theorem dX7_allCold_22 : decode cX7_allCold 22 = .ok (.iadd, 1) := by decide +kernel
theorem dX7_allCold_23 : decode cX7_allCold 23 = .ok (.iaload, 1) := by decide +kernel
theorem dX7_allCold_24 : decode cX7_allCold 24 = .ok (.iadd, 1) := by decide +kernel
theorem dX7_allCold_25 : decode cX7_allCold 25 = .ok (.istore_n 1, 1) := by decide +kernel
theorem dX7_allCold_26 : decode cX7_allCold 26 = .ok (.iinc 2 1, 3) := by decide +kernel
theorem dX7_allCold_29 : decode cX7_allCold 29 = .ok (.goto (-25), 3) := by decide +kernel
theorem dX7_allCold_32 : decode cX7_allCold 32 = .ok (.iload_n 1, 1) := by decide +kernel
theorem dX7_allCold_33 : decode cX7_allCold 33 = .ok (.ireturn, 1) := by decide +kernel
theorem dX7_hours_0 : decode cX7_hours 0 = .ok (.aload_n 0, 1) := by decide +kernel
theorem dX7_hours_1 : decode cX7_hours 1 = .ok (.getfield 135, 3) := by decide +kernel
theorem dX7_hours_4 : decode cX7_hours 4 = .ok (.ifCond .ne 6, 3) := by decide +kernel
theorem dX7_hours_7 : decode cX7_hours 7 = .ok (.ldc 142, 2) := by decide +kernel
theorem dX7_hours_9 : decode cX7_hours 9 = .ok (.ireturn, 1) := by decide +kernel
theorem dX7_hours_10 : decode cX7_hours 10 = .ok (.iload_n 1, 1) := by decide +kernel
theorem dX7_hours_11 : decode cX7_hours 11 = .ok (.i2l, 1) := by decide +kernel
theorem dX7_hours_12 : decode cX7_hours 12 = .ok (.lconst 1, 1) := by decide +kernel
theorem dX7_hours_13 : decode cX7_hours 13 = .ok (.ldc2_w 154, 3) := by decide +kernel
theorem dX7_hours_16 : decode cX7_hours 16 = .ok (.invokestatic 54, 3) := by decide +kernel
theorem dX7_hours_19 : decode cX7_hours 19 = .ok (.ifCond .ne 6, 3) := by decide +kernel
theorem dX7_hours_22 : decode cX7_hours 22 = .ok (.ldc 64, 2) := by decide +kernel
theorem dX7_hours_24 : decode cX7_hours 24 = .ok (.ireturn, 1) := by decide +kernel
theorem dX7_hours_25 : decode cX7_hours 25 = .ok (.aload_n 0, 1) := by decide +kernel
theorem dX7_hours_26 : decode cX7_hours 26 = .ok (.getfield 19, 3) := by decide +kernel
theorem dX7_hours_29 : decode cX7_hours 29 = .ok (.bipush 6, 2) := by decide +kernel
theorem dX7_hours_31 : decode cX7_hours 31 = .ok (.iaload, 1) := by decide +kernel
theorem dX7_hours_32 : decode cX7_hours 32 = .ok (.iload_n 1, 1) := by decide +kernel
theorem dX7_hours_33 : decode cX7_hours 33 = .ok (.iadd, 1) := by decide +kernel
theorem dX7_hours_34 : decode cX7_hours 34 = .ok (.sipush 999, 3) := by decide +kernel
theorem dX7_hours_37 : decode cX7_hours 37 = .ok (.if_icmp .le 6, 3) := by decide +kernel
theorem dX7_hours_40 : decode cX7_hours 40 = .ok (.ldc 81, 2) := by decide +kernel
theorem dX7_hours_42 : decode cX7_hours 42 = .ok (.ireturn, 1) := by decide +kernel
theorem dX7_hours_43 : decode cX7_hours 43 = .ok (.iconst 0, 1) := by decide +kernel
theorem dX7_hours_44 : decode cX7_hours 44 = .ok (.istore_n 2, 1) := by decide +kernel
theorem dX7_hours_45 : decode cX7_hours 45 = .ok (.iload_n 2, 1) := by decide +kernel
theorem dX7_hours_46 : decode cX7_hours 46 = .ok (.iload_n 1, 1) := by decide +kernel
theorem dX7_hours_47 : decode cX7_hours 47 = .ok (.if_icmp .ge 17, 3) := by decide +kernel
theorem dX7_hours_50 : decode cX7_hours 50 = .ok (.aload_n 0, 1) := by decide +kernel
theorem dX7_hours_51 : decode cX7_hours 51 = .ok (.invokevirtual 156, 3) := by decide +kernel
theorem dX7_hours_54 : decode cX7_hours 54 = .ok (.aload_n 0, 1) := by decide +kernel
theorem dX7_hours_55 : decode cX7_hours 55 = .ok (.invokevirtual 159, 3) := by decide +kernel
theorem dX7_hours_58 : decode cX7_hours 58 = .ok (.iinc 2 1, 3) := by decide +kernel
theorem dX7_hours_61 : decode cX7_hours 61 = .ok (.goto (-16), 3) := by decide +kernel
theorem dX7_hours_64 : decode cX7_hours 64 = .ok (.aload_n 0, 1) := by decide +kernel
theorem dX7_hours_65 : decode cX7_hours 65 = .ok (.invokevirtual 162, 3) := by decide +kernel
theorem dX7_hours_68 : decode cX7_hours 68 = .ok (.ireturn, 1) := by decide +kernel
theorem dX7_isDoor_0 : decode cX7_isDoor 0 = .ok (.iload_n 1, 1) := by decide +kernel
theorem dX7_isDoor_1 : decode cX7_isDoor 1 = .ok (.i2l, 1) := by decide +kernel
theorem dX7_isDoor_2 : decode cX7_isDoor 2 = .ok (.lconst 0, 1) := by decide +kernel
theorem dX7_isDoor_3 : decode cX7_isDoor 3 = .ok (.aload_n 0, 1) := by decide +kernel
theorem dX7_isDoor_4 : decode cX7_isDoor 4 = .ok (.getfield 19, 3) := by decide +kernel
theorem dX7_isDoor_7 : decode cX7_isDoor 7 = .ok (.iconst 4, 1) := by decide +kernel
theorem dX7_isDoor_8 : decode cX7_isDoor 8 = .ok (.iaload, 1) := by decide +kernel
theorem dX7_isDoor_9 : decode cX7_isDoor 9 = .ok (.iconst 1, 1) := by decide +kernel
theorem dX7_isDoor_10 : decode cX7_isDoor 10 = .ok (.isub, 1) := by decide +kernel
theorem dX7_isDoor_11 : decode cX7_isDoor 11 = .ok (.i2l, 1) := by decide +kernel
theorem dX7_isDoor_12 : decode cX7_isDoor 12 = .ok (.invokestatic 54, 3) := by decide +kernel
theorem dX7_isDoor_15 : decode cX7_isDoor 15 = .ok (.ireturn, 1) := by decide +kernel
theorem dX7_isRoom_0 : decode cX7_isRoom 0 = .ok (.iload_n 1, 1) := by decide +kernel
theorem dX7_isRoom_1 : decode cX7_isRoom 1 = .ok (.i2l, 1) := by decide +kernel
theorem dX7_isRoom_2 : decode cX7_isRoom 2 = .ok (.lconst 0, 1) := by decide +kernel
theorem dX7_isRoom_3 : decode cX7_isRoom 3 = .ok (.aload_n 0, 1) := by decide +kernel
theorem dX7_isRoom_4 : decode cX7_isRoom 4 = .ok (.getfield 19, 3) := by decide +kernel
theorem dX7_isRoom_7 : decode cX7_isRoom 7 = .ok (.iconst 0, 1) := by decide +kernel
theorem dX7_isRoom_8 : decode cX7_isRoom 8 = .ok (.iaload, 1) := by decide +kernel
theorem dX7_isRoom_9 : decode cX7_isRoom 9 = .ok (.iconst 1, 1) := by decide +kernel
theorem dX7_isRoom_10 : decode cX7_isRoom 10 = .ok (.isub, 1) := by decide +kernel
theorem dX7_isRoom_11 : decode cX7_isRoom 11 = .ok (.i2l, 1) := by decide +kernel
theorem dX7_isRoom_12 : decode cX7_isRoom 12 = .ok (.invokestatic 54, 3) := by decide +kernel
theorem dX7_isRoom_15 : decode cX7_isRoom 15 = .ok (.ireturn, 1) := by decide +kernel
theorem dX7_isSitter_0 : decode cX7_isSitter 0 = .ok (.iload_n 1, 1) := by decide +kernel
theorem dX7_isSitter_1 : decode cX7_isSitter 1 = .ok (.i2l, 1) := by decide +kernel
theorem dX7_isSitter_2 : decode cX7_isSitter 2 = .ok (.lconst 0, 1) := by decide +kernel
theorem dX7_isSitter_3 : decode cX7_isSitter 3 = .ok (.aload_n 0, 1) := by decide +kernel
theorem dX7_isSitter_4 : decode cX7_isSitter 4 = .ok (.getfield 19, 3) := by decide +kernel
theorem dX7_isSitter_7 : decode cX7_isSitter 7 = .ok (.iconst 5, 1) := by decide +kernel
theorem dX7_isSitter_8 : decode cX7_isSitter 8 = .ok (.iaload, 1) := by decide +kernel
theorem dX7_isSitter_9 : decode cX7_isSitter 9 = .ok (.iconst 1, 1) := by decide +kernel
theorem dX7_isSitter_10 : decode cX7_isSitter 10 = .ok (.isub, 1) := by decide +kernel
theorem dX7_isSitter_11 : decode cX7_isSitter 11 = .ok (.i2l, 1) := by decide +kernel
theorem dX7_isSitter_12 : decode cX7_isSitter 12 = .ok (.invokestatic 54, 3) := by decide +kernel
theorem dX7_isSitter_15 : decode cX7_isSitter 15 = .ok (.ireturn, 1) := by decide +kernel
theorem dX7_openDoors_0 : decode cX7_openDoors 0 = .ok (.iconst 0, 1) := by decide +kernel
theorem dX7_openDoors_1 : decode cX7_openDoors 1 = .ok (.istore_n 1, 1) := by decide +kernel
theorem dX7_openDoors_2 : decode cX7_openDoors 2 = .ok (.iconst 0, 1) := by decide +kernel
theorem dX7_openDoors_3 : decode cX7_openDoors 3 = .ok (.istore_n 2, 1) := by decide +kernel
theorem dX7_openDoors_4 : decode cX7_openDoors 4 = .ok (.iload_n 2, 1) := by decide +kernel
theorem dX7_openDoors_5 : decode cX7_openDoors 5 = .ok (.aload_n 0, 1) := by decide +kernel
theorem dX7_openDoors_6 : decode cX7_openDoors 6 = .ok (.getfield 19, 3) := by decide +kernel
theorem dX7_openDoors_9 : decode cX7_openDoors 9 = .ok (.iconst 4, 1) := by decide +kernel
theorem dX7_openDoors_10 : decode cX7_openDoors 10 = .ok (.iaload, 1) := by decide +kernel
theorem dX7_openDoors_11 : decode cX7_openDoors 11 = .ok (.if_icmp .ge 23, 3) := by decide +kernel
theorem dX7_openDoors_14 : decode cX7_openDoors 14 = .ok (.iload_n 1, 1) := by decide +kernel
theorem dX7_openDoors_15 : decode cX7_openDoors 15 = .ok (.aload_n 0, 1) := by decide +kernel
theorem dX7_openDoors_16 : decode cX7_openDoors 16 = .ok (.getfield 19, 3) := by decide +kernel
theorem dX7_openDoors_19 : decode cX7_openDoors 19 = .ok (.bipush 29, 2) := by decide +kernel
theorem dX7_openDoors_21 : decode cX7_openDoors 21 = .ok (.iload_n 2, 1) := by decide +kernel
theorem dX7_openDoors_22 : decode cX7_openDoors 22 = .ok (.iadd, 1) := by decide +kernel
theorem dX7_openDoors_23 : decode cX7_openDoors 23 = .ok (.iaload, 1) := by decide +kernel
theorem dX7_openDoors_24 : decode cX7_openDoors 24 = .ok (.iload_n 2, 1) := by decide +kernel
theorem dX7_openDoors_25 : decode cX7_openDoors 25 = .ok (.ishl, 1) := by decide +kernel
theorem dX7_openDoors_26 : decode cX7_openDoors 26 = .ok (.ior, 1) := by decide +kernel
theorem dX7_openDoors_27 : decode cX7_openDoors 27 = .ok (.istore_n 1, 1) := by decide +kernel
theorem dX7_openDoors_28 : decode cX7_openDoors 28 = .ok (.iinc 2 1, 3) := by decide +kernel
theorem dX7_openDoors_31 : decode cX7_openDoors 31 = .ok (.goto (-27), 3) := by decide +kernel
theorem dX7_openDoors_34 : decode cX7_openDoors 34 = .ok (.iload_n 1, 1) := by decide +kernel
theorem dX7_openDoors_35 : decode cX7_openDoors 35 = .ok (.ireturn, 1) := by decide +kernel
theorem dX7_door_0 : decode cX7_door 0 = .ok (.aload_n 0, 1) := by decide +kernel
theorem dX7_door_1 : decode cX7_door 1 = .ok (.iload_n 1, 1) := by decide +kernel
theorem dX7_door_2 : decode cX7_door 2 = .ok (.invokevirtual 166, 3) := by decide +kernel
theorem dX7_door_5 : decode cX7_door 5 = .ok (.ifCond .eq 13, 3) := by decide +kernel
theorem dX7_door_8 : decode cX7_door 8 = .ok (.iload_n 2, 1) := by decide +kernel
theorem dX7_door_9 : decode cX7_door 9 = .ok (.i2l, 1) := by decide +kernel
theorem dX7_door_10 : decode cX7_door 10 = .ok (.lconst 0, 1) := by decide +kernel
theorem dX7_door_11 : decode cX7_door 11 = .ok (.lconst 1, 1) := by decide +kernel
theorem dX7_door_12 : decode cX7_door 12 = .ok (.invokestatic 54, 3) := by decide +kernel
theorem dX7_door_15 : decode cX7_door 15 = .ok (.ifCond .ne 6, 3) := by decide +kernel
theorem dX7_door_18 : decode cX7_door 18 = .ok (.ldc 64, 2) := by decide +kernel
theorem dX7_door_20 : decode cX7_door 20 = .ok (.ireturn, 1) := by decide +kernel
theorem dX7_door_21 : decode cX7_door 21 = .ok (.aload_n 0, 1) := by decide +kernel
theorem dX7_door_22 : decode cX7_door 22 = .ok (.getfield 19, 3) := by decide +kernel
theorem dX7_door_25 : decode cX7_door 25 = .ok (.bipush 29, 2) := by decide +kernel
theorem dX7_door_27 : decode cX7_door 27 = .ok (.iload_n 1, 1) := by decide +kernel
theorem dX7_door_28 : decode cX7_door 28 = .ok (.iadd, 1) := by decide +kernel
theorem dX7_door_29 : decode cX7_door 29 = .ok (.iaload, 1) := by decide +kernel
theorem dX7_door_30 : decode cX7_door 30 = .ok (.iload_n 2, 1) := by decide +kernel
theorem dX7_door_31 : decode cX7_door 31 = .ok (.if_icmp .ne 6, 3) := by decide +kernel
theorem dX7_door_34 : decode cX7_door 34 = .ok (.ldc 142, 2) := by decide +kernel
theorem dX7_door_36 : decode cX7_door 36 = .ok (.ireturn, 1) := by decide +kernel
theorem dX7_door_37 : decode cX7_door 37 = .ok (.aload_n 0, 1) := by decide +kernel
theorem dX7_door_38 : decode cX7_door 38 = .ok (.invokevirtual 156, 3) := by decide +kernel
theorem dX7_door_41 : decode cX7_door 41 = .ok (.aload_n 0, 1) := by decide +kernel
theorem dX7_door_42 : decode cX7_door 42 = .ok (.getfield 19, 3) := by decide +kernel
theorem dX7_door_45 : decode cX7_door 45 = .ok (.bipush 29, 2) := by decide +kernel
theorem dX7_door_47 : decode cX7_door 47 = .ok (.iload_n 1, 1) := by decide +kernel
theorem dX7_door_48 : decode cX7_door 48 = .ok (.iadd, 1) := by decide +kernel
theorem dX7_door_49 : decode cX7_door 49 = .ok (.iload_n 2, 1) := by decide +kernel
theorem dX7_door_50 : decode cX7_door 50 = .ok (.iastore, 1) := by decide +kernel
theorem dX7_door_51 : decode cX7_door 51 = .ok (.aload_n 0, 1) := by decide +kernel
theorem dX7_door_52 : decode cX7_door 52 = .ok (.invokevirtual 169, 3) := by decide +kernel
theorem dX7_door_55 : decode cX7_door 55 = .ok (.ireturn, 1) := by decide +kernel
theorem dX7_sit_0 : decode cX7_sit 0 = .ok (.aload_n 0, 1) := by decide +kernel
theorem dX7_sit_1 : decode cX7_sit 1 = .ok (.iload_n 1, 1) := by decide +kernel
theorem dX7_sit_2 : decode cX7_sit 2 = .ok (.invokevirtual 172, 3) := by decide +kernel
theorem dX7_sit_5 : decode cX7_sit 5 = .ok (.ifCond .eq 11, 3) := by decide +kernel
theorem dX7_sit_8 : decode cX7_sit 8 = .ok (.aload_n 0, 1) := by decide +kernel
theorem dX7_sit_9 : decode cX7_sit 9 = .ok (.iload_n 2, 1) := by decide +kernel
theorem dX7_sit_10 : decode cX7_sit 10 = .ok (.invokevirtual 175, 3) := by decide +kernel
theorem dX7_sit_13 : decode cX7_sit 13 = .ok (.ifCond .ne 6, 3) := by decide +kernel
theorem dX7_sit_16 : decode cX7_sit 16 = .ok (.ldc 64, 2) := by decide +kernel
theorem dX7_sit_18 : decode cX7_sit 18 = .ok (.ireturn, 1) := by decide +kernel
theorem dX7_sit_19 : decode cX7_sit 19 = .ok (.aload_n 0, 1) := by decide +kernel
theorem dX7_sit_20 : decode cX7_sit 20 = .ok (.getfield 19, 3) := by decide +kernel
theorem dX7_sit_23 : decode cX7_sit 23 = .ok (.bipush 42, 2) := by decide +kernel
theorem dX7_sit_25 : decode cX7_sit 25 = .ok (.iload_n 1, 1) := by decide +kernel
theorem dX7_sit_26 : decode cX7_sit 26 = .ok (.iadd, 1) := by decide +kernel
theorem dX7_sit_27 : decode cX7_sit 27 = .ok (.iaload, 1) := by decide +kernel
theorem dX7_sit_28 : decode cX7_sit 28 = .ok (.istore_n 3, 1) := by decide +kernel
theorem dX7_sit_29 : decode cX7_sit 29 = .ok (.iload_n 3, 1) := by decide +kernel
theorem dX7_sit_30 : decode cX7_sit 30 = .ok (.iload_n 2, 1) := by decide +kernel
theorem dX7_sit_31 : decode cX7_sit 31 = .ok (.if_icmp .ne 6, 3) := by decide +kernel
theorem dX7_sit_34 : decode cX7_sit 34 = .ok (.ldc 142, 2) := by decide +kernel
theorem dX7_sit_36 : decode cX7_sit 36 = .ok (.ireturn, 1) := by decide +kernel
theorem dX7_sit_37 : decode cX7_sit 37 = .ok (.aload_n 0, 1) := by decide +kernel
theorem dX7_sit_38 : decode cX7_sit 38 = .ok (.invokevirtual 156, 3) := by decide +kernel
theorem dX7_sit_41 : decode cX7_sit 41 = .ok (.aload_n 0, 1) := by decide +kernel
theorem dX7_sit_42 : decode cX7_sit 42 = .ok (.getfield 19, 3) := by decide +kernel
theorem dX7_sit_45 : decode cX7_sit 45 = .ok (.bipush 42, 2) := by decide +kernel
theorem dX7_sit_47 : decode cX7_sit 47 = .ok (.iload_n 1, 1) := by decide +kernel
theorem dX7_sit_48 : decode cX7_sit 48 = .ok (.iadd, 1) := by decide +kernel
theorem dX7_sit_49 : decode cX7_sit 49 = .ok (.iload_n 2, 1) := by decide +kernel
theorem dX7_sit_50 : decode cX7_sit 50 = .ok (.iastore, 1) := by decide +kernel
theorem dX7_sit_51 : decode cX7_sit 51 = .ok (.iload_n 3, 1) := by decide +kernel
theorem dX7_sit_52 : decode cX7_sit 52 = .ok (.ireturn, 1) := by decide +kernel
theorem dX7_room_0 : decode cX7_room 0 = .ok (.aload_n 0, 1) := by decide +kernel
theorem dX7_room_1 : decode cX7_room 1 = .ok (.getfield 135, 3) := by decide +kernel
theorem dX7_room_4 : decode cX7_room 4 = .ok (.ifCond .ne 6, 3) := by decide +kernel
theorem dX7_room_7 : decode cX7_room 7 = .ok (.ldc 142, 2) := by decide +kernel
theorem dX7_room_9 : decode cX7_room 9 = .ok (.ireturn, 1) := by decide +kernel
theorem dX7_room_10 : decode cX7_room 10 = .ok (.aload_n 0, 1) := by decide +kernel
theorem dX7_room_11 : decode cX7_room 11 = .ok (.iload_n 1, 1) := by decide +kernel
theorem dX7_room_12 : decode cX7_room 12 = .ok (.invokevirtual 175, 3) := by decide +kernel
theorem dX7_room_15 : decode cX7_room 15 = .ok (.ifCond .eq 15, 3) := by decide +kernel
theorem dX7_room_18 : decode cX7_room 18 = .ok (.iload_n 2, 1) := by decide +kernel
theorem dX7_room_19 : decode cX7_room 19 = .ok (.i2l, 1) := by decide +kernel
theorem dX7_room_20 : decode cX7_room 20 = .ok (.lconst 0, 1) := by decide +kernel
theorem dX7_room_21 : decode cX7_room 21 = .ok (.ldc2_w 178, 3) := by decide +kernel
theorem dX7_room_24 : decode cX7_room 24 = .ok (.invokestatic 54, 3) := by decide +kernel
theorem dX7_room_27 : decode cX7_room 27 = .ok (.ifCond .ne 6, 3) := by decide +kernel
theorem dX7_room_30 : decode cX7_room 30 = .ok (.ldc 64, 2) := by decide +kernel
theorem dX7_room_32 : decode cX7_room 32 = .ok (.ireturn, 1) := by decide +kernel
theorem dX7_room_33 : decode cX7_room 33 = .ok (.iconst 0, 1) := by decide +kernel
theorem dX7_room_34 : decode cX7_room 34 = .ok (.istore_n 3, 1) := by decide +kernel
theorem dX7_room_35 : decode cX7_room 35 = .ok (.iconst 0, 1) := by decide +kernel
theorem dX7_room_36 : decode cX7_room 36 = .ok (.istore 4, 2) := by decide +kernel
theorem dX7_room_38 : decode cX7_room 38 = .ok (.iload 4, 2) := by decide +kernel
theorem dX7_room_40 : decode cX7_room 40 = .ok (.aload_n 0, 1) := by decide +kernel
theorem dX7_room_41 : decode cX7_room 41 = .ok (.getfield 19, 3) := by decide +kernel
theorem dX7_room_44 : decode cX7_room 44 = .ok (.iconst 5, 1) := by decide +kernel
theorem dX7_room_45 : decode cX7_room 45 = .ok (.iaload, 1) := by decide +kernel
theorem dX7_room_46 : decode cX7_room 46 = .ok (.if_icmp .ge 34, 3) := by decide +kernel
theorem dX7_room_49 : decode cX7_room 49 = .ok (.iload_n 3, 1) := by decide +kernel
theorem dX7_room_50 : decode cX7_room 50 = .ok (.aload_n 0, 1) := by decide +kernel
theorem dX7_room_51 : decode cX7_room 51 = .ok (.getfield 19, 3) := by decide +kernel
theorem dX7_room_54 : decode cX7_room 54 = .ok (.bipush 42, 2) := by decide +kernel
theorem dX7_room_56 : decode cX7_room 56 = .ok (.iload 4, 2) := by decide +kernel
theorem dX7_room_58 : decode cX7_room 58 = .ok (.iadd, 1) := by decide +kernel
theorem dX7_room_59 : decode cX7_room 59 = .ok (.iaload, 1) := by decide +kernel
theorem dX7_room_60 : decode cX7_room 60 = .ok (.iload_n 1, 1) := by decide +kernel
theorem dX7_room_61 : decode cX7_room 61 = .ok (.if_icmp .ne 10, 3) := by decide +kernel
theorem dX7_room_64 : decode cX7_room 64 = .ok (.iconst 1, 1) := by decide +kernel
theorem dX7_room_65 : decode cX7_room 65 = .ok (.iload 4, 2) := by decide +kernel
theorem dX7_room_67 : decode cX7_room 67 = .ok (.ishl, 1) := by decide +kernel
theorem dX7_room_68 : decode cX7_room 68 = .ok (.goto 4, 3) := by decide +kernel
theorem dX7_room_71 : decode cX7_room 71 = .ok (.iconst 0, 1) := by decide +kernel
theorem dX7_room_72 : decode cX7_room 72 = .ok (.ior, 1) := by decide +kernel
theorem dX7_room_73 : decode cX7_room 73 = .ok (.istore_n 3, 1) := by decide +kernel
theorem dX7_room_74 : decode cX7_room 74 = .ok (.iinc 4 1, 3) := by decide +kernel
theorem dX7_room_77 : decode cX7_room 77 = .ok (.goto (-39), 3) := by decide +kernel
theorem dX7_room_80 : decode cX7_room 80 = .ok (.iconst 0, 1) := by decide +kernel
theorem dX7_room_81 : decode cX7_room 81 = .ok (.istore 4, 2) := by decide +kernel
theorem dX7_room_83 : decode cX7_room 83 = .ok (.iconst 0, 1) := by decide +kernel
theorem dX7_room_84 : decode cX7_room 84 = .ok (.istore 5, 2) := by decide +kernel
theorem dX7_room_86 : decode cX7_room 86 = .ok (.iload 5, 2) := by decide +kernel
