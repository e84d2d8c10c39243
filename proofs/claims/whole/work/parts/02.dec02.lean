theorem dX5_readLaw_113 : decode cX5_readLaw 113 = .ok (.iload_n 2, 1) := by decide +kernel
theorem dX5_readLaw_114 : decode cX5_readLaw 114 = .ok (.iload_n 3, 1) := by decide +kernel
theorem dX5_readLaw_115 : decode cX5_readLaw 115 = .ok (.iload 4, 2) := by decide +kernel
theorem dX5_readLaw_117 : decode cX5_readLaw 117 = .ok (.iload 5, 2) := by decide +kernel
theorem dX5_readLaw_119 : decode cX5_readLaw 119 = .ok (.invokevirtual 43, 3) := by decide +kernel
theorem dX5_readLaw_122 : decode cX5_readLaw 122 = .ok (.iconst 1, 1) := by decide +kernel
theorem dX5_readLaw_123 : decode cX5_readLaw 123 = .ok (.ireturn, 1) := by decide +kernel
theorem dX5_readDoors_0 : decode cX5_readDoors 0 = .ok (.iconst 0, 1) := by decide +kernel
theorem dX5_readDoors_1 : decode cX5_readDoors 1 = .ok (.istore_n 2, 1) := by decide +kernel
theorem dX5_readDoors_2 : decode cX5_readDoors 2 = .ok (.iload_n 2, 1) := by decide +kernel
theorem dX5_readDoors_3 : decode cX5_readDoors 3 = .ok (.bipush 8, 2) := by decide +kernel
theorem dX5_readDoors_5 : decode cX5_readDoors 5 = .ok (.if_icmp .ge 30, 3) := by decide +kernel
theorem dX5_readDoors_8 : decode cX5_readDoors 8 = .ok (.aload_n 0, 1) := by decide +kernel
theorem dX5_readDoors_9 : decode cX5_readDoors 9 = .ok (.invokevirtual 47, 3) := by decide +kernel
theorem dX5_readDoors_12 : decode cX5_readDoors 12 = .ok (.bipush 100, 2) := by decide +kernel
theorem dX5_readDoors_14 : decode cX5_readDoors 14 = .ok (.if_icmp .eq 5, 3) := by decide +kernel
theorem dX5_readDoors_17 : decode cX5_readDoors 17 = .ok (.iconst 1, 1) := by decide +kernel
theorem dX5_readDoors_18 : decode cX5_readDoors 18 = .ok (.ireturn, 1) := by decide +kernel
theorem dX5_readDoors_19 : decode cX5_readDoors 19 = .ok (.aload_n 0, 1) := by decide +kernel
theorem dX5_readDoors_20 : decode cX5_readDoors 20 = .ok (.aload_n 1, 1) := by decide +kernel
theorem dX5_readDoors_21 : decode cX5_readDoors 21 = .ok (.invokevirtual 51, 3) := by decide +kernel
theorem dX5_readDoors_24 : decode cX5_readDoors 24 = .ok (.ifCond .ne 5, 3) := by decide +kernel
theorem dX5_readDoors_27 : decode cX5_readDoors 27 = .ok (.iconst 0, 1) := by decide +kernel
theorem dX5_readDoors_28 : decode cX5_readDoors 28 = .ok (.ireturn, 1) := by decide +kernel
theorem dX5_readDoors_29 : decode cX5_readDoors 29 = .ok (.iinc 2 1, 3) := by decide +kernel
theorem dX5_readDoors_32 : decode cX5_readDoors 32 = .ok (.goto (-30), 3) := by decide +kernel
theorem dX5_readDoors_35 : decode cX5_readDoors 35 = .ok (.aload_n 0, 1) := by decide +kernel
theorem dX5_readDoors_36 : decode cX5_readDoors 36 = .ok (.invokevirtual 47, 3) := by decide +kernel
theorem dX5_readDoors_39 : decode cX5_readDoors 39 = .ok (.bipush 100, 2) := by decide +kernel
theorem dX5_readDoors_41 : decode cX5_readDoors 41 = .ok (.if_icmp .ne 11, 3) := by decide +kernel
theorem dX5_readDoors_44 : decode cX5_readDoors 44 = .ok (.aload_n 0, 1) := by decide +kernel
theorem dX5_readDoors_45 : decode cX5_readDoors 45 = .ok (.iconst 3, 1) := by decide +kernel
theorem dX5_readDoors_46 : decode cX5_readDoors 46 = .ok (.invokevirtual 54, 3) := by decide +kernel
theorem dX5_readDoors_49 : decode cX5_readDoors 49 = .ok (.ifCond .eq 7, 3) := by decide +kernel
theorem dX5_readDoors_52 : decode cX5_readDoors 52 = .ok (.iconst 1, 1) := by decide +kernel
theorem dX5_readDoors_53 : decode cX5_readDoors 53 = .ok (.goto 4, 3) := by decide +kernel
theorem dX5_readDoors_56 : decode cX5_readDoors 56 = .ok (.iconst 0, 1) := by decide +kernel
theorem dX5_readDoors_57 : decode cX5_readDoors 57 = .ok (.ireturn, 1) := by decide +kernel
theorem dX5_readDoor_0 : decode cX5_readDoor 0 = .ok (.aload_n 0, 1) := by decide +kernel
theorem dX5_readDoor_1 : decode cX5_readDoor 1 = .ok (.dup, 1) := by decide +kernel
theorem dX5_readDoor_2 : decode cX5_readDoor 2 = .ok (.getfield 17, 3) := by decide +kernel
theorem dX5_readDoor_5 : decode cX5_readDoor 5 = .ok (.iconst 1, 1) := by decide +kernel
theorem dX5_readDoor_6 : decode cX5_readDoor 6 = .ok (.iadd, 1) := by decide +kernel
theorem dX5_readDoor_7 : decode cX5_readDoor 7 = .ok (.putfield 17, 3) := by decide +kernel
theorem dX5_readDoor_10 : decode cX5_readDoor 10 = .ok (.aload_n 0, 1) := by decide +kernel
theorem dX5_readDoor_11 : decode cX5_readDoor 11 = .ok (.iconst 0, 1) := by decide +kernel
theorem dX5_readDoor_12 : decode cX5_readDoor 12 = .ok (.aload_n 1, 1) := by decide +kernel
theorem dX5_readDoor_13 : decode cX5_readDoor 13 = .ok (.getfield 57, 3) := by decide +kernel
theorem dX5_readDoor_16 : decode cX5_readDoor 16 = .ok (.iconst 1, 1) := by decide +kernel
theorem dX5_readDoor_17 : decode cX5_readDoor 17 = .ok (.isub, 1) := by decide +kernel
theorem dX5_readDoor_18 : decode cX5_readDoor 18 = .ok (.invokevirtual 39, 3) := by decide +kernel
theorem dX5_readDoor_21 : decode cX5_readDoor 21 = .ok (.istore_n 2, 1) := by decide +kernel
theorem dX5_readDoor_22 : decode cX5_readDoor 22 = .ok (.iload_n 2, 1) := by decide +kernel
theorem dX5_readDoor_23 : decode cX5_readDoor 23 = .ok (.iconst (-1), 1) := by decide +kernel
theorem dX5_readDoor_24 : decode cX5_readDoor 24 = .ok (.if_icmp .eq 12, 3) := by decide +kernel
theorem dX5_readDoor_27 : decode cX5_readDoor 27 = .ok (.aload_n 0, 1) := by decide +kernel
theorem dX5_readDoor_28 : decode cX5_readDoor 28 = .ok (.bipush 44, 2) := by decide +kernel
theorem dX5_readDoor_30 : decode cX5_readDoor 30 = .ok (.invokevirtual 35, 3) := by decide +kernel
theorem dX5_readDoor_33 : decode cX5_readDoor 33 = .ok (.ifCond .ne 5, 3) := by decide +kernel
theorem dX5_readDoor_36 : decode cX5_readDoor 36 = .ok (.iconst 0, 1) := by decide +kernel
theorem dX5_readDoor_37 : decode cX5_readDoor 37 = .ok (.ireturn, 1) := by decide +kernel
theorem dX5_readDoor_38 : decode cX5_readDoor 38 = .ok (.aload_n 0, 1) := by decide +kernel
theorem dX5_readDoor_39 : decode cX5_readDoor 39 = .ok (.getfield 17, 3) := by decide +kernel
theorem dX5_readDoor_42 : decode cX5_readDoor 42 = .ok (.istore_n 3, 1) := by decide +kernel
theorem dX5_readDoor_43 : decode cX5_readDoor 43 = .ok (.aload_n 0, 1) := by decide +kernel
theorem dX5_readDoor_44 : decode cX5_readDoor 44 = .ok (.iconst 0, 1) := by decide +kernel
theorem dX5_readDoor_45 : decode cX5_readDoor 45 = .ok (.aload_n 1, 1) := by decide +kernel
theorem dX5_readDoor_46 : decode cX5_readDoor 46 = .ok (.getfield 57, 3) := by decide +kernel
theorem dX5_readDoor_49 : decode cX5_readDoor 49 = .ok (.iconst 1, 1) := by decide +kernel
theorem dX5_readDoor_50 : decode cX5_readDoor 50 = .ok (.isub, 1) := by decide +kernel
theorem dX5_readDoor_51 : decode cX5_readDoor 51 = .ok (.invokevirtual 39, 3) := by decide +kernel
theorem dX5_readDoor_54 : decode cX5_readDoor 54 = .ok (.istore 4, 2) := by decide +kernel
theorem dX5_readDoor_56 : decode cX5_readDoor 56 = .ok (.iload 4, 2) := by decide +kernel
theorem dX5_readDoor_58 : decode cX5_readDoor 58 = .ok (.iconst (-1), 1) := by decide +kernel
theorem dX5_readDoor_59 : decode cX5_readDoor 59 = .ok (.if_icmp .ne 5, 3) := by decide +kernel
theorem dX5_readDoor_62 : decode cX5_readDoor 62 = .ok (.iconst 0, 1) := by decide +kernel
theorem dX5_readDoor_63 : decode cX5_readDoor 63 = .ok (.ireturn, 1) := by decide +kernel
theorem dX5_readDoor_64 : decode cX5_readDoor 64 = .ok (.iload 4, 2) := by decide +kernel
theorem dX5_readDoor_66 : decode cX5_readDoor 66 = .ok (.iload_n 2, 1) := by decide +kernel
theorem dX5_readDoor_67 : decode cX5_readDoor 67 = .ok (.if_icmp .ne 14, 3) := by decide +kernel
theorem dX5_readDoor_70 : decode cX5_readDoor 70 = .ok (.aload_n 0, 1) := by decide +kernel
theorem dX5_readDoor_71 : decode cX5_readDoor 71 = .ok (.iload_n 3, 1) := by decide +kernel
theorem dX5_readDoor_72 : decode cX5_readDoor 72 = .ok (.putfield 17, 3) := by decide +kernel
theorem dX5_readDoor_75 : decode cX5_readDoor 75 = .ok (.aload_n 0, 1) := by decide +kernel
theorem dX5_readDoor_76 : decode cX5_readDoor 76 = .ok (.iconst 2, 1) := by decide +kernel
theorem dX5_readDoor_77 : decode cX5_readDoor 77 = .ok (.invokevirtual 54, 3) := by decide +kernel
theorem dX5_readDoor_80 : decode cX5_readDoor 80 = .ok (.ireturn, 1) := by decide +kernel
theorem dX5_readDoor_81 : decode cX5_readDoor 81 = .ok (.aload_n 0, 1) := by decide +kernel
theorem dX5_readDoor_82 : decode cX5_readDoor 82 = .ok (.bipush 44, 2) := by decide +kernel
theorem dX5_readDoor_84 : decode cX5_readDoor 84 = .ok (.invokevirtual 35, 3) := by decide +kernel
theorem dX5_readDoor_87 : decode cX5_readDoor 87 = .ok (.ifCond .ne 5, 3) := by decide +kernel
theorem dX5_readDoor_90 : decode cX5_readDoor 90 = .ok (.iconst 0, 1) := by decide +kernel
theorem dX5_readDoor_91 : decode cX5_readDoor 91 = .ok (.ireturn, 1) := by decide +kernel
theorem dX5_readDoor_92 : decode cX5_readDoor 92 = .ok (.aload_n 0, 1) := by decide +kernel
theorem dX5_readDoor_93 : decode cX5_readDoor 93 = .ok (.iconst 0, 1) := by decide +kernel
theorem dX5_readDoor_94 : decode cX5_readDoor 94 = .ok (.iconst 1, 1) := by decide +kernel
theorem dX5_readDoor_95 : decode cX5_readDoor 95 = .ok (.invokevirtual 39, 3) := by decide +kernel
theorem dX5_readDoor_98 : decode cX5_readDoor 98 = .ok (.istore 5, 2) := by decide +kernel
theorem dX5_readDoor_100 : decode cX5_readDoor 100 = .ok (.iload 5, 2) := by decide +kernel
theorem dX5_readDoor_102 : decode cX5_readDoor 102 = .ok (.iconst (-1), 1) := by decide +kernel
theorem dX5_readDoor_103 : decode cX5_readDoor 103 = .ok (.if_icmp .eq 12, 3) := by decide +kernel
theorem dX5_readDoor_106 : decode cX5_readDoor 106 = .ok (.aload_n 0, 1) := by decide +kernel
theorem dX5_readDoor_107 : decode cX5_readDoor 107 = .ok (.bipush 59, 2) := by decide +kernel
theorem dX5_readDoor_109 : decode cX5_readDoor 109 = .ok (.invokevirtual 35, 3) := by decide +kernel
theorem dX5_readDoor_112 : decode cX5_readDoor 112 = .ok (.ifCond .ne 5, 3) := by decide +kernel
theorem dX5_readDoor_115 : decode cX5_readDoor 115 = .ok (.iconst 0, 1) := by decide +kernel
theorem dX5_readDoor_116 : decode cX5_readDoor 116 = .ok (.ireturn, 1) := by decide +kernel
theorem dX5_readDoor_117 : decode cX5_readDoor 117 = .ok (.aload_n 1, 1) := by decide +kernel
theorem dX5_readDoor_118 : decode cX5_readDoor 118 = .ok (.iload_n 2, 1) := by decide +kernel
theorem dX5_readDoor_119 : decode cX5_readDoor 119 = .ok (.iload 4, 2) := by decide +kernel
theorem dX5_readDoor_121 : decode cX5_readDoor 121 = .ok (.iload 5, 2) := by decide +kernel
theorem dX5_readDoor_123 : decode cX5_readDoor 123 = .ok (.iconst 1, 1) := by decide +kernel
theorem dX5_readDoor_124 : decode cX5_readDoor 124 = .ok (.if_icmp .ne 7, 3) := by decide +kernel
theorem dX5_readDoor_127 : decode cX5_readDoor 127 = .ok (.iconst 1, 1) := by decide +kernel
theorem dX5_readDoor_128 : decode cX5_readDoor 128 = .ok (.goto 4, 3) := by decide +kernel
theorem dX5_readDoor_131 : decode cX5_readDoor 131 = .ok (.iconst 0, 1) := by decide +kernel
theorem dX5_readDoor_132 : decode cX5_readDoor 132 = .ok (.invokevirtual 60, 3) := by decide +kernel
theorem dX5_readDoor_135 : decode cX5_readDoor 135 = .ok (.iconst 1, 1) := by decide +kernel
theorem dX5_readDoor_136 : decode cX5_readDoor 136 = .ok (.ireturn, 1) := by decide +kernel
theorem dX5_readSitters_0 : decode cX5_readSitters 0 = .ok (.iconst 0, 1) := by decide +kernel
theorem dX5_readSitters_1 : decode cX5_readSitters 1 = .ok (.istore_n 2, 1) := by decide +kernel
theorem dX5_readSitters_2 : decode cX5_readSitters 2 = .ok (.iload_n 2, 1) := by decide +kernel
theorem dX5_readSitters_3 : decode cX5_readSitters 3 = .ok (.iconst 5, 1) := by decide +kernel
theorem dX5_readSitters_4 : decode cX5_readSitters 4 = .ok (.if_icmp .ge 29, 3) := by decide +kernel
theorem dX5_readSitters_7 : decode cX5_readSitters 7 = .ok (.aload_n 0, 1) := by decide +kernel
theorem dX5_readSitters_8 : decode cX5_readSitters 8 = .ok (.invokevirtual 47, 3) := by decide +kernel
theorem dX5_readSitters_11 : decode cX5_readSitters 11 = .ok (.iconst (-1), 1) := by decide +kernel
theorem dX5_readSitters_12 : decode cX5_readSitters 12 = .ok (.if_icmp .ne 5, 3) := by decide +kernel
theorem dX5_readSitters_15 : decode cX5_readSitters 15 = .ok (.iconst 1, 1) := by decide +kernel
theorem dX5_readSitters_16 : decode cX5_readSitters 16 = .ok (.ireturn, 1) := by decide +kernel
theorem dX5_readSitters_17 : decode cX5_readSitters 17 = .ok (.aload_n 0, 1) := by decide +kernel
theorem dX5_readSitters_18 : decode cX5_readSitters 18 = .ok (.aload_n 1, 1) := by decide +kernel
theorem dX5_readSitters_19 : decode cX5_readSitters 19 = .ok (.invokevirtual 64, 3) := by decide +kernel
theorem dX5_readSitters_22 : decode cX5_readSitters 22 = .ok (.ifCond .ne 5, 3) := by decide +kernel
theorem dX5_readSitters_25 : decode cX5_readSitters 25 = .ok (.iconst 0, 1) := by decide +kernel
theorem dX5_readSitters_26 : decode cX5_readSitters 26 = .ok (.ireturn, 1) := by decide +kernel
theorem dX5_readSitters_27 : decode cX5_readSitters 27 = .ok (.iinc 2 1, 3) := by decide +kernel
theorem dX5_readSitters_30 : decode cX5_readSitters 30 = .ok (.goto (-28), 3) := by decide +kernel
theorem dX5_readSitters_33 : decode cX5_readSitters 33 = .ok (.aload_n 0, 1) := by decide +kernel
theorem dX5_readSitters_34 : decode cX5_readSitters 34 = .ok (.invokevirtual 47, 3) := by decide +kernel
theorem dX5_readSitters_37 : decode cX5_readSitters 37 = .ok (.iconst (-1), 1) := by decide +kernel
theorem dX5_readSitters_38 : decode cX5_readSitters 38 = .ok (.if_icmp .ne 5, 3) := by decide +kernel
theorem dX5_readSitters_41 : decode cX5_readSitters 41 = .ok (.iconst 1, 1) := by decide +kernel
theorem dX5_readSitters_42 : decode cX5_readSitters 42 = .ok (.ireturn, 1) := by decide +kernel
theorem dX5_readSitters_43 : decode cX5_readSitters 43 = .ok (.aload_n 0, 1) := by decide +kernel
theorem dX5_readSitters_44 : decode cX5_readSitters 44 = .ok (.aload_n 0, 1) := by decide +kernel
theorem dX5_readSitters_45 : decode cX5_readSitters 45 = .ok (.invokevirtual 47, 3) := by decide +kernel
theorem dX5_readSitters_48 : decode cX5_readSitters 48 = .ok (.invokestatic 67, 3) := by decide +kernel
theorem dX5_readSitters_51 : decode cX5_readSitters 51 = .ok (.ifCond .ne 7, 3) := by decide +kernel
theorem dX5_readSitters_54 : decode cX5_readSitters 54 = .ok (.iconst 1, 1) := by decide +kernel
theorem dX5_readSitters_55 : decode cX5_readSitters 55 = .ok (.goto 4, 3) := by decide +kernel
theorem dX5_readSitters_58 : decode cX5_readSitters 58 = .ok (.iconst 3, 1) := by decide +kernel
theorem dX5_readSitters_59 : decode cX5_readSitters 59 = .ok (.invokevirtual 54, 3) := by decide +kernel
theorem dX5_readSitters_62 : decode cX5_readSitters 62 = .ok (.ireturn, 1) := by decide +kernel
theorem dX5_readSitter_0 : decode cX5_readSitter 0 = .ok (.aload_n 0, 1) := by decide +kernel
theorem dX5_readSitter_1 : decode cX5_readSitter 1 = .ok (.invokevirtual 47, 3) := by decide +kernel
theorem dX5_readSitter_4 : decode cX5_readSitter 4 = .ok (.invokestatic 67, 3) := by decide +kernel
theorem dX5_readSitter_7 : decode cX5_readSitter 7 = .ok (.istore_n 2, 1) := by decide +kernel
theorem dX5_readSitter_8 : decode cX5_readSitter 8 = .ok (.iload_n 2, 1) := by decide +kernel
theorem dX5_readSitter_9 : decode cX5_readSitter 9 = .ok (.ifCond .ne 9, 3) := by decide +kernel
theorem dX5_readSitter_12 : decode cX5_readSitter 12 = .ok (.aload_n 0, 1) := by decide +kernel
theorem dX5_readSitter_13 : decode cX5_readSitter 13 = .ok (.iconst 1, 1) := by decide +kernel
theorem dX5_readSitter_14 : decode cX5_readSitter 14 = .ok (.invokevirtual 54, 3) := by decide +kernel
theorem dX5_readSitter_17 : decode cX5_readSitter 17 = .ok (.ireturn, 1) := by decide +kernel
theorem dX5_readSitter_18 : decode cX5_readSitter 18 = .ok (.aload_n 0, 1) := by decide +kernel
theorem dX5_readSitter_19 : decode cX5_readSitter 19 = .ok (.dup, 1) := by decide +kernel
theorem dX5_readSitter_20 : decode cX5_readSitter 20 = .ok (.getfield 17, 3) := by decide +kernel
theorem dX5_readSitter_23 : decode cX5_readSitter 23 = .ok (.iconst 1, 1) := by decide +kernel
theorem dX5_readSitter_24 : decode cX5_readSitter 24 = .ok (.iadd, 1) := by decide +kernel
theorem dX5_readSitter_25 : decode cX5_readSitter 25 = .ok (.putfield 17, 3) := by decide +kernel
theorem dX5_readSitter_28 : decode cX5_readSitter 28 = .ok (.aload_n 0, 1) := by decide +kernel
theorem dX5_readSitter_29 : decode cX5_readSitter 29 = .ok (.iconst 0, 1) := by decide +kernel
theorem dX5_readSitter_30 : decode cX5_readSitter 30 = .ok (.aload_n 1, 1) := by decide +kernel
theorem dX5_readSitter_31 : decode cX5_readSitter 31 = .ok (.getfield 57, 3) := by decide +kernel
theorem dX5_readSitter_34 : decode cX5_readSitter 34 = .ok (.iconst 1, 1) := by decide +kernel
theorem dX5_readSitter_35 : decode cX5_readSitter 35 = .ok (.isub, 1) := by decide +kernel
theorem dX5_readSitter_36 : decode cX5_readSitter 36 = .ok (.invokevirtual 39, 3) := by decide +kernel
theorem dX5_readSitter_39 : decode cX5_readSitter 39 = .ok (.istore_n 3, 1) := by decide +kernel
theorem dX5_readSitter_40 : decode cX5_readSitter 40 = .ok (.iload_n 3, 1) := by decide +kernel
theorem dX5_readSitter_41 : decode cX5_readSitter 41 = .ok (.iconst (-1), 1) := by decide +kernel
theorem dX5_readSitter_42 : decode cX5_readSitter 42 = .ok (.if_icmp .eq 12, 3) := by decide +kernel
theorem dX5_readSitter_45 : decode cX5_readSitter 45 = .ok (.aload_n 0, 1) := by decide +kernel
theorem dX5_readSitter_46 : decode cX5_readSitter 46 = .ok (.bipush 44, 2) := by decide +kernel
theorem dX5_readSitter_48 : decode cX5_readSitter 48 = .ok (.invokevirtual 35, 3) := by decide +kernel
theorem dX5_readSitter_51 : decode cX5_readSitter 51 = .ok (.ifCond .ne 5, 3) := by decide +kernel
theorem dX5_readSitter_54 : decode cX5_readSitter 54 = .ok (.iconst 0, 1) := by decide +kernel
theorem dX5_readSitter_55 : decode cX5_readSitter 55 = .ok (.ireturn, 1) := by decide +kernel
theorem dX5_readSitter_56 : decode cX5_readSitter 56 = .ok (.aload_n 0, 1) := by decide +kernel
theorem dX5_readSitter_57 : decode cX5_readSitter 57 = .ok (.iconst 0, 1) := by decide +kernel
theorem dX5_readSitter_58 : decode cX5_readSitter 58 = .ok (.bipush 20, 2) := by decide +kernel
theorem dX5_readSitter_60 : decode cX5_readSitter 60 = .ok (.invokevirtual 39, 3) := by decide +kernel
theorem dX5_readSitter_63 : decode cX5_readSitter 63 = .ok (.istore 4, 2) := by decide +kernel
theorem dX5_readSitter_65 : decode cX5_readSitter 65 = .ok (.iload 4, 2) := by decide +kernel
theorem dX5_readSitter_67 : decode cX5_readSitter 67 = .ok (.iconst (-1), 1) := by decide +kernel
theorem dX5_readSitter_68 : decode cX5_readSitter 68 = .ok (.if_icmp .eq 12, 3) := by decide +kernel
theorem dX5_readSitter_71 : decode cX5_readSitter 71 = .ok (.aload_n 0, 1) := by decide +kernel
theorem dX5_readSitter_72 : decode cX5_readSitter 72 = .ok (.bipush 59, 2) := by decide +kernel
theorem dX5_readSitter_74 : decode cX5_readSitter 74 = .ok (.invokevirtual 35, 3) := by decide +kernel
theorem dX5_readSitter_77 : decode cX5_readSitter 77 = .ok (.ifCond .ne 5, 3) := by decide +kernel
theorem dX5_readSitter_80 : decode cX5_readSitter 80 = .ok (.iconst 0, 1) := by decide +kernel
theorem dX5_readSitter_81 : decode cX5_readSitter 81 = .ok (.ireturn, 1) := by decide +kernel
theorem dX5_readSitter_82 : decode cX5_readSitter 82 = .ok (.aload_n 1, 1) := by decide +kernel
theorem dX5_readSitter_83 : decode cX5_readSitter 83 = .ok (.iload_n 2, 1) := by decide +kernel
theorem dX5_readSitter_84 : decode cX5_readSitter 84 = .ok (.iload_n 3, 1) := by decide +kernel
theorem dX5_readSitter_85 : decode cX5_readSitter 85 = .ok (.iload 4, 2) := by decide +kernel
theorem dX5_readSitter_87 : decode cX5_readSitter 87 = .ok (.invokevirtual 71, 3) := by decide +kernel
theorem dX5_readSitter_90 : decode cX5_readSitter 90 = .ok (.iconst 1, 1) := by decide +kernel
theorem dX5_readSitter_91 : decode cX5_readSitter 91 = .ok (.ireturn, 1) := by decide +kernel
theorem dX5_kindOfLetter_0 : decode cX5_kindOfLetter 0 = .ok (.iload_n 0, 1) := by decide +kernel
theorem dX5_kindOfLetter_1 : decode cX5_kindOfLetter 1 = .ok (.tableswitch 85 102 116 #[81, 85, 85, 83, 85, 85, 85, 85, 85, 85, 77, 85, 75, 85, 79], 75) := by decide +kernel
theorem dX5_kindOfLetter_76 : decode cX5_kindOfLetter 76 = .ok (.iconst 1, 1) := by decide +kernel
theorem dX5_kindOfLetter_77 : decode cX5_kindOfLetter 77 = .ok (.ireturn, 1) := by decide +kernel
theorem dX5_kindOfLetter_78 : decode cX5_kindOfLetter 78 = .ok (.iconst 2, 1) := by decide +kernel
theorem dX5_kindOfLetter_79 : decode cX5_kindOfLetter 79 = .ok (.ireturn, 1) := by decide +kernel
theorem dX5_kindOfLetter_80 : decode cX5_kindOfLetter 80 = .ok (.iconst 3, 1) := by decide +kernel
theorem dX5_kindOfLetter_81 : decode cX5_kindOfLetter 81 = .ok (.ireturn, 1) := by decide +kernel
theorem dX5_kindOfLetter_82 : decode cX5_kindOfLetter 82 = .ok (.iconst 4, 1) := by decide +kernel
theorem dX5_kindOfLetter_83 : decode cX5_kindOfLetter 83 = .ok (.ireturn, 1) := by decide +kernel
theorem dX5_kindOfLetter_84 : decode cX5_kindOfLetter 84 = .ok (.iconst 5, 1) := by decide +kernel
theorem dX5_kindOfLetter_85 : decode cX5_kindOfLetter 85 = .ok (.ireturn, 1) := by decide +kernel
theorem dX5_kindOfLetter_86 : decode cX5_kindOfLetter 86 = .ok (.iconst 0, 1) := by decide +kernel
theorem dX5_kindOfLetter_87 : decode cX5_kindOfLetter 87 = .ok (.ireturn, 1) := by decide +kernel
theorem dX5_takeSign_0 : decode cX5_takeSign 0 = .ok (.aload_n 0, 1) := by decide +kernel
theorem dX5_takeSign_1 : decode cX5_takeSign 1 = .ok (.invokevirtual 47, 3) := by decide +kernel
theorem dX5_takeSign_4 : decode cX5_takeSign 4 = .ok (.iload_n 1, 1) := by decide +kernel
theorem dX5_takeSign_5 : decode cX5_takeSign 5 = .ok (.if_icmp .eq 9, 3) := by decide +kernel
theorem dX5_takeSign_8 : decode cX5_takeSign 8 = .ok (.aload_n 0, 1) := by decide +kernel
theorem dX5_takeSign_9 : decode cX5_takeSign 9 = .ok (.iconst 1, 1) := by decide +kernel
theorem dX5_takeSign_10 : decode cX5_takeSign 10 = .ok (.invokevirtual 54, 3) := by decide +kernel
theorem dX5_takeSign_13 : decode cX5_takeSign 13 = .ok (.ireturn, 1) := by decide +kernel
theorem dX5_takeSign_14 : decode cX5_takeSign 14 = .ok (.aload_n 0, 1) := by decide +kernel
theorem dX5_takeSign_15 : decode cX5_takeSign 15 = .ok (.dup, 1) := by decide +kernel
theorem dX5_takeSign_16 : decode cX5_takeSign 16 = .ok (.getfield 17, 3) := by decide +kernel
theorem dX5_takeSign_19 : decode cX5_takeSign 19 = .ok (.iconst 1, 1) := by decide +kernel
theorem dX5_takeSign_20 : decode cX5_takeSign 20 = .ok (.iadd, 1) := by decide +kernel
theorem dX5_takeSign_21 : decode cX5_takeSign 21 = .ok (.putfield 17, 3) := by decide +kernel
theorem dX5_takeSign_24 : decode cX5_takeSign 24 = .ok (.iconst 1, 1) := by decide +kernel
theorem dX5_takeSign_25 : decode cX5_takeSign 25 = .ok (.ireturn, 1) := by decide +kernel
theorem dX5_takeNumber_0 : decode cX5_takeNumber 0 = .ok (.aload_n 0, 1) := by decide +kernel
theorem dX5_takeNumber_1 : decode cX5_takeNumber 1 = .ok (.invokevirtual 75, 3) := by decide +kernel
theorem dX5_takeNumber_4 : decode cX5_takeNumber 4 = .ok (.istore_n 3, 1) := by decide +kernel
theorem dX5_takeNumber_5 : decode cX5_takeNumber 5 = .ok (.iload_n 3, 1) := by decide +kernel
theorem dX5_takeNumber_6 : decode cX5_takeNumber 6 = .ok (.ifCond .eq 8, 3) := by decide +kernel
theorem dX5_takeNumber_9 : decode cX5_takeNumber 9 = .ok (.iload_n 3, 1) := by decide +kernel
theorem dX5_takeNumber_10 : decode cX5_takeNumber 10 = .ok (.iconst 2, 1) := by decide +kernel
theorem dX5_takeNumber_11 : decode cX5_takeNumber 11 = .ok (.if_icmp .le 11, 3) := by decide +kernel
theorem dX5_takeNumber_14 : decode cX5_takeNumber 14 = .ok (.aload_n 0, 1) := by decide +kernel
theorem dX5_takeNumber_15 : decode cX5_takeNumber 15 = .ok (.iconst 1, 1) := by decide +kernel
theorem dX5_takeNumber_16 : decode cX5_takeNumber 16 = .ok (.invokevirtual 54, 3) := by decide +kernel
theorem dX5_takeNumber_19 : decode cX5_takeNumber 19 = .ok (.pop, 1) := by decide +kernel
theorem dX5_takeNumber_20 : decode cX5_takeNumber 20 = .ok (.iconst (-1), 1) := by decide +kernel
theorem dX5_takeNumber_21 : decode cX5_takeNumber 21 = .ok (.ireturn, 1) := by decide +kernel
theorem dX5_takeNumber_22 : decode cX5_takeNumber 22 = .ok (.iconst 0, 1) := by decide +kernel
theorem dX5_takeNumber_23 : decode cX5_takeNumber 23 = .ok (.istore 4, 2) := by decide +kernel
theorem dX5_takeNumber_25 : decode cX5_takeNumber 25 = .ok (.iconst 0, 1) := by decide +kernel
theorem dX5_takeNumber_26 : decode cX5_takeNumber 26 = .ok (.istore 5, 2) := by decide +kernel
theorem dX5_takeNumber_28 : decode cX5_takeNumber 28 = .ok (.iload 5, 2) := by decide +kernel
theorem dX5_takeNumber_30 : decode cX5_takeNumber 30 = .ok (.iload_n 3, 1) := by decide +kernel
theorem dX5_takeNumber_31 : decode cX5_takeNumber 31 = .ok (.if_icmp .ge 32, 3) := by decide +kernel
theorem dX5_takeNumber_34 : decode cX5_takeNumber 34 = .ok (.iload 4, 2) := by decide +kernel
theorem dX5_takeNumber_36 : decode cX5_takeNumber 36 = .ok (.bipush 10, 2) := by decide +kernel
theorem dX5_takeNumber_38 : decode cX5_takeNumber 38 = .ok (.imul, 1) := by decide +kernel
theorem dX5_takeNumber_39 : decode cX5_takeNumber 39 = .ok (.aload_n 0, 1) := by decide +kernel
theorem dX5_takeNumber_40 : decode cX5_takeNumber 40 = .ok (.getfield 9, 3) := by decide +kernel
theorem dX5_takeNumber_43 : decode cX5_takeNumber 43 = .ok (.aload_n 0, 1) := by decide +kernel
theorem dX5_takeNumber_44 : decode cX5_takeNumber 44 = .ok (.getfield 17, 3) := by decide +kernel
theorem dX5_takeNumber_47 : decode cX5_takeNumber 47 = .ok (.iload 5, 2) := by decide +kernel
theorem dX5_takeNumber_49 : decode cX5_takeNumber 49 = .ok (.iadd, 1) := by decide +kernel
theorem dX5_takeNumber_50 : decode cX5_takeNumber 50 = .ok (.iaload, 1) := by decide +kernel
theorem dX5_takeNumber_51 : decode cX5_takeNumber 51 = .ok (.iadd, 1) := by decide +kernel
theorem dX5_takeNumber_52 : decode cX5_takeNumber 52 = .ok (.bipush 48, 2) := by decide +kernel
theorem dX5_takeNumber_54 : decode cX5_takeNumber 54 = .ok (.isub, 1) := by decide +kernel
theorem dX5_takeNumber_55 : decode cX5_takeNumber 55 = .ok (.istore 4, 2) := by decide +kernel
theorem dX5_takeNumber_57 : decode cX5_takeNumber 57 = .ok (.iinc 5 1, 3) := by decide +kernel
theorem dX5_takeNumber_60 : decode cX5_takeNumber 60 = .ok (.goto (-32), 3) := by decide +kernel
theorem dX5_takeNumber_63 : decode cX5_takeNumber 63 = .ok (.iload 4, 2) := by decide +kernel
theorem dX5_takeNumber_65 : decode cX5_takeNumber 65 = .ok (.iload_n 1, 1) := by decide +kernel
theorem dX5_takeNumber_66 : decode cX5_takeNumber 66 = .ok (.if_icmp .lt 9, 3) := by decide +kernel
theorem dX5_takeNumber_69 : decode cX5_takeNumber 69 = .ok (.iload 4, 2) := by decide +kernel
theorem dX5_takeNumber_71 : decode cX5_takeNumber 71 = .ok (.iload_n 2, 1) := by decide +kernel
theorem dX5_takeNumber_72 : decode cX5_takeNumber 72 = .ok (.if_icmp .le 11, 3) := by decide +kernel
theorem dX5_takeNumber_75 : decode cX5_takeNumber 75 = .ok (.aload_n 0, 1) := by decide +kernel
theorem dX5_takeNumber_76 : decode cX5_takeNumber 76 = .ok (.iconst 2, 1) := by decide +kernel
theorem dX5_takeNumber_77 : decode cX5_takeNumber 77 = .ok (.invokevirtual 54, 3) := by decide +kernel
theorem dX5_takeNumber_80 : decode cX5_takeNumber 80 = .ok (.pop, 1) := by decide +kernel
theorem dX5_takeNumber_81 : decode cX5_takeNumber 81 = .ok (.iconst (-1), 1) := by decide +kernel
theorem dX5_takeNumber_82 : decode cX5_takeNumber 82 = .ok (.ireturn, 1) := by decide +kernel
theorem dX5_takeNumber_83 : decode cX5_takeNumber 83 = .ok (.aload_n 0, 1) := by decide +kernel
theorem dX5_takeNumber_84 : decode cX5_takeNumber 84 = .ok (.dup, 1) := by decide +kernel
theorem dX5_takeNumber_85 : decode cX5_takeNumber 85 = .ok (.getfield 17, 3) := by decide +kernel
theorem dX5_takeNumber_88 : decode cX5_takeNumber 88 = .ok (.iload_n 3, 1) := by decide +kernel
theorem dX5_takeNumber_89 : decode cX5_takeNumber 89 = .ok (.iadd, 1) := by decide +kernel
theorem dX5_takeNumber_90 : decode cX5_takeNumber 90 = .ok (.putfield 17, 3) := by decide +kernel
theorem dX5_takeNumber_93 : decode cX5_takeNumber 93 = .ok (.iload 4, 2) := by decide +kernel
theorem dX5_takeNumber_95 : decode cX5_takeNumber 95 = .ok (.ireturn, 1) := by decide +kernel
theorem dX5_figuresAhead_0 : decode cX5_figuresAhead 0 = .ok (.aload_n 0, 1) := by decide +kernel
theorem dX5_figuresAhead_1 : decode cX5_figuresAhead 1 = .ok (.getfield 17, 3) := by decide +kernel
theorem dX5_figuresAhead_4 : decode cX5_figuresAhead 4 = .ok (.istore_n 1, 1) := by decide +kernel
theorem dX5_figuresAhead_5 : decode cX5_figuresAhead 5 = .ok (.iload_n 1, 1) := by decide +kernel
theorem dX5_figuresAhead_6 : decode cX5_figuresAhead 6 = .ok (.aload_n 0, 1) := by decide +kernel
theorem dX5_figuresAhead_7 : decode cX5_figuresAhead 7 = .ok (.getfield 13, 3) := by decide +kernel
theorem dX5_figuresAhead_10 : decode cX5_figuresAhead 10 = .ok (.if_icmp .ge 31, 3) := by decide +kernel
theorem dX5_figuresAhead_13 : decode cX5_figuresAhead 13 = .ok (.aload_n 0, 1) := by decide +kernel
theorem dX5_figuresAhead_14 : decode cX5_figuresAhead 14 = .ok (.getfield 9, 3) := by decide +kernel
theorem dX5_figuresAhead_17 : decode cX5_figuresAhead 17 = .ok (.iload_n 1, 1) := by decide +kernel
theorem dX5_figuresAhead_18 : decode cX5_figuresAhead 18 = .ok (.iaload, 1) := by decide +kernel
theorem dX5_figuresAhead_19 : decode cX5_figuresAhead 19 = .ok (.bipush 48, 2) := by decide +kernel
theorem dX5_figuresAhead_21 : decode cX5_figuresAhead 21 = .ok (.if_icmp .lt 20, 3) := by decide +kernel
theorem dX5_figuresAhead_24 : decode cX5_figuresAhead 24 = .ok (.aload_n 0, 1) := by decide +kernel
theorem dX5_figuresAhead_25 : decode cX5_figuresAhead 25 = .ok (.getfield 9, 3) := by decide +kernel
theorem dX5_figuresAhead_28 : decode cX5_figuresAhead 28 = .ok (.iload_n 1, 1) := by decide +kernel
theorem dX5_figuresAhead_29 : decode cX5_figuresAhead 29 = .ok (.iaload, 1) := by decide +kernel
theorem dX5_figuresAhead_30 : decode cX5_figuresAhead 30 = .ok (.bipush 57, 2) := by decide +kernel
theorem dX5_figuresAhead_32 : decode cX5_figuresAhead 32 = .ok (.if_icmp .gt 9, 3) := by decide +kernel
theorem dX5_figuresAhead_35 : decode cX5_figuresAhead 35 = .ok (.iinc 1 1, 3) := by decide +kernel
theorem dX5_figuresAhead_38 : decode cX5_figuresAhead 38 = .ok (.goto (-33), 3) := by decide +kernel
theorem dX5_figuresAhead_41 : decode cX5_figuresAhead 41 = .ok (.iload_n 1, 1) := by decide +kernel
theorem dX5_figuresAhead_42 : decode cX5_figuresAhead 42 = .ok (.aload_n 0, 1) := by decide +kernel
theorem dX5_figuresAhead_43 : decode cX5_figuresAhead 43 = .ok (.getfield 17, 3) := by decide +kernel
theorem dX5_figuresAhead_46 : decode cX5_figuresAhead 46 = .ok (.isub, 1) := by decide +kernel
theorem dX5_figuresAhead_47 : decode cX5_figuresAhead 47 = .ok (.ireturn, 1) := by decide +kernel
theorem dX5_next_0 : decode cX5_next 0 = .ok (.aload_n 0, 1) := by decide +kernel
theorem dX5_next_1 : decode cX5_next 1 = .ok (.getfield 17, 3) := by decide +kernel
theorem dX5_next_4 : decode cX5_next 4 = .ok (.aload_n 0, 1) := by decide +kernel
theorem dX5_next_5 : decode cX5_next 5 = .ok (.getfield 13, 3) := by decide +kernel
theorem dX5_next_8 : decode cX5_next 8 = .ok (.if_icmp .ge 15, 3) := by decide +kernel
theorem dX5_next_11 : decode cX5_next 11 = .ok (.aload_n 0, 1) := by decide +kernel
theorem dX5_next_12 : decode cX5_next 12 = .ok (.getfield 9, 3) := by decide +kernel
theorem dX5_next_15 : decode cX5_next 15 = .ok (.aload_n 0, 1) := by decide +kernel
theorem dX5_next_16 : decode cX5_next 16 = .ok (.getfield 17, 3) := by decide +kernel
theorem dX5_next_19 : decode cX5_next 19 = .ok (.iaload, 1) := by decide +kernel
theorem dX5_next_20 : decode cX5_next 20 = .ok (.goto 4, 3) := by decide +kernel
theorem dX5_next_23 : decode cX5_next 23 = .ok (.iconst (-1), 1) := by decide +kernel
theorem dX5_next_24 : decode cX5_next 24 = .ok (.ireturn, 1) := by decide +kernel
theorem dX5_fail_0 : decode cX5_fail 0 = .ok (.aload_n 0, 1) := by decide +kernel
theorem dX5_fail_1 : decode cX5_fail 1 = .ok (.iload_n 1, 1) := by decide +kernel
theorem dX5_fail_2 : decode cX5_fail 2 = .ok (.putfield 78, 3) := by decide +kernel
theorem dX5_fail_5 : decode cX5_fail 5 = .ok (.aload_n 0, 1) := by decide +kernel
theorem dX5_fail_6 : decode cX5_fail 6 = .ok (.aload_n 0, 1) := by decide +kernel
theorem dX5_fail_7 : decode cX5_fail 7 = .ok (.getfield 17, 3) := by decide +kernel
theorem dX5_fail_10 : decode cX5_fail 10 = .ok (.putfield 81, 3) := by decide +kernel
theorem dX5_fail_13 : decode cX5_fail 13 = .ok (.iconst 0, 1) := by decide +kernel
theorem dX5_fail_14 : decode cX5_fail 14 = .ok (.ireturn, 1) := by decide +kernel
theorem dX6_init_0 : decode cX6_init 0 = .ok (.aload_n 0, 1) := by decide +kernel
theorem dX6_init_1 : decode cX6_init 1 = .ok (.invokespecial 1, 3) := by decide +kernel
theorem dX6_init_4 : decode cX6_init 4 = .ok (.aload_n 0, 1) := by decide +kernel
theorem dX6_init_5 : decode cX6_init 5 = .ok (.new 7, 3) := by decide +kernel
theorem dX6_init_8 : decode cX6_init 8 = .ok (.dup, 1) := by decide +kernel
theorem dX6_init_9 : decode cX6_init 9 = .ok (.invokespecial 9, 3) := by decide +kernel
theorem dX6_init_12 : decode cX6_init 12 = .ok (.putfield 10, 3) := by decide +kernel
theorem dX6_init_15 : decode cX6_init 15 = .ok (.aload_n 0, 1) := by decide +kernel
theorem dX6_init_16 : decode cX6_init 16 = .ok (.new 16, 3) := by decide +kernel
theorem dX6_init_19 : decode cX6_init 19 = .ok (.dup, 1) := by decide +kernel
theorem dX6_init_20 : decode cX6_init 20 = .ok (.invokespecial 18, 3) := by decide +kernel
theorem dX6_init_23 : decode cX6_init 23 = .ok (.putfield 19, 3) := by decide +kernel
theorem dX6_init_26 : decode cX6_init 26 = .ok (.aload_n 0, 1) := by decide +kernel
theorem dX6_init_27 : decode cX6_init 27 = .ok (.new 23, 3) := by decide +kernel
theorem dX6_init_30 : decode cX6_init 30 = .ok (.dup, 1) := by decide +kernel
theorem dX6_init_31 : decode cX6_init 31 = .ok (.invokespecial 25, 3) := by decide +kernel
theorem dX6_init_34 : decode cX6_init 34 = .ok (.putfield 26, 3) := by decide +kernel
theorem dX6_init_37 : decode cX6_init 37 = .ok (.aload_n 0, 1) := by decide +kernel
theorem dX6_init_38 : decode cX6_init 38 = .ok (.new 30, 3) := by decide +kernel
theorem dX6_init_41 : decode cX6_init 41 = .ok (.dup, 1) := by decide +kernel
theorem dX6_init_42 : decode cX6_init 42 = .ok (.invokespecial 32, 3) := by decide +kernel
theorem dX6_init_45 : decode cX6_init 45 = .ok (.putfield 33, 3) := by decide +kernel
theorem dX6_init_48 : decode cX6_init 48 = .ok (.aload_n 0, 1) := by decide +kernel
theorem dX6_init_49 : decode cX6_init 49 = .ok (.new 37, 3) := by decide +kernel
theorem dX6_init_52 : decode cX6_init 52 = .ok (.dup, 1) := by decide +kernel
theorem dX6_init_53 : decode cX6_init 53 = .ok (.invokespecial 39, 3) := by decide +kernel
theorem dX6_init_56 : decode cX6_init 56 = .ok (.putfield 40, 3) := by decide +kernel
theorem dX6_init_59 : decode cX6_init 59 = .ok (.aload_n 0, 1) := by decide +kernel
theorem dX6_init_60 : decode cX6_init 60 = .ok (.new 44, 3) := by decide +kernel
theorem dX6_init_63 : decode cX6_init 63 = .ok (.dup, 1) := by decide +kernel
theorem dX6_init_64 : decode cX6_init 64 = .ok (.invokespecial 46, 3) := by decide +kernel
theorem dX6_init_67 : decode cX6_init 67 = .ok (.putfield 47, 3) := by decide +kernel
theorem dX6_init_70 : decode cX6_init 70 = .ok (.aload_n 0, 1) := by decide +kernel
theorem dX6_init_71 : decode cX6_init 71 = .ok (.new 23, 3) := by decide +kernel
theorem dX6_init_74 : decode cX6_init 74 = .ok (.dup, 1) := by decide +kernel
theorem dX6_init_75 : decode cX6_init 75 = .ok (.invokespecial 25, 3) := by decide +kernel
theorem dX6_init_78 : decode cX6_init 78 = .ok (.putfield 51, 3) := by decide +kernel
theorem dX6_init_81 : decode cX6_init 81 = .ok (.aload_n 0, 1) := by decide +kernel
theorem dX6_init_82 : decode cX6_init 82 = .ok (.new 23, 3) := by decide +kernel
theorem dX6_init_85 : decode cX6_init 85 = .ok (.dup, 1) := by decide +kernel
theorem dX6_init_86 : decode cX6_init 86 = .ok (.invokespecial 25, 3) := by decide +kernel
theorem dX6_init_89 : decode cX6_init 89 = .ok (.putfield 54, 3) := by decide +kernel
theorem dX6_init_92 : decode cX6_init 92 = .ok (.return_, 1) := by decide +kernel
theorem dX6_row_0 : decode cX6_row 0 = .ok (.iload_n 1, 1) := by decide +kernel
theorem dX6_row_1 : decode cX6_row 1 = .ok (.invokestatic 57, 3) := by decide +kernel
theorem dX6_row_4 : decode cX6_row 4 = .ok (.ifCond .eq 18, 3) := by decide +kernel
theorem dX6_row_7 : decode cX6_row 7 = .ok (.iload_n 2, 1) := by decide +kernel
theorem dX6_row_8 : decode cX6_row 8 = .ok (.iconst 0, 1) := by decide +kernel
theorem dX6_row_9 : decode cX6_row 9 = .ok (.iconst 2, 1) := by decide +kernel
theorem dX6_row_10 : decode cX6_row 10 = .ok (.invokestatic 61, 3) := by decide +kernel
theorem dX6_row_13 : decode cX6_row 13 = .ok (.ifCond .eq 9, 3) := by decide +kernel
theorem dX6_row_16 : decode cX6_row 16 = .ok (.iload_n 3, 1) := by decide +kernel
theorem dX6_row_17 : decode cX6_row 17 = .ok (.bipush 40, 2) := by decide +kernel
theorem dX6_row_19 : decode cX6_row 19 = .ok (.if_icmp .le 6, 3) := by decide +kernel
theorem dX6_row_22 : decode cX6_row 22 = .ok (.ldc 65, 2) := by decide +kernel
theorem dX6_row_24 : decode cX6_row 24 = .ok (.ireturn, 1) := by decide +kernel
theorem dX6_row_25 : decode cX6_row 25 = .ok (.iload_n 3, 1) := by decide +kernel
theorem dX6_row_26 : decode cX6_row 26 = .ok (.ifCond .ge 9, 3) := by decide +kernel
theorem dX6_row_29 : decode cX6_row 29 = .ok (.aload_n 0, 1) := by decide +kernel
theorem dX6_row_30 : decode cX6_row 30 = .ok (.iconst 4, 1) := by decide +kernel
theorem dX6_row_31 : decode cX6_row 31 = .ok (.invokevirtual 66, 3) := by decide +kernel
theorem dX6_row_34 : decode cX6_row 34 = .ok (.ireturn, 1) := by decide +kernel
theorem dX6_row_35 : decode cX6_row 35 = .ok (.aload_n 0, 1) := by decide +kernel
theorem dX6_row_36 : decode cX6_row 36 = .ok (.getfield 10, 3) := by decide +kernel
theorem dX6_row_39 : decode cX6_row 39 = .ok (.iload_n 1, 1) := by decide +kernel
theorem dX6_row_40 : decode cX6_row 40 = .ok (.iload_n 2, 1) := by decide +kernel
theorem dX6_row_41 : decode cX6_row 41 = .ok (.iload_n 3, 1) := by decide +kernel
theorem dX6_row_42 : decode cX6_row 42 = .ok (.invokevirtual 70, 3) := by decide +kernel
theorem dX6_row_45 : decode cX6_row 45 = .ok (.aload_n 0, 1) := by decide +kernel
theorem dX6_row_46 : decode cX6_row 46 = .ok (.iload_n 3, 1) := by decide +kernel
theorem dX6_row_47 : decode cX6_row 47 = .ok (.invokevirtual 74, 3) := by decide +kernel
theorem dX6_row_50 : decode cX6_row 50 = .ok (.ireturn, 1) := by decide +kernel
theorem dX6_set_0 : decode cX6_set 0 = .ok (.iload_n 1, 1) := by decide +kernel
theorem dX6_set_1 : decode cX6_set 1 = .ok (.invokestatic 57, 3) := by decide +kernel
theorem dX6_set_4 : decode cX6_set 4 = .ok (.ifCond .ne 6, 3) := by decide +kernel
theorem dX6_set_7 : decode cX6_set 7 = .ok (.ldc 65, 2) := by decide +kernel
theorem dX6_set_9 : decode cX6_set 9 = .ok (.ireturn, 1) := by decide +kernel
theorem dX6_set_10 : decode cX6_set 10 = .ok (.aload_n 0, 1) := by decide +kernel
theorem dX6_set_11 : decode cX6_set 11 = .ok (.getfield 10, 3) := by decide +kernel
theorem dX6_set_14 : decode cX6_set 14 = .ok (.iload_n 1, 1) := by decide +kernel
theorem dX6_set_15 : decode cX6_set 15 = .ok (.invokevirtual 77, 3) := by decide +kernel
theorem dX6_set_18 : decode cX6_set 18 = .ok (.ifCond .eq 9, 3) := by decide +kernel
theorem dX6_set_21 : decode cX6_set 21 = .ok (.aload_n 0, 1) := by decide +kernel
theorem dX6_set_22 : decode cX6_set 22 = .ok (.iconst 1, 1) := by decide +kernel
theorem dX6_set_23 : decode cX6_set 23 = .ok (.invokevirtual 66, 3) := by decide +kernel
theorem dX6_set_26 : decode cX6_set 26 = .ok (.ireturn, 1) := by decide +kernel
theorem dX6_set_27 : decode cX6_set 27 = .ok (.aload_n 0, 1) := by decide +kernel
theorem dX6_set_28 : decode cX6_set 28 = .ok (.getfield 10, 3) := by decide +kernel
theorem dX6_set_31 : decode cX6_set 31 = .ok (.iload_n 1, 1) := by decide +kernel
theorem dX6_set_32 : decode cX6_set 32 = .ok (.iload_n 2, 1) := by decide +kernel
theorem dX6_set_33 : decode cX6_set 33 = .ok (.iconst 1, 1) := by decide +kernel
theorem dX6_set_34 : decode cX6_set 34 = .ok (.invokevirtual 80, 3) := by decide +kernel
theorem dX6_set_37 : decode cX6_set 37 = .ok (.ifCond .ne 9, 3) := by decide +kernel
theorem dX6_set_40 : decode cX6_set 40 = .ok (.aload_n 0, 1) := by decide +kernel
theorem dX6_set_41 : decode cX6_set 41 = .ok (.iconst 2, 1) := by decide +kernel
theorem dX6_set_42 : decode cX6_set 42 = .ok (.invokevirtual 66, 3) := by decide +kernel
theorem dX6_set_45 : decode cX6_set 45 = .ok (.ireturn, 1) := by decide +kernel
theorem dX6_set_46 : decode cX6_set 46 = .ok (.aload_n 0, 1) := by decide +kernel
theorem dX6_set_47 : decode cX6_set 47 = .ok (.aload_n 0, 1) := by decide +kernel
theorem dX6_set_48 : decode cX6_set 48 = .ok (.getfield 10, 3) := by decide +kernel
theorem dX6_set_51 : decode cX6_set 51 = .ok (.iload_n 1, 1) := by decide +kernel
theorem dX6_set_52 : decode cX6_set 52 = .ok (.iload_n 2, 1) := by decide +kernel
theorem dX6_set_53 : decode cX6_set 53 = .ok (.iload_n 3, 1) := by decide +kernel
theorem dX6_set_54 : decode cX6_set 54 = .ok (.invokevirtual 83, 3) := by decide +kernel
theorem dX6_set_57 : decode cX6_set 57 = .ok (.invokevirtual 74, 3) := by decide +kernel
theorem dX6_set_60 : decode cX6_set 60 = .ok (.ireturn, 1) := by decide +kernel
theorem dX6_copy_0 : decode cX6_copy 0 = .ok (.iload_n 1, 1) := by decide +kernel
theorem dX6_copy_1 : decode cX6_copy 1 = .ok (.invokestatic 57, 3) := by decide +kernel
theorem dX6_copy_4 : decode cX6_copy 4 = .ok (.ifCond .eq 10, 3) := by decide +kernel
theorem dX6_copy_7 : decode cX6_copy 7 = .ok (.iload_n 3, 1) := by decide +kernel
theorem dX6_copy_8 : decode cX6_copy 8 = .ok (.invokestatic 57, 3) := by decide +kernel
theorem dX6_copy_11 : decode cX6_copy 11 = .ok (.ifCond .ne 6, 3) := by decide +kernel
theorem dX6_copy_14 : decode cX6_copy 14 = .ok (.ldc 65, 2) := by decide +kernel
theorem dX6_copy_16 : decode cX6_copy 16 = .ok (.ireturn, 1) := by decide +kernel
theorem dX6_copy_17 : decode cX6_copy 17 = .ok (.aload_n 0, 1) := by decide +kernel
theorem dX6_copy_18 : decode cX6_copy 18 = .ok (.getfield 10, 3) := by decide +kernel
theorem dX6_copy_21 : decode cX6_copy 21 = .ok (.iload_n 1, 1) := by decide +kernel
theorem dX6_copy_22 : decode cX6_copy 22 = .ok (.invokevirtual 77, 3) := by decide +kernel
theorem dX6_copy_25 : decode cX6_copy 25 = .ok (.ifCond .ne 14, 3) := by decide +kernel
theorem dX6_copy_28 : decode cX6_copy 28 = .ok (.aload_n 0, 1) := by decide +kernel
theorem dX6_copy_29 : decode cX6_copy 29 = .ok (.getfield 10, 3) := by decide +kernel
theorem dX6_copy_32 : decode cX6_copy 32 = .ok (.iload_n 3, 1) := by decide +kernel
theorem dX6_copy_33 : decode cX6_copy 33 = .ok (.invokevirtual 77, 3) := by decide +kernel
theorem dX6_copy_36 : decode cX6_copy 36 = .ok (.ifCond .eq 9, 3) := by decide +kernel
theorem dX6_copy_39 : decode cX6_copy 39 = .ok (.aload_n 0, 1) := by decide +kernel
theorem dX6_copy_40 : decode cX6_copy 40 = .ok (.iconst 1, 1) := by decide +kernel
theorem dX6_copy_41 : decode cX6_copy 41 = .ok (.invokevirtual 66, 3) := by decide +kernel
theorem dX6_copy_44 : decode cX6_copy 44 = .ok (.ireturn, 1) := by decide +kernel
theorem dX6_copy_45 : decode cX6_copy 45 = .ok (.aload_n 0, 1) := by decide +kernel
theorem dX6_copy_46 : decode cX6_copy 46 = .ok (.getfield 10, 3) := by decide +kernel
theorem dX6_copy_49 : decode cX6_copy 49 = .ok (.iload_n 1, 1) := by decide +kernel
theorem dX6_copy_50 : decode cX6_copy 50 = .ok (.iload_n 3, 1) := by decide +kernel
theorem dX6_copy_51 : decode cX6_copy 51 = .ok (.invokevirtual 87, 3) := by decide +kernel
theorem dX6_copy_54 : decode cX6_copy 54 = .ok (.ifCond .ne 9, 3) := by decide +kernel
theorem dX6_copy_57 : decode cX6_copy 57 = .ok (.aload_n 0, 1) := by decide +kernel
theorem dX6_copy_58 : decode cX6_copy 58 = .ok (.iconst 5, 1) := by decide +kernel
theorem dX6_copy_59 : decode cX6_copy 59 = .ok (.invokevirtual 66, 3) := by decide +kernel
theorem dX6_copy_62 : decode cX6_copy 62 = .ok (.ireturn, 1) := by decide +kernel
theorem dX6_copy_63 : decode cX6_copy 63 = .ok (.aload_n 0, 1) := by decide +kernel
theorem dX6_copy_64 : decode cX6_copy 64 = .ok (.getfield 10, 3) := by decide +kernel
theorem dX6_copy_67 : decode cX6_copy 67 = .ok (.iload_n 1, 1) := by decide +kernel
theorem dX6_copy_68 : decode cX6_copy 68 = .ok (.iload_n 2, 1) := by decide +kernel
theorem dX6_copy_69 : decode cX6_copy 69 = .ok (.iload 5, 2) := by decide +kernel
theorem dX6_copy_71 : decode cX6_copy 71 = .ok (.invokevirtual 80, 3) := by decide +kernel
theorem dX6_copy_74 : decode cX6_copy 74 = .ok (.ifCond .eq 18, 3) := by decide +kernel
theorem dX6_copy_77 : decode cX6_copy 77 = .ok (.aload_n 0, 1) := by decide +kernel
theorem dX6_copy_78 : decode cX6_copy 78 = .ok (.getfield 10, 3) := by decide +kernel
theorem dX6_copy_81 : decode cX6_copy 81 = .ok (.iload_n 3, 1) := by decide +kernel
theorem dX6_copy_82 : decode cX6_copy 82 = .ok (.iload 4, 2) := by decide +kernel
theorem dX6_copy_84 : decode cX6_copy 84 = .ok (.iload 5, 2) := by decide +kernel
theorem dX6_copy_86 : decode cX6_copy 86 = .ok (.invokevirtual 80, 3) := by decide +kernel
theorem dX6_copy_89 : decode cX6_copy 89 = .ok (.ifCond .ne 9, 3) := by decide +kernel
theorem dX6_copy_92 : decode cX6_copy 92 = .ok (.aload_n 0, 1) := by decide +kernel
theorem dX6_copy_93 : decode cX6_copy 93 = .ok (.iconst 2, 1) := by decide +kernel
theorem dX6_copy_94 : decode cX6_copy 94 = .ok (.invokevirtual 66, 3) := by decide +kernel
theorem dX6_copy_97 : decode cX6_copy 97 = .ok (.ireturn, 1) := by decide +kernel
theorem dX6_copy_98 : decode cX6_copy 98 = .ok (.aload_n 0, 1) := by decide +kernel
theorem dX6_copy_99 : decode cX6_copy 99 = .ok (.getfield 10, 3) := by decide +kernel
theorem dX6_copy_102 : decode cX6_copy 102 = .ok (.iload_n 1, 1) := by decide +kernel
theorem dX6_copy_103 : decode cX6_copy 103 = .ok (.iload_n 2, 1) := by decide +kernel
theorem dX6_copy_104 : decode cX6_copy 104 = .ok (.iload_n 3, 1) := by decide +kernel
theorem dX6_copy_105 : decode cX6_copy 105 = .ok (.iload 4, 2) := by decide +kernel
theorem dX6_copy_107 : decode cX6_copy 107 = .ok (.iload 5, 2) := by decide +kernel
theorem dX6_copy_109 : decode cX6_copy 109 = .ok (.invokevirtual 91, 3) := by decide +kernel
theorem dX6_copy_112 : decode cX6_copy 112 = .ok (.aload_n 0, 1) := by decide +kernel
theorem dX6_copy_113 : decode cX6_copy 113 = .ok (.iload 5, 2) := by decide +kernel
theorem dX6_copy_115 : decode cX6_copy 115 = .ok (.invokevirtual 74, 3) := by decide +kernel
theorem dX6_copy_118 : decode cX6_copy 118 = .ok (.ireturn, 1) := by decide +kernel
theorem dX6_drop_0 : decode cX6_drop 0 = .ok (.iload_n 1, 1) := by decide +kernel
theorem dX6_drop_1 : decode cX6_drop 1 = .ok (.invokestatic 57, 3) := by decide +kernel
theorem dX6_drop_4 : decode cX6_drop 4 = .ok (.ifCond .ne 6, 3) := by decide +kernel
theorem dX6_drop_7 : decode cX6_drop 7 = .ok (.ldc 65, 2) := by decide +kernel
theorem dX6_drop_9 : decode cX6_drop 9 = .ok (.ireturn, 1) := by decide +kernel
theorem dX6_drop_10 : decode cX6_drop 10 = .ok (.aload_n 0, 1) := by decide +kernel
theorem dX6_drop_11 : decode cX6_drop 11 = .ok (.getfield 10, 3) := by decide +kernel
theorem dX6_drop_14 : decode cX6_drop 14 = .ok (.iload_n 1, 1) := by decide +kernel
theorem dX6_drop_15 : decode cX6_drop 15 = .ok (.invokevirtual 77, 3) := by decide +kernel
theorem dX6_drop_18 : decode cX6_drop 18 = .ok (.ifCond .eq 9, 3) := by decide +kernel
theorem dX6_drop_21 : decode cX6_drop 21 = .ok (.aload_n 0, 1) := by decide +kernel
theorem dX6_drop_22 : decode cX6_drop 22 = .ok (.iconst 1, 1) := by decide +kernel
theorem dX6_drop_23 : decode cX6_drop 23 = .ok (.invokevirtual 66, 3) := by decide +kernel
theorem dX6_drop_26 : decode cX6_drop 26 = .ok (.ireturn, 1) := by decide +kernel
theorem dX6_drop_27 : decode cX6_drop 27 = .ok (.aload_n 0, 1) := by decide +kernel
theorem dX6_drop_28 : decode cX6_drop 28 = .ok (.aload_n 0, 1) := by decide +kernel
theorem dX6_drop_29 : decode cX6_drop 29 = .ok (.getfield 10, 3) := by decide +kernel
theorem dX6_drop_32 : decode cX6_drop 32 = .ok (.iload_n 1, 1) := by decide +kernel
theorem dX6_drop_33 : decode cX6_drop 33 = .ok (.invokevirtual 95, 3) := by decide +kernel
theorem dX6_drop_36 : decode cX6_drop 36 = .ok (.invokevirtual 74, 3) := by decide +kernel
theorem dX6_drop_39 : decode cX6_drop 39 = .ok (.ireturn, 1) := by decide +kernel
theorem dX6_feed_0 : decode cX6_feed 0 = .ok (.iload_n 1, 1) := by decide +kernel
theorem dX6_feed_1 : decode cX6_feed 1 = .ok (.iconst 0, 1) := by decide +kernel
theorem dX6_feed_2 : decode cX6_feed 2 = .ok (.sipush 255, 3) := by decide +kernel
theorem dX6_feed_5 : decode cX6_feed 5 = .ok (.invokestatic 61, 3) := by decide +kernel
theorem dX6_feed_8 : decode cX6_feed 8 = .ok (.ifCond .ne 6, 3) := by decide +kernel
theorem dX6_feed_11 : decode cX6_feed 11 = .ok (.ldc 65, 2) := by decide +kernel
theorem dX6_feed_13 : decode cX6_feed 13 = .ok (.ireturn, 1) := by decide +kernel
theorem dX6_feed_14 : decode cX6_feed 14 = .ok (.aload_n 0, 1) := by decide +kernel
theorem dX6_feed_15 : decode cX6_feed 15 = .ok (.getfield 19, 3) := by decide +kernel
theorem dX6_feed_18 : decode cX6_feed 18 = .ok (.invokevirtual 98, 3) := by decide +kernel
theorem dX6_feed_21 : decode cX6_feed 21 = .ok (.ifCond .eq 8, 3) := by decide +kernel
theorem dX6_feed_24 : decode cX6_feed 24 = .ok (.ldc 102, 2) := by decide +kernel
theorem dX6_feed_26 : decode cX6_feed 26 = .ok (.goto 11, 3) := by decide +kernel
theorem dX6_feed_29 : decode cX6_feed 29 = .ok (.aload_n 0, 1) := by decide +kernel
theorem dX6_feed_30 : decode cX6_feed 30 = .ok (.getfield 19, 3) := by decide +kernel
theorem dX6_feed_33 : decode cX6_feed 33 = .ok (.iload_n 1, 1) := by decide +kernel
theorem dX6_feed_34 : decode cX6_feed 34 = .ok (.invokevirtual 103, 3) := by decide +kernel
theorem dX6_feed_37 : decode cX6_feed 37 = .ok (.ireturn, 1) := by decide +kernel
theorem dX6_house_0 : decode cX6_house 0 = .ok (.aload_n 0, 1) := by decide +kernel
theorem dX6_house_1 : decode cX6_house 1 = .ok (.getfield 40, 3) := by decide +kernel
theorem dX6_house_4 : decode cX6_house 4 = .ok (.getfield 106, 3) := by decide +kernel
theorem dX6_house_7 : decode cX6_house 7 = .ok (.astore_n 1, 1) := by decide +kernel
theorem dX6_house_8 : decode cX6_house 8 = .ok (.aload_n 0, 1) := by decide +kernel
theorem dX6_house_9 : decode cX6_house 9 = .ok (.getfield 19, 3) := by decide +kernel
theorem dX6_house_12 : decode cX6_house 12 = .ok (.aload_n 1, 1) := by decide +kernel
theorem dX6_house_13 : decode cX6_house 13 = .ok (.invokevirtual 109, 3) := by decide +kernel
theorem dX6_house_16 : decode cX6_house 16 = .ok (.istore_n 2, 1) := by decide +kernel
theorem dX6_house_17 : decode cX6_house 17 = .ok (.aload_n 0, 1) := by decide +kernel
theorem dX6_house_18 : decode cX6_house 18 = .ok (.getfield 19, 3) := by decide +kernel
theorem dX6_house_21 : decode cX6_house 21 = .ok (.invokevirtual 113, 3) := by decide +kernel
theorem dX6_house_24 : decode cX6_house 24 = .ok (.iload_n 2, 1) := by decide +kernel
theorem dX6_house_25 : decode cX6_house 25 = .ok (.ifCond .ne 25, 3) := by decide +kernel
theorem dX6_house_28 : decode cX6_house 28 = .ok (.aload_n 0, 1) := by decide +kernel
theorem dX6_house_29 : decode cX6_house 29 = .ok (.aload_n 0, 1) := by decide +kernel
theorem dX6_house_30 : decode cX6_house 30 = .ok (.getfield 19, 3) := by decide +kernel
theorem dX6_house_33 : decode cX6_house 33 = .ok (.getfield 116, 3) := by decide +kernel
theorem dX6_house_36 : decode cX6_house 36 = .ok (.putfield 120, 3) := by decide +kernel
theorem dX6_house_39 : decode cX6_house 39 = .ok (.ldc 123, 2) := by decide +kernel
theorem dX6_house_41 : decode cX6_house 41 = .ok (.aload_n 0, 1) := by decide +kernel
theorem dX6_house_42 : decode cX6_house 42 = .ok (.getfield 19, 3) := by decide +kernel
theorem dX6_house_45 : decode cX6_house 45 = .ok (.getfield 124, 3) := by decide +kernel
theorem dX6_house_48 : decode cX6_house 48 = .ok (.isub, 1) := by decide +kernel
theorem dX6_house_49 : decode cX6_house 49 = .ok (.ireturn, 1) := by decide +kernel
theorem dX6_house_50 : decode cX6_house 50 = .ok (.aload_n 0, 1) := by decide +kernel
theorem dX6_house_51 : decode cX6_house 51 = .ok (.getfield 26, 3) := by decide +kernel
theorem dX6_house_54 : decode cX6_house 54 = .ok (.aload_n 1, 1) := by decide +kernel
theorem dX6_house_55 : decode cX6_house 55 = .ok (.invokevirtual 127, 3) := by decide +kernel
theorem dX6_house_58 : decode cX6_house 58 = .ok (.aload_n 0, 1) := by decide +kernel
theorem dX6_house_59 : decode cX6_house 59 = .ok (.getfield 33, 3) := by decide +kernel
theorem dX6_house_62 : decode cX6_house 62 = .ok (.invokevirtual 131, 3) := by decide +kernel
theorem dX6_house_65 : decode cX6_house 65 = .ok (.aload_n 0, 1) := by decide +kernel
theorem dX6_house_66 : decode cX6_house 66 = .ok (.getfield 26, 3) := by decide +kernel
theorem dX6_house_69 : decode cX6_house 69 = .ok (.getfield 134, 3) := by decide +kernel
theorem dX6_house_72 : decode cX6_house 72 = .ok (.ireturn, 1) := by decide +kernel
theorem dX6_fault_0 : decode cX6_fault 0 = .ok (.aload_n 0, 1) := by decide +kernel
theorem dX6_fault_1 : decode cX6_fault 1 = .ok (.getfield 120, 3) := by decide +kernel
theorem dX6_fault_4 : decode cX6_fault 4 = .ok (.ireturn, 1) := by decide +kernel
theorem dX6_undo_0 : decode cX6_undo 0 = .ok (.aload_n 0, 1) := by decide +kernel
theorem dX6_undo_1 : decode cX6_undo 1 = .ok (.getfield 33, 3) := by decide +kernel
theorem dX6_undo_4 : decode cX6_undo 4 = .ok (.getfield 137, 3) := by decide +kernel
theorem dX6_undo_7 : decode cX6_undo 7 = .ok (.ifCond .ne 6, 3) := by decide +kernel
theorem dX6_undo_10 : decode cX6_undo 10 = .ok (.ldc 140, 2) := by decide +kernel
theorem dX6_undo_12 : decode cX6_undo 12 = .ok (.ireturn, 1) := by decide +kernel
theorem dX6_undo_13 : decode cX6_undo 13 = .ok (.aload_n 0, 1) := by decide +kernel
theorem dX6_undo_14 : decode cX6_undo 14 = .ok (.getfield 33, 3) := by decide +kernel
theorem dX6_undo_17 : decode cX6_undo 17 = .ok (.aload_n 0, 1) := by decide +kernel
theorem dX6_undo_18 : decode cX6_undo 18 = .ok (.getfield 26, 3) := by decide +kernel
theorem dX6_undo_21 : decode cX6_undo 21 = .ok (.invokevirtual 141, 3) := by decide +kernel
theorem dX6_undo_24 : decode cX6_undo 24 = .ok (.aload_n 0, 1) := by decide +kernel
theorem dX6_undo_25 : decode cX6_undo 25 = .ok (.getfield 33, 3) := by decide +kernel
theorem dX6_undo_28 : decode cX6_undo 28 = .ok (.getfield 137, 3) := by decide +kernel
theorem dX6_undo_31 : decode cX6_undo 31 = .ok (.ireturn, 1) := by decide +kernel
theorem dX6_hours_0 : decode cX6_hours 0 = .ok (.aload_n 0, 1) := by decide +kernel
theorem dX6_hours_1 : decode cX6_hours 1 = .ok (.getfield 26, 3) := by decide +kernel
theorem dX6_hours_4 : decode cX6_hours 4 = .ok (.invokevirtual 144, 3) := by decide +kernel
theorem dX6_hours_7 : decode cX6_hours 7 = .ok (.ifCond .ne 6, 3) := by decide +kernel
theorem dX6_hours_10 : decode cX6_hours 10 = .ok (.ldc 140, 2) := by decide +kernel
theorem dX6_hours_12 : decode cX6_hours 12 = .ok (.ireturn, 1) := by decide +kernel
theorem dX6_hours_13 : decode cX6_hours 13 = .ok (.iload_n 1, 1) := by decide +kernel
theorem dX6_hours_14 : decode cX6_hours 14 = .ok (.iconst 1, 1) := by decide +kernel
theorem dX6_hours_15 : decode cX6_hours 15 = .ok (.bipush 24, 2) := by decide +kernel
theorem dX6_hours_17 : decode cX6_hours 17 = .ok (.invokestatic 61, 3) := by decide +kernel
theorem dX6_hours_20 : decode cX6_hours 20 = .ok (.ifCond .ne 6, 3) := by decide +kernel
theorem dX6_hours_23 : decode cX6_hours 23 = .ok (.ldc 65, 2) := by decide +kernel
theorem dX6_hours_25 : decode cX6_hours 25 = .ok (.ireturn, 1) := by decide +kernel
theorem dX6_hours_26 : decode cX6_hours 26 = .ok (.aload_n 0, 1) := by decide +kernel
theorem dX6_hours_27 : decode cX6_hours 27 = .ok (.getfield 26, 3) := by decide +kernel
theorem dX6_hours_30 : decode cX6_hours 30 = .ok (.getfield 147, 3) := by decide +kernel
theorem dX6_hours_33 : decode cX6_hours 33 = .ok (.iload_n 1, 1) := by decide +kernel
theorem dX6_hours_34 : decode cX6_hours 34 = .ok (.iadd, 1) := by decide +kernel
theorem dX6_hours_35 : decode cX6_hours 35 = .ok (.sipush 999, 3) := by decide +kernel
theorem dX6_hours_38 : decode cX6_hours 38 = .ok (.if_icmp .le 6, 3) := by decide +kernel
theorem dX6_hours_41 : decode cX6_hours 41 = .ok (.ldc 102, 2) := by decide +kernel
theorem dX6_hours_43 : decode cX6_hours 43 = .ok (.ireturn, 1) := by decide +kernel
theorem dX6_hours_44 : decode cX6_hours 44 = .ok (.iconst 0, 1) := by decide +kernel
theorem dX6_hours_45 : decode cX6_hours 45 = .ok (.istore_n 2, 1) := by decide +kernel
theorem dX6_hours_46 : decode cX6_hours 46 = .ok (.iload_n 2, 1) := by decide +kernel
theorem dX6_hours_47 : decode cX6_hours 47 = .ok (.iload_n 1, 1) := by decide +kernel
theorem dX6_hours_48 : decode cX6_hours 48 = .ok (.if_icmp .ge 27, 3) := by decide +kernel
theorem dX6_hours_51 : decode cX6_hours 51 = .ok (.aload_n 0, 1) := by decide +kernel
theorem dX6_hours_52 : decode cX6_hours 52 = .ok (.getfield 33, 3) := by decide +kernel
theorem dX6_hours_55 : decode cX6_hours 55 = .ok (.aload_n 0, 1) := by decide +kernel
theorem dX6_hours_56 : decode cX6_hours 56 = .ok (.getfield 26, 3) := by decide +kernel
theorem dX6_hours_59 : decode cX6_hours 59 = .ok (.invokevirtual 150, 3) := by decide +kernel
theorem dX6_hours_62 : decode cX6_hours 62 = .ok (.aload_n 0, 1) := by decide +kernel
theorem dX6_hours_63 : decode cX6_hours 63 = .ok (.getfield 26, 3) := by decide +kernel
theorem dX6_hours_66 : decode cX6_hours 66 = .ok (.invokevirtual 153, 3) := by decide +kernel
theorem dX6_hours_69 : decode cX6_hours 69 = .ok (.iinc 2 1, 3) := by decide +kernel
theorem dX6_hours_72 : decode cX6_hours 72 = .ok (.goto (-26), 3) := by decide +kernel
theorem dX6_hours_75 : decode cX6_hours 75 = .ok (.aload_n 0, 1) := by decide +kernel
theorem dX6_hours_76 : decode cX6_hours 76 = .ok (.getfield 26, 3) := by decide +kernel
theorem dX6_hours_79 : decode cX6_hours 79 = .ok (.invokevirtual 156, 3) := by decide +kernel
theorem dX6_hours_82 : decode cX6_hours 82 = .ok (.ireturn, 1) := by decide +kernel
theorem dX6_door_0 : decode cX6_door 0 = .ok (.aload_n 0, 1) := by decide +kernel
theorem dX6_door_1 : decode cX6_door 1 = .ok (.getfield 26, 3) := by decide +kernel
theorem dX6_door_4 : decode cX6_door 4 = .ok (.iload_n 1, 1) := by decide +kernel
theorem dX6_door_5 : decode cX6_door 5 = .ok (.invokevirtual 160, 3) := by decide +kernel
theorem dX6_door_8 : decode cX6_door 8 = .ok (.ifCond .eq 12, 3) := by decide +kernel
theorem dX6_door_11 : decode cX6_door 11 = .ok (.iload_n 2, 1) := by decide +kernel
theorem dX6_door_12 : decode cX6_door 12 = .ok (.iconst 0, 1) := by decide +kernel
theorem dX6_door_13 : decode cX6_door 13 = .ok (.iconst 1, 1) := by decide +kernel
theorem dX6_door_14 : decode cX6_door 14 = .ok (.invokestatic 61, 3) := by decide +kernel
theorem dX6_door_17 : decode cX6_door 17 = .ok (.ifCond .ne 6, 3) := by decide +kernel
theorem dX6_door_20 : decode cX6_door 20 = .ok (.ldc 65, 2) := by decide +kernel
theorem dX6_door_22 : decode cX6_door 22 = .ok (.ireturn, 1) := by decide +kernel
theorem dX6_door_23 : decode cX6_door 23 = .ok (.aload_n 0, 1) := by decide +kernel
theorem dX6_door_24 : decode cX6_door 24 = .ok (.getfield 26, 3) := by decide +kernel
theorem dX6_door_27 : decode cX6_door 27 = .ok (.iload_n 1, 1) := by decide +kernel
theorem dX6_door_28 : decode cX6_door 28 = .ok (.invokevirtual 163, 3) := by decide +kernel
theorem dX6_door_31 : decode cX6_door 31 = .ok (.iload_n 2, 1) := by decide +kernel
theorem dX6_door_32 : decode cX6_door 32 = .ok (.iconst 1, 1) := by decide +kernel
theorem dX6_door_33 : decode cX6_door 33 = .ok (.if_icmp .ne 7, 3) := by decide +kernel
theorem dX6_door_36 : decode cX6_door 36 = .ok (.iconst 1, 1) := by decide +kernel
theorem dX6_door_37 : decode cX6_door 37 = .ok (.goto 4, 3) := by decide +kernel
theorem dX6_door_40 : decode cX6_door 40 = .ok (.iconst 0, 1) := by decide +kernel
theorem dX6_door_41 : decode cX6_door 41 = .ok (.if_icmp .ne 6, 3) := by decide +kernel
theorem dX6_door_44 : decode cX6_door 44 = .ok (.ldc 140, 2) := by decide +kernel
theorem dX6_door_46 : decode cX6_door 46 = .ok (.ireturn, 1) := by decide +kernel
theorem dX6_door_47 : decode cX6_door 47 = .ok (.aload_n 0, 1) := by decide +kernel
theorem dX6_door_48 : decode cX6_door 48 = .ok (.getfield 33, 3) := by decide +kernel
theorem dX6_door_51 : decode cX6_door 51 = .ok (.aload_n 0, 1) := by decide +kernel
theorem dX6_door_52 : decode cX6_door 52 = .ok (.getfield 26, 3) := by decide +kernel
theorem dX6_door_55 : decode cX6_door 55 = .ok (.invokevirtual 150, 3) := by decide +kernel
theorem dX6_door_58 : decode cX6_door 58 = .ok (.aload_n 0, 1) := by decide +kernel
theorem dX6_door_59 : decode cX6_door 59 = .ok (.getfield 26, 3) := by decide +kernel
theorem dX6_door_62 : decode cX6_door 62 = .ok (.iconst 1, 1) := by decide +kernel
theorem dX6_door_63 : decode cX6_door 63 = .ok (.iload_n 1, 1) := by decide +kernel
theorem dX6_door_64 : decode cX6_door 64 = .ok (.ishl, 1) := by decide +kernel
theorem dX6_door_65 : decode cX6_door 65 = .ok (.invokevirtual 166, 3) := by decide +kernel
theorem dX6_door_68 : decode cX6_door 68 = .ok (.aload_n 0, 1) := by decide +kernel
theorem dX6_door_69 : decode cX6_door 69 = .ok (.getfield 26, 3) := by decide +kernel
theorem dX6_door_72 : decode cX6_door 72 = .ok (.getfield 170, 3) := by decide +kernel
theorem dX6_door_75 : decode cX6_door 75 = .ok (.ireturn, 1) := by decide +kernel
theorem dX6_sit_0 : decode cX6_sit 0 = .ok (.aload_n 0, 1) := by decide +kernel
theorem dX6_sit_1 : decode cX6_sit 1 = .ok (.getfield 26, 3) := by decide +kernel
theorem dX6_sit_4 : decode cX6_sit 4 = .ok (.iload_n 1, 1) := by decide +kernel
theorem dX6_sit_5 : decode cX6_sit 5 = .ok (.invokevirtual 173, 3) := by decide +kernel
theorem dX6_sit_8 : decode cX6_sit 8 = .ok (.ifCond .eq 14, 3) := by decide +kernel
theorem dX6_sit_11 : decode cX6_sit 11 = .ok (.aload_n 0, 1) := by decide +kernel
theorem dX6_sit_12 : decode cX6_sit 12 = .ok (.getfield 26, 3) := by decide +kernel
theorem dX6_sit_15 : decode cX6_sit 15 = .ok (.iload_n 2, 1) := by decide +kernel
theorem dX6_sit_16 : decode cX6_sit 16 = .ok (.invokevirtual 176, 3) := by decide +kernel
theorem dX6_sit_19 : decode cX6_sit 19 = .ok (.ifCond .ne 6, 3) := by decide +kernel
theorem dX6_sit_22 : decode cX6_sit 22 = .ok (.ldc 65, 2) := by decide +kernel
theorem dX6_sit_24 : decode cX6_sit 24 = .ok (.ireturn, 1) := by decide +kernel
theorem dX6_sit_25 : decode cX6_sit 25 = .ok (.aload_n 0, 1) := by decide +kernel
theorem dX6_sit_26 : decode cX6_sit 26 = .ok (.getfield 26, 3) := by decide +kernel
theorem dX6_sit_29 : decode cX6_sit 29 = .ok (.getfield 179, 3) := by decide +kernel
theorem dX6_sit_32 : decode cX6_sit 32 = .ok (.iload_n 1, 1) := by decide +kernel
theorem dX6_sit_33 : decode cX6_sit 33 = .ok (.iaload, 1) := by decide +kernel
theorem dX6_sit_34 : decode cX6_sit 34 = .ok (.istore_n 3, 1) := by decide +kernel
theorem dX6_sit_35 : decode cX6_sit 35 = .ok (.iload_n 3, 1) := by decide +kernel
theorem dX6_sit_36 : decode cX6_sit 36 = .ok (.iload_n 2, 1) := by decide +kernel
theorem dX6_sit_37 : decode cX6_sit 37 = .ok (.if_icmp .ne 6, 3) := by decide +kernel
theorem dX6_sit_40 : decode cX6_sit 40 = .ok (.ldc 140, 2) := by decide +kernel
theorem dX6_sit_42 : decode cX6_sit 42 = .ok (.ireturn, 1) := by decide +kernel
theorem dX6_sit_43 : decode cX6_sit 43 = .ok (.aload_n 0, 1) := by decide +kernel
theorem dX6_sit_44 : decode cX6_sit 44 = .ok (.getfield 33, 3) := by decide +kernel
theorem dX6_sit_47 : decode cX6_sit 47 = .ok (.aload_n 0, 1) := by decide +kernel
theorem dX6_sit_48 : decode cX6_sit 48 = .ok (.getfield 26, 3) := by decide +kernel
theorem dX6_sit_51 : decode cX6_sit 51 = .ok (.invokevirtual 150, 3) := by decide +kernel
theorem dX6_sit_54 : decode cX6_sit 54 = .ok (.aload_n 0, 1) := by decide +kernel
theorem dX6_sit_55 : decode cX6_sit 55 = .ok (.getfield 26, 3) := by decide +kernel
theorem dX6_sit_58 : decode cX6_sit 58 = .ok (.getfield 179, 3) := by decide +kernel
theorem dX6_sit_61 : decode cX6_sit 61 = .ok (.iload_n 1, 1) := by decide +kernel
theorem dX6_sit_62 : decode cX6_sit 62 = .ok (.iload_n 2, 1) := by decide +kernel
theorem dX6_sit_63 : decode cX6_sit 63 = .ok (.iastore, 1) := by decide +kernel
theorem dX6_sit_64 : decode cX6_sit 64 = .ok (.iload_n 3, 1) := by decide +kernel
theorem dX6_sit_65 : decode cX6_sit 65 = .ok (.ireturn, 1) := by decide +kernel
theorem dX6_room_0 : decode cX6_room 0 = .ok (.aload_n 0, 1) := by decide +kernel
theorem dX6_room_1 : decode cX6_room 1 = .ok (.getfield 26, 3) := by decide +kernel
theorem dX6_room_4 : decode cX6_room 4 = .ok (.invokevirtual 144, 3) := by decide +kernel
theorem dX6_room_7 : decode cX6_room 7 = .ok (.ifCond .ne 6, 3) := by decide +kernel
theorem dX6_room_10 : decode cX6_room 10 = .ok (.ldc 140, 2) := by decide +kernel
theorem dX6_room_12 : decode cX6_room 12 = .ok (.ireturn, 1) := by decide +kernel
theorem dX6_room_13 : decode cX6_room 13 = .ok (.aload_n 0, 1) := by decide +kernel
theorem dX6_room_14 : decode cX6_room 14 = .ok (.getfield 26, 3) := by decide +kernel
theorem dX6_room_17 : decode cX6_room 17 = .ok (.iload_n 1, 1) := by decide +kernel
theorem dX6_room_18 : decode cX6_room 18 = .ok (.invokevirtual 176, 3) := by decide +kernel
theorem dX6_room_21 : decode cX6_room 21 = .ok (.ifCond .ne 6, 3) := by decide +kernel
theorem dX6_room_24 : decode cX6_room 24 = .ok (.ldc 65, 2) := by decide +kernel
theorem dX6_room_26 : decode cX6_room 26 = .ok (.ireturn, 1) := by decide +kernel
theorem dX6_room_27 : decode cX6_room 27 = .ok (.iload_n 2, 1) := by decide +kernel
theorem dX6_room_28 : decode cX6_room 28 = .ok (.tableswitch 91 0 4 #[36, 46, 55, 69, 82], 36) := by decide +kernel
theorem dX6_room_64 : decode cX6_room 64 = .ok (.aload_n 0, 1) := by decide +kernel
theorem dX6_room_65 : decode cX6_room 65 = .ok (.getfield 26, 3) := by decide +kernel
theorem dX6_room_68 : decode cX6_room 68 = .ok (.getfield 183, 3) := by decide +kernel
theorem dX6_room_71 : decode cX6_room 71 = .ok (.iload_n 1, 1) := by decide +kernel
theorem dX6_room_72 : decode cX6_room 72 = .ok (.iaload, 1) := by decide +kernel
theorem dX6_room_73 : decode cX6_room 73 = .ok (.ireturn, 1) := by decide +kernel
theorem dX6_room_74 : decode cX6_room 74 = .ok (.aload_n 0, 1) := by decide +kernel
theorem dX6_room_75 : decode cX6_room 75 = .ok (.getfield 26, 3) := by decide +kernel
theorem dX6_room_78 : decode cX6_room 78 = .ok (.iload_n 1, 1) := by decide +kernel
theorem dX6_room_79 : decode cX6_room 79 = .ok (.invokevirtual 186, 3) := by decide +kernel
theorem dX6_room_82 : decode cX6_room 82 = .ok (.ireturn, 1) := by decide +kernel
theorem dX6_room_83 : decode cX6_room 83 = .ok (.aload_n 0, 1) := by decide +kernel
theorem dX6_room_84 : decode cX6_room 84 = .ok (.getfield 26, 3) := by decide +kernel
theorem dX6_room_87 : decode cX6_room 87 = .ok (.bipush 14, 2) := by decide +kernel
theorem dX6_room_89 : decode cX6_room 89 = .ok (.invokevirtual 189, 3) := by decide +kernel
theorem dX6_room_92 : decode cX6_room 92 = .ok (.iload_n 1, 1) := by decide +kernel
theorem dX6_room_93 : decode cX6_room 93 = .ok (.ishr, 1) := by decide +kernel
theorem dX6_room_94 : decode cX6_room 94 = .ok (.iconst 1, 1) := by decide +kernel
theorem dX6_room_95 : decode cX6_room 95 = .ok (.iand, 1) := by decide +kernel
theorem dX6_room_96 : decode cX6_room 96 = .ok (.ireturn, 1) := by decide +kernel
theorem dX6_room_97 : decode cX6_room 97 = .ok (.aload_n 0, 1) := by decide +kernel
theorem dX6_room_98 : decode cX6_room 98 = .ok (.getfield 26, 3) := by decide +kernel
theorem dX6_room_101 : decode cX6_room 101 = .ok (.iconst 4, 1) := by decide +kernel
theorem dX6_room_102 : decode cX6_room 102 = .ok (.invokevirtual 189, 3) := by decide +kernel
theorem dX6_room_105 : decode cX6_room 105 = .ok (.iload_n 1, 1) := by decide +kernel
theorem dX6_room_106 : decode cX6_room 106 = .ok (.ishr, 1) := by decide +kernel
theorem dX6_room_107 : decode cX6_room 107 = .ok (.iconst 1, 1) := by decide +kernel
theorem dX6_room_108 : decode cX6_room 108 = .ok (.iand, 1) := by decide +kernel
theorem dX6_room_109 : decode cX6_room 109 = .ok (.ireturn, 1) := by decide +kernel
theorem dX6_room_110 : decode cX6_room 110 = .ok (.aload_n 0, 1) := by decide +kernel
theorem dX6_room_111 : decode cX6_room 111 = .ok (.getfield 26, 3) := by decide +kernel
theorem dX6_room_114 : decode cX6_room 114 = .ok (.iload_n 1, 1) := by decide +kernel
theorem dX6_room_115 : decode cX6_room 115 = .ok (.invokevirtual 192, 3) := by decide +kernel
theorem dX6_room_118 : decode cX6_room 118 = .ok (.ireturn, 1) := by decide +kernel
theorem dX6_room_119 : decode cX6_room 119 = .ok (.ldc 65, 2) := by decide +kernel
theorem dX6_room_121 : decode cX6_room 121 = .ok (.ireturn, 1) := by decide +kernel
theorem dX6_doorHas_0 : decode cX6_doorHas 0 = .ok (.aload_n 0, 1) := by decide +kernel
theorem dX6_doorHas_1 : decode cX6_doorHas 1 = .ok (.getfield 26, 3) := by decide +kernel
theorem dX6_doorHas_4 : decode cX6_doorHas 4 = .ok (.iload_n 1, 1) := by decide +kernel
theorem dX6_doorHas_5 : decode cX6_doorHas 5 = .ok (.invokevirtual 160, 3) := by decide +kernel
theorem dX6_doorHas_8 : decode cX6_doorHas 8 = .ok (.ifCond .ne 6, 3) := by decide +kernel
theorem dX6_doorHas_11 : decode cX6_doorHas 11 = .ok (.ldc 65, 2) := by decide +kernel
theorem dX6_doorHas_13 : decode cX6_doorHas 13 = .ok (.ireturn, 1) := by decide +kernel
theorem dX6_doorHas_14 : decode cX6_doorHas 14 = .ok (.iload_n 2, 1) := by decide +kernel
theorem dX6_doorHas_15 : decode cX6_doorHas 15 = .ok (.tableswitch 62 0 2 #[25, 35, 45], 25) := by decide +kernel
theorem dX6_doorHas_40 : decode cX6_doorHas 40 = .ok (.aload_n 0, 1) := by decide +kernel
theorem dX6_doorHas_41 : decode cX6_doorHas 41 = .ok (.getfield 26, 3) := by decide +kernel
theorem dX6_doorHas_44 : decode cX6_doorHas 44 = .ok (.getfield 195, 3) := by decide +kernel
theorem dX6_doorHas_47 : decode cX6_doorHas 47 = .ok (.iload_n 1, 1) := by decide +kernel
theorem dX6_doorHas_48 : decode cX6_doorHas 48 = .ok (.iaload, 1) := by decide +kernel
theorem dX6_doorHas_49 : decode cX6_doorHas 49 = .ok (.ireturn, 1) := by decide +kernel
theorem dX6_doorHas_50 : decode cX6_doorHas 50 = .ok (.aload_n 0, 1) := by decide +kernel
theorem dX6_doorHas_51 : decode cX6_doorHas 51 = .ok (.getfield 26, 3) := by decide +kernel
theorem dX6_doorHas_54 : decode cX6_doorHas 54 = .ok (.getfield 198, 3) := by decide +kernel
theorem dX6_doorHas_57 : decode cX6_doorHas 57 = .ok (.iload_n 1, 1) := by decide +kernel
theorem dX6_doorHas_58 : decode cX6_doorHas 58 = .ok (.iaload, 1) := by decide +kernel
theorem dX6_doorHas_59 : decode cX6_doorHas 59 = .ok (.ireturn, 1) := by decide +kernel
theorem dX6_doorHas_60 : decode cX6_doorHas 60 = .ok (.aload_n 0, 1) := by decide +kernel
theorem dX6_doorHas_61 : decode cX6_doorHas 61 = .ok (.getfield 26, 3) := by decide +kernel
theorem dX6_doorHas_64 : decode cX6_doorHas 64 = .ok (.iload_n 1, 1) := by decide +kernel
theorem dX6_doorHas_65 : decode cX6_doorHas 65 = .ok (.invokevirtual 163, 3) := by decide +kernel
theorem dX6_doorHas_68 : decode cX6_doorHas 68 = .ok (.ifCond .eq 7, 3) := by decide +kernel
theorem dX6_doorHas_71 : decode cX6_doorHas 71 = .ok (.iconst 1, 1) := by decide +kernel
theorem dX6_doorHas_72 : decode cX6_doorHas 72 = .ok (.goto 4, 3) := by decide +kernel
theorem dX6_doorHas_75 : decode cX6_doorHas 75 = .ok (.iconst 0, 1) := by decide +kernel
theorem dX6_doorHas_76 : decode cX6_doorHas 76 = .ok (.ireturn, 1) := by decide +kernel
theorem dX6_doorHas_77 : decode cX6_doorHas 77 = .ok (.ldc 65, 2) := by decide +kernel
theorem dX6_doorHas_79 : decode cX6_doorHas 79 = .ok (.ireturn, 1) := by decide +kernel
theorem dX6_sitter_0 : decode cX6_sitter 0 = .ok (.aload_n 0, 1) := by decide +kernel
theorem dX6_sitter_1 : decode cX6_sitter 1 = .ok (.getfield 26, 3) := by decide +kernel
theorem dX6_sitter_4 : decode cX6_sitter 4 = .ok (.iload_n 1, 1) := by decide +kernel
theorem dX6_sitter_5 : decode cX6_sitter 5 = .ok (.invokevirtual 173, 3) := by decide +kernel
theorem dX6_sitter_8 : decode cX6_sitter 8 = .ok (.ifCond .ne 6, 3) := by decide +kernel
theorem dX6_sitter_11 : decode cX6_sitter 11 = .ok (.ldc 65, 2) := by decide +kernel
theorem dX6_sitter_13 : decode cX6_sitter 13 = .ok (.ireturn, 1) := by decide +kernel
theorem dX6_sitter_14 : decode cX6_sitter 14 = .ok (.iload_n 2, 1) := by decide +kernel
theorem dX6_sitter_15 : decode cX6_sitter 15 = .ok (.tableswitch 62 0 2 #[25, 35, 45], 25) := by decide +kernel
theorem dX6_sitter_40 : decode cX6_sitter 40 = .ok (.aload_n 0, 1) := by decide +kernel
theorem dX6_sitter_41 : decode cX6_sitter 41 = .ok (.getfield 26, 3) := by decide +kernel
theorem dX6_sitter_44 : decode cX6_sitter 44 = .ok (.getfield 179, 3) := by decide +kernel
theorem dX6_sitter_47 : decode cX6_sitter 47 = .ok (.iload_n 1, 1) := by decide +kernel
theorem dX6_sitter_48 : decode cX6_sitter 48 = .ok (.iaload, 1) := by decide +kernel
theorem dX6_sitter_49 : decode cX6_sitter 49 = .ok (.ireturn, 1) := by decide +kernel
theorem dX6_sitter_50 : decode cX6_sitter 50 = .ok (.aload_n 0, 1) := by decide +kernel
theorem dX6_sitter_51 : decode cX6_sitter 51 = .ok (.getfield 26, 3) := by decide +kernel
theorem dX6_sitter_54 : decode cX6_sitter 54 = .ok (.getfield 201, 3) := by decide +kernel
theorem dX6_sitter_57 : decode cX6_sitter 57 = .ok (.iload_n 1, 1) := by decide +kernel
theorem dX6_sitter_58 : decode cX6_sitter 58 = .ok (.iaload, 1) := by decide +kernel
theorem dX6_sitter_59 : decode cX6_sitter 59 = .ok (.ireturn, 1) := by decide +kernel
theorem dX6_sitter_60 : decode cX6_sitter 60 = .ok (.aload_n 0, 1) := by decide +kernel
theorem dX6_sitter_61 : decode cX6_sitter 61 = .ok (.getfield 26, 3) := by decide +kernel
theorem dX6_sitter_64 : decode cX6_sitter 64 = .ok (.iload_n 1, 1) := by decide +kernel
theorem dX6_sitter_65 : decode cX6_sitter 65 = .ok (.invokevirtual 204, 3) := by decide +kernel
theorem dX6_sitter_68 : decode cX6_sitter 68 = .ok (.ifCond .eq 7, 3) := by decide +kernel
theorem dX6_sitter_71 : decode cX6_sitter 71 = .ok (.iconst 1, 1) := by decide +kernel
theorem dX6_sitter_72 : decode cX6_sitter 72 = .ok (.goto 4, 3) := by decide +kernel
theorem dX6_sitter_75 : decode cX6_sitter 75 = .ok (.iconst 0, 1) := by decide +kernel
theorem dX6_sitter_76 : decode cX6_sitter 76 = .ok (.ireturn, 1) := by decide +kernel
theorem dX6_sitter_77 : decode cX6_sitter 77 = .ok (.ldc 65, 2) := by decide +kernel
theorem dX6_sitter_79 : decode cX6_sitter 79 = .ok (.ireturn, 1) := by decide +kernel
theorem dX6_ahead_0 : decode cX6_ahead 0 = .ok (.aload_n 0, 1) := by decide +kernel
theorem dX6_ahead_1 : decode cX6_ahead 1 = .ok (.getfield 26, 3) := by decide +kernel
theorem dX6_ahead_4 : decode cX6_ahead 4 = .ok (.invokevirtual 144, 3) := by decide +kernel
theorem dX6_ahead_7 : decode cX6_ahead 7 = .ok (.ifCond .ne 6, 3) := by decide +kernel
theorem dX6_ahead_10 : decode cX6_ahead 10 = .ok (.ldc 140, 2) := by decide +kernel
theorem dX6_ahead_12 : decode cX6_ahead 12 = .ok (.ireturn, 1) := by decide +kernel
theorem dX6_ahead_13 : decode cX6_ahead 13 = .ok (.iload_n 1, 1) := by decide +kernel
theorem dX6_ahead_14 : decode cX6_ahead 14 = .ok (.iconst 0, 1) := by decide +kernel
theorem dX6_ahead_15 : decode cX6_ahead 15 = .ok (.bipush 60, 2) := by decide +kernel
theorem dX6_ahead_17 : decode cX6_ahead 17 = .ok (.invokestatic 61, 3) := by decide +kernel
theorem dX6_ahead_20 : decode cX6_ahead 20 = .ok (.ifCond .eq 14, 3) := by decide +kernel
theorem dX6_ahead_23 : decode cX6_ahead 23 = .ok (.aload_n 0, 1) := by decide +kernel
theorem dX6_ahead_24 : decode cX6_ahead 24 = .ok (.getfield 26, 3) := by decide +kernel
theorem dX6_ahead_27 : decode cX6_ahead 27 = .ok (.iload_n 2, 1) := by decide +kernel
theorem dX6_ahead_28 : decode cX6_ahead 28 = .ok (.invokevirtual 176, 3) := by decide +kernel
theorem dX6_ahead_31 : decode cX6_ahead 31 = .ok (.ifCond .ne 6, 3) := by decide +kernel
theorem dX6_ahead_34 : decode cX6_ahead 34 = .ok (.ldc 65, 2) := by decide +kernel
theorem dX6_ahead_36 : decode cX6_ahead 36 = .ok (.ireturn, 1) := by decide +kernel
theorem dX6_ahead_37 : decode cX6_ahead 37 = .ok (.aload_n 0, 1) := by decide +kernel
theorem dX6_ahead_38 : decode cX6_ahead 38 = .ok (.getfield 40, 3) := by decide +kernel
theorem dX6_ahead_41 : decode cX6_ahead 41 = .ok (.aload_n 0, 1) := by decide +kernel
theorem dX6_ahead_42 : decode cX6_ahead 42 = .ok (.getfield 26, 3) := by decide +kernel
theorem dX6_ahead_45 : decode cX6_ahead 45 = .ok (.iload_n 1, 1) := by decide +kernel
theorem dX6_ahead_46 : decode cX6_ahead 46 = .ok (.invokevirtual 207, 3) := by decide +kernel
theorem dX6_ahead_49 : decode cX6_ahead 49 = .ok (.aload_n 0, 1) := by decide +kernel
theorem dX6_ahead_50 : decode cX6_ahead 50 = .ok (.getfield 40, 3) := by decide +kernel
theorem dX6_ahead_53 : decode cX6_ahead 53 = .ok (.getfield 106, 3) := by decide +kernel
theorem dX6_ahead_56 : decode cX6_ahead 56 = .ok (.getfield 183, 3) := by decide +kernel
theorem dX6_ahead_59 : decode cX6_ahead 59 = .ok (.iload_n 2, 1) := by decide +kernel
theorem dX6_ahead_60 : decode cX6_ahead 60 = .ok (.iaload, 1) := by decide +kernel
theorem dX6_ahead_61 : decode cX6_ahead 61 = .ok (.ireturn, 1) := by decide +kernel
theorem dX6_allAhead_0 : decode cX6_allAhead 0 = .ok (.aload_n 0, 1) := by decide +kernel
theorem dX6_allAhead_1 : decode cX6_allAhead 1 = .ok (.getfield 26, 3) := by decide +kernel
theorem dX6_allAhead_4 : decode cX6_allAhead 4 = .ok (.invokevirtual 144, 3) := by decide +kernel
theorem dX6_allAhead_7 : decode cX6_allAhead 7 = .ok (.ifCond .ne 6, 3) := by decide +kernel
theorem dX6_allAhead_10 : decode cX6_allAhead 10 = .ok (.ldc 140, 2) := by decide +kernel
theorem dX6_allAhead_12 : decode cX6_allAhead 12 = .ok (.ireturn, 1) := by decide +kernel
theorem dX6_allAhead_13 : decode cX6_allAhead 13 = .ok (.iload_n 1, 1) := by decide +kernel
theorem dX6_allAhead_14 : decode cX6_allAhead 14 = .ok (.iconst 0, 1) := by decide +kernel
theorem dX6_allAhead_15 : decode cX6_allAhead 15 = .ok (.bipush 60, 2) := by decide +kernel
theorem dX6_allAhead_17 : decode cX6_allAhead 17 = .ok (.invokestatic 61, 3) := by decide +kernel
theorem dX6_allAhead_20 : decode cX6_allAhead 20 = .ok (.ifCond .ne 6, 3) := by decide +kernel
theorem dX6_allAhead_23 : decode cX6_allAhead 23 = .ok (.ldc 65, 2) := by decide +kernel
theorem dX6_allAhead_25 : decode cX6_allAhead 25 = .ok (.ireturn, 1) := by decide +kernel
theorem dX6_allAhead_26 : decode cX6_allAhead 26 = .ok (.aload_n 0, 1) := by decide +kernel
theorem dX6_allAhead_27 : decode cX6_allAhead 27 = .ok (.getfield 40, 3) := by decide +kernel
theorem dX6_allAhead_30 : decode cX6_allAhead 30 = .ok (.aload_n 0, 1) := by decide +kernel
theorem dX6_allAhead_31 : decode cX6_allAhead 31 = .ok (.getfield 26, 3) := by decide +kernel
theorem dX6_allAhead_34 : decode cX6_allAhead 34 = .ok (.iload_n 1, 1) := by decide +kernel
theorem dX6_allAhead_35 : decode cX6_allAhead 35 = .ok (.invokevirtual 207, 3) := by decide +kernel
theorem dX6_allAhead_38 : decode cX6_allAhead 38 = .ok (.aload_n 0, 1) := by decide +kernel
theorem dX6_allAhead_39 : decode cX6_allAhead 39 = .ok (.getfield 40, 3) := by decide +kernel
theorem dX6_allAhead_42 : decode cX6_allAhead 42 = .ok (.getfield 106, 3) := by decide +kernel
theorem dX6_allAhead_45 : decode cX6_allAhead 45 = .ok (.invokevirtual 156, 3) := by decide +kernel
theorem dX6_allAhead_48 : decode cX6_allAhead 48 = .ok (.ireturn, 1) := by decide +kernel
theorem dX6_shivers_0 : decode cX6_shivers 0 = .ok (.aload_n 0, 1) := by decide +kernel
theorem dX6_shivers_1 : decode cX6_shivers 1 = .ok (.getfield 26, 3) := by decide +kernel
theorem dX6_shivers_4 : decode cX6_shivers 4 = .ok (.invokevirtual 144, 3) := by decide +kernel
theorem dX6_shivers_7 : decode cX6_shivers 7 = .ok (.ifCond .ne 6, 3) := by decide +kernel
theorem dX6_shivers_10 : decode cX6_shivers 10 = .ok (.ldc 140, 2) := by decide +kernel
theorem dX6_shivers_12 : decode cX6_shivers 12 = .ok (.ireturn, 1) := by decide +kernel
theorem dX6_shivers_13 : decode cX6_shivers 13 = .ok (.iload_n 1, 1) := by decide +kernel
theorem dX6_shivers_14 : decode cX6_shivers 14 = .ok (.iconst 0, 1) := by decide +kernel
theorem dX6_shivers_15 : decode cX6_shivers 15 = .ok (.iconst 1, 1) := by decide +kernel
theorem dX6_shivers_16 : decode cX6_shivers 16 = .ok (.invokestatic 61, 3) := by decide +kernel
theorem dX6_shivers_19 : decode cX6_shivers 19 = .ok (.ifCond .ne 6, 3) := by decide +kernel
theorem dX6_shivers_22 : decode cX6_shivers 22 = .ok (.ldc 65, 2) := by decide +kernel
theorem dX6_shivers_24 : decode cX6_shivers 24 = .ok (.ireturn, 1) := by decide +kernel
theorem dX6_shivers_25 : decode cX6_shivers 25 = .ok (.aload_n 0, 1) := by decide +kernel
theorem dX6_shivers_26 : decode cX6_shivers 26 = .ok (.getfield 40, 3) := by decide +kernel
theorem dX6_shivers_29 : decode cX6_shivers 29 = .ok (.aload_n 0, 1) := by decide +kernel
theorem dX6_shivers_30 : decode cX6_shivers 30 = .ok (.getfield 26, 3) := by decide +kernel
theorem dX6_shivers_33 : decode cX6_shivers 33 = .ok (.bipush 60, 2) := by decide +kernel
theorem dX6_shivers_35 : decode cX6_shivers 35 = .ok (.invokevirtual 211, 3) := by decide +kernel
theorem dX6_shivers_38 : decode cX6_shivers 38 = .ok (.aload_n 0, 1) := by decide +kernel
theorem dX6_shivers_39 : decode cX6_shivers 39 = .ok (.getfield 40, 3) := by decide +kernel
theorem dX6_shivers_42 : decode cX6_shivers 42 = .ok (.iload_n 1, 1) := by decide +kernel
theorem dX6_shivers_43 : decode cX6_shivers 43 = .ok (.invokevirtual 214, 3) := by decide +kernel
theorem dX6_shivers_46 : decode cX6_shivers 46 = .ok (.ireturn, 1) := by decide +kernel
theorem dX6_moved_0 : decode cX6_moved 0 = .ok (.aload_n 0, 1) := by decide +kernel
theorem dX6_moved_1 : decode cX6_moved 1 = .ok (.getfield 26, 3) := by decide +kernel
theorem dX6_moved_4 : decode cX6_moved 4 = .ok (.invokevirtual 144, 3) := by decide +kernel
theorem dX6_moved_7 : decode cX6_moved 7 = .ok (.ifCond .ne 6, 3) := by decide +kernel
theorem dX6_moved_10 : decode cX6_moved 10 = .ok (.ldc 140, 2) := by decide +kernel
theorem dX6_moved_12 : decode cX6_moved 12 = .ok (.ireturn, 1) := by decide +kernel
theorem dX6_moved_13 : decode cX6_moved 13 = .ok (.aload_n 0, 1) := by decide +kernel
theorem dX6_moved_14 : decode cX6_moved 14 = .ok (.getfield 26, 3) := by decide +kernel
theorem dX6_moved_17 : decode cX6_moved 17 = .ok (.iload_n 1, 1) := by decide +kernel
theorem dX6_moved_18 : decode cX6_moved 18 = .ok (.invokevirtual 217, 3) := by decide +kernel
theorem dX6_moved_21 : decode cX6_moved 21 = .ok (.ifCond .eq 20, 3) := by decide +kernel
theorem dX6_moved_24 : decode cX6_moved 24 = .ok (.aload_n 0, 1) := by decide +kernel
theorem dX6_moved_25 : decode cX6_moved 25 = .ok (.getfield 26, 3) := by decide +kernel
theorem dX6_moved_28 : decode cX6_moved 28 = .ok (.iload_n 2, 1) := by decide +kernel
theorem dX6_moved_29 : decode cX6_moved 29 = .ok (.invokevirtual 217, 3) := by decide +kernel
theorem dX6_moved_32 : decode cX6_moved 32 = .ok (.ifCond .eq 9, 3) := by decide +kernel
theorem dX6_moved_35 : decode cX6_moved 35 = .ok (.iload_n 1, 1) := by decide +kernel
theorem dX6_moved_36 : decode cX6_moved 36 = .ok (.iload_n 2, 1) := by decide +kernel
theorem dX6_moved_37 : decode cX6_moved 37 = .ok (.iand, 1) := by decide +kernel
theorem dX6_moved_38 : decode cX6_moved 38 = .ok (.ifCond .eq 6, 3) := by decide +kernel
theorem dX6_moved_41 : decode cX6_moved 41 = .ok (.ldc 65, 2) := by decide +kernel
theorem dX6_moved_43 : decode cX6_moved 43 = .ok (.ireturn, 1) := by decide +kernel
theorem dX6_moved_44 : decode cX6_moved 44 = .ok (.iload_n 3, 1) := by decide +kernel
theorem dX6_moved_45 : decode cX6_moved 45 = .ok (.iconst 1, 1) := by decide +kernel
theorem dX6_moved_46 : decode cX6_moved 46 = .ok (.sipush 999, 3) := by decide +kernel
theorem dX6_moved_49 : decode cX6_moved 49 = .ok (.invokestatic 61, 3) := by decide +kernel
theorem dX6_moved_52 : decode cX6_moved 52 = .ok (.ifCond .eq 24, 3) := by decide +kernel
theorem dX6_moved_55 : decode cX6_moved 55 = .ok (.iload 4, 2) := by decide +kernel
theorem dX6_moved_57 : decode cX6_moved 57 = .ok (.iconst 1, 1) := by decide +kernel
theorem dX6_moved_58 : decode cX6_moved 58 = .ok (.bipush 24, 2) := by decide +kernel
theorem dX6_moved_60 : decode cX6_moved 60 = .ok (.invokestatic 61, 3) := by decide +kernel
theorem dX6_moved_63 : decode cX6_moved 63 = .ok (.ifCond .eq 13, 3) := by decide +kernel
theorem dX6_moved_66 : decode cX6_moved 66 = .ok (.iload 5, 2) := by decide +kernel
theorem dX6_moved_68 : decode cX6_moved 68 = .ok (.iconst 0, 1) := by decide +kernel
theorem dX6_moved_69 : decode cX6_moved 69 = .ok (.iconst 1, 1) := by decide +kernel
theorem dX6_moved_70 : decode cX6_moved 70 = .ok (.invokestatic 61, 3) := by decide +kernel
theorem dX6_moved_73 : decode cX6_moved 73 = .ok (.ifCond .ne 6, 3) := by decide +kernel
theorem dX6_moved_76 : decode cX6_moved 76 = .ok (.ldc 65, 2) := by decide +kernel
theorem dX6_moved_78 : decode cX6_moved 78 = .ok (.ireturn, 1) := by decide +kernel
theorem dX6_moved_79 : decode cX6_moved 79 = .ok (.aload_n 0, 1) := by decide +kernel
theorem dX6_moved_80 : decode cX6_moved 80 = .ok (.getfield 40, 3) := by decide +kernel
theorem dX6_moved_83 : decode cX6_moved 83 = .ok (.aload_n 0, 1) := by decide +kernel
theorem dX6_moved_84 : decode cX6_moved 84 = .ok (.getfield 26, 3) := by decide +kernel
theorem dX6_moved_87 : decode cX6_moved 87 = .ok (.iload_n 1, 1) := by decide +kernel
theorem dX6_moved_88 : decode cX6_moved 88 = .ok (.iload_n 2, 1) := by decide +kernel
theorem dX6_moved_89 : decode cX6_moved 89 = .ok (.iload_n 3, 1) := by decide +kernel
theorem dX6_moved_90 : decode cX6_moved 90 = .ok (.iload 4, 2) := by decide +kernel
theorem dX6_moved_92 : decode cX6_moved 92 = .ok (.invokevirtual 220, 3) := by decide +kernel
theorem dX6_moved_95 : decode cX6_moved 95 = .ok (.aload_n 0, 1) := by decide +kernel
theorem dX6_moved_96 : decode cX6_moved 96 = .ok (.getfield 40, 3) := by decide +kernel
theorem dX6_moved_99 : decode cX6_moved 99 = .ok (.iload 5, 2) := by decide +kernel
theorem dX6_moved_101 : decode cX6_moved 101 = .ok (.invokevirtual 214, 3) := by decide +kernel
theorem dX6_moved_104 : decode cX6_moved 104 = .ok (.ireturn, 1) := by decide +kernel
theorem dX6_sitWhere_0 : decode cX6_sitWhere 0 = .ok (.aload_n 0, 1) := by decide +kernel
theorem dX6_sitWhere_1 : decode cX6_sitWhere 1 = .ok (.getfield 26, 3) := by decide +kernel
theorem dX6_sitWhere_4 : decode cX6_sitWhere 4 = .ok (.iload_n 1, 1) := by decide +kernel
theorem dX6_sitWhere_5 : decode cX6_sitWhere 5 = .ok (.invokevirtual 173, 3) := by decide +kernel
theorem dX6_sitWhere_8 : decode cX6_sitWhere 8 = .ok (.ifCond .eq 14, 3) := by decide +kernel
theorem dX6_sitWhere_11 : decode cX6_sitWhere 11 = .ok (.aload_n 0, 1) := by decide +kernel
theorem dX6_sitWhere_12 : decode cX6_sitWhere 12 = .ok (.getfield 26, 3) := by decide +kernel
theorem dX6_sitWhere_15 : decode cX6_sitWhere 15 = .ok (.iload_n 2, 1) := by decide +kernel
theorem dX6_sitWhere_16 : decode cX6_sitWhere 16 = .ok (.invokevirtual 176, 3) := by decide +kernel
theorem dX6_sitWhere_19 : decode cX6_sitWhere 19 = .ok (.ifCond .ne 6, 3) := by decide +kernel
theorem dX6_sitWhere_22 : decode cX6_sitWhere 22 = .ok (.ldc 65, 2) := by decide +kernel
theorem dX6_sitWhere_24 : decode cX6_sitWhere 24 = .ok (.ireturn, 1) := by decide +kernel
theorem dX6_sitWhere_25 : decode cX6_sitWhere 25 = .ok (.iload_n 3, 1) := by decide +kernel
theorem dX6_sitWhere_26 : decode cX6_sitWhere 26 = .ok (.iconst 1, 1) := by decide +kernel
theorem dX6_sitWhere_27 : decode cX6_sitWhere 27 = .ok (.bipush 24, 2) := by decide +kernel
theorem dX6_sitWhere_29 : decode cX6_sitWhere 29 = .ok (.invokestatic 61, 3) := by decide +kernel
theorem dX6_sitWhere_32 : decode cX6_sitWhere 32 = .ok (.ifCond .eq 13, 3) := by decide +kernel
theorem dX6_sitWhere_35 : decode cX6_sitWhere 35 = .ok (.iload 4, 2) := by decide +kernel
theorem dX6_sitWhere_37 : decode cX6_sitWhere 37 = .ok (.iconst 0, 1) := by decide +kernel
theorem dX6_sitWhere_38 : decode cX6_sitWhere 38 = .ok (.iconst 1, 1) := by decide +kernel
theorem dX6_sitWhere_39 : decode cX6_sitWhere 39 = .ok (.invokestatic 61, 3) := by decide +kernel
theorem dX6_sitWhere_42 : decode cX6_sitWhere 42 = .ok (.ifCond .ne 6, 3) := by decide +kernel
theorem dX6_sitWhere_45 : decode cX6_sitWhere 45 = .ok (.ldc 65, 2) := by decide +kernel
theorem dX6_sitWhere_47 : decode cX6_sitWhere 47 = .ok (.ireturn, 1) := by decide +kernel
theorem dX6_sitWhere_48 : decode cX6_sitWhere 48 = .ok (.aload_n 0, 1) := by decide +kernel
theorem dX6_sitWhere_49 : decode cX6_sitWhere 49 = .ok (.getfield 40, 3) := by decide +kernel
theorem dX6_sitWhere_52 : decode cX6_sitWhere 52 = .ok (.aload_n 0, 1) := by decide +kernel
theorem dX6_sitWhere_53 : decode cX6_sitWhere 53 = .ok (.getfield 26, 3) := by decide +kernel
theorem dX6_sitWhere_56 : decode cX6_sitWhere 56 = .ok (.iload_n 1, 1) := by decide +kernel
theorem dX6_sitWhere_57 : decode cX6_sitWhere 57 = .ok (.iload_n 2, 1) := by decide +kernel
theorem dX6_sitWhere_58 : decode cX6_sitWhere 58 = .ok (.iload_n 3, 1) := by decide +kernel
theorem dX6_sitWhere_59 : decode cX6_sitWhere 59 = .ok (.invokevirtual 224, 3) := by decide +kernel
