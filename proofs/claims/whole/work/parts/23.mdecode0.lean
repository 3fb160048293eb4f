theorem dX5_bitsAt_0 : decode cX5_bitsAt 0 = .ok (.iconst 0, 1) := by decide +kernel
theorem dX5_bitsAt_1 : decode cX5_bitsAt 1 = .ok (.istore 4, 2) := by decide +kernel
theorem dX5_bitsAt_3 : decode cX5_bitsAt 3 = .ok (.iconst 0, 1) := by decide +kernel
theorem dX5_bitsAt_4 : decode cX5_bitsAt 4 = .ok (.istore 5, 2) := by decide +kernel
theorem dX5_bitsAt_6 : decode cX5_bitsAt 6 = .ok (.iload 5, 2) := by decide +kernel
theorem dX5_bitsAt_8 : decode cX5_bitsAt 8 = .ok (.iload_n 3, 1) := by decide +kernel
theorem dX5_bitsAt_9 : decode cX5_bitsAt 9 = .ok (.if_icmp .ge 41, 3) := by decide +kernel
theorem dX5_bitsAt_12 : decode cX5_bitsAt 12 = .ok (.iload 4, 2) := by decide +kernel
theorem dX5_bitsAt_14 : decode cX5_bitsAt 14 = .ok (.aload_n 0, 1) := by decide +kernel
theorem dX5_bitsAt_15 : decode cX5_bitsAt 15 = .ok (.getfield 19, 3) := by decide +kernel
theorem dX5_bitsAt_18 : decode cX5_bitsAt 18 = .ok (.iload_n 1, 1) := by decide +kernel
theorem dX5_bitsAt_19 : decode cX5_bitsAt 19 = .ok (.iload_n 2, 1) := by decide +kernel
theorem dX5_bitsAt_20 : decode cX5_bitsAt 20 = .ok (.iload 5, 2) := by decide +kernel
theorem dX5_bitsAt_22 : decode cX5_bitsAt 22 = .ok (.iadd, 1) := by decide +kernel
theorem dX5_bitsAt_23 : decode cX5_bitsAt 23 = .ok (.bipush 8, 2) := by decide +kernel
theorem dX5_bitsAt_25 : decode cX5_bitsAt 25 = .ok (.idiv, 1) := by decide +kernel
theorem dX5_bitsAt_26 : decode cX5_bitsAt 26 = .ok (.iadd, 1) := by decide +kernel
theorem dX5_bitsAt_27 : decode cX5_bitsAt 27 = .ok (.iaload, 1) := by decide +kernel
theorem dX5_bitsAt_28 : decode cX5_bitsAt 28 = .ok (.iload_n 2, 1) := by decide +kernel
theorem dX5_bitsAt_29 : decode cX5_bitsAt 29 = .ok (.iload 5, 2) := by decide +kernel
theorem dX5_bitsAt_31 : decode cX5_bitsAt 31 = .ok (.iadd, 1) := by decide +kernel
theorem dX5_bitsAt_32 : decode cX5_bitsAt 32 = .ok (.bipush 8, 2) := by decide +kernel
theorem dX5_bitsAt_34 : decode cX5_bitsAt 34 = .ok (.irem, 1) := by decide +kernel
theorem dX5_bitsAt_35 : decode cX5_bitsAt 35 = .ok (.ishr, 1) := by decide +kernel
theorem dX5_bitsAt_36 : decode cX5_bitsAt 36 = .ok (.iconst 1, 1) := by decide +kernel
theorem dX5_bitsAt_37 : decode cX5_bitsAt 37 = .ok (.iand, 1) := by decide +kernel
theorem dX5_bitsAt_38 : decode cX5_bitsAt 38 = .ok (.iload 5, 2) := by decide +kernel
theorem dX5_bitsAt_40 : decode cX5_bitsAt 40 = .ok (.ishl, 1) := by decide +kernel
theorem dX5_bitsAt_41 : decode cX5_bitsAt 41 = .ok (.ior, 1) := by decide +kernel
theorem dX5_bitsAt_42 : decode cX5_bitsAt 42 = .ok (.istore 4, 2) := by decide +kernel
theorem dX5_bitsAt_44 : decode cX5_bitsAt 44 = .ok (.iinc 5 1, 3) := by decide +kernel
theorem dX5_bitsAt_47 : decode cX5_bitsAt 47 = .ok (.goto (-41), 3) := by decide +kernel
theorem dX5_bitsAt_50 : decode cX5_bitsAt 50 = .ok (.iload 4, 2) := by decide +kernel
theorem dX5_bitsAt_52 : decode cX5_bitsAt 52 = .ok (.ireturn, 1) := by decide +kernel
theorem dX5_varint_0 : decode cX5_varint 0 = .ok (.lconst 0, 1) := by decide +kernel
theorem dX5_varint_1 : decode cX5_varint 1 = .ok (.lstore_n 2, 1) := by decide +kernel
theorem dX5_varint_2 : decode cX5_varint 2 = .ok (.iconst 0, 1) := by decide +kernel
theorem dX5_varint_3 : decode cX5_varint 3 = .ok (.istore 4, 2) := by decide +kernel
theorem dX5_varint_5 : decode cX5_varint 5 = .ok (.aload_n 0, 1) := by decide +kernel
theorem dX5_varint_6 : decode cX5_varint 6 = .ok (.getfield 32, 3) := by decide +kernel
theorem dX5_varint_9 : decode cX5_varint 9 = .ok (.ifCond .ne 102, 3) := by decide +kernel
theorem dX5_varint_12 : decode cX5_varint 12 = .ok (.aload_n 0, 1) := by decide +kernel
theorem dX5_varint_13 : decode cX5_varint 13 = .ok (.getfield 35, 3) := by decide +kernel
theorem dX5_varint_16 : decode cX5_varint 16 = .ok (.iload_n 1, 1) := by decide +kernel
theorem dX5_varint_17 : decode cX5_varint 17 = .ok (.if_icmp .lt 11, 3) := by decide +kernel
theorem dX5_varint_20 : decode cX5_varint 20 = .ok (.aload_n 0, 1) := by decide +kernel
theorem dX5_varint_21 : decode cX5_varint 21 = .ok (.iconst 1, 1) := by decide +kernel
theorem dX5_varint_22 : decode cX5_varint 22 = .ok (.putfield 32, 3) := by decide +kernel
theorem dX5_varint_25 : decode cX5_varint 25 = .ok (.goto (-20), 3) := by decide +kernel
theorem dX5_varint_28 : decode cX5_varint 28 = .ok (.aload_n 0, 1) := by decide +kernel
theorem dX5_varint_29 : decode cX5_varint 29 = .ok (.getfield 19, 3) := by decide +kernel
theorem dX5_varint_32 : decode cX5_varint 32 = .ok (.aload_n 0, 1) := by decide +kernel
theorem dX5_varint_33 : decode cX5_varint 33 = .ok (.getfield 35, 3) := by decide +kernel
theorem dX5_varint_36 : decode cX5_varint 36 = .ok (.iaload, 1) := by decide +kernel
theorem dX5_varint_37 : decode cX5_varint 37 = .ok (.istore 5, 2) := by decide +kernel
theorem dX5_varint_39 : decode cX5_varint 39 = .ok (.aload_n 0, 1) := by decide +kernel
theorem dX5_varint_40 : decode cX5_varint 40 = .ok (.dup, 1) := by decide +kernel
theorem dX5_varint_41 : decode cX5_varint 41 = .ok (.getfield 35, 3) := by decide +kernel
theorem dX5_varint_44 : decode cX5_varint 44 = .ok (.iconst 1, 1) := by decide +kernel
theorem dX5_varint_45 : decode cX5_varint 45 = .ok (.iadd, 1) := by decide +kernel
theorem dX5_varint_46 : decode cX5_varint 46 = .ok (.putfield 35, 3) := by decide +kernel
theorem dX5_varint_49 : decode cX5_varint 49 = .ok (.iload 4, 2) := by decide +kernel
theorem dX5_varint_51 : decode cX5_varint 51 = .ok (.bipush 9, 2) := by decide +kernel
theorem dX5_varint_53 : decode cX5_varint 53 = .ok (.if_icmp .ne 9, 3) := by decide +kernel
theorem dX5_varint_56 : decode cX5_varint 56 = .ok (.iload 5, 2) := by decide +kernel
theorem dX5_varint_58 : decode cX5_varint 58 = .ok (.iconst 1, 1) := by decide +kernel
theorem dX5_varint_59 : decode cX5_varint 59 = .ok (.if_icmp .gt 13, 3) := by decide +kernel
theorem dX5_varint_62 : decode cX5_varint 62 = .ok (.iload 4, 2) := by decide +kernel
theorem dX5_varint_64 : decode cX5_varint 64 = .ok (.ifCond .le 16, 3) := by decide +kernel
theorem dX5_varint_67 : decode cX5_varint 67 = .ok (.iload 5, 2) := by decide +kernel
theorem dX5_varint_69 : decode cX5_varint 69 = .ok (.ifCond .ne 11, 3) := by decide +kernel
theorem dX5_varint_72 : decode cX5_varint 72 = .ok (.aload_n 0, 1) := by decide +kernel
theorem dX5_varint_73 : decode cX5_varint 73 = .ok (.iconst 2, 1) := by decide +kernel
theorem dX5_varint_74 : decode cX5_varint 74 = .ok (.putfield 32, 3) := by decide +kernel
theorem dX5_varint_77 : decode cX5_varint 77 = .ok (.goto 31, 3) := by decide +kernel
theorem dX5_varint_80 : decode cX5_varint 80 = .ok (.lload_n 2, 1) := by decide +kernel
theorem dX5_varint_81 : decode cX5_varint 81 = .ok (.iload 5, 2) := by decide +kernel
theorem dX5_varint_83 : decode cX5_varint 83 = .ok (.bipush 127, 2) := by decide +kernel
theorem dX5_varint_85 : decode cX5_varint 85 = .ok (.iand, 1) := by decide +kernel
theorem dX5_varint_86 : decode cX5_varint 86 = .ok (.i2l, 1) := by decide +kernel
theorem dX5_varint_87 : decode cX5_varint 87 = .ok (.bipush 7, 2) := by decide +kernel
theorem dX5_varint_89 : decode cX5_varint 89 = .ok (.iload 4, 2) := by decide +kernel
theorem dX5_varint_91 : decode cX5_varint 91 = .ok (.imul, 1) := by decide +kernel
theorem dX5_varint_92 : decode cX5_varint 92 = .ok (.lshl, 1) := by decide +kernel
theorem dX5_varint_93 : decode cX5_varint 93 = .ok (.lor, 1) := by decide +kernel
theorem dX5_varint_94 : decode cX5_varint 94 = .ok (.lstore_n 2, 1) := by decide +kernel
theorem dX5_varint_95 : decode cX5_varint 95 = .ok (.iload 5, 2) := by decide +kernel
theorem dX5_varint_97 : decode cX5_varint 97 = .ok (.sipush 128, 3) := by decide +kernel
theorem dX5_varint_100 : decode cX5_varint 100 = .ok (.if_icmp .ge 5, 3) := by decide +kernel
theorem dX5_varint_103 : decode cX5_varint 103 = .ok (.lload_n 2, 1) := by decide +kernel
theorem dX5_varint_104 : decode cX5_varint 104 = .ok (.lreturn, 1) := by decide +kernel
theorem dX5_varint_105 : decode cX5_varint 105 = .ok (.iinc 4 1, 3) := by decide +kernel
theorem dX5_varint_108 : decode cX5_varint 108 = .ok (.goto (-103), 3) := by decide +kernel
theorem dX5_varint_111 : decode cX5_varint 111 = .ok (.lconst 0, 1) := by decide +kernel
theorem dX5_varint_112 : decode cX5_varint 112 = .ok (.lreturn, 1) := by decide +kernel
theorem dX5_readOne_0 : decode cX5_readOne 0 = .ok (.iload 4, 2) := by decide +kernel
theorem dX5_readOne_2 : decode cX5_readOne 2 = .ok (.bipush 7, 2) := by decide +kernel
theorem dX5_readOne_4 : decode cX5_readOne 4 = .ok (.iadd, 1) := by decide +kernel
theorem dX5_readOne_5 : decode cX5_readOne 5 = .ok (.bipush 8, 2) := by decide +kernel
theorem dX5_readOne_7 : decode cX5_readOne 7 = .ok (.idiv, 1) := by decide +kernel
theorem dX5_readOne_8 : decode cX5_readOne 8 = .ok (.istore 8, 2) := by decide +kernel
theorem dX5_readOne_10 : decode cX5_readOne 10 = .ok (.lload 6, 2) := by decide +kernel
theorem dX5_readOne_12 : decode cX5_readOne 12 = .ok (.iload_n 3, 1) := by decide +kernel
theorem dX5_readOne_13 : decode cX5_readOne 13 = .ok (.iload_n 2, 1) := by decide +kernel
theorem dX5_readOne_14 : decode cX5_readOne 14 = .ok (.isub, 1) := by decide +kernel
theorem dX5_readOne_15 : decode cX5_readOne 15 = .ok (.i2l, 1) := by decide +kernel
theorem dX5_readOne_16 : decode cX5_readOne 16 = .ok (.lcmp, 1) := by decide +kernel
theorem dX5_readOne_17 : decode cX5_readOne 17 = .ok (.ifCond .le 11, 3) := by decide +kernel
theorem dX5_readOne_20 : decode cX5_readOne 20 = .ok (.aload_n 0, 1) := by decide +kernel
theorem dX5_readOne_21 : decode cX5_readOne 21 = .ok (.iconst 4, 1) := by decide +kernel
theorem dX5_readOne_22 : decode cX5_readOne 22 = .ok (.putfield 32, 3) := by decide +kernel
theorem dX5_readOne_25 : decode cX5_readOne 25 = .ok (.goto 20, 3) := by decide +kernel
theorem dX5_readOne_28 : decode cX5_readOne 28 = .ok (.iload 5, 2) := by decide +kernel
theorem dX5_readOne_30 : decode cX5_readOne 30 = .ok (.aload_n 0, 1) := by decide +kernel
theorem dX5_readOne_31 : decode cX5_readOne 31 = .ok (.getfield 35, 3) := by decide +kernel
theorem dX5_readOne_34 : decode cX5_readOne 34 = .ok (.isub, 1) := by decide +kernel
theorem dX5_readOne_35 : decode cX5_readOne 35 = .ok (.iload 8, 2) := by decide +kernel
theorem dX5_readOne_37 : decode cX5_readOne 37 = .ok (.if_icmp .ge 8, 3) := by decide +kernel
theorem dX5_readOne_40 : decode cX5_readOne 40 = .ok (.aload_n 0, 1) := by decide +kernel
theorem dX5_readOne_41 : decode cX5_readOne 41 = .ok (.iconst 1, 1) := by decide +kernel
theorem dX5_readOne_42 : decode cX5_readOne 42 = .ok (.putfield 32, 3) := by decide +kernel
theorem dX5_readOne_45 : decode cX5_readOne 45 = .ok (.aload_n 0, 1) := by decide +kernel
theorem dX5_readOne_46 : decode cX5_readOne 46 = .ok (.getfield 32, 3) := by decide +kernel
theorem dX5_readOne_49 : decode cX5_readOne 49 = .ok (.ifCond .eq 5, 3) := by decide +kernel
theorem dX5_readOne_52 : decode cX5_readOne 52 = .ok (.iload_n 2, 1) := by decide +kernel
theorem dX5_readOne_53 : decode cX5_readOne 53 = .ok (.ireturn, 1) := by decide +kernel
theorem dX5_readOne_54 : decode cX5_readOne 54 = .ok (.aload_n 0, 1) := by decide +kernel
theorem dX5_readOne_55 : decode cX5_readOne 55 = .ok (.aload_n 0, 1) := by decide +kernel
theorem dX5_readOne_56 : decode cX5_readOne 56 = .ok (.getfield 35, 3) := by decide +kernel
theorem dX5_readOne_59 : decode cX5_readOne 59 = .ok (.iconst 0, 1) := by decide +kernel
theorem dX5_readOne_60 : decode cX5_readOne 60 = .ok (.iload 4, 2) := by decide +kernel
theorem dX5_readOne_62 : decode cX5_readOne 62 = .ok (.invokevirtual 77, 3) := by decide +kernel
theorem dX5_readOne_65 : decode cX5_readOne 65 = .ok (.istore 9, 2) := by decide +kernel
theorem dX5_readOne_67 : decode cX5_readOne 67 = .ok (.iload 4, 2) := by decide +kernel
theorem dX5_readOne_69 : decode cX5_readOne 69 = .ok (.istore 10, 2) := by decide +kernel
theorem dX5_readOne_71 : decode cX5_readOne 71 = .ok (.iload 10, 2) := by decide +kernel
theorem dX5_readOne_73 : decode cX5_readOne 73 = .ok (.bipush 8, 2) := by decide +kernel
theorem dX5_readOne_75 : decode cX5_readOne 75 = .ok (.iload 8, 2) := by decide +kernel
theorem dX5_readOne_77 : decode cX5_readOne 77 = .ok (.imul, 1) := by decide +kernel
theorem dX5_readOne_78 : decode cX5_readOne 78 = .ok (.if_icmp .ge 41, 3) := by decide +kernel
theorem dX5_readOne_81 : decode cX5_readOne 81 = .ok (.aload_n 0, 1) := by decide +kernel
theorem dX5_readOne_82 : decode cX5_readOne 82 = .ok (.getfield 19, 3) := by decide +kernel
theorem dX5_readOne_85 : decode cX5_readOne 85 = .ok (.aload_n 0, 1) := by decide +kernel
theorem dX5_readOne_86 : decode cX5_readOne 86 = .ok (.getfield 35, 3) := by decide +kernel
theorem dX5_readOne_89 : decode cX5_readOne 89 = .ok (.iload 10, 2) := by decide +kernel
theorem dX5_readOne_91 : decode cX5_readOne 91 = .ok (.bipush 8, 2) := by decide +kernel
theorem dX5_readOne_93 : decode cX5_readOne 93 = .ok (.idiv, 1) := by decide +kernel
theorem dX5_readOne_94 : decode cX5_readOne 94 = .ok (.iadd, 1) := by decide +kernel
theorem dX5_readOne_95 : decode cX5_readOne 95 = .ok (.iaload, 1) := by decide +kernel
theorem dX5_readOne_96 : decode cX5_readOne 96 = .ok (.iload 10, 2) := by decide +kernel
theorem dX5_readOne_98 : decode cX5_readOne 98 = .ok (.bipush 8, 2) := by decide +kernel
theorem dX5_readOne_100 : decode cX5_readOne 100 = .ok (.irem, 1) := by decide +kernel
theorem dX5_readOne_101 : decode cX5_readOne 101 = .ok (.ishr, 1) := by decide +kernel
theorem dX5_readOne_102 : decode cX5_readOne 102 = .ok (.iconst 1, 1) := by decide +kernel
theorem dX5_readOne_103 : decode cX5_readOne 103 = .ok (.iand, 1) := by decide +kernel
theorem dX5_readOne_104 : decode cX5_readOne 104 = .ok (.iconst 1, 1) := by decide +kernel
theorem dX5_readOne_105 : decode cX5_readOne 105 = .ok (.if_icmp .ne 8, 3) := by decide +kernel
theorem dX5_readOne_108 : decode cX5_readOne 108 = .ok (.aload_n 0, 1) := by decide +kernel
theorem dX5_readOne_109 : decode cX5_readOne 109 = .ok (.iconst 5, 1) := by decide +kernel
theorem dX5_readOne_110 : decode cX5_readOne 110 = .ok (.putfield 32, 3) := by decide +kernel
theorem dX5_readOne_113 : decode cX5_readOne 113 = .ok (.iinc 10 1, 3) := by decide +kernel
theorem dX5_readOne_116 : decode cX5_readOne 116 = .ok (.goto (-45), 3) := by decide +kernel
theorem dX5_readOne_119 : decode cX5_readOne 119 = .ok (.aload_n 0, 1) := by decide +kernel
theorem dX5_readOne_120 : decode cX5_readOne 120 = .ok (.dup, 1) := by decide +kernel
theorem dX5_readOne_121 : decode cX5_readOne 121 = .ok (.getfield 35, 3) := by decide +kernel
theorem dX5_readOne_124 : decode cX5_readOne 124 = .ok (.iload 8, 2) := by decide +kernel
theorem dX5_readOne_126 : decode cX5_readOne 126 = .ok (.iadd, 1) := by decide +kernel
theorem dX5_readOne_127 : decode cX5_readOne 127 = .ok (.putfield 35, 3) := by decide +kernel
theorem dX5_readOne_130 : decode cX5_readOne 130 = .ok (.iconst 0, 1) := by decide +kernel
theorem dX5_readOne_131 : decode cX5_readOne 131 = .ok (.istore 10, 2) := by decide +kernel
theorem dX5_readOne_133 : decode cX5_readOne 133 = .ok (.iload 10, 2) := by decide +kernel
theorem dX5_readOne_135 : decode cX5_readOne 135 = .ok (.i2l, 1) := by decide +kernel
theorem dX5_readOne_136 : decode cX5_readOne 136 = .ok (.lload 6, 2) := by decide +kernel
theorem dX5_readOne_138 : decode cX5_readOne 138 = .ok (.lcmp, 1) := by decide +kernel
theorem dX5_readOne_139 : decode cX5_readOne 139 = .ok (.ifCond .ge 17, 3) := by decide +kernel
theorem dX5_readOne_142 : decode cX5_readOne 142 = .ok (.aload_n 1, 1) := by decide +kernel
theorem dX5_readOne_143 : decode cX5_readOne 143 = .ok (.iload_n 2, 1) := by decide +kernel
theorem dX5_readOne_144 : decode cX5_readOne 144 = .ok (.iload 10, 2) := by decide +kernel
theorem dX5_readOne_146 : decode cX5_readOne 146 = .ok (.iadd, 1) := by decide +kernel
theorem dX5_readOne_147 : decode cX5_readOne 147 = .ok (.iload 9, 2) := by decide +kernel
theorem dX5_readOne_149 : decode cX5_readOne 149 = .ok (.iastore, 1) := by decide +kernel
theorem dX5_readOne_150 : decode cX5_readOne 150 = .ok (.iinc 10 1, 3) := by decide +kernel
theorem dX5_readOne_153 : decode cX5_readOne 153 = .ok (.goto (-20), 3) := by decide +kernel
theorem dX5_readOne_156 : decode cX5_readOne 156 = .ok (.iload_n 2, 1) := by decide +kernel
theorem dX5_readOne_157 : decode cX5_readOne 157 = .ok (.lload 6, 2) := by decide +kernel
theorem dX5_readOne_159 : decode cX5_readOne 159 = .ok (.l2i, 1) := by decide +kernel
theorem dX5_readOne_160 : decode cX5_readOne 160 = .ok (.iadd, 1) := by decide +kernel
theorem dX5_readOne_161 : decode cX5_readOne 161 = .ok (.ireturn, 1) := by decide +kernel
theorem dX5_readGroups_0 : decode cX5_readGroups 0 = .ok (.lload 6, 2) := by decide +kernel
theorem dX5_readGroups_2 : decode cX5_readGroups 2 = .ok (.iload_n 3, 1) := by decide +kernel
theorem dX5_readGroups_3 : decode cX5_readGroups 3 = .ok (.iload_n 2, 1) := by decide +kernel
theorem dX5_readGroups_4 : decode cX5_readGroups 4 = .ok (.isub, 1) := by decide +kernel
theorem dX5_readGroups_5 : decode cX5_readGroups 5 = .ok (.bipush 7, 2) := by decide +kernel
theorem dX5_readGroups_7 : decode cX5_readGroups 7 = .ok (.iadd, 1) := by decide +kernel
theorem dX5_readGroups_8 : decode cX5_readGroups 8 = .ok (.bipush 8, 2) := by decide +kernel
theorem dX5_readGroups_10 : decode cX5_readGroups 10 = .ok (.idiv, 1) := by decide +kernel
theorem dX5_readGroups_11 : decode cX5_readGroups 11 = .ok (.i2l, 1) := by decide +kernel
theorem dX5_readGroups_12 : decode cX5_readGroups 12 = .ok (.lcmp, 1) := by decide +kernel
theorem dX5_readGroups_13 : decode cX5_readGroups 13 = .ok (.ifCond .le 11, 3) := by decide +kernel
theorem dX5_readGroups_16 : decode cX5_readGroups 16 = .ok (.aload_n 0, 1) := by decide +kernel
