theorem dX5_put_0 : decode cX5_put 0 = .ok (.aload_n 0, 1) := by decide +kernel
theorem dX5_put_1 : decode cX5_put 1 = .ok (.getfield 22, 3) := by decide +kernel
theorem dX5_put_4 : decode cX5_put 4 = .ok (.aload_n 0, 1) := by decide +kernel
theorem dX5_put_5 : decode cX5_put 5 = .ok (.getfield 29, 3) := by decide +kernel
theorem dX5_put_8 : decode cX5_put 8 = .ok (.iload_n 1, 1) := by decide +kernel
theorem dX5_put_9 : decode cX5_put 9 = .ok (.sipush 255, 3) := by decide +kernel
theorem dX5_put_12 : decode cX5_put 12 = .ok (.iand, 1) := by decide +kernel
theorem dX5_put_13 : decode cX5_put 13 = .ok (.iastore, 1) := by decide +kernel
theorem dX5_put_14 : decode cX5_put 14 = .ok (.aload_n 0, 1) := by decide +kernel
theorem dX5_put_15 : decode cX5_put 15 = .ok (.dup, 1) := by decide +kernel
theorem dX5_put_16 : decode cX5_put 16 = .ok (.getfield 29, 3) := by decide +kernel
theorem dX5_put_19 : decode cX5_put 19 = .ok (.iconst 1, 1) := by decide +kernel
theorem dX5_put_20 : decode cX5_put 20 = .ok (.iadd, 1) := by decide +kernel
theorem dX5_put_21 : decode cX5_put 21 = .ok (.putfield 29, 3) := by decide +kernel
theorem dX5_put_24 : decode cX5_put 24 = .ok (.return_, 1) := by decide +kernel
theorem dX5_putVarint_0 : decode cX5_putVarint 0 = .ok (.lload_n 1, 1) := by decide +kernel
theorem dX5_putVarint_1 : decode cX5_putVarint 1 = .ok (.lstore_n 3, 1) := by decide +kernel
theorem dX5_putVarint_2 : decode cX5_putVarint 2 = .ok (.lload_n 3, 1) := by decide +kernel
theorem dX5_putVarint_3 : decode cX5_putVarint 3 = .ok (.lconst 0, 1) := by decide +kernel
theorem dX5_putVarint_4 : decode cX5_putVarint 4 = .ok (.lcmp, 1) := by decide +kernel
theorem dX5_putVarint_5 : decode cX5_putVarint 5 = .ok (.ifCond .lt 11, 3) := by decide +kernel
theorem dX5_putVarint_8 : decode cX5_putVarint 8 = .ok (.lload_n 3, 1) := by decide +kernel
theorem dX5_putVarint_9 : decode cX5_putVarint 9 = .ok (.ldc2_w 38, 3) := by decide +kernel
theorem dX5_putVarint_12 : decode cX5_putVarint 12 = .ok (.lcmp, 1) := by decide +kernel
theorem dX5_putVarint_13 : decode cX5_putVarint 13 = .ok (.ifCond .le 25, 3) := by decide +kernel
theorem dX5_putVarint_16 : decode cX5_putVarint 16 = .ok (.aload_n 0, 1) := by decide +kernel
theorem dX5_putVarint_17 : decode cX5_putVarint 17 = .ok (.lload_n 3, 1) := by decide +kernel
theorem dX5_putVarint_18 : decode cX5_putVarint 18 = .ok (.ldc2_w 38, 3) := by decide +kernel
theorem dX5_putVarint_21 : decode cX5_putVarint 21 = .ok (.land, 1) := by decide +kernel
theorem dX5_putVarint_22 : decode cX5_putVarint 22 = .ok (.l2i, 1) := by decide +kernel
theorem dX5_putVarint_23 : decode cX5_putVarint 23 = .ok (.sipush 128, 3) := by decide +kernel
theorem dX5_putVarint_26 : decode cX5_putVarint 26 = .ok (.iadd, 1) := by decide +kernel
theorem dX5_putVarint_27 : decode cX5_putVarint 27 = .ok (.invokevirtual 40, 3) := by decide +kernel
theorem dX5_putVarint_30 : decode cX5_putVarint 30 = .ok (.lload_n 3, 1) := by decide +kernel
theorem dX5_putVarint_31 : decode cX5_putVarint 31 = .ok (.bipush 7, 2) := by decide +kernel
theorem dX5_putVarint_33 : decode cX5_putVarint 33 = .ok (.lushr, 1) := by decide +kernel
theorem dX5_putVarint_34 : decode cX5_putVarint 34 = .ok (.lstore_n 3, 1) := by decide +kernel
theorem dX5_putVarint_35 : decode cX5_putVarint 35 = .ok (.goto (-33), 3) := by decide +kernel
theorem dX5_putVarint_38 : decode cX5_putVarint 38 = .ok (.aload_n 0, 1) := by decide +kernel
theorem dX5_putVarint_39 : decode cX5_putVarint 39 = .ok (.lload_n 3, 1) := by decide +kernel
theorem dX5_putVarint_40 : decode cX5_putVarint 40 = .ok (.l2i, 1) := by decide +kernel
theorem dX5_putVarint_41 : decode cX5_putVarint 41 = .ok (.invokevirtual 40, 3) := by decide +kernel
theorem dX5_putVarint_44 : decode cX5_putVarint 44 = .ok (.return_, 1) := by decide +kernel
theorem dX5_alike_0 : decode cX5_alike 0 = .ok (.iload_n 1, 1) := by decide +kernel
theorem dX5_alike_1 : decode cX5_alike 1 = .ok (.istore_n 3, 1) := by decide +kernel
theorem dX5_alike_2 : decode cX5_alike 2 = .ok (.iload_n 3, 1) := by decide +kernel
theorem dX5_alike_3 : decode cX5_alike 3 = .ok (.iload_n 2, 1) := by decide +kernel
theorem dX5_alike_4 : decode cX5_alike 4 = .ok (.if_icmp .ge 18, 3) := by decide +kernel
theorem dX5_alike_7 : decode cX5_alike 7 = .ok (.aload_n 0, 1) := by decide +kernel
theorem dX5_alike_8 : decode cX5_alike 8 = .ok (.iload_n 3, 1) := by decide +kernel
theorem dX5_alike_9 : decode cX5_alike 9 = .ok (.iaload, 1) := by decide +kernel
theorem dX5_alike_10 : decode cX5_alike 10 = .ok (.aload_n 0, 1) := by decide +kernel
theorem dX5_alike_11 : decode cX5_alike 11 = .ok (.iload_n 1, 1) := by decide +kernel
theorem dX5_alike_12 : decode cX5_alike 12 = .ok (.iaload, 1) := by decide +kernel
theorem dX5_alike_13 : decode cX5_alike 13 = .ok (.if_icmp .ne 9, 3) := by decide +kernel
theorem dX5_alike_16 : decode cX5_alike 16 = .ok (.iinc 3 1, 3) := by decide +kernel
theorem dX5_alike_19 : decode cX5_alike 19 = .ok (.goto (-17), 3) := by decide +kernel
theorem dX5_alike_22 : decode cX5_alike 22 = .ok (.iload_n 3, 1) := by decide +kernel
theorem dX5_alike_23 : decode cX5_alike 23 = .ok (.iload_n 1, 1) := by decide +kernel
theorem dX5_alike_24 : decode cX5_alike 24 = .ok (.isub, 1) := by decide +kernel
theorem dX5_alike_25 : decode cX5_alike 25 = .ok (.ireturn, 1) := by decide +kernel
theorem dX5_writeRuns_0 : decode cX5_writeRuns 0 = .ok (.iconst 0, 1) := by decide +kernel
theorem dX5_writeRuns_1 : decode cX5_writeRuns 1 = .ok (.istore 4, 2) := by decide +kernel
theorem dX5_writeRuns_3 : decode cX5_writeRuns 3 = .ok (.iload 4, 2) := by decide +kernel
theorem dX5_writeRuns_5 : decode cX5_writeRuns 5 = .ok (.iload_n 2, 1) := by decide +kernel
theorem dX5_writeRuns_6 : decode cX5_writeRuns 6 = .ok (.if_icmp .ge 217, 3) := by decide +kernel
theorem dX5_writeRuns_9 : decode cX5_writeRuns 9 = .ok (.aload_n 1, 1) := by decide +kernel
theorem dX5_writeRuns_10 : decode cX5_writeRuns 10 = .ok (.iload 4, 2) := by decide +kernel
theorem dX5_writeRuns_12 : decode cX5_writeRuns 12 = .ok (.iload_n 2, 1) := by decide +kernel
theorem dX5_writeRuns_13 : decode cX5_writeRuns 13 = .ok (.invokestatic 56, 3) := by decide +kernel
theorem dX5_writeRuns_16 : decode cX5_writeRuns 16 = .ok (.istore 5, 2) := by decide +kernel
theorem dX5_writeRuns_18 : decode cX5_writeRuns 18 = .ok (.iload 5, 2) := by decide +kernel
theorem dX5_writeRuns_20 : decode cX5_writeRuns 20 = .ok (.bipush 8, 2) := by decide +kernel
theorem dX5_writeRuns_22 : decode cX5_writeRuns 22 = .ok (.if_icmp .lt 50, 3) := by decide +kernel
theorem dX5_writeRuns_25 : decode cX5_writeRuns 25 = .ok (.aload_n 0, 1) := by decide +kernel
theorem dX5_writeRuns_26 : decode cX5_writeRuns 26 = .ok (.ldc2_w 60, 3) := by decide +kernel
theorem dX5_writeRuns_29 : decode cX5_writeRuns 29 = .ok (.iload 5, 2) := by decide +kernel
theorem dX5_writeRuns_31 : decode cX5_writeRuns 31 = .ok (.i2l, 1) := by decide +kernel
theorem dX5_writeRuns_32 : decode cX5_writeRuns 32 = .ok (.lmul, 1) := by decide +kernel
theorem dX5_writeRuns_33 : decode cX5_writeRuns 33 = .ok (.invokevirtual 62, 3) := by decide +kernel
theorem dX5_writeRuns_36 : decode cX5_writeRuns 36 = .ok (.iconst 0, 1) := by decide +kernel
theorem dX5_writeRuns_37 : decode cX5_writeRuns 37 = .ok (.istore 6, 2) := by decide +kernel
theorem dX5_writeRuns_39 : decode cX5_writeRuns 39 = .ok (.iload 6, 2) := by decide +kernel
theorem dX5_writeRuns_41 : decode cX5_writeRuns 41 = .ok (.iload_n 3, 1) := by decide +kernel
theorem dX5_writeRuns_42 : decode cX5_writeRuns 42 = .ok (.if_icmp .ge 20, 3) := by decide +kernel
theorem dX5_writeRuns_45 : decode cX5_writeRuns 45 = .ok (.aload_n 0, 1) := by decide +kernel
theorem dX5_writeRuns_46 : decode cX5_writeRuns 46 = .ok (.aload_n 1, 1) := by decide +kernel
theorem dX5_writeRuns_47 : decode cX5_writeRuns 47 = .ok (.iload 4, 2) := by decide +kernel
theorem dX5_writeRuns_49 : decode cX5_writeRuns 49 = .ok (.iaload, 1) := by decide +kernel
theorem dX5_writeRuns_50 : decode cX5_writeRuns 50 = .ok (.iload 6, 2) := by decide +kernel
theorem dX5_writeRuns_52 : decode cX5_writeRuns 52 = .ok (.ishr, 1) := by decide +kernel
theorem dX5_writeRuns_53 : decode cX5_writeRuns 53 = .ok (.invokevirtual 40, 3) := by decide +kernel
theorem dX5_writeRuns_56 : decode cX5_writeRuns 56 = .ok (.iinc 6 8, 3) := by decide +kernel
theorem dX5_writeRuns_59 : decode cX5_writeRuns 59 = .ok (.goto (-20), 3) := by decide +kernel
theorem dX5_writeRuns_62 : decode cX5_writeRuns 62 = .ok (.iload 4, 2) := by decide +kernel
theorem dX5_writeRuns_64 : decode cX5_writeRuns 64 = .ok (.iload 5, 2) := by decide +kernel
theorem dX5_writeRuns_66 : decode cX5_writeRuns 66 = .ok (.iadd, 1) := by decide +kernel
theorem dX5_writeRuns_67 : decode cX5_writeRuns 67 = .ok (.istore 4, 2) := by decide +kernel
theorem dX5_writeRuns_69 : decode cX5_writeRuns 69 = .ok (.goto (-66), 3) := by decide +kernel
theorem dX5_writeRuns_72 : decode cX5_writeRuns 72 = .ok (.iconst 1, 1) := by decide +kernel
theorem dX5_writeRuns_73 : decode cX5_writeRuns 73 = .ok (.istore 6, 2) := by decide +kernel
theorem dX5_writeRuns_75 : decode cX5_writeRuns 75 = .ok (.iload 4, 2) := by decide +kernel
theorem dX5_writeRuns_77 : decode cX5_writeRuns 77 = .ok (.bipush 8, 2) := by decide +kernel
theorem dX5_writeRuns_79 : decode cX5_writeRuns 79 = .ok (.iload 6, 2) := by decide +kernel
theorem dX5_writeRuns_81 : decode cX5_writeRuns 81 = .ok (.imul, 1) := by decide +kernel
theorem dX5_writeRuns_82 : decode cX5_writeRuns 82 = .ok (.iadd, 1) := by decide +kernel
theorem dX5_writeRuns_83 : decode cX5_writeRuns 83 = .ok (.iload_n 2, 1) := by decide +kernel
theorem dX5_writeRuns_84 : decode cX5_writeRuns 84 = .ok (.if_icmp .ge 27, 3) := by decide +kernel
theorem dX5_writeRuns_87 : decode cX5_writeRuns 87 = .ok (.aload_n 1, 1) := by decide +kernel
theorem dX5_writeRuns_88 : decode cX5_writeRuns 88 = .ok (.iload 4, 2) := by decide +kernel
theorem dX5_writeRuns_90 : decode cX5_writeRuns 90 = .ok (.bipush 8, 2) := by decide +kernel
theorem dX5_writeRuns_92 : decode cX5_writeRuns 92 = .ok (.iload 6, 2) := by decide +kernel
theorem dX5_writeRuns_94 : decode cX5_writeRuns 94 = .ok (.imul, 1) := by decide +kernel
theorem dX5_writeRuns_95 : decode cX5_writeRuns 95 = .ok (.iadd, 1) := by decide +kernel
theorem dX5_writeRuns_96 : decode cX5_writeRuns 96 = .ok (.iload_n 2, 1) := by decide +kernel
theorem dX5_writeRuns_97 : decode cX5_writeRuns 97 = .ok (.invokestatic 56, 3) := by decide +kernel
theorem dX5_writeRuns_100 : decode cX5_writeRuns 100 = .ok (.bipush 8, 2) := by decide +kernel
theorem dX5_writeRuns_102 : decode cX5_writeRuns 102 = .ok (.if_icmp .ge 9, 3) := by decide +kernel
theorem dX5_writeRuns_105 : decode cX5_writeRuns 105 = .ok (.iinc 6 1, 3) := by decide +kernel
theorem dX5_writeRuns_108 : decode cX5_writeRuns 108 = .ok (.goto (-33), 3) := by decide +kernel
theorem dX5_writeRuns_111 : decode cX5_writeRuns 111 = .ok (.aload_n 0, 1) := by decide +kernel
theorem dX5_writeRuns_112 : decode cX5_writeRuns 112 = .ok (.ldc2_w 60, 3) := by decide +kernel
theorem dX5_writeRuns_115 : decode cX5_writeRuns 115 = .ok (.iload 6, 2) := by decide +kernel
theorem dX5_writeRuns_117 : decode cX5_writeRuns 117 = .ok (.i2l, 1) := by decide +kernel
theorem dX5_writeRuns_118 : decode cX5_writeRuns 118 = .ok (.lmul, 1) := by decide +kernel
theorem dX5_writeRuns_119 : decode cX5_writeRuns 119 = .ok (.lconst 1, 1) := by decide +kernel
theorem dX5_writeRuns_120 : decode cX5_writeRuns 120 = .ok (.ladd, 1) := by decide +kernel
theorem dX5_writeRuns_121 : decode cX5_writeRuns 121 = .ok (.invokevirtual 62, 3) := by decide +kernel
theorem dX5_writeRuns_124 : decode cX5_writeRuns 124 = .ok (.iconst 0, 1) := by decide +kernel
theorem dX5_writeRuns_125 : decode cX5_writeRuns 125 = .ok (.istore 7, 2) := by decide +kernel
theorem dX5_writeRuns_127 : decode cX5_writeRuns 127 = .ok (.iload 7, 2) := by decide +kernel
theorem dX5_writeRuns_129 : decode cX5_writeRuns 129 = .ok (.bipush 8, 2) := by decide +kernel
theorem dX5_writeRuns_131 : decode cX5_writeRuns 131 = .ok (.iload_n 3, 1) := by decide +kernel
theorem dX5_writeRuns_132 : decode cX5_writeRuns 132 = .ok (.imul, 1) := by decide +kernel
theorem dX5_writeRuns_133 : decode cX5_writeRuns 133 = .ok (.iload 6, 2) := by decide +kernel
theorem dX5_writeRuns_135 : decode cX5_writeRuns 135 = .ok (.imul, 1) := by decide +kernel
theorem dX5_writeRuns_136 : decode cX5_writeRuns 136 = .ok (.if_icmp .ge 74, 3) := by decide +kernel
theorem dX5_writeRuns_139 : decode cX5_writeRuns 139 = .ok (.iconst 0, 1) := by decide +kernel
theorem dX5_writeRuns_140 : decode cX5_writeRuns 140 = .ok (.istore 8, 2) := by decide +kernel
theorem dX5_writeRuns_142 : decode cX5_writeRuns 142 = .ok (.iconst 0, 1) := by decide +kernel
theorem dX5_writeRuns_143 : decode cX5_writeRuns 143 = .ok (.istore 9, 2) := by decide +kernel
theorem dX5_writeRuns_145 : decode cX5_writeRuns 145 = .ok (.iload 9, 2) := by decide +kernel
theorem dX5_writeRuns_147 : decode cX5_writeRuns 147 = .ok (.bipush 8, 2) := by decide +kernel
theorem dX5_writeRuns_149 : decode cX5_writeRuns 149 = .ok (.if_icmp .ge 49, 3) := by decide +kernel
theorem dX5_writeRuns_152 : decode cX5_writeRuns 152 = .ok (.iload 4, 2) := by decide +kernel
theorem dX5_writeRuns_154 : decode cX5_writeRuns 154 = .ok (.iload 7, 2) := by decide +kernel
theorem dX5_writeRuns_156 : decode cX5_writeRuns 156 = .ok (.iload 9, 2) := by decide +kernel
theorem dX5_writeRuns_158 : decode cX5_writeRuns 158 = .ok (.iadd, 1) := by decide +kernel
theorem dX5_writeRuns_159 : decode cX5_writeRuns 159 = .ok (.iload_n 3, 1) := by decide +kernel
theorem dX5_writeRuns_160 : decode cX5_writeRuns 160 = .ok (.idiv, 1) := by decide +kernel
theorem dX5_writeRuns_161 : decode cX5_writeRuns 161 = .ok (.iadd, 1) := by decide +kernel
theorem dX5_writeRuns_162 : decode cX5_writeRuns 162 = .ok (.istore 10, 2) := by decide +kernel
theorem dX5_writeRuns_164 : decode cX5_writeRuns 164 = .ok (.iload 10, 2) := by decide +kernel
theorem dX5_writeRuns_166 : decode cX5_writeRuns 166 = .ok (.iload_n 2, 1) := by decide +kernel
theorem dX5_writeRuns_167 : decode cX5_writeRuns 167 = .ok (.if_icmp .ge 25, 3) := by decide +kernel
theorem dX5_writeRuns_170 : decode cX5_writeRuns 170 = .ok (.iload 8, 2) := by decide +kernel
theorem dX5_writeRuns_172 : decode cX5_writeRuns 172 = .ok (.aload_n 1, 1) := by decide +kernel
theorem dX5_writeRuns_173 : decode cX5_writeRuns 173 = .ok (.iload 10, 2) := by decide +kernel
theorem dX5_writeRuns_175 : decode cX5_writeRuns 175 = .ok (.iaload, 1) := by decide +kernel
theorem dX5_writeRuns_176 : decode cX5_writeRuns 176 = .ok (.iload 7, 2) := by decide +kernel
theorem dX5_writeRuns_178 : decode cX5_writeRuns 178 = .ok (.iload 9, 2) := by decide +kernel
theorem dX5_writeRuns_180 : decode cX5_writeRuns 180 = .ok (.iadd, 1) := by decide +kernel
theorem dX5_writeRuns_181 : decode cX5_writeRuns 181 = .ok (.iload_n 3, 1) := by decide +kernel
theorem dX5_writeRuns_182 : decode cX5_writeRuns 182 = .ok (.irem, 1) := by decide +kernel
theorem dX5_writeRuns_183 : decode cX5_writeRuns 183 = .ok (.iushr, 1) := by decide +kernel
theorem dX5_writeRuns_184 : decode cX5_writeRuns 184 = .ok (.iconst 1, 1) := by decide +kernel
theorem dX5_writeRuns_185 : decode cX5_writeRuns 185 = .ok (.iand, 1) := by decide +kernel
theorem dX5_writeRuns_186 : decode cX5_writeRuns 186 = .ok (.iload 9, 2) := by decide +kernel
theorem dX5_writeRuns_188 : decode cX5_writeRuns 188 = .ok (.ishl, 1) := by decide +kernel
theorem dX5_writeRuns_189 : decode cX5_writeRuns 189 = .ok (.ior, 1) := by decide +kernel
theorem dX5_writeRuns_190 : decode cX5_writeRuns 190 = .ok (.istore 8, 2) := by decide +kernel
theorem dX5_writeRuns_192 : decode cX5_writeRuns 192 = .ok (.iinc 9 1, 3) := by decide +kernel
theorem dX5_writeRuns_195 : decode cX5_writeRuns 195 = .ok (.goto (-50), 3) := by decide +kernel
theorem dX5_writeRuns_198 : decode cX5_writeRuns 198 = .ok (.aload_n 0, 1) := by decide +kernel
theorem dX5_writeRuns_199 : decode cX5_writeRuns 199 = .ok (.iload 8, 2) := by decide +kernel
theorem dX5_writeRuns_201 : decode cX5_writeRuns 201 = .ok (.invokevirtual 40, 3) := by decide +kernel
theorem dX5_writeRuns_204 : decode cX5_writeRuns 204 = .ok (.iinc 7 8, 3) := by decide +kernel
theorem dX5_writeRuns_207 : decode cX5_writeRuns 207 = .ok (.goto (-80), 3) := by decide +kernel
theorem dX5_writeRuns_210 : decode cX5_writeRuns 210 = .ok (.iload 4, 2) := by decide +kernel
theorem dX5_writeRuns_212 : decode cX5_writeRuns 212 = .ok (.bipush 8, 2) := by decide +kernel
theorem dX5_writeRuns_214 : decode cX5_writeRuns 214 = .ok (.iload 6, 2) := by decide +kernel
theorem dX5_writeRuns_216 : decode cX5_writeRuns 216 = .ok (.imul, 1) := by decide +kernel
theorem dX5_writeRuns_217 : decode cX5_writeRuns 217 = .ok (.iadd, 1) := by decide +kernel
theorem dX5_writeRuns_218 : decode cX5_writeRuns 218 = .ok (.istore 4, 2) := by decide +kernel
theorem dX5_writeRuns_220 : decode cX5_writeRuns 220 = .ok (.goto (-217), 3) := by decide +kernel
theorem dX5_writeRuns_223 : decode cX5_writeRuns 223 = .ok (.return_, 1) := by decide +kernel
