theorem dX1_readRun_11 : decode cX1_readRun 11 = .ok (.iload 4, 2) := by decide +kernel
theorem dX1_readRun_13 : decode cX1_readRun 13 = .ok (.ireturn, 1) := by decide +kernel
theorem dX1_readRun_14 : decode cX1_readRun 14 = .ok (.aload_n 0, 1) := by decide +kernel
theorem dX1_readRun_15 : decode cX1_readRun 15 = .ok (.getfield 24, 3) := by decide +kernel
theorem dX1_readRun_18 : decode cX1_readRun 18 = .ok (.lconst 0, 1) := by decide +kernel
theorem dX1_readRun_19 : decode cX1_readRun 19 = .ok (.lcmp, 1) := by decide +kernel
theorem dX1_readRun_20 : decode cX1_readRun 20 = .ok (.ifCond .eq 12, 3) := by decide +kernel
theorem dX1_readRun_23 : decode cX1_readRun 23 = .ok (.aload_n 0, 1) := by decide +kernel
theorem dX1_readRun_24 : decode cX1_readRun 24 = .ok (.getfield 24, 3) := by decide +kernel
theorem dX1_readRun_27 : decode cX1_readRun 27 = .ok (.lconst 1, 1) := by decide +kernel
theorem dX1_readRun_28 : decode cX1_readRun 28 = .ok (.lcmp, 1) := by decide +kernel
theorem dX1_readRun_29 : decode cX1_readRun 29 = .ok (.ifCond .ne 5, 3) := by decide +kernel
theorem dX1_readRun_32 : decode cX1_readRun 32 = .ok (.iconst 3, 1) := by decide +kernel
theorem dX1_readRun_33 : decode cX1_readRun 33 = .ok (.ireturn, 1) := by decide +kernel
theorem dX1_readRun_34 : decode cX1_readRun 34 = .ok (.aload_n 0, 1) := by decide +kernel
theorem dX1_readRun_35 : decode cX1_readRun 35 = .ok (.getfield 24, 3) := by decide +kernel
theorem dX1_readRun_38 : decode cX1_readRun 38 = .ok (.lconst 1, 1) := by decide +kernel
theorem dX1_readRun_39 : decode cX1_readRun 39 = .ok (.land, 1) := by decide +kernel
theorem dX1_readRun_40 : decode cX1_readRun 40 = .ok (.lconst 0, 1) := by decide +kernel
theorem dX1_readRun_41 : decode cX1_readRun 41 = .ok (.lcmp, 1) := by decide +kernel
theorem dX1_readRun_42 : decode cX1_readRun 42 = .ok (.ifCond .ne 7, 3) := by decide +kernel
theorem dX1_readRun_45 : decode cX1_readRun 45 = .ok (.iconst 1, 1) := by decide +kernel
theorem dX1_readRun_46 : decode cX1_readRun 46 = .ok (.goto 4, 3) := by decide +kernel
theorem dX1_readRun_49 : decode cX1_readRun 49 = .ok (.iconst 0, 1) := by decide +kernel
theorem dX1_readRun_50 : decode cX1_readRun 50 = .ok (.istore 5, 2) := by decide +kernel
theorem dX1_readRun_52 : decode cX1_readRun 52 = .ok (.aload_n 0, 1) := by decide +kernel
theorem dX1_readRun_53 : decode cX1_readRun 53 = .ok (.getfield 24, 3) := by decide +kernel
theorem dX1_readRun_56 : decode cX1_readRun 56 = .ok (.iconst 1, 1) := by decide +kernel
theorem dX1_readRun_57 : decode cX1_readRun 57 = .ok (.lushr, 1) := by decide +kernel
theorem dX1_readRun_58 : decode cX1_readRun 58 = .ok (.lstore 6, 2) := by decide +kernel
theorem dX1_readRun_60 : decode cX1_readRun 60 = .ok (.iload_n 3, 1) := by decide +kernel
theorem dX1_readRun_61 : decode cX1_readRun 61 = .ok (.aload_n 1, 1) := by decide +kernel
theorem dX1_readRun_62 : decode cX1_readRun 62 = .ok (.invokevirtual 33, 3) := by decide +kernel
theorem dX1_readRun_65 : decode cX1_readRun 65 = .ok (.isub, 1) := by decide +kernel
theorem dX1_readRun_66 : decode cX1_readRun 66 = .ok (.istore 8, 2) := by decide +kernel
theorem dX1_readRun_68 : decode cX1_readRun 68 = .ok (.iload 5, 2) := by decide +kernel
theorem dX1_readRun_70 : decode cX1_readRun 70 = .ok (.ifCond .eq 8, 3) := by decide +kernel
theorem dX1_readRun_73 : decode cX1_readRun 73 = .ok (.iload 8, 2) := by decide +kernel
theorem dX1_readRun_75 : decode cX1_readRun 75 = .ok (.goto 13, 3) := by decide +kernel
theorem dX1_readRun_78 : decode cX1_readRun 78 = .ok (.iload 8, 2) := by decide +kernel
theorem dX1_readRun_80 : decode cX1_readRun 80 = .ok (.bipush 8, 2) := by decide +kernel
theorem dX1_readRun_82 : decode cX1_readRun 82 = .ok (.iadd, 1) := by decide +kernel
theorem dX1_readRun_83 : decode cX1_readRun 83 = .ok (.iconst 1, 1) := by decide +kernel
theorem dX1_readRun_84 : decode cX1_readRun 84 = .ok (.isub, 1) := by decide +kernel
theorem dX1_readRun_85 : decode cX1_readRun 85 = .ok (.bipush 8, 2) := by decide +kernel
theorem dX1_readRun_87 : decode cX1_readRun 87 = .ok (.idiv, 1) := by decide +kernel
theorem dX1_readRun_88 : decode cX1_readRun 88 = .ok (.istore 9, 2) := by decide +kernel
theorem dX1_readRun_90 : decode cX1_readRun 90 = .ok (.lload 6, 2) := by decide +kernel
theorem dX1_readRun_92 : decode cX1_readRun 92 = .ok (.iload 9, 2) := by decide +kernel
theorem dX1_readRun_94 : decode cX1_readRun 94 = .ok (.i2l, 1) := by decide +kernel
theorem dX1_readRun_95 : decode cX1_readRun 95 = .ok (.lcmp, 1) := by decide +kernel
theorem dX1_readRun_96 : decode cX1_readRun 96 = .ok (.ifCond .le 5, 3) := by decide +kernel
theorem dX1_readRun_99 : decode cX1_readRun 99 = .ok (.iconst 4, 1) := by decide +kernel
theorem dX1_readRun_100 : decode cX1_readRun 100 = .ok (.ireturn, 1) := by decide +kernel
theorem dX1_readRun_101 : decode cX1_readRun 101 = .ok (.lload 6, 2) := by decide +kernel
theorem dX1_readRun_103 : decode cX1_readRun 103 = .ok (.l2i, 1) := by decide +kernel
theorem dX1_readRun_104 : decode cX1_readRun 104 = .ok (.istore 10, 2) := by decide +kernel
theorem dX1_readRun_106 : decode cX1_readRun 106 = .ok (.iload 5, 2) := by decide +kernel
theorem dX1_readRun_108 : decode cX1_readRun 108 = .ok (.ifCond .eq 10, 3) := by decide +kernel
theorem dX1_readRun_111 : decode cX1_readRun 111 = .ok (.iload_n 2, 1) := by decide +kernel
theorem dX1_readRun_112 : decode cX1_readRun 112 = .ok (.invokestatic 45, 3) := by decide +kernel
theorem dX1_readRun_115 : decode cX1_readRun 115 = .ok (.goto 7, 3) := by decide +kernel
theorem dX1_readRun_118 : decode cX1_readRun 118 = .ok (.iload 10, 2) := by decide +kernel
theorem dX1_readRun_120 : decode cX1_readRun 120 = .ok (.iload_n 2, 1) := by decide +kernel
theorem dX1_readRun_121 : decode cX1_readRun 121 = .ok (.imul, 1) := by decide +kernel
theorem dX1_readRun_122 : decode cX1_readRun 122 = .ok (.istore 11, 2) := by decide +kernel
theorem dX1_readRun_124 : decode cX1_readRun 124 = .ok (.iload 11, 2) := by decide +kernel
theorem dX1_readRun_126 : decode cX1_readRun 126 = .ok (.aload_n 0, 1) := by decide +kernel
theorem dX1_readRun_127 : decode cX1_readRun 127 = .ok (.getfield 14, 3) := by decide +kernel
theorem dX1_readRun_130 : decode cX1_readRun 130 = .ok (.invokevirtual 41, 3) := by decide +kernel
theorem dX1_readRun_133 : decode cX1_readRun 133 = .ok (.aload_n 0, 1) := by decide +kernel
theorem dX1_readRun_134 : decode cX1_readRun 134 = .ok (.getfield 20, 3) := by decide +kernel
theorem dX1_readRun_137 : decode cX1_readRun 137 = .ok (.isub, 1) := by decide +kernel
theorem dX1_readRun_138 : decode cX1_readRun 138 = .ok (.if_icmp .le 5, 3) := by decide +kernel
theorem dX1_readRun_141 : decode cX1_readRun 141 = .ok (.iconst 1, 1) := by decide +kernel
theorem dX1_readRun_142 : decode cX1_readRun 142 = .ok (.ireturn, 1) := by decide +kernel
theorem dX1_readRun_143 : decode cX1_readRun 143 = .ok (.iload 5, 2) := by decide +kernel
theorem dX1_readRun_145 : decode cX1_readRun 145 = .ok (.ifCond .eq 14, 3) := by decide +kernel
theorem dX1_readRun_148 : decode cX1_readRun 148 = .ok (.aload_n 0, 1) := by decide +kernel
theorem dX1_readRun_149 : decode cX1_readRun 149 = .ok (.aload_n 1, 1) := by decide +kernel
theorem dX1_readRun_150 : decode cX1_readRun 150 = .ok (.iload_n 2, 1) := by decide +kernel
theorem dX1_readRun_151 : decode cX1_readRun 151 = .ok (.iload 10, 2) := by decide +kernel
theorem dX1_readRun_153 : decode cX1_readRun 153 = .ok (.invokevirtual 49, 3) := by decide +kernel
theorem dX1_readRun_156 : decode cX1_readRun 156 = .ok (.goto 12, 3) := by decide +kernel
theorem dX1_readRun_159 : decode cX1_readRun 159 = .ok (.aload_n 0, 1) := by decide +kernel
theorem dX1_readRun_160 : decode cX1_readRun 160 = .ok (.aload_n 1, 1) := by decide +kernel
theorem dX1_readRun_161 : decode cX1_readRun 161 = .ok (.iload_n 2, 1) := by decide +kernel
theorem dX1_readRun_162 : decode cX1_readRun 162 = .ok (.iload 10, 2) := by decide +kernel
theorem dX1_readRun_164 : decode cX1_readRun 164 = .ok (.iload_n 3, 1) := by decide +kernel
theorem dX1_readRun_165 : decode cX1_readRun 165 = .ok (.invokevirtual 52, 3) := by decide +kernel
theorem dX1_readRun_168 : decode cX1_readRun 168 = .ok (.ireturn, 1) := by decide +kernel
theorem dX1_read_0 : decode cX1_read 0 = .ok (.aload_n 0, 1) := by decide +kernel
theorem dX1_read_1 : decode cX1_read 1 = .ok (.iconst 0, 1) := by decide +kernel
theorem dX1_read_2 : decode cX1_read 2 = .ok (.putfield 20, 3) := by decide +kernel
theorem dX1_read_5 : decode cX1_read 5 = .ok (.aload_n 1, 1) := by decide +kernel
theorem dX1_read_6 : decode cX1_read 6 = .ok (.invokevirtual 28, 3) := by decide +kernel
theorem dX1_read_9 : decode cX1_read 9 = .ok (.iconst 0, 1) := by decide +kernel
theorem dX1_read_10 : decode cX1_read 10 = .ok (.istore 4, 2) := by decide +kernel
theorem dX1_read_12 : decode cX1_read 12 = .ok (.iload 4, 2) := by decide +kernel
theorem dX1_read_14 : decode cX1_read 14 = .ok (.iload_n 3, 1) := by decide +kernel
theorem dX1_read_15 : decode cX1_read 15 = .ok (.if_icmp .ge 34, 3) := by decide +kernel
theorem dX1_read_18 : decode cX1_read 18 = .ok (.aload_n 1, 1) := by decide +kernel
theorem dX1_read_19 : decode cX1_read 19 = .ok (.invokevirtual 33, 3) := by decide +kernel
theorem dX1_read_22 : decode cX1_read 22 = .ok (.iload_n 3, 1) := by decide +kernel
theorem dX1_read_23 : decode cX1_read 23 = .ok (.if_icmp .ge 26, 3) := by decide +kernel
theorem dX1_read_26 : decode cX1_read 26 = .ok (.aload_n 0, 1) := by decide +kernel
theorem dX1_read_27 : decode cX1_read 27 = .ok (.aload_n 1, 1) := by decide +kernel
theorem dX1_read_28 : decode cX1_read 28 = .ok (.iload_n 2, 1) := by decide +kernel
theorem dX1_read_29 : decode cX1_read 29 = .ok (.iload_n 3, 1) := by decide +kernel
theorem dX1_read_30 : decode cX1_read 30 = .ok (.invokevirtual 37, 3) := by decide +kernel
theorem dX1_read_33 : decode cX1_read 33 = .ok (.istore 5, 2) := by decide +kernel
theorem dX1_read_35 : decode cX1_read 35 = .ok (.iload 5, 2) := by decide +kernel
theorem dX1_read_37 : decode cX1_read 37 = .ok (.ifCond .eq 6, 3) := by decide +kernel
theorem dX1_read_40 : decode cX1_read 40 = .ok (.iload 5, 2) := by decide +kernel
theorem dX1_read_42 : decode cX1_read 42 = .ok (.ireturn, 1) := by decide +kernel
theorem dX1_read_43 : decode cX1_read 43 = .ok (.iinc 4 1, 3) := by decide +kernel
theorem dX1_read_46 : decode cX1_read 46 = .ok (.goto (-34), 3) := by decide +kernel
theorem dX1_read_49 : decode cX1_read 49 = .ok (.aload_n 0, 1) := by decide +kernel
theorem dX1_read_50 : decode cX1_read 50 = .ok (.getfield 20, 3) := by decide +kernel
theorem dX1_read_53 : decode cX1_read 53 = .ok (.aload_n 0, 1) := by decide +kernel
theorem dX1_read_54 : decode cX1_read 54 = .ok (.getfield 14, 3) := by decide +kernel
theorem dX1_read_57 : decode cX1_read 57 = .ok (.invokevirtual 41, 3) := by decide +kernel
theorem dX1_read_60 : decode cX1_read 60 = .ok (.if_icmp .ge 8, 3) := by decide +kernel
theorem dX1_read_63 : decode cX1_read 63 = .ok (.bipush 6, 2) := by decide +kernel
theorem dX1_read_65 : decode cX1_read 65 = .ok (.goto 4, 3) := by decide +kernel
theorem dX1_read_68 : decode cX1_read 68 = .ok (.iconst 0, 1) := by decide +kernel
theorem dX1_read_69 : decode cX1_read 69 = .ok (.ireturn, 1) := by decide +kernel
theorem dX4_feed_0 : decode cX4_feed 0 = .ok (.aload_n 0, 1) := by decide +kernel
theorem dX4_feed_1 : decode cX4_feed 1 = .ok (.getfield 14, 3) := by decide +kernel
theorem dX4_feed_4 : decode cX4_feed 4 = .ok (.invokevirtual 58, 3) := by decide +kernel
theorem dX4_feed_7 : decode cX4_feed 7 = .ok (.bipush 20, 2) := by decide +kernel
theorem dX4_feed_9 : decode cX4_feed 9 = .ok (.if_icmp .ge 5, 3) := by decide +kernel
theorem dX4_feed_12 : decode cX4_feed 12 = .ok (.iconst 0, 1) := by decide +kernel
theorem dX4_feed_13 : decode cX4_feed 13 = .ok (.ireturn, 1) := by decide +kernel
theorem dX4_feed_14 : decode cX4_feed 14 = .ok (.aload_n 0, 1) := by decide +kernel
theorem dX4_feed_15 : decode cX4_feed 15 = .ok (.getfield 14, 3) := by decide +kernel
theorem dX4_feed_18 : decode cX4_feed 18 = .ok (.iload_n 1, 1) := by decide +kernel
theorem dX4_feed_19 : decode cX4_feed 19 = .ok (.invokevirtual 62, 3) := by decide +kernel
theorem dX4_feed_22 : decode cX4_feed 22 = .ok (.aload_n 0, 1) := by decide +kernel
theorem dX4_feed_23 : decode cX4_feed 23 = .ok (.getfield 14, 3) := by decide +kernel
theorem dX4_feed_26 : decode cX4_feed 26 = .ok (.iload_n 2, 1) := by decide +kernel
theorem dX4_feed_27 : decode cX4_feed 27 = .ok (.invokevirtual 62, 3) := by decide +kernel
theorem dX4_feed_30 : decode cX4_feed 30 = .ok (.aload_n 0, 1) := by decide +kernel
theorem dX4_feed_31 : decode cX4_feed 31 = .ok (.getfield 14, 3) := by decide +kernel
theorem dX4_feed_34 : decode cX4_feed 34 = .ok (.iload_n 3, 1) := by decide +kernel
theorem dX4_feed_35 : decode cX4_feed 35 = .ok (.invokevirtual 62, 3) := by decide +kernel
theorem dX4_feed_38 : decode cX4_feed 38 = .ok (.aload_n 0, 1) := by decide +kernel
theorem dX4_feed_39 : decode cX4_feed 39 = .ok (.getfield 14, 3) := by decide +kernel
theorem dX4_feed_42 : decode cX4_feed 42 = .ok (.iload 4, 2) := by decide +kernel
theorem dX4_feed_44 : decode cX4_feed 44 = .ok (.invokevirtual 62, 3) := by decide +kernel
