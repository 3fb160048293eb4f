theorem dX5_readRuns_0 : decode cX5_readRuns 0 = .ok (.iconst 0, 1) := by decide +kernel
theorem dX5_readRuns_1 : decode cX5_readRuns 1 = .ok (.istore 5, 2) := by decide +kernel
theorem dX5_readRuns_3 : decode cX5_readRuns 3 = .ok (.iload 5, 2) := by decide +kernel
theorem dX5_readRuns_5 : decode cX5_readRuns 5 = .ok (.iload_n 2, 1) := by decide +kernel
theorem dX5_readRuns_6 : decode cX5_readRuns 6 = .ok (.if_icmp .ge 92, 3) := by decide +kernel
theorem dX5_readRuns_9 : decode cX5_readRuns 9 = .ok (.aload_n 0, 1) := by decide +kernel
theorem dX5_readRuns_10 : decode cX5_readRuns 10 = .ok (.getfield 32, 3) := by decide +kernel
theorem dX5_readRuns_13 : decode cX5_readRuns 13 = .ok (.ifCond .ne 85, 3) := by decide +kernel
theorem dX5_readRuns_16 : decode cX5_readRuns 16 = .ok (.aload_n 0, 1) := by decide +kernel
theorem dX5_readRuns_17 : decode cX5_readRuns 17 = .ok (.iload 4, 2) := by decide +kernel
theorem dX5_readRuns_19 : decode cX5_readRuns 19 = .ok (.invokevirtual 66, 3) := by decide +kernel
theorem dX5_readRuns_22 : decode cX5_readRuns 22 = .ok (.lstore 6, 2) := by decide +kernel
theorem dX5_readRuns_24 : decode cX5_readRuns 24 = .ok (.aload_n 0, 1) := by decide +kernel
theorem dX5_readRuns_25 : decode cX5_readRuns 25 = .ok (.getfield 32, 3) := by decide +kernel
theorem dX5_readRuns_28 : decode cX5_readRuns 28 = .ok (.ifCond .eq 4, 3) := by decide +kernel
theorem dX5_readRuns_31 : decode cX5_readRuns 31 = .ok (.return_, 1) := by decide +kernel
theorem dX5_readRuns_32 : decode cX5_readRuns 32 = .ok (.lload 6, 2) := by decide +kernel
theorem dX5_readRuns_34 : decode cX5_readRuns 34 = .ok (.iconst 1, 1) := by decide +kernel
theorem dX5_readRuns_35 : decode cX5_readRuns 35 = .ok (.lushr, 1) := by decide +kernel
theorem dX5_readRuns_36 : decode cX5_readRuns 36 = .ok (.lstore 8, 2) := by decide +kernel
theorem dX5_readRuns_38 : decode cX5_readRuns 38 = .ok (.lload 8, 2) := by decide +kernel
theorem dX5_readRuns_40 : decode cX5_readRuns 40 = .ok (.lconst 0, 1) := by decide +kernel
theorem dX5_readRuns_41 : decode cX5_readRuns 41 = .ok (.lcmp, 1) := by decide +kernel
theorem dX5_readRuns_42 : decode cX5_readRuns 42 = .ok (.ifCond .ne 11, 3) := by decide +kernel
theorem dX5_readRuns_45 : decode cX5_readRuns 45 = .ok (.aload_n 0, 1) := by decide +kernel
theorem dX5_readRuns_46 : decode cX5_readRuns 46 = .ok (.iconst 3, 1) := by decide +kernel
theorem dX5_readRuns_47 : decode cX5_readRuns 47 = .ok (.putfield 32, 3) := by decide +kernel
theorem dX5_readRuns_50 : decode cX5_readRuns 50 = .ok (.goto 45, 3) := by decide +kernel
theorem dX5_readRuns_53 : decode cX5_readRuns 53 = .ok (.lload 6, 2) := by decide +kernel
theorem dX5_readRuns_55 : decode cX5_readRuns 55 = .ok (.lconst 1, 1) := by decide +kernel
theorem dX5_readRuns_56 : decode cX5_readRuns 56 = .ok (.land, 1) := by decide +kernel
theorem dX5_readRuns_57 : decode cX5_readRuns 57 = .ok (.lconst 0, 1) := by decide +kernel
theorem dX5_readRuns_58 : decode cX5_readRuns 58 = .ok (.lcmp, 1) := by decide +kernel
theorem dX5_readRuns_59 : decode cX5_readRuns 59 = .ok (.ifCond .ne 21, 3) := by decide +kernel
theorem dX5_readRuns_62 : decode cX5_readRuns 62 = .ok (.aload_n 0, 1) := by decide +kernel
theorem dX5_readRuns_63 : decode cX5_readRuns 63 = .ok (.aload_n 1, 1) := by decide +kernel
theorem dX5_readRuns_64 : decode cX5_readRuns 64 = .ok (.iload 5, 2) := by decide +kernel
theorem dX5_readRuns_66 : decode cX5_readRuns 66 = .ok (.iload_n 2, 1) := by decide +kernel
theorem dX5_readRuns_67 : decode cX5_readRuns 67 = .ok (.iload_n 3, 1) := by decide +kernel
theorem dX5_readRuns_68 : decode cX5_readRuns 68 = .ok (.iload 4, 2) := by decide +kernel
theorem dX5_readRuns_70 : decode cX5_readRuns 70 = .ok (.lload 8, 2) := by decide +kernel
theorem dX5_readRuns_72 : decode cX5_readRuns 72 = .ok (.invokevirtual 70, 3) := by decide +kernel
theorem dX5_readRuns_75 : decode cX5_readRuns 75 = .ok (.istore 5, 2) := by decide +kernel
theorem dX5_readRuns_77 : decode cX5_readRuns 77 = .ok (.goto 18, 3) := by decide +kernel
theorem dX5_readRuns_80 : decode cX5_readRuns 80 = .ok (.aload_n 0, 1) := by decide +kernel
theorem dX5_readRuns_81 : decode cX5_readRuns 81 = .ok (.aload_n 1, 1) := by decide +kernel
theorem dX5_readRuns_82 : decode cX5_readRuns 82 = .ok (.iload 5, 2) := by decide +kernel
theorem dX5_readRuns_84 : decode cX5_readRuns 84 = .ok (.iload_n 2, 1) := by decide +kernel
theorem dX5_readRuns_85 : decode cX5_readRuns 85 = .ok (.iload_n 3, 1) := by decide +kernel
theorem dX5_readRuns_86 : decode cX5_readRuns 86 = .ok (.iload 4, 2) := by decide +kernel
theorem dX5_readRuns_88 : decode cX5_readRuns 88 = .ok (.lload 8, 2) := by decide +kernel
theorem dX5_readRuns_90 : decode cX5_readRuns 90 = .ok (.invokevirtual 74, 3) := by decide +kernel
theorem dX5_readRuns_93 : decode cX5_readRuns 93 = .ok (.istore 5, 2) := by decide +kernel
theorem dX5_readRuns_95 : decode cX5_readRuns 95 = .ok (.goto (-92), 3) := by decide +kernel
theorem dX5_readRuns_98 : decode cX5_readRuns 98 = .ok (.return_, 1) := by decide +kernel
theorem dX5_decode_0 : decode cX5_decode 0 = .ok (.aload_n 0, 1) := by decide +kernel
theorem dX5_decode_1 : decode cX5_decode 1 = .ok (.iconst 0, 1) := by decide +kernel
theorem dX5_decode_2 : decode cX5_decode 2 = .ok (.putfield 25, 3) := by decide +kernel
theorem dX5_decode_5 : decode cX5_decode 5 = .ok (.iload_n 1, 1) := by decide +kernel
theorem dX5_decode_6 : decode cX5_decode 6 = .ok (.ifCond .lt 10, 3) := by decide +kernel
theorem dX5_decode_9 : decode cX5_decode 9 = .ok (.iload_n 1, 1) := by decide +kernel
theorem dX5_decode_10 : decode cX5_decode 10 = .ok (.sipush 4096, 3) := by decide +kernel
theorem dX5_decode_13 : decode cX5_decode 13 = .ok (.if_icmp .le 5, 3) := by decide +kernel
theorem dX5_decode_16 : decode cX5_decode 16 = .ok (.iconst (-1), 1) := by decide +kernel
theorem dX5_decode_17 : decode cX5_decode 17 = .ok (.ireturn, 1) := by decide +kernel
theorem dX5_decode_18 : decode cX5_decode 18 = .ok (.aload_n 0, 1) := by decide +kernel
theorem dX5_decode_19 : decode cX5_decode 19 = .ok (.iconst 0, 1) := by decide +kernel
theorem dX5_decode_20 : decode cX5_decode 20 = .ok (.putfield 35, 3) := by decide +kernel
theorem dX5_decode_23 : decode cX5_decode 23 = .ok (.aload_n 0, 1) := by decide +kernel
theorem dX5_decode_24 : decode cX5_decode 24 = .ok (.iconst 0, 1) := by decide +kernel
theorem dX5_decode_25 : decode cX5_decode 25 = .ok (.putfield 32, 3) := by decide +kernel
theorem dX5_decode_28 : decode cX5_decode 28 = .ok (.aload_n 0, 1) := by decide +kernel
theorem dX5_decode_29 : decode cX5_decode 29 = .ok (.aload_n 0, 1) := by decide +kernel
theorem dX5_decode_30 : decode cX5_decode 30 = .ok (.getfield 13, 3) := by decide +kernel
theorem dX5_decode_33 : decode cX5_decode 33 = .ok (.iload_n 1, 1) := by decide +kernel
theorem dX5_decode_34 : decode cX5_decode 34 = .ok (.aload_n 0, 1) := by decide +kernel
theorem dX5_decode_35 : decode cX5_decode 35 = .ok (.getfield 50, 3) := by decide +kernel
theorem dX5_decode_38 : decode cX5_decode 38 = .ok (.aload_n 0, 1) := by decide +kernel
theorem dX5_decode_39 : decode cX5_decode 39 = .ok (.getfield 47, 3) := by decide +kernel
theorem dX5_decode_42 : decode cX5_decode 42 = .ok (.invokevirtual 87, 3) := by decide +kernel
theorem dX5_decode_45 : decode cX5_decode 45 = .ok (.aload_n 0, 1) := by decide +kernel
theorem dX5_decode_46 : decode cX5_decode 46 = .ok (.getfield 32, 3) := by decide +kernel
theorem dX5_decode_49 : decode cX5_decode 49 = .ok (.ifCond .ne 20, 3) := by decide +kernel
theorem dX5_decode_52 : decode cX5_decode 52 = .ok (.aload_n 0, 1) := by decide +kernel
theorem dX5_decode_53 : decode cX5_decode 53 = .ok (.getfield 35, 3) := by decide +kernel
theorem dX5_decode_56 : decode cX5_decode 56 = .ok (.aload_n 0, 1) := by decide +kernel
theorem dX5_decode_57 : decode cX5_decode 57 = .ok (.getfield 47, 3) := by decide +kernel
theorem dX5_decode_60 : decode cX5_decode 60 = .ok (.if_icmp .ge 9, 3) := by decide +kernel
theorem dX5_decode_63 : decode cX5_decode 63 = .ok (.aload_n 0, 1) := by decide +kernel
theorem dX5_decode_64 : decode cX5_decode 64 = .ok (.bipush 6, 2) := by decide +kernel
theorem dX5_decode_66 : decode cX5_decode 66 = .ok (.putfield 32, 3) := by decide +kernel
theorem dX5_decode_69 : decode cX5_decode 69 = .ok (.iconst 0, 1) := by decide +kernel
theorem dX5_decode_70 : decode cX5_decode 70 = .ok (.istore_n 2, 1) := by decide +kernel
theorem dX5_decode_71 : decode cX5_decode 71 = .ok (.iload_n 2, 1) := by decide +kernel
theorem dX5_decode_72 : decode cX5_decode 72 = .ok (.iload_n 1, 1) := by decide +kernel
theorem dX5_decode_73 : decode cX5_decode 73 = .ok (.if_icmp .ge 28, 3) := by decide +kernel
theorem dX5_decode_76 : decode cX5_decode 76 = .ok (.aload_n 0, 1) := by decide +kernel
theorem dX5_decode_77 : decode cX5_decode 77 = .ok (.getfield 32, 3) := by decide +kernel
theorem dX5_decode_80 : decode cX5_decode 80 = .ok (.ifCond .ne 21, 3) := by decide +kernel
theorem dX5_decode_83 : decode cX5_decode 83 = .ok (.aload_n 0, 1) := by decide +kernel
theorem dX5_decode_84 : decode cX5_decode 84 = .ok (.getfield 7, 3) := by decide +kernel
theorem dX5_decode_87 : decode cX5_decode 87 = .ok (.iload_n 2, 1) := by decide +kernel
theorem dX5_decode_88 : decode cX5_decode 88 = .ok (.aload_n 0, 1) := by decide +kernel
theorem dX5_decode_89 : decode cX5_decode 89 = .ok (.getfield 13, 3) := by decide +kernel
theorem dX5_decode_92 : decode cX5_decode 92 = .ok (.iload_n 2, 1) := by decide +kernel
theorem dX5_decode_93 : decode cX5_decode 93 = .ok (.iaload, 1) := by decide +kernel
theorem dX5_decode_94 : decode cX5_decode 94 = .ok (.iastore, 1) := by decide +kernel
theorem dX5_decode_95 : decode cX5_decode 95 = .ok (.iinc 2 1, 3) := by decide +kernel
theorem dX5_decode_98 : decode cX5_decode 98 = .ok (.goto (-27), 3) := by decide +kernel
theorem dX5_decode_101 : decode cX5_decode 101 = .ok (.aload_n 0, 1) := by decide +kernel
theorem dX5_decode_102 : decode cX5_decode 102 = .ok (.getfield 32, 3) := by decide +kernel
theorem dX5_decode_105 : decode cX5_decode 105 = .ok (.ifCond .ne 8, 3) := by decide +kernel
theorem dX5_decode_108 : decode cX5_decode 108 = .ok (.aload_n 0, 1) := by decide +kernel
theorem dX5_decode_109 : decode cX5_decode 109 = .ok (.iload_n 1, 1) := by decide +kernel
theorem dX5_decode_110 : decode cX5_decode 110 = .ok (.putfield 53, 3) := by decide +kernel
theorem dX5_decode_113 : decode cX5_decode 113 = .ok (.aload_n 0, 1) := by decide +kernel
theorem dX5_decode_114 : decode cX5_decode 114 = .ok (.getfield 32, 3) := by decide +kernel
theorem dX5_decode_117 : decode cX5_decode 117 = .ok (.ireturn, 1) := by decide +kernel
theorem dX5_feed_0 : decode cX5_feed 0 = .ok (.aload_n 0, 1) := by decide +kernel
theorem dX5_feed_1 : decode cX5_feed 1 = .ok (.iconst 0, 1) := by decide +kernel
theorem dX5_feed_2 : decode cX5_feed 2 = .ok (.putfield 25, 3) := by decide +kernel
theorem dX5_feed_5 : decode cX5_feed 5 = .ok (.aload_n 0, 1) := by decide +kernel
theorem dX5_feed_6 : decode cX5_feed 6 = .ok (.getfield 44, 3) := by decide +kernel
theorem dX5_feed_9 : decode cX5_feed 9 = .ok (.bipush 20, 2) := by decide +kernel
theorem dX5_feed_11 : decode cX5_feed 11 = .ok (.iadd, 1) := by decide +kernel
theorem dX5_feed_12 : decode cX5_feed 12 = .ok (.sipush 8192, 3) := by decide +kernel
theorem dX5_feed_15 : decode cX5_feed 15 = .ok (.if_icmp .le 5, 3) := by decide +kernel
theorem dX5_feed_18 : decode cX5_feed 18 = .ok (.iconst 0, 1) := by decide +kernel
theorem dX5_feed_19 : decode cX5_feed 19 = .ok (.ireturn, 1) := by decide +kernel
theorem dX5_feed_20 : decode cX5_feed 20 = .ok (.iconst 0, 1) := by decide +kernel
theorem dX5_feed_21 : decode cX5_feed 21 = .ok (.istore 6, 2) := by decide +kernel
theorem dX5_feed_23 : decode cX5_feed 23 = .ok (.iload 6, 2) := by decide +kernel
theorem dX5_feed_25 : decode cX5_feed 25 = .ok (.bipush 20, 2) := by decide +kernel
theorem dX5_feed_27 : decode cX5_feed 27 = .ok (.if_icmp .ge 86, 3) := by decide +kernel
theorem dX5_feed_30 : decode cX5_feed 30 = .ok (.iload 6, 2) := by decide +kernel
theorem dX5_feed_32 : decode cX5_feed 32 = .ok (.iconst 4, 1) := by decide +kernel
theorem dX5_feed_33 : decode cX5_feed 33 = .ok (.if_icmp .ge 7, 3) := by decide +kernel
theorem dX5_feed_36 : decode cX5_feed 36 = .ok (.iload_n 1, 1) := by decide +kernel
theorem dX5_feed_37 : decode cX5_feed 37 = .ok (.goto 39, 3) := by decide +kernel
theorem dX5_feed_40 : decode cX5_feed 40 = .ok (.iload 6, 2) := by decide +kernel
theorem dX5_feed_42 : decode cX5_feed 42 = .ok (.bipush 8, 2) := by decide +kernel
theorem dX5_feed_44 : decode cX5_feed 44 = .ok (.if_icmp .ge 7, 3) := by decide +kernel
theorem dX5_feed_47 : decode cX5_feed 47 = .ok (.iload_n 2, 1) := by decide +kernel
theorem dX5_feed_48 : decode cX5_feed 48 = .ok (.goto 28, 3) := by decide +kernel
theorem dX5_feed_51 : decode cX5_feed 51 = .ok (.iload 6, 2) := by decide +kernel
theorem dX5_feed_53 : decode cX5_feed 53 = .ok (.bipush 12, 2) := by decide +kernel
theorem dX5_feed_55 : decode cX5_feed 55 = .ok (.if_icmp .ge 7, 3) := by decide +kernel
theorem dX5_feed_58 : decode cX5_feed 58 = .ok (.iload_n 3, 1) := by decide +kernel
theorem dX5_feed_59 : decode cX5_feed 59 = .ok (.goto 17, 3) := by decide +kernel
theorem dX5_feed_62 : decode cX5_feed 62 = .ok (.iload 6, 2) := by decide +kernel
theorem dX5_feed_64 : decode cX5_feed 64 = .ok (.bipush 16, 2) := by decide +kernel
theorem dX5_feed_66 : decode cX5_feed 66 = .ok (.if_icmp .ge 8, 3) := by decide +kernel
theorem dX5_feed_69 : decode cX5_feed 69 = .ok (.iload 4, 2) := by decide +kernel
theorem dX5_feed_71 : decode cX5_feed 71 = .ok (.goto 5, 3) := by decide +kernel
theorem dX5_feed_74 : decode cX5_feed 74 = .ok (.iload 5, 2) := by decide +kernel
theorem dX5_feed_76 : decode cX5_feed 76 = .ok (.istore 7, 2) := by decide +kernel
theorem dX5_feed_78 : decode cX5_feed 78 = .ok (.aload_n 0, 1) := by decide +kernel
theorem dX5_feed_79 : decode cX5_feed 79 = .ok (.getfield 16, 3) := by decide +kernel
theorem dX5_feed_82 : decode cX5_feed 82 = .ok (.aload_n 0, 1) := by decide +kernel
theorem dX5_feed_83 : decode cX5_feed 83 = .ok (.getfield 44, 3) := by decide +kernel
theorem dX5_feed_86 : decode cX5_feed 86 = .ok (.iload 6, 2) := by decide +kernel
theorem dX5_feed_88 : decode cX5_feed 88 = .ok (.iadd, 1) := by decide +kernel
theorem dX5_feed_89 : decode cX5_feed 89 = .ok (.iload 7, 2) := by decide +kernel
theorem dX5_feed_91 : decode cX5_feed 91 = .ok (.bipush 24, 2) := by decide +kernel
theorem dX5_feed_93 : decode cX5_feed 93 = .ok (.bipush 8, 2) := by decide +kernel
theorem dX5_feed_95 : decode cX5_feed 95 = .ok (.iload 6, 2) := by decide +kernel
theorem dX5_feed_97 : decode cX5_feed 97 = .ok (.iconst 4, 1) := by decide +kernel
theorem dX5_feed_98 : decode cX5_feed 98 = .ok (.irem, 1) := by decide +kernel
theorem dX5_feed_99 : decode cX5_feed 99 = .ok (.imul, 1) := by decide +kernel
theorem dX5_feed_100 : decode cX5_feed 100 = .ok (.isub, 1) := by decide +kernel
theorem dX5_feed_101 : decode cX5_feed 101 = .ok (.ishr, 1) := by decide +kernel
theorem dX5_feed_102 : decode cX5_feed 102 = .ok (.sipush 255, 3) := by decide +kernel
theorem dX5_feed_105 : decode cX5_feed 105 = .ok (.iand, 1) := by decide +kernel
theorem dX5_feed_106 : decode cX5_feed 106 = .ok (.iastore, 1) := by decide +kernel
theorem dX5_feed_107 : decode cX5_feed 107 = .ok (.iinc 6 1, 3) := by decide +kernel
theorem dX5_feed_110 : decode cX5_feed 110 = .ok (.goto (-87), 3) := by decide +kernel
theorem dX5_feed_113 : decode cX5_feed 113 = .ok (.aload_n 0, 1) := by decide +kernel
theorem dX5_feed_114 : decode cX5_feed 114 = .ok (.dup, 1) := by decide +kernel
theorem dX5_feed_115 : decode cX5_feed 115 = .ok (.getfield 44, 3) := by decide +kernel
theorem dX5_feed_118 : decode cX5_feed 118 = .ok (.bipush 20, 2) := by decide +kernel
theorem dX5_feed_120 : decode cX5_feed 120 = .ok (.iadd, 1) := by decide +kernel
theorem dX5_feed_121 : decode cX5_feed 121 = .ok (.putfield 44, 3) := by decide +kernel
theorem dX5_feed_124 : decode cX5_feed 124 = .ok (.iconst 1, 1) := by decide +kernel
theorem dX5_feed_125 : decode cX5_feed 125 = .ok (.ireturn, 1) := by decide +kernel
theorem dX5_end_0 : decode cX5_end 0 = .ok (.aload_n 0, 1) := by decide +kernel
theorem dX5_end_1 : decode cX5_end 1 = .ok (.iconst 0, 1) := by decide +kernel
theorem dX5_end_2 : decode cX5_end 2 = .ok (.putfield 25, 3) := by decide +kernel
theorem dX5_end_5 : decode cX5_end 5 = .ok (.iload_n 1, 1) := by decide +kernel
theorem dX5_end_6 : decode cX5_end 6 = .ok (.ifCond .lt 11, 3) := by decide +kernel
theorem dX5_end_9 : decode cX5_end 9 = .ok (.iload_n 1, 1) := by decide +kernel
theorem dX5_end_10 : decode cX5_end 10 = .ok (.aload_n 0, 1) := by decide +kernel
theorem dX5_end_11 : decode cX5_end 11 = .ok (.getfield 44, 3) := by decide +kernel
theorem dX5_end_14 : decode cX5_end 14 = .ok (.if_icmp .le 5, 3) := by decide +kernel
theorem dX5_end_17 : decode cX5_end 17 = .ok (.iconst 0, 1) := by decide +kernel
theorem dX5_end_18 : decode cX5_end 18 = .ok (.ireturn, 1) := by decide +kernel
theorem dX5_end_19 : decode cX5_end 19 = .ok (.iconst 0, 1) := by decide +kernel
theorem dX5_end_20 : decode cX5_end 20 = .ok (.istore_n 2, 1) := by decide +kernel
theorem dX5_end_21 : decode cX5_end 21 = .ok (.iload_n 2, 1) := by decide +kernel
theorem dX5_end_22 : decode cX5_end 22 = .ok (.iload_n 1, 1) := by decide +kernel
theorem dX5_end_23 : decode cX5_end 23 = .ok (.if_icmp .ge 21, 3) := by decide +kernel
