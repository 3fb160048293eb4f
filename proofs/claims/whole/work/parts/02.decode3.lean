theorem dX1_readHead_18 : decode cX1_readHead 18 = .ok (.getfield 20, 3) := by decide +kernel
theorem dX1_readHead_21 : decode cX1_readHead 21 = .ok (.invokevirtual 56, 3) := by decide +kernel
theorem dX1_readHead_24 : decode cX1_readHead 24 = .ok (.istore_n 2, 1) := by decide +kernel
theorem dX1_readHead_25 : decode cX1_readHead 25 = .ok (.iload_n 2, 1) := by decide +kernel
theorem dX1_readHead_26 : decode cX1_readHead 26 = .ok (.iconst (-1), 1) := by decide +kernel
theorem dX1_readHead_27 : decode cX1_readHead 27 = .ok (.if_icmp .ne 5, 3) := by decide +kernel
theorem dX1_readHead_30 : decode cX1_readHead 30 = .ok (.iconst 1, 1) := by decide +kernel
theorem dX1_readHead_31 : decode cX1_readHead 31 = .ok (.ireturn, 1) := by decide +kernel
theorem dX1_readHead_32 : decode cX1_readHead 32 = .ok (.aload_n 0, 1) := by decide +kernel
theorem dX1_readHead_33 : decode cX1_readHead 33 = .ok (.dup, 1) := by decide +kernel
theorem dX1_readHead_34 : decode cX1_readHead 34 = .ok (.getfield 20, 3) := by decide +kernel
theorem dX1_readHead_37 : decode cX1_readHead 37 = .ok (.iconst 1, 1) := by decide +kernel
theorem dX1_readHead_38 : decode cX1_readHead 38 = .ok (.iadd, 1) := by decide +kernel
theorem dX1_readHead_39 : decode cX1_readHead 39 = .ok (.putfield 20, 3) := by decide +kernel
theorem dX1_readHead_42 : decode cX1_readHead 42 = .ok (.iload_n 1, 1) := by decide +kernel
theorem dX1_readHead_43 : decode cX1_readHead 43 = .ok (.bipush 9, 2) := by decide +kernel
theorem dX1_readHead_45 : decode cX1_readHead 45 = .ok (.if_icmp .ne 10, 3) := by decide +kernel
theorem dX1_readHead_48 : decode cX1_readHead 48 = .ok (.iload_n 2, 1) := by decide +kernel
theorem dX1_readHead_49 : decode cX1_readHead 49 = .ok (.iconst 1, 1) := by decide +kernel
theorem dX1_readHead_50 : decode cX1_readHead 50 = .ok (.if_icmp .le 5, 3) := by decide +kernel
theorem dX1_readHead_53 : decode cX1_readHead 53 = .ok (.iconst 2, 1) := by decide +kernel
theorem dX1_readHead_54 : decode cX1_readHead 54 = .ok (.ireturn, 1) := by decide +kernel
theorem dX1_readHead_55 : decode cX1_readHead 55 = .ok (.aload_n 0, 1) := by decide +kernel
theorem dX1_readHead_56 : decode cX1_readHead 56 = .ok (.dup, 1) := by decide +kernel
theorem dX1_readHead_57 : decode cX1_readHead 57 = .ok (.getfield 24, 3) := by decide +kernel
theorem dX1_readHead_60 : decode cX1_readHead 60 = .ok (.iload_n 2, 1) := by decide +kernel
theorem dX1_readHead_61 : decode cX1_readHead 61 = .ok (.bipush 127, 2) := by decide +kernel
theorem dX1_readHead_63 : decode cX1_readHead 63 = .ok (.iand, 1) := by decide +kernel
theorem dX1_readHead_64 : decode cX1_readHead 64 = .ok (.i2l, 1) := by decide +kernel
theorem dX1_readHead_65 : decode cX1_readHead 65 = .ok (.bipush 7, 2) := by decide +kernel
theorem dX1_readHead_67 : decode cX1_readHead 67 = .ok (.iload_n 1, 1) := by decide +kernel
theorem dX1_readHead_68 : decode cX1_readHead 68 = .ok (.imul, 1) := by decide +kernel
theorem dX1_readHead_69 : decode cX1_readHead 69 = .ok (.lshl, 1) := by decide +kernel
theorem dX1_readHead_70 : decode cX1_readHead 70 = .ok (.lor, 1) := by decide +kernel
theorem dX1_readHead_71 : decode cX1_readHead 71 = .ok (.putfield 24, 3) := by decide +kernel
theorem dX1_readHead_74 : decode cX1_readHead 74 = .ok (.iload_n 2, 1) := by decide +kernel
theorem dX1_readHead_75 : decode cX1_readHead 75 = .ok (.sipush 128, 3) := by decide +kernel
theorem dX1_readHead_78 : decode cX1_readHead 78 = .ok (.if_icmp .ge 17, 3) := by decide +kernel
theorem dX1_readHead_81 : decode cX1_readHead 81 = .ok (.iload_n 2, 1) := by decide +kernel
theorem dX1_readHead_82 : decode cX1_readHead 82 = .ok (.ifCond .ne 11, 3) := by decide +kernel
theorem dX1_readHead_85 : decode cX1_readHead 85 = .ok (.iload_n 1, 1) := by decide +kernel
theorem dX1_readHead_86 : decode cX1_readHead 86 = .ok (.ifCond .le 7, 3) := by decide +kernel
theorem dX1_readHead_89 : decode cX1_readHead 89 = .ok (.iconst 2, 1) := by decide +kernel
theorem dX1_readHead_90 : decode cX1_readHead 90 = .ok (.goto 4, 3) := by decide +kernel
theorem dX1_readHead_93 : decode cX1_readHead 93 = .ok (.iconst 0, 1) := by decide +kernel
theorem dX1_readHead_94 : decode cX1_readHead 94 = .ok (.ireturn, 1) := by decide +kernel
theorem dX1_readHead_95 : decode cX1_readHead 95 = .ok (.iinc 1 1, 3) := by decide +kernel
theorem dX1_readHead_98 : decode cX1_readHead 98 = .ok (.goto (-91), 3) := by decide +kernel
theorem dX1_readHead_101 : decode cX1_readHead 101 = .ok (.iconst 2, 1) := by decide +kernel
theorem dX1_readHead_102 : decode cX1_readHead 102 = .ok (.ireturn, 1) := by decide +kernel
theorem dX1_readOne_0 : decode cX1_readOne 0 = .ok (.lconst 0, 1) := by decide +kernel
theorem dX1_readOne_1 : decode cX1_readOne 1 = .ok (.lstore 4, 2) := by decide +kernel
theorem dX1_readOne_3 : decode cX1_readOne 3 = .ok (.iconst 0, 1) := by decide +kernel
theorem dX1_readOne_4 : decode cX1_readOne 4 = .ok (.istore 6, 2) := by decide +kernel
theorem dX1_readOne_6 : decode cX1_readOne 6 = .ok (.iload 6, 2) := by decide +kernel
theorem dX1_readOne_8 : decode cX1_readOne 8 = .ok (.iload_n 2, 1) := by decide +kernel
theorem dX1_readOne_9 : decode cX1_readOne 9 = .ok (.invokestatic 45, 3) := by decide +kernel
theorem dX1_readOne_12 : decode cX1_readOne 12 = .ok (.if_icmp .ge 24, 3) := by decide +kernel
theorem dX1_readOne_15 : decode cX1_readOne 15 = .ok (.lload 4, 2) := by decide +kernel
theorem dX1_readOne_17 : decode cX1_readOne 17 = .ok (.aload_n 0, 1) := by decide +kernel
theorem dX1_readOne_18 : decode cX1_readOne 18 = .ok (.invokevirtual 58, 3) := by decide +kernel
theorem dX1_readOne_21 : decode cX1_readOne 21 = .ok (.bipush 8, 2) := by decide +kernel
theorem dX1_readOne_23 : decode cX1_readOne 23 = .ok (.iload 6, 2) := by decide +kernel
theorem dX1_readOne_25 : decode cX1_readOne 25 = .ok (.imul, 1) := by decide +kernel
theorem dX1_readOne_26 : decode cX1_readOne 26 = .ok (.lshl, 1) := by decide +kernel
theorem dX1_readOne_27 : decode cX1_readOne 27 = .ok (.lor, 1) := by decide +kernel
theorem dX1_readOne_28 : decode cX1_readOne 28 = .ok (.lstore 4, 2) := by decide +kernel
theorem dX1_readOne_30 : decode cX1_readOne 30 = .ok (.iinc 6 1, 3) := by decide +kernel
theorem dX1_readOne_33 : decode cX1_readOne 33 = .ok (.goto (-27), 3) := by decide +kernel
theorem dX1_readOne_36 : decode cX1_readOne 36 = .ok (.lload 4, 2) := by decide +kernel
theorem dX1_readOne_38 : decode cX1_readOne 38 = .ok (.iload_n 2, 1) := by decide +kernel
theorem dX1_readOne_39 : decode cX1_readOne 39 = .ok (.lushr, 1) := by decide +kernel
theorem dX1_readOne_40 : decode cX1_readOne 40 = .ok (.lconst 0, 1) := by decide +kernel
theorem dX1_readOne_41 : decode cX1_readOne 41 = .ok (.lcmp, 1) := by decide +kernel
theorem dX1_readOne_42 : decode cX1_readOne 42 = .ok (.ifCond .eq 5, 3) := by decide +kernel
theorem dX1_readOne_45 : decode cX1_readOne 45 = .ok (.iconst 5, 1) := by decide +kernel
theorem dX1_readOne_46 : decode cX1_readOne 46 = .ok (.ireturn, 1) := by decide +kernel
theorem dX1_readOne_47 : decode cX1_readOne 47 = .ok (.aload_n 1, 1) := by decide +kernel
theorem dX1_readOne_48 : decode cX1_readOne 48 = .ok (.lload 4, 2) := by decide +kernel
theorem dX1_readOne_50 : decode cX1_readOne 50 = .ok (.l2i, 1) := by decide +kernel
theorem dX1_readOne_51 : decode cX1_readOne 51 = .ok (.iload_n 3, 1) := by decide +kernel
theorem dX1_readOne_52 : decode cX1_readOne 52 = .ok (.invokevirtual 62, 3) := by decide +kernel
theorem dX1_readOne_55 : decode cX1_readOne 55 = .ok (.pop, 1) := by decide +kernel
theorem dX1_readOne_56 : decode cX1_readOne 56 = .ok (.iconst 0, 1) := by decide +kernel
theorem dX1_readOne_57 : decode cX1_readOne 57 = .ok (.ireturn, 1) := by decide +kernel
theorem dX1_readGroups_0 : decode cX1_readGroups 0 = .ok (.lconst 1, 1) := by decide +kernel
theorem dX1_readGroups_1 : decode cX1_readGroups 1 = .ok (.iload_n 2, 1) := by decide +kernel
theorem dX1_readGroups_2 : decode cX1_readGroups 2 = .ok (.lshl, 1) := by decide +kernel
theorem dX1_readGroups_3 : decode cX1_readGroups 3 = .ok (.lconst 1, 1) := by decide +kernel
theorem dX1_readGroups_4 : decode cX1_readGroups 4 = .ok (.lsub, 1) := by decide +kernel
theorem dX1_readGroups_5 : decode cX1_readGroups 5 = .ok (.lstore 5, 2) := by decide +kernel
theorem dX1_readGroups_7 : decode cX1_readGroups 7 = .ok (.lconst 0, 1) := by decide +kernel
theorem dX1_readGroups_8 : decode cX1_readGroups 8 = .ok (.lstore 7, 2) := by decide +kernel
theorem dX1_readGroups_10 : decode cX1_readGroups 10 = .ok (.iconst 0, 1) := by decide +kernel
theorem dX1_readGroups_11 : decode cX1_readGroups 11 = .ok (.istore 9, 2) := by decide +kernel
theorem dX1_readGroups_13 : decode cX1_readGroups 13 = .ok (.iconst 0, 1) := by decide +kernel
theorem dX1_readGroups_14 : decode cX1_readGroups 14 = .ok (.istore 10, 2) := by decide +kernel
theorem dX1_readGroups_16 : decode cX1_readGroups 16 = .ok (.iload 10, 2) := by decide +kernel
theorem dX1_readGroups_18 : decode cX1_readGroups 18 = .ok (.iload_n 3, 1) := by decide +kernel
theorem dX1_readGroups_19 : decode cX1_readGroups 19 = .ok (.bipush 8, 2) := by decide +kernel
theorem dX1_readGroups_21 : decode cX1_readGroups 21 = .ok (.imul, 1) := by decide +kernel
theorem dX1_readGroups_22 : decode cX1_readGroups 22 = .ok (.if_icmp .ge 80, 3) := by decide +kernel
theorem dX1_readGroups_25 : decode cX1_readGroups 25 = .ok (.iload 9, 2) := by decide +kernel
theorem dX1_readGroups_27 : decode cX1_readGroups 27 = .ok (.iload_n 2, 1) := by decide +kernel
theorem dX1_readGroups_28 : decode cX1_readGroups 28 = .ok (.if_icmp .ge 21, 3) := by decide +kernel
theorem dX1_readGroups_31 : decode cX1_readGroups 31 = .ok (.lload 7, 2) := by decide +kernel
theorem dX1_readGroups_33 : decode cX1_readGroups 33 = .ok (.aload_n 0, 1) := by decide +kernel
theorem dX1_readGroups_34 : decode cX1_readGroups 34 = .ok (.invokevirtual 58, 3) := by decide +kernel
theorem dX1_readGroups_37 : decode cX1_readGroups 37 = .ok (.iload 9, 2) := by decide +kernel
theorem dX1_readGroups_39 : decode cX1_readGroups 39 = .ok (.lshl, 1) := by decide +kernel
theorem dX1_readGroups_40 : decode cX1_readGroups 40 = .ok (.lor, 1) := by decide +kernel
theorem dX1_readGroups_41 : decode cX1_readGroups 41 = .ok (.lstore 7, 2) := by decide +kernel
theorem dX1_readGroups_43 : decode cX1_readGroups 43 = .ok (.iinc 9 8, 3) := by decide +kernel
theorem dX1_readGroups_46 : decode cX1_readGroups 46 = .ok (.goto (-21), 3) := by decide +kernel
theorem dX1_readGroups_49 : decode cX1_readGroups 49 = .ok (.lload 7, 2) := by decide +kernel
theorem dX1_readGroups_51 : decode cX1_readGroups 51 = .ok (.lload 5, 2) := by decide +kernel
theorem dX1_readGroups_53 : decode cX1_readGroups 53 = .ok (.land, 1) := by decide +kernel
theorem dX1_readGroups_54 : decode cX1_readGroups 54 = .ok (.l2i, 1) := by decide +kernel
theorem dX1_readGroups_55 : decode cX1_readGroups 55 = .ok (.istore 11, 2) := by decide +kernel
theorem dX1_readGroups_57 : decode cX1_readGroups 57 = .ok (.lload 7, 2) := by decide +kernel
theorem dX1_readGroups_59 : decode cX1_readGroups 59 = .ok (.iload_n 2, 1) := by decide +kernel
theorem dX1_readGroups_60 : decode cX1_readGroups 60 = .ok (.lushr, 1) := by decide +kernel
theorem dX1_readGroups_61 : decode cX1_readGroups 61 = .ok (.lstore 7, 2) := by decide +kernel
theorem dX1_readGroups_63 : decode cX1_readGroups 63 = .ok (.iload 9, 2) := by decide +kernel
theorem dX1_readGroups_65 : decode cX1_readGroups 65 = .ok (.iload_n 2, 1) := by decide +kernel
theorem dX1_readGroups_66 : decode cX1_readGroups 66 = .ok (.isub, 1) := by decide +kernel
theorem dX1_readGroups_67 : decode cX1_readGroups 67 = .ok (.istore 9, 2) := by decide +kernel
theorem dX1_readGroups_69 : decode cX1_readGroups 69 = .ok (.aload_n 1, 1) := by decide +kernel
theorem dX1_readGroups_70 : decode cX1_readGroups 70 = .ok (.invokevirtual 33, 3) := by decide +kernel
theorem dX1_readGroups_73 : decode cX1_readGroups 73 = .ok (.iload 4, 2) := by decide +kernel
theorem dX1_readGroups_75 : decode cX1_readGroups 75 = .ok (.if_icmp .ge 14, 3) := by decide +kernel
theorem dX1_readGroups_78 : decode cX1_readGroups 78 = .ok (.aload_n 1, 1) := by decide +kernel
theorem dX1_readGroups_79 : decode cX1_readGroups 79 = .ok (.iload 11, 2) := by decide +kernel
theorem dX1_readGroups_81 : decode cX1_readGroups 81 = .ok (.iconst 1, 1) := by decide +kernel
theorem dX1_readGroups_82 : decode cX1_readGroups 82 = .ok (.invokevirtual 62, 3) := by decide +kernel
theorem dX1_readGroups_85 : decode cX1_readGroups 85 = .ok (.pop, 1) := by decide +kernel
theorem dX1_readGroups_86 : decode cX1_readGroups 86 = .ok (.goto 10, 3) := by decide +kernel
theorem dX1_readGroups_89 : decode cX1_readGroups 89 = .ok (.iload 11, 2) := by decide +kernel
theorem dX1_readGroups_91 : decode cX1_readGroups 91 = .ok (.ifCond .eq 5, 3) := by decide +kernel
theorem dX1_readGroups_94 : decode cX1_readGroups 94 = .ok (.iconst 5, 1) := by decide +kernel
theorem dX1_readGroups_95 : decode cX1_readGroups 95 = .ok (.ireturn, 1) := by decide +kernel
theorem dX1_readGroups_96 : decode cX1_readGroups 96 = .ok (.iinc 10 1, 3) := by decide +kernel
theorem dX1_readGroups_99 : decode cX1_readGroups 99 = .ok (.goto (-83), 3) := by decide +kernel
theorem dX1_readGroups_102 : decode cX1_readGroups 102 = .ok (.iconst 0, 1) := by decide +kernel
theorem dX1_readGroups_103 : decode cX1_readGroups 103 = .ok (.ireturn, 1) := by decide +kernel
theorem dX1_readRun_0 : decode cX1_readRun 0 = .ok (.aload_n 0, 1) := by decide +kernel
theorem dX1_readRun_1 : decode cX1_readRun 1 = .ok (.invokevirtual 42, 3) := by decide +kernel
theorem dX1_readRun_4 : decode cX1_readRun 4 = .ok (.istore 4, 2) := by decide +kernel
theorem dX1_readRun_6 : decode cX1_readRun 6 = .ok (.iload 4, 2) := by decide +kernel
theorem dX1_readRun_8 : decode cX1_readRun 8 = .ok (.ifCond .eq 6, 3) := by decide +kernel
