theorem dX3_writeGroup_23 : decode cX3_writeGroup 23 = .ok (.invokevirtual 30, 3) := by decide +kernel
theorem dX3_writeGroup_26 : decode cX3_writeGroup 26 = .ok (.i2l, 1) := by decide +kernel
theorem dX3_writeGroup_27 : decode cX3_writeGroup 27 = .ok (.ldc2_w 58, 3) := by decide +kernel
theorem dX3_writeGroup_30 : decode cX3_writeGroup 30 = .ok (.land, 1) := by decide +kernel
theorem dX3_writeGroup_31 : decode cX3_writeGroup 31 = .ok (.iload 6, 2) := by decide +kernel
theorem dX3_writeGroup_33 : decode cX3_writeGroup 33 = .ok (.lshl, 1) := by decide +kernel
theorem dX3_writeGroup_34 : decode cX3_writeGroup 34 = .ok (.lor, 1) := by decide +kernel
theorem dX3_writeGroup_35 : decode cX3_writeGroup 35 = .ok (.lstore 4, 2) := by decide +kernel
theorem dX3_writeGroup_37 : decode cX3_writeGroup 37 = .ok (.iload 6, 2) := by decide +kernel
theorem dX3_writeGroup_39 : decode cX3_writeGroup 39 = .ok (.iload_n 3, 1) := by decide +kernel
theorem dX3_writeGroup_40 : decode cX3_writeGroup 40 = .ok (.iadd, 1) := by decide +kernel
theorem dX3_writeGroup_41 : decode cX3_writeGroup 41 = .ok (.istore 6, 2) := by decide +kernel
theorem dX3_writeGroup_43 : decode cX3_writeGroup 43 = .ok (.iload 6, 2) := by decide +kernel
theorem dX3_writeGroup_45 : decode cX3_writeGroup 45 = .ok (.bipush 8, 2) := by decide +kernel
theorem dX3_writeGroup_47 : decode cX3_writeGroup 47 = .ok (.if_icmp .lt 26, 3) := by decide +kernel
theorem dX3_writeGroup_50 : decode cX3_writeGroup 50 = .ok (.aload_n 0, 1) := by decide +kernel
theorem dX3_writeGroup_51 : decode cX3_writeGroup 51 = .ok (.getfield 14, 3) := by decide +kernel
theorem dX3_writeGroup_54 : decode cX3_writeGroup 54 = .ok (.lload 4, 2) := by decide +kernel
theorem dX3_writeGroup_56 : decode cX3_writeGroup 56 = .ok (.l2i, 1) := by decide +kernel
theorem dX3_writeGroup_57 : decode cX3_writeGroup 57 = .ok (.invokevirtual 51, 3) := by decide +kernel
theorem dX3_writeGroup_60 : decode cX3_writeGroup 60 = .ok (.lload 4, 2) := by decide +kernel
theorem dX3_writeGroup_62 : decode cX3_writeGroup 62 = .ok (.bipush 8, 2) := by decide +kernel
theorem dX3_writeGroup_64 : decode cX3_writeGroup 64 = .ok (.lushr, 1) := by decide +kernel
theorem dX3_writeGroup_65 : decode cX3_writeGroup 65 = .ok (.lstore 4, 2) := by decide +kernel
theorem dX3_writeGroup_67 : decode cX3_writeGroup 67 = .ok (.iinc 6 (-8), 3) := by decide +kernel
theorem dX3_writeGroup_70 : decode cX3_writeGroup 70 = .ok (.goto (-27), 3) := by decide +kernel
theorem dX3_writeGroup_73 : decode cX3_writeGroup 73 = .ok (.iinc 7 1, 3) := by decide +kernel
theorem dX3_writeGroup_76 : decode cX3_writeGroup 76 = .ok (.goto (-67), 3) := by decide +kernel
theorem dX3_writeGroup_79 : decode cX3_writeGroup 79 = .ok (.return_, 1) := by decide +kernel
theorem dX3_writeGroups_0 : decode cX3_writeGroups 0 = .ok (.aload_n 0, 1) := by decide +kernel
theorem dX3_writeGroups_1 : decode cX3_writeGroups 1 = .ok (.iload_n 3, 1) := by decide +kernel
theorem dX3_writeGroups_2 : decode cX3_writeGroups 2 = .ok (.iconst 2, 1) := by decide +kernel
theorem dX3_writeGroups_3 : decode cX3_writeGroups 3 = .ok (.imul, 1) := by decide +kernel
theorem dX3_writeGroups_4 : decode cX3_writeGroups 4 = .ok (.iconst 1, 1) := by decide +kernel
theorem dX3_writeGroups_5 : decode cX3_writeGroups 5 = .ok (.iadd, 1) := by decide +kernel
theorem dX3_writeGroups_6 : decode cX3_writeGroups 6 = .ok (.invokevirtual 45, 3) := by decide +kernel
theorem dX3_writeGroups_9 : decode cX3_writeGroups 9 = .ok (.iconst 0, 1) := by decide +kernel
theorem dX3_writeGroups_10 : decode cX3_writeGroups 10 = .ok (.istore 5, 2) := by decide +kernel
theorem dX3_writeGroups_12 : decode cX3_writeGroups 12 = .ok (.iload 5, 2) := by decide +kernel
theorem dX3_writeGroups_14 : decode cX3_writeGroups 14 = .ok (.iload_n 3, 1) := by decide +kernel
theorem dX3_writeGroups_15 : decode cX3_writeGroups 15 = .ok (.if_icmp .ge 23, 3) := by decide +kernel
theorem dX3_writeGroups_18 : decode cX3_writeGroups 18 = .ok (.aload_n 0, 1) := by decide +kernel
theorem dX3_writeGroups_19 : decode cX3_writeGroups 19 = .ok (.aload_n 1, 1) := by decide +kernel
theorem dX3_writeGroups_20 : decode cX3_writeGroups 20 = .ok (.iload_n 2, 1) := by decide +kernel
theorem dX3_writeGroups_21 : decode cX3_writeGroups 21 = .ok (.iload 5, 2) := by decide +kernel
theorem dX3_writeGroups_23 : decode cX3_writeGroups 23 = .ok (.bipush 8, 2) := by decide +kernel
theorem dX3_writeGroups_25 : decode cX3_writeGroups 25 = .ok (.imul, 1) := by decide +kernel
theorem dX3_writeGroups_26 : decode cX3_writeGroups 26 = .ok (.iadd, 1) := by decide +kernel
theorem dX3_writeGroups_27 : decode cX3_writeGroups 27 = .ok (.iload 4, 2) := by decide +kernel
theorem dX3_writeGroups_29 : decode cX3_writeGroups 29 = .ok (.invokevirtual 54, 3) := by decide +kernel
theorem dX3_writeGroups_32 : decode cX3_writeGroups 32 = .ok (.iinc 5 1, 3) := by decide +kernel
theorem dX3_writeGroups_35 : decode cX3_writeGroups 35 = .ok (.goto (-23), 3) := by decide +kernel
theorem dX3_writeGroups_38 : decode cX3_writeGroups 38 = .ok (.return_, 1) := by decide +kernel
theorem dX3_groupsFrom_0 : decode cX3_groupsFrom 0 = .ok (.iconst 0, 1) := by decide +kernel
theorem dX3_groupsFrom_1 : decode cX3_groupsFrom 1 = .ok (.istore_n 3, 1) := by decide +kernel
theorem dX3_groupsFrom_2 : decode cX3_groupsFrom 2 = .ok (.iload_n 2, 1) := by decide +kernel
theorem dX3_groupsFrom_3 : decode cX3_groupsFrom 3 = .ok (.istore 4, 2) := by decide +kernel
theorem dX3_groupsFrom_5 : decode cX3_groupsFrom 5 = .ok (.iload 4, 2) := by decide +kernel
theorem dX3_groupsFrom_7 : decode cX3_groupsFrom 7 = .ok (.aload_n 1, 1) := by decide +kernel
theorem dX3_groupsFrom_8 : decode cX3_groupsFrom 8 = .ok (.invokevirtual 20, 3) := by decide +kernel
theorem dX3_groupsFrom_11 : decode cX3_groupsFrom 11 = .ok (.if_icmp .ge 26, 3) := by decide +kernel
theorem dX3_groupsFrom_14 : decode cX3_groupsFrom 14 = .ok (.aload_n 1, 1) := by decide +kernel
theorem dX3_groupsFrom_15 : decode cX3_groupsFrom 15 = .ok (.iload 4, 2) := by decide +kernel
theorem dX3_groupsFrom_17 : decode cX3_groupsFrom 17 = .ok (.invokevirtual 26, 3) := by decide +kernel
theorem dX3_groupsFrom_20 : decode cX3_groupsFrom 20 = .ok (.bipush 8, 2) := by decide +kernel
theorem dX3_groupsFrom_22 : decode cX3_groupsFrom 22 = .ok (.if_icmp .lt 6, 3) := by decide +kernel
theorem dX3_groupsFrom_25 : decode cX3_groupsFrom 25 = .ok (.goto 12, 3) := by decide +kernel
theorem dX3_groupsFrom_28 : decode cX3_groupsFrom 28 = .ok (.iinc 3 1, 3) := by decide +kernel
theorem dX3_groupsFrom_31 : decode cX3_groupsFrom 31 = .ok (.iinc 4 8, 3) := by decide +kernel
theorem dX3_groupsFrom_34 : decode cX3_groupsFrom 34 = .ok (.goto (-29), 3) := by decide +kernel
theorem dX3_groupsFrom_37 : decode cX3_groupsFrom 37 = .ok (.iload_n 3, 1) := by decide +kernel
theorem dX3_groupsFrom_38 : decode cX3_groupsFrom 38 = .ok (.ireturn, 1) := by decide +kernel
theorem dX3_write_0 : decode cX3_write 0 = .ok (.iconst 0, 1) := by decide +kernel
theorem dX3_write_1 : decode cX3_write 1 = .ok (.istore_n 3, 1) := by decide +kernel
theorem dX3_write_2 : decode cX3_write 2 = .ok (.iconst 0, 1) := by decide +kernel
theorem dX3_write_3 : decode cX3_write 3 = .ok (.istore 4, 2) := by decide +kernel
theorem dX3_write_5 : decode cX3_write 5 = .ok (.iload 4, 2) := by decide +kernel
theorem dX3_write_7 : decode cX3_write 7 = .ok (.sipush 4096, 3) := by decide +kernel
theorem dX3_write_10 : decode cX3_write 10 = .ok (.if_icmp .ge 76, 3) := by decide +kernel
theorem dX3_write_13 : decode cX3_write 13 = .ok (.iload_n 3, 1) := by decide +kernel
theorem dX3_write_14 : decode cX3_write 14 = .ok (.aload_n 1, 1) := by decide +kernel
theorem dX3_write_15 : decode cX3_write 15 = .ok (.invokevirtual 20, 3) := by decide +kernel
theorem dX3_write_18 : decode cX3_write 18 = .ok (.if_icmp .ge 68, 3) := by decide +kernel
theorem dX3_write_21 : decode cX3_write 21 = .ok (.aload_n 1, 1) := by decide +kernel
theorem dX3_write_22 : decode cX3_write 22 = .ok (.iload_n 3, 1) := by decide +kernel
theorem dX3_write_23 : decode cX3_write 23 = .ok (.invokevirtual 26, 3) := by decide +kernel
theorem dX3_write_26 : decode cX3_write 26 = .ok (.istore 5, 2) := by decide +kernel
theorem dX3_write_28 : decode cX3_write 28 = .ok (.iload 5, 2) := by decide +kernel
theorem dX3_write_30 : decode cX3_write 30 = .ok (.bipush 8, 2) := by decide +kernel
theorem dX3_write_32 : decode cX3_write 32 = .ok (.if_icmp .lt 23, 3) := by decide +kernel
theorem dX3_write_35 : decode cX3_write 35 = .ok (.aload_n 0, 1) := by decide +kernel
theorem dX3_write_36 : decode cX3_write 36 = .ok (.aload_n 1, 1) := by decide +kernel
theorem dX3_write_37 : decode cX3_write 37 = .ok (.iload_n 3, 1) := by decide +kernel
theorem dX3_write_38 : decode cX3_write 38 = .ok (.invokevirtual 30, 3) := by decide +kernel
theorem dX3_write_41 : decode cX3_write 41 = .ok (.iload 5, 2) := by decide +kernel
theorem dX3_write_43 : decode cX3_write 43 = .ok (.iload_n 2, 1) := by decide +kernel
theorem dX3_write_44 : decode cX3_write 44 = .ok (.invokevirtual 33, 3) := by decide +kernel
theorem dX3_write_47 : decode cX3_write 47 = .ok (.iload_n 3, 1) := by decide +kernel
theorem dX3_write_48 : decode cX3_write 48 = .ok (.iload 5, 2) := by decide +kernel
theorem dX3_write_50 : decode cX3_write 50 = .ok (.iadd, 1) := by decide +kernel
theorem dX3_write_51 : decode cX3_write 51 = .ok (.istore_n 3, 1) := by decide +kernel
theorem dX3_write_52 : decode cX3_write 52 = .ok (.goto 28, 3) := by decide +kernel
theorem dX3_write_55 : decode cX3_write 55 = .ok (.aload_n 0, 1) := by decide +kernel
theorem dX3_write_56 : decode cX3_write 56 = .ok (.aload_n 1, 1) := by decide +kernel
theorem dX3_write_57 : decode cX3_write 57 = .ok (.iload_n 3, 1) := by decide +kernel
theorem dX3_write_58 : decode cX3_write 58 = .ok (.invokevirtual 37, 3) := by decide +kernel
theorem dX3_write_61 : decode cX3_write 61 = .ok (.istore 6, 2) := by decide +kernel
theorem dX3_write_63 : decode cX3_write 63 = .ok (.aload_n 0, 1) := by decide +kernel
theorem dX3_write_64 : decode cX3_write 64 = .ok (.aload_n 1, 1) := by decide +kernel
theorem dX3_write_65 : decode cX3_write 65 = .ok (.iload_n 3, 1) := by decide +kernel
theorem dX3_write_66 : decode cX3_write 66 = .ok (.iload 6, 2) := by decide +kernel
theorem dX3_write_68 : decode cX3_write 68 = .ok (.iload_n 2, 1) := by decide +kernel
theorem dX3_write_69 : decode cX3_write 69 = .ok (.invokevirtual 41, 3) := by decide +kernel
theorem dX3_write_72 : decode cX3_write 72 = .ok (.iload_n 3, 1) := by decide +kernel
theorem dX3_write_73 : decode cX3_write 73 = .ok (.iload 6, 2) := by decide +kernel
theorem dX3_write_75 : decode cX3_write 75 = .ok (.bipush 8, 2) := by decide +kernel
theorem dX3_write_77 : decode cX3_write 77 = .ok (.imul, 1) := by decide +kernel
theorem dX3_write_78 : decode cX3_write 78 = .ok (.iadd, 1) := by decide +kernel
theorem dX3_write_79 : decode cX3_write 79 = .ok (.istore_n 3, 1) := by decide +kernel
theorem dX3_write_80 : decode cX3_write 80 = .ok (.iinc 4 1, 3) := by decide +kernel
theorem dX3_write_83 : decode cX3_write 83 = .ok (.goto (-78), 3) := by decide +kernel
theorem dX3_write_86 : decode cX3_write 86 = .ok (.return_, 1) := by decide +kernel
theorem dX1_nextByte_0 : decode cX1_nextByte 0 = .ok (.aload_n 0, 1) := by decide +kernel
theorem dX1_nextByte_1 : decode cX1_nextByte 1 = .ok (.getfield 14, 3) := by decide +kernel
theorem dX1_nextByte_4 : decode cX1_nextByte 4 = .ok (.aload_n 0, 1) := by decide +kernel
theorem dX1_nextByte_5 : decode cX1_nextByte 5 = .ok (.getfield 20, 3) := by decide +kernel
theorem dX1_nextByte_8 : decode cX1_nextByte 8 = .ok (.invokevirtual 56, 3) := by decide +kernel
theorem dX1_nextByte_11 : decode cX1_nextByte 11 = .ok (.istore_n 1, 1) := by decide +kernel
theorem dX1_nextByte_12 : decode cX1_nextByte 12 = .ok (.aload_n 0, 1) := by decide +kernel
theorem dX1_nextByte_13 : decode cX1_nextByte 13 = .ok (.dup, 1) := by decide +kernel
theorem dX1_nextByte_14 : decode cX1_nextByte 14 = .ok (.getfield 20, 3) := by decide +kernel
theorem dX1_nextByte_17 : decode cX1_nextByte 17 = .ok (.iconst 1, 1) := by decide +kernel
theorem dX1_nextByte_18 : decode cX1_nextByte 18 = .ok (.iadd, 1) := by decide +kernel
theorem dX1_nextByte_19 : decode cX1_nextByte 19 = .ok (.putfield 20, 3) := by decide +kernel
theorem dX1_nextByte_22 : decode cX1_nextByte 22 = .ok (.iload_n 1, 1) := by decide +kernel
theorem dX1_nextByte_23 : decode cX1_nextByte 23 = .ok (.sipush 255, 3) := by decide +kernel
theorem dX1_nextByte_26 : decode cX1_nextByte 26 = .ok (.iand, 1) := by decide +kernel
theorem dX1_nextByte_27 : decode cX1_nextByte 27 = .ok (.i2l, 1) := by decide +kernel
theorem dX1_nextByte_28 : decode cX1_nextByte 28 = .ok (.lreturn, 1) := by decide +kernel
theorem dX1_readHead_0 : decode cX1_readHead 0 = .ok (.aload_n 0, 1) := by decide +kernel
theorem dX1_readHead_1 : decode cX1_readHead 1 = .ok (.lconst 0, 1) := by decide +kernel
theorem dX1_readHead_2 : decode cX1_readHead 2 = .ok (.putfield 24, 3) := by decide +kernel
theorem dX1_readHead_5 : decode cX1_readHead 5 = .ok (.iconst 0, 1) := by decide +kernel
theorem dX1_readHead_6 : decode cX1_readHead 6 = .ok (.istore_n 1, 1) := by decide +kernel
theorem dX1_readHead_7 : decode cX1_readHead 7 = .ok (.iload_n 1, 1) := by decide +kernel
theorem dX1_readHead_8 : decode cX1_readHead 8 = .ok (.bipush 10, 2) := by decide +kernel
theorem dX1_readHead_10 : decode cX1_readHead 10 = .ok (.if_icmp .ge 91, 3) := by decide +kernel
theorem dX1_readHead_13 : decode cX1_readHead 13 = .ok (.aload_n 0, 1) := by decide +kernel
theorem dX1_readHead_14 : decode cX1_readHead 14 = .ok (.getfield 14, 3) := by decide +kernel
theorem dX1_readHead_17 : decode cX1_readHead 17 = .ok (.aload_n 0, 1) := by decide +kernel
