theorem dX5_readGroups_17 : decode cX5_readGroups 17 = .ok (.iconst 4, 1) := by decide +kernel
theorem dX5_readGroups_18 : decode cX5_readGroups 18 = .ok (.putfield 32, 3) := by decide +kernel
theorem dX5_readGroups_21 : decode cX5_readGroups 21 = .ok (.goto 26, 3) := by decide +kernel
theorem dX5_readGroups_24 : decode cX5_readGroups 24 = .ok (.iload 5, 2) := by decide +kernel
theorem dX5_readGroups_26 : decode cX5_readGroups 26 = .ok (.aload_n 0, 1) := by decide +kernel
theorem dX5_readGroups_27 : decode cX5_readGroups 27 = .ok (.getfield 35, 3) := by decide +kernel
theorem dX5_readGroups_30 : decode cX5_readGroups 30 = .ok (.isub, 1) := by decide +kernel
theorem dX5_readGroups_31 : decode cX5_readGroups 31 = .ok (.i2l, 1) := by decide +kernel
theorem dX5_readGroups_32 : decode cX5_readGroups 32 = .ok (.lload 6, 2) := by decide +kernel
theorem dX5_readGroups_34 : decode cX5_readGroups 34 = .ok (.iload 4, 2) := by decide +kernel
theorem dX5_readGroups_36 : decode cX5_readGroups 36 = .ok (.i2l, 1) := by decide +kernel
theorem dX5_readGroups_37 : decode cX5_readGroups 37 = .ok (.lmul, 1) := by decide +kernel
theorem dX5_readGroups_38 : decode cX5_readGroups 38 = .ok (.lcmp, 1) := by decide +kernel
theorem dX5_readGroups_39 : decode cX5_readGroups 39 = .ok (.ifCond .ge 8, 3) := by decide +kernel
theorem dX5_readGroups_42 : decode cX5_readGroups 42 = .ok (.aload_n 0, 1) := by decide +kernel
theorem dX5_readGroups_43 : decode cX5_readGroups 43 = .ok (.iconst 1, 1) := by decide +kernel
theorem dX5_readGroups_44 : decode cX5_readGroups 44 = .ok (.putfield 32, 3) := by decide +kernel
theorem dX5_readGroups_47 : decode cX5_readGroups 47 = .ok (.aload_n 0, 1) := by decide +kernel
theorem dX5_readGroups_48 : decode cX5_readGroups 48 = .ok (.getfield 32, 3) := by decide +kernel
theorem dX5_readGroups_51 : decode cX5_readGroups 51 = .ok (.ifCond .eq 5, 3) := by decide +kernel
theorem dX5_readGroups_54 : decode cX5_readGroups 54 = .ok (.iload_n 2, 1) := by decide +kernel
theorem dX5_readGroups_55 : decode cX5_readGroups 55 = .ok (.ireturn, 1) := by decide +kernel
theorem dX5_readGroups_56 : decode cX5_readGroups 56 = .ok (.iconst 0, 1) := by decide +kernel
theorem dX5_readGroups_57 : decode cX5_readGroups 57 = .ok (.istore 8, 2) := by decide +kernel
theorem dX5_readGroups_59 : decode cX5_readGroups 59 = .ok (.iload 8, 2) := by decide +kernel
theorem dX5_readGroups_61 : decode cX5_readGroups 61 = .ok (.i2l, 1) := by decide +kernel
theorem dX5_readGroups_62 : decode cX5_readGroups 62 = .ok (.ldc2_w 81, 3) := by decide +kernel
theorem dX5_readGroups_65 : decode cX5_readGroups 65 = .ok (.lload 6, 2) := by decide +kernel
theorem dX5_readGroups_67 : decode cX5_readGroups 67 = .ok (.lmul, 1) := by decide +kernel
theorem dX5_readGroups_68 : decode cX5_readGroups 68 = .ok (.lcmp, 1) := by decide +kernel
theorem dX5_readGroups_69 : decode cX5_readGroups 69 = .ok (.ifCond .ge 55, 3) := by decide +kernel
theorem dX5_readGroups_72 : decode cX5_readGroups 72 = .ok (.aload_n 0, 1) := by decide +kernel
theorem dX5_readGroups_73 : decode cX5_readGroups 73 = .ok (.aload_n 0, 1) := by decide +kernel
theorem dX5_readGroups_74 : decode cX5_readGroups 74 = .ok (.getfield 35, 3) := by decide +kernel
theorem dX5_readGroups_77 : decode cX5_readGroups 77 = .ok (.iload 4, 2) := by decide +kernel
theorem dX5_readGroups_79 : decode cX5_readGroups 79 = .ok (.iload 8, 2) := by decide +kernel
theorem dX5_readGroups_81 : decode cX5_readGroups 81 = .ok (.imul, 1) := by decide +kernel
theorem dX5_readGroups_82 : decode cX5_readGroups 82 = .ok (.iload 4, 2) := by decide +kernel
theorem dX5_readGroups_84 : decode cX5_readGroups 84 = .ok (.invokevirtual 77, 3) := by decide +kernel
theorem dX5_readGroups_87 : decode cX5_readGroups 87 = .ok (.istore 9, 2) := by decide +kernel
theorem dX5_readGroups_89 : decode cX5_readGroups 89 = .ok (.iload_n 2, 1) := by decide +kernel
theorem dX5_readGroups_90 : decode cX5_readGroups 90 = .ok (.iload 8, 2) := by decide +kernel
theorem dX5_readGroups_92 : decode cX5_readGroups 92 = .ok (.iadd, 1) := by decide +kernel
theorem dX5_readGroups_93 : decode cX5_readGroups 93 = .ok (.iload_n 3, 1) := by decide +kernel
theorem dX5_readGroups_94 : decode cX5_readGroups 94 = .ok (.if_icmp .ge 14, 3) := by decide +kernel
theorem dX5_readGroups_97 : decode cX5_readGroups 97 = .ok (.aload_n 1, 1) := by decide +kernel
theorem dX5_readGroups_98 : decode cX5_readGroups 98 = .ok (.iload_n 2, 1) := by decide +kernel
theorem dX5_readGroups_99 : decode cX5_readGroups 99 = .ok (.iload 8, 2) := by decide +kernel
theorem dX5_readGroups_101 : decode cX5_readGroups 101 = .ok (.iadd, 1) := by decide +kernel
theorem dX5_readGroups_102 : decode cX5_readGroups 102 = .ok (.iload 9, 2) := by decide +kernel
theorem dX5_readGroups_104 : decode cX5_readGroups 104 = .ok (.iastore, 1) := by decide +kernel
theorem dX5_readGroups_105 : decode cX5_readGroups 105 = .ok (.goto 13, 3) := by decide +kernel
theorem dX5_readGroups_108 : decode cX5_readGroups 108 = .ok (.iload 9, 2) := by decide +kernel
theorem dX5_readGroups_110 : decode cX5_readGroups 110 = .ok (.ifCond .eq 8, 3) := by decide +kernel
theorem dX5_readGroups_113 : decode cX5_readGroups 113 = .ok (.aload_n 0, 1) := by decide +kernel
theorem dX5_readGroups_114 : decode cX5_readGroups 114 = .ok (.iconst 5, 1) := by decide +kernel
theorem dX5_readGroups_115 : decode cX5_readGroups 115 = .ok (.putfield 32, 3) := by decide +kernel
theorem dX5_readGroups_118 : decode cX5_readGroups 118 = .ok (.iinc 8 1, 3) := by decide +kernel
theorem dX5_readGroups_121 : decode cX5_readGroups 121 = .ok (.goto (-62), 3) := by decide +kernel
theorem dX5_readGroups_124 : decode cX5_readGroups 124 = .ok (.aload_n 0, 1) := by decide +kernel
theorem dX5_readGroups_125 : decode cX5_readGroups 125 = .ok (.dup, 1) := by decide +kernel
theorem dX5_readGroups_126 : decode cX5_readGroups 126 = .ok (.getfield 35, 3) := by decide +kernel
theorem dX5_readGroups_129 : decode cX5_readGroups 129 = .ok (.lload 6, 2) := by decide +kernel
theorem dX5_readGroups_131 : decode cX5_readGroups 131 = .ok (.l2i, 1) := by decide +kernel
theorem dX5_readGroups_132 : decode cX5_readGroups 132 = .ok (.iload 4, 2) := by decide +kernel
theorem dX5_readGroups_134 : decode cX5_readGroups 134 = .ok (.imul, 1) := by decide +kernel
theorem dX5_readGroups_135 : decode cX5_readGroups 135 = .ok (.iadd, 1) := by decide +kernel
theorem dX5_readGroups_136 : decode cX5_readGroups 136 = .ok (.putfield 35, 3) := by decide +kernel
theorem dX5_readGroups_139 : decode cX5_readGroups 139 = .ok (.iload_n 2, 1) := by decide +kernel
theorem dX5_readGroups_140 : decode cX5_readGroups 140 = .ok (.bipush 8, 2) := by decide +kernel
theorem dX5_readGroups_142 : decode cX5_readGroups 142 = .ok (.lload 6, 2) := by decide +kernel
theorem dX5_readGroups_144 : decode cX5_readGroups 144 = .ok (.l2i, 1) := by decide +kernel
theorem dX5_readGroups_145 : decode cX5_readGroups 145 = .ok (.imul, 1) := by decide +kernel
theorem dX5_readGroups_146 : decode cX5_readGroups 146 = .ok (.iadd, 1) := by decide +kernel
theorem dX5_readGroups_147 : decode cX5_readGroups 147 = .ok (.ireturn, 1) := by decide +kernel
