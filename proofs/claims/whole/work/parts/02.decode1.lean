theorem dX2_at_29 : decode cX2_at 29 = .ok (.ireturn, 1) := by decide +kernel
theorem dX2_append_0 : decode cX2_append 0 = .ok (.iload_n 2, 1) := by decide +kernel
theorem dX2_append_1 : decode cX2_append 1 = .ok (.iconst 1, 1) := by decide +kernel
theorem dX2_append_2 : decode cX2_append 2 = .ok (.if_icmp .lt 24, 3) := by decide +kernel
theorem dX2_append_5 : decode cX2_append 5 = .ok (.aload_n 0, 1) := by decide +kernel
theorem dX2_append_6 : decode cX2_append 6 = .ok (.getfield 15, 3) := by decide +kernel
theorem dX2_append_9 : decode cX2_append 9 = .ok (.ifCond .lt 17, 3) := by decide +kernel
theorem dX2_append_12 : decode cX2_append 12 = .ok (.iload_n 2, 1) := by decide +kernel
theorem dX2_append_13 : decode cX2_append 13 = .ok (.aload_n 0, 1) := by decide +kernel
theorem dX2_append_14 : decode cX2_append 14 = .ok (.getfield 9, 3) := by decide +kernel
theorem dX2_append_17 : decode cX2_append 17 = .ok (.arraylength, 1) := by decide +kernel
theorem dX2_append_18 : decode cX2_append 18 = .ok (.aload_n 0, 1) := by decide +kernel
theorem dX2_append_19 : decode cX2_append 19 = .ok (.getfield 15, 3) := by decide +kernel
theorem dX2_append_22 : decode cX2_append 22 = .ok (.isub, 1) := by decide +kernel
theorem dX2_append_23 : decode cX2_append 23 = .ok (.if_icmp .le 5, 3) := by decide +kernel
theorem dX2_append_26 : decode cX2_append 26 = .ok (.iconst 0, 1) := by decide +kernel
theorem dX2_append_27 : decode cX2_append 27 = .ok (.ireturn, 1) := by decide +kernel
theorem dX2_append_28 : decode cX2_append 28 = .ok (.aload_n 0, 1) := by decide +kernel
theorem dX2_append_29 : decode cX2_append 29 = .ok (.getfield 9, 3) := by decide +kernel
theorem dX2_append_32 : decode cX2_append 32 = .ok (.aload_n 0, 1) := by decide +kernel
theorem dX2_append_33 : decode cX2_append 33 = .ok (.getfield 15, 3) := by decide +kernel
theorem dX2_append_36 : decode cX2_append 36 = .ok (.aload_n 0, 1) := by decide +kernel
theorem dX2_append_37 : decode cX2_append 37 = .ok (.getfield 15, 3) := by decide +kernel
theorem dX2_append_40 : decode cX2_append 40 = .ok (.iload_n 2, 1) := by decide +kernel
theorem dX2_append_41 : decode cX2_append 41 = .ok (.iadd, 1) := by decide +kernel
theorem dX2_append_42 : decode cX2_append 42 = .ok (.iload_n 1, 1) := by decide +kernel
theorem dX2_append_43 : decode cX2_append 43 = .ok (.invokestatic 19, 3) := by decide +kernel
theorem dX2_append_46 : decode cX2_append 46 = .ok (.aload_n 0, 1) := by decide +kernel
theorem dX2_append_47 : decode cX2_append 47 = .ok (.dup, 1) := by decide +kernel
theorem dX2_append_48 : decode cX2_append 48 = .ok (.getfield 15, 3) := by decide +kernel
theorem dX2_append_51 : decode cX2_append 51 = .ok (.iload_n 2, 1) := by decide +kernel
theorem dX2_append_52 : decode cX2_append 52 = .ok (.iadd, 1) := by decide +kernel
theorem dX2_append_53 : decode cX2_append 53 = .ok (.putfield 15, 3) := by decide +kernel
theorem dX2_append_56 : decode cX2_append 56 = .ok (.iconst 1, 1) := by decide +kernel
theorem dX2_append_57 : decode cX2_append 57 = .ok (.ireturn, 1) := by decide +kernel
theorem dX2_fits_0 : decode cX2_fits 0 = .ok (.iconst 0, 1) := by decide +kernel
theorem dX2_fits_1 : decode cX2_fits 1 = .ok (.istore_n 2, 1) := by decide +kernel
theorem dX2_fits_2 : decode cX2_fits 2 = .ok (.iload_n 2, 1) := by decide +kernel
theorem dX2_fits_3 : decode cX2_fits 3 = .ok (.aload_n 0, 1) := by decide +kernel
theorem dX2_fits_4 : decode cX2_fits 4 = .ok (.getfield 15, 3) := by decide +kernel
theorem dX2_fits_7 : decode cX2_fits 7 = .ok (.if_icmp .ge 28, 3) := by decide +kernel
theorem dX2_fits_10 : decode cX2_fits 10 = .ok (.aload_n 0, 1) := by decide +kernel
theorem dX2_fits_11 : decode cX2_fits 11 = .ok (.iload_n 2, 1) := by decide +kernel
theorem dX2_fits_12 : decode cX2_fits 12 = .ok (.invokevirtual 25, 3) := by decide +kernel
theorem dX2_fits_15 : decode cX2_fits 15 = .ok (.i2l, 1) := by decide +kernel
theorem dX2_fits_16 : decode cX2_fits 16 = .ok (.ldc2_w 29, 3) := by decide +kernel
theorem dX2_fits_19 : decode cX2_fits 19 = .ok (.land, 1) := by decide +kernel
theorem dX2_fits_20 : decode cX2_fits 20 = .ok (.iload_n 1, 1) := by decide +kernel
theorem dX2_fits_21 : decode cX2_fits 21 = .ok (.lushr, 1) := by decide +kernel
theorem dX2_fits_22 : decode cX2_fits 22 = .ok (.lconst 0, 1) := by decide +kernel
theorem dX2_fits_23 : decode cX2_fits 23 = .ok (.lcmp, 1) := by decide +kernel
theorem dX2_fits_24 : decode cX2_fits 24 = .ok (.ifCond .eq 5, 3) := by decide +kernel
theorem dX2_fits_27 : decode cX2_fits 27 = .ok (.iconst 0, 1) := by decide +kernel
theorem dX2_fits_28 : decode cX2_fits 28 = .ok (.ireturn, 1) := by decide +kernel
theorem dX2_fits_29 : decode cX2_fits 29 = .ok (.iinc 2 1, 3) := by decide +kernel
theorem dX2_fits_32 : decode cX2_fits 32 = .ok (.goto (-30), 3) := by decide +kernel
theorem dX2_fits_35 : decode cX2_fits 35 = .ok (.iconst 1, 1) := by decide +kernel
theorem dX2_fits_36 : decode cX2_fits 36 = .ok (.ireturn, 1) := by decide +kernel
theorem dX2_sameFrom_0 : decode cX2_sameFrom 0 = .ok (.aload_n 0, 1) := by decide +kernel
theorem dX2_sameFrom_1 : decode cX2_sameFrom 1 = .ok (.iload_n 1, 1) := by decide +kernel
theorem dX2_sameFrom_2 : decode cX2_sameFrom 2 = .ok (.invokevirtual 25, 3) := by decide +kernel
theorem dX2_sameFrom_5 : decode cX2_sameFrom 5 = .ok (.istore_n 2, 1) := by decide +kernel
theorem dX2_sameFrom_6 : decode cX2_sameFrom 6 = .ok (.iload_n 1, 1) := by decide +kernel
theorem dX2_sameFrom_7 : decode cX2_sameFrom 7 = .ok (.istore_n 3, 1) := by decide +kernel
theorem dX2_sameFrom_8 : decode cX2_sameFrom 8 = .ok (.iload_n 3, 1) := by decide +kernel
theorem dX2_sameFrom_9 : decode cX2_sameFrom 9 = .ok (.aload_n 0, 1) := by decide +kernel
theorem dX2_sameFrom_10 : decode cX2_sameFrom 10 = .ok (.getfield 15, 3) := by decide +kernel
theorem dX2_sameFrom_13 : decode cX2_sameFrom 13 = .ok (.if_icmp .ge 18, 3) := by decide +kernel
theorem dX2_sameFrom_16 : decode cX2_sameFrom 16 = .ok (.aload_n 0, 1) := by decide +kernel
theorem dX2_sameFrom_17 : decode cX2_sameFrom 17 = .ok (.iload_n 3, 1) := by decide +kernel
theorem dX2_sameFrom_18 : decode cX2_sameFrom 18 = .ok (.invokevirtual 25, 3) := by decide +kernel
theorem dX2_sameFrom_21 : decode cX2_sameFrom 21 = .ok (.iload_n 2, 1) := by decide +kernel
theorem dX2_sameFrom_22 : decode cX2_sameFrom 22 = .ok (.if_icmp .ne 9, 3) := by decide +kernel
theorem dX2_sameFrom_25 : decode cX2_sameFrom 25 = .ok (.iinc 3 1, 3) := by decide +kernel
theorem dX2_sameFrom_28 : decode cX2_sameFrom 28 = .ok (.goto (-20), 3) := by decide +kernel
theorem dX2_sameFrom_31 : decode cX2_sameFrom 31 = .ok (.iload_n 3, 1) := by decide +kernel
theorem dX2_sameFrom_32 : decode cX2_sameFrom 32 = .ok (.iload_n 1, 1) := by decide +kernel
theorem dX2_sameFrom_33 : decode cX2_sameFrom 33 = .ok (.isub, 1) := by decide +kernel
theorem dX2_sameFrom_34 : decode cX2_sameFrom 34 = .ok (.ireturn, 1) := by decide +kernel
theorem dX4_numberBytes_0 : decode cX4_numberBytes 0 = .ok (.iload_n 0, 1) := by decide +kernel
theorem dX4_numberBytes_1 : decode cX4_numberBytes 1 = .ok (.bipush 7, 2) := by decide +kernel
theorem dX4_numberBytes_3 : decode cX4_numberBytes 3 = .ok (.iadd, 1) := by decide +kernel
theorem dX4_numberBytes_4 : decode cX4_numberBytes 4 = .ok (.bipush 8, 2) := by decide +kernel
theorem dX4_numberBytes_6 : decode cX4_numberBytes 6 = .ok (.idiv, 1) := by decide +kernel
theorem dX4_numberBytes_7 : decode cX4_numberBytes 7 = .ok (.ireturn, 1) := by decide +kernel
theorem dX3_writeHead_0 : decode cX3_writeHead 0 = .ok (.iload_n 1, 1) := by decide +kernel
theorem dX3_writeHead_1 : decode cX3_writeHead 1 = .ok (.istore_n 2, 1) := by decide +kernel
theorem dX3_writeHead_2 : decode cX3_writeHead 2 = .ok (.iconst 1, 1) := by decide +kernel
theorem dX3_writeHead_3 : decode cX3_writeHead 3 = .ok (.istore_n 3, 1) := by decide +kernel
theorem dX3_writeHead_4 : decode cX3_writeHead 4 = .ok (.iload_n 3, 1) := by decide +kernel
theorem dX3_writeHead_5 : decode cX3_writeHead 5 = .ok (.bipush 10, 2) := by decide +kernel
theorem dX3_writeHead_7 : decode cX3_writeHead 7 = .ok (.if_icmp .ge 35, 3) := by decide +kernel
theorem dX3_writeHead_10 : decode cX3_writeHead 10 = .ok (.iload_n 2, 1) := by decide +kernel
theorem dX3_writeHead_11 : decode cX3_writeHead 11 = .ok (.bipush 127, 2) := by decide +kernel
theorem dX3_writeHead_13 : decode cX3_writeHead 13 = .ok (.if_icmp .le 29, 3) := by decide +kernel
theorem dX3_writeHead_16 : decode cX3_writeHead 16 = .ok (.aload_n 0, 1) := by decide +kernel
theorem dX3_writeHead_17 : decode cX3_writeHead 17 = .ok (.getfield 14, 3) := by decide +kernel
theorem dX3_writeHead_20 : decode cX3_writeHead 20 = .ok (.iload_n 2, 1) := by decide +kernel
theorem dX3_writeHead_21 : decode cX3_writeHead 21 = .ok (.bipush 127, 2) := by decide +kernel
theorem dX3_writeHead_23 : decode cX3_writeHead 23 = .ok (.iand, 1) := by decide +kernel
theorem dX3_writeHead_24 : decode cX3_writeHead 24 = .ok (.sipush 128, 3) := by decide +kernel
theorem dX3_writeHead_27 : decode cX3_writeHead 27 = .ok (.ior, 1) := by decide +kernel
theorem dX3_writeHead_28 : decode cX3_writeHead 28 = .ok (.invokevirtual 51, 3) := by decide +kernel
theorem dX3_writeHead_31 : decode cX3_writeHead 31 = .ok (.iload_n 2, 1) := by decide +kernel
theorem dX3_writeHead_32 : decode cX3_writeHead 32 = .ok (.bipush 7, 2) := by decide +kernel
theorem dX3_writeHead_34 : decode cX3_writeHead 34 = .ok (.iushr, 1) := by decide +kernel
theorem dX3_writeHead_35 : decode cX3_writeHead 35 = .ok (.istore_n 2, 1) := by decide +kernel
theorem dX3_writeHead_36 : decode cX3_writeHead 36 = .ok (.iinc 3 1, 3) := by decide +kernel
theorem dX3_writeHead_39 : decode cX3_writeHead 39 = .ok (.goto (-35), 3) := by decide +kernel
theorem dX3_writeHead_42 : decode cX3_writeHead 42 = .ok (.aload_n 0, 1) := by decide +kernel
theorem dX3_writeHead_43 : decode cX3_writeHead 43 = .ok (.getfield 14, 3) := by decide +kernel
theorem dX3_writeHead_46 : decode cX3_writeHead 46 = .ok (.iload_n 2, 1) := by decide +kernel
theorem dX3_writeHead_47 : decode cX3_writeHead 47 = .ok (.invokevirtual 51, 3) := by decide +kernel
theorem dX3_writeHead_50 : decode cX3_writeHead 50 = .ok (.return_, 1) := by decide +kernel
theorem dX3_writeOne_0 : decode cX3_writeOne 0 = .ok (.aload_n 0, 1) := by decide +kernel
theorem dX3_writeOne_1 : decode cX3_writeOne 1 = .ok (.iload_n 2, 1) := by decide +kernel
theorem dX3_writeOne_2 : decode cX3_writeOne 2 = .ok (.iconst 2, 1) := by decide +kernel
theorem dX3_writeOne_3 : decode cX3_writeOne 3 = .ok (.imul, 1) := by decide +kernel
theorem dX3_writeOne_4 : decode cX3_writeOne 4 = .ok (.invokevirtual 45, 3) := by decide +kernel
theorem dX3_writeOne_7 : decode cX3_writeOne 7 = .ok (.iconst 0, 1) := by decide +kernel
theorem dX3_writeOne_8 : decode cX3_writeOne 8 = .ok (.istore 4, 2) := by decide +kernel
theorem dX3_writeOne_10 : decode cX3_writeOne 10 = .ok (.iload 4, 2) := by decide +kernel
theorem dX3_writeOne_12 : decode cX3_writeOne 12 = .ok (.iload_n 3, 1) := by decide +kernel
theorem dX3_writeOne_13 : decode cX3_writeOne 13 = .ok (.invokestatic 48, 3) := by decide +kernel
theorem dX3_writeOne_16 : decode cX3_writeOne 16 = .ok (.if_icmp .ge 23, 3) := by decide +kernel
theorem dX3_writeOne_19 : decode cX3_writeOne 19 = .ok (.aload_n 0, 1) := by decide +kernel
theorem dX3_writeOne_20 : decode cX3_writeOne 20 = .ok (.getfield 14, 3) := by decide +kernel
theorem dX3_writeOne_23 : decode cX3_writeOne 23 = .ok (.iload_n 1, 1) := by decide +kernel
theorem dX3_writeOne_24 : decode cX3_writeOne 24 = .ok (.bipush 8, 2) := by decide +kernel
theorem dX3_writeOne_26 : decode cX3_writeOne 26 = .ok (.iload 4, 2) := by decide +kernel
theorem dX3_writeOne_28 : decode cX3_writeOne 28 = .ok (.imul, 1) := by decide +kernel
theorem dX3_writeOne_29 : decode cX3_writeOne 29 = .ok (.iushr, 1) := by decide +kernel
theorem dX3_writeOne_30 : decode cX3_writeOne 30 = .ok (.invokevirtual 51, 3) := by decide +kernel
theorem dX3_writeOne_33 : decode cX3_writeOne 33 = .ok (.iinc 4 1, 3) := by decide +kernel
theorem dX3_writeOne_36 : decode cX3_writeOne 36 = .ok (.goto (-26), 3) := by decide +kernel
theorem dX3_writeOne_39 : decode cX3_writeOne 39 = .ok (.return_, 1) := by decide +kernel
theorem dX3_writeGroup_0 : decode cX3_writeGroup 0 = .ok (.lconst 0, 1) := by decide +kernel
theorem dX3_writeGroup_1 : decode cX3_writeGroup 1 = .ok (.lstore 4, 2) := by decide +kernel
theorem dX3_writeGroup_3 : decode cX3_writeGroup 3 = .ok (.iconst 0, 1) := by decide +kernel
theorem dX3_writeGroup_4 : decode cX3_writeGroup 4 = .ok (.istore 6, 2) := by decide +kernel
theorem dX3_writeGroup_6 : decode cX3_writeGroup 6 = .ok (.iconst 0, 1) := by decide +kernel
theorem dX3_writeGroup_7 : decode cX3_writeGroup 7 = .ok (.istore 7, 2) := by decide +kernel
theorem dX3_writeGroup_9 : decode cX3_writeGroup 9 = .ok (.iload 7, 2) := by decide +kernel
theorem dX3_writeGroup_11 : decode cX3_writeGroup 11 = .ok (.bipush 8, 2) := by decide +kernel
theorem dX3_writeGroup_13 : decode cX3_writeGroup 13 = .ok (.if_icmp .ge 66, 3) := by decide +kernel
theorem dX3_writeGroup_16 : decode cX3_writeGroup 16 = .ok (.lload 4, 2) := by decide +kernel
theorem dX3_writeGroup_18 : decode cX3_writeGroup 18 = .ok (.aload_n 1, 1) := by decide +kernel
theorem dX3_writeGroup_19 : decode cX3_writeGroup 19 = .ok (.iload_n 2, 1) := by decide +kernel
theorem dX3_writeGroup_20 : decode cX3_writeGroup 20 = .ok (.iload 7, 2) := by decide +kernel
theorem dX3_writeGroup_22 : decode cX3_writeGroup 22 = .ok (.iadd, 1) := by decide +kernel
