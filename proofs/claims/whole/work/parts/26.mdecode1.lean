theorem dX5_end_26 : decode cX5_end 26 = .ok (.aload_n 0, 1) := by decide +kernel
theorem dX5_end_27 : decode cX5_end 27 = .ok (.getfield 19, 3) := by decide +kernel
theorem dX5_end_30 : decode cX5_end 30 = .ok (.iload_n 2, 1) := by decide +kernel
theorem dX5_end_31 : decode cX5_end 31 = .ok (.aload_n 0, 1) := by decide +kernel
theorem dX5_end_32 : decode cX5_end 32 = .ok (.getfield 16, 3) := by decide +kernel
theorem dX5_end_35 : decode cX5_end 35 = .ok (.iload_n 2, 1) := by decide +kernel
theorem dX5_end_36 : decode cX5_end 36 = .ok (.iaload, 1) := by decide +kernel
theorem dX5_end_37 : decode cX5_end 37 = .ok (.iastore, 1) := by decide +kernel
theorem dX5_end_38 : decode cX5_end 38 = .ok (.iinc 2 1, 3) := by decide +kernel
theorem dX5_end_41 : decode cX5_end 41 = .ok (.goto (-20), 3) := by decide +kernel
theorem dX5_end_44 : decode cX5_end 44 = .ok (.aload_n 0, 1) := by decide +kernel
theorem dX5_end_45 : decode cX5_end 45 = .ok (.iload_n 1, 1) := by decide +kernel
theorem dX5_end_46 : decode cX5_end 46 = .ok (.putfield 47, 3) := by decide +kernel
theorem dX5_end_49 : decode cX5_end 49 = .ok (.aload_n 0, 1) := by decide +kernel
theorem dX5_end_50 : decode cX5_end 50 = .ok (.iconst 0, 1) := by decide +kernel
theorem dX5_end_51 : decode cX5_end 51 = .ok (.putfield 44, 3) := by decide +kernel
theorem dX5_end_54 : decode cX5_end 54 = .ok (.iconst 1, 1) := by decide +kernel
theorem dX5_end_55 : decode cX5_end 55 = .ok (.ireturn, 1) := by decide +kernel
theorem dX5_width_0 : decode cX5_width 0 = .ok (.aload_n 0, 1) := by decide +kernel
theorem dX5_width_1 : decode cX5_width 1 = .ok (.iconst 0, 1) := by decide +kernel
theorem dX5_width_2 : decode cX5_width 2 = .ok (.putfield 25, 3) := by decide +kernel
theorem dX5_width_5 : decode cX5_width 5 = .ok (.iload_n 1, 1) := by decide +kernel
theorem dX5_width_6 : decode cX5_width 6 = .ok (.ifCond .lt 9, 3) := by decide +kernel
theorem dX5_width_9 : decode cX5_width 9 = .ok (.iload_n 1, 1) := by decide +kernel
theorem dX5_width_10 : decode cX5_width 10 = .ok (.bipush 32, 2) := by decide +kernel
theorem dX5_width_12 : decode cX5_width 12 = .ok (.if_icmp .le 5, 3) := by decide +kernel
theorem dX5_width_15 : decode cX5_width 15 = .ok (.iconst 0, 1) := by decide +kernel
theorem dX5_width_16 : decode cX5_width 16 = .ok (.ireturn, 1) := by decide +kernel
theorem dX5_width_17 : decode cX5_width 17 = .ok (.aload_n 0, 1) := by decide +kernel
theorem dX5_width_18 : decode cX5_width 18 = .ok (.iload_n 1, 1) := by decide +kernel
theorem dX5_width_19 : decode cX5_width 19 = .ok (.putfield 50, 3) := by decide +kernel
theorem dX5_width_22 : decode cX5_width 22 = .ok (.iconst 1, 1) := by decide +kernel
theorem dX5_width_23 : decode cX5_width 23 = .ok (.ireturn, 1) := by decide +kernel
theorem dX5_add_0 : decode cX5_add 0 = .ok (.aload_n 0, 1) := by decide +kernel
theorem dX5_add_1 : decode cX5_add 1 = .ok (.iconst 0, 1) := by decide +kernel
theorem dX5_add_2 : decode cX5_add 2 = .ok (.putfield 25, 3) := by decide +kernel
theorem dX5_add_5 : decode cX5_add 5 = .ok (.iload_n 2, 1) := by decide +kernel
theorem dX5_add_6 : decode cX5_add 6 = .ok (.iconst 1, 1) := by decide +kernel
theorem dX5_add_7 : decode cX5_add 7 = .ok (.if_icmp .lt 22, 3) := by decide +kernel
theorem dX5_add_10 : decode cX5_add 10 = .ok (.iload_n 2, 1) := by decide +kernel
theorem dX5_add_11 : decode cX5_add 11 = .ok (.sipush 4096, 3) := by decide +kernel
theorem dX5_add_14 : decode cX5_add 14 = .ok (.if_icmp .gt 15, 3) := by decide +kernel
theorem dX5_add_17 : decode cX5_add 17 = .ok (.aload_n 0, 1) := by decide +kernel
theorem dX5_add_18 : decode cX5_add 18 = .ok (.getfield 53, 3) := by decide +kernel
theorem dX5_add_21 : decode cX5_add 21 = .ok (.iload_n 2, 1) := by decide +kernel
theorem dX5_add_22 : decode cX5_add 22 = .ok (.iadd, 1) := by decide +kernel
theorem dX5_add_23 : decode cX5_add 23 = .ok (.sipush 4096, 3) := by decide +kernel
theorem dX5_add_26 : decode cX5_add 26 = .ok (.if_icmp .le 5, 3) := by decide +kernel
theorem dX5_add_29 : decode cX5_add 29 = .ok (.iconst 0, 1) := by decide +kernel
theorem dX5_add_30 : decode cX5_add 30 = .ok (.ireturn, 1) := by decide +kernel
theorem dX5_add_31 : decode cX5_add 31 = .ok (.iconst 0, 1) := by decide +kernel
theorem dX5_add_32 : decode cX5_add 32 = .ok (.istore_n 3, 1) := by decide +kernel
theorem dX5_add_33 : decode cX5_add 33 = .ok (.iload_n 3, 1) := by decide +kernel
theorem dX5_add_34 : decode cX5_add 34 = .ok (.iload_n 2, 1) := by decide +kernel
theorem dX5_add_35 : decode cX5_add 35 = .ok (.if_icmp .ge 21, 3) := by decide +kernel
theorem dX5_add_38 : decode cX5_add 38 = .ok (.aload_n 0, 1) := by decide +kernel
theorem dX5_add_39 : decode cX5_add 39 = .ok (.getfield 7, 3) := by decide +kernel
theorem dX5_add_42 : decode cX5_add 42 = .ok (.aload_n 0, 1) := by decide +kernel
theorem dX5_add_43 : decode cX5_add 43 = .ok (.getfield 53, 3) := by decide +kernel
theorem dX5_add_46 : decode cX5_add 46 = .ok (.iload_n 3, 1) := by decide +kernel
theorem dX5_add_47 : decode cX5_add 47 = .ok (.iadd, 1) := by decide +kernel
theorem dX5_add_48 : decode cX5_add 48 = .ok (.iload_n 1, 1) := by decide +kernel
theorem dX5_add_49 : decode cX5_add 49 = .ok (.iastore, 1) := by decide +kernel
theorem dX5_add_50 : decode cX5_add 50 = .ok (.iinc 3 1, 3) := by decide +kernel
theorem dX5_add_53 : decode cX5_add 53 = .ok (.goto (-20), 3) := by decide +kernel
theorem dX5_add_56 : decode cX5_add 56 = .ok (.aload_n 0, 1) := by decide +kernel
theorem dX5_add_57 : decode cX5_add 57 = .ok (.dup, 1) := by decide +kernel
theorem dX5_add_58 : decode cX5_add 58 = .ok (.getfield 53, 3) := by decide +kernel
theorem dX5_add_61 : decode cX5_add 61 = .ok (.iload_n 2, 1) := by decide +kernel
theorem dX5_add_62 : decode cX5_add 62 = .ok (.iadd, 1) := by decide +kernel
theorem dX5_add_63 : decode cX5_add 63 = .ok (.putfield 53, 3) := by decide +kernel
theorem dX5_add_66 : decode cX5_add 66 = .ok (.iconst 1, 1) := by decide +kernel
theorem dX5_add_67 : decode cX5_add 67 = .ok (.ireturn, 1) := by decide +kernel
theorem dX5_clear_0 : decode cX5_clear 0 = .ok (.aload_n 0, 1) := by decide +kernel
theorem dX5_clear_1 : decode cX5_clear 1 = .ok (.iconst 0, 1) := by decide +kernel
theorem dX5_clear_2 : decode cX5_clear 2 = .ok (.putfield 25, 3) := by decide +kernel
theorem dX5_clear_5 : decode cX5_clear 5 = .ok (.aload_n 0, 1) := by decide +kernel
theorem dX5_clear_6 : decode cX5_clear 6 = .ok (.iconst 0, 1) := by decide +kernel
theorem dX5_clear_7 : decode cX5_clear 7 = .ok (.putfield 53, 3) := by decide +kernel
theorem dX5_clear_10 : decode cX5_clear 10 = .ok (.return_, 1) := by decide +kernel
theorem dX5_size_0 : decode cX5_size 0 = .ok (.aload_n 0, 1) := by decide +kernel
theorem dX5_size_1 : decode cX5_size 1 = .ok (.iconst 0, 1) := by decide +kernel
theorem dX5_size_2 : decode cX5_size 2 = .ok (.putfield 25, 3) := by decide +kernel
theorem dX5_size_5 : decode cX5_size 5 = .ok (.aload_n 0, 1) := by decide +kernel
theorem dX5_size_6 : decode cX5_size 6 = .ok (.getfield 53, 3) := by decide +kernel
theorem dX5_size_9 : decode cX5_size 9 = .ok (.ireturn, 1) := by decide +kernel
theorem dX5_value_0 : decode cX5_value 0 = .ok (.aload_n 0, 1) := by decide +kernel
theorem dX5_value_1 : decode cX5_value 1 = .ok (.iconst 0, 1) := by decide +kernel
theorem dX5_value_2 : decode cX5_value 2 = .ok (.putfield 25, 3) := by decide +kernel
theorem dX5_value_5 : decode cX5_value 5 = .ok (.iload_n 1, 1) := by decide +kernel
theorem dX5_value_6 : decode cX5_value 6 = .ok (.ifCond .lt 11, 3) := by decide +kernel
theorem dX5_value_9 : decode cX5_value 9 = .ok (.iload_n 1, 1) := by decide +kernel
theorem dX5_value_10 : decode cX5_value 10 = .ok (.aload_n 0, 1) := by decide +kernel
theorem dX5_value_11 : decode cX5_value 11 = .ok (.getfield 53, 3) := by decide +kernel
theorem dX5_value_14 : decode cX5_value 14 = .ok (.if_icmp .lt 7, 3) := by decide +kernel
theorem dX5_value_17 : decode cX5_value 17 = .ok (.iconst 0, 1) := by decide +kernel
theorem dX5_value_18 : decode cX5_value 18 = .ok (.goto 9, 3) := by decide +kernel
theorem dX5_value_21 : decode cX5_value 21 = .ok (.aload_n 0, 1) := by decide +kernel
theorem dX5_value_22 : decode cX5_value 22 = .ok (.getfield 7, 3) := by decide +kernel
theorem dX5_value_25 : decode cX5_value 25 = .ok (.iload_n 1, 1) := by decide +kernel
theorem dX5_value_26 : decode cX5_value 26 = .ok (.iaload, 1) := by decide +kernel
theorem dX5_value_27 : decode cX5_value 27 = .ok (.ireturn, 1) := by decide +kernel
theorem dX5_output_0 : decode cX5_output 0 = .ok (.aload_n 0, 1) := by decide +kernel
theorem dX5_output_1 : decode cX5_output 1 = .ok (.iconst 0, 1) := by decide +kernel
theorem dX5_output_2 : decode cX5_output 2 = .ok (.putfield 25, 3) := by decide +kernel
theorem dX5_output_5 : decode cX5_output 5 = .ok (.iload_n 1, 1) := by decide +kernel
theorem dX5_output_6 : decode cX5_output 6 = .ok (.ifCond .lt 11, 3) := by decide +kernel
theorem dX5_output_9 : decode cX5_output 9 = .ok (.iload_n 1, 1) := by decide +kernel
theorem dX5_output_10 : decode cX5_output 10 = .ok (.aload_n 0, 1) := by decide +kernel
theorem dX5_output_11 : decode cX5_output 11 = .ok (.getfield 29, 3) := by decide +kernel
theorem dX5_output_14 : decode cX5_output 14 = .ok (.if_icmp .lt 7, 3) := by decide +kernel
theorem dX5_output_17 : decode cX5_output 17 = .ok (.iconst (-1), 1) := by decide +kernel
theorem dX5_output_18 : decode cX5_output 18 = .ok (.goto 9, 3) := by decide +kernel
theorem dX5_output_21 : decode cX5_output 21 = .ok (.aload_n 0, 1) := by decide +kernel
theorem dX5_output_22 : decode cX5_output 22 = .ok (.getfield 22, 3) := by decide +kernel
theorem dX5_output_25 : decode cX5_output 25 = .ok (.iload_n 1, 1) := by decide +kernel
theorem dX5_output_26 : decode cX5_output 26 = .ok (.iaload, 1) := by decide +kernel
theorem dX5_output_27 : decode cX5_output 27 = .ok (.ireturn, 1) := by decide +kernel
theorem dX5_turn_0 : decode cX5_turn 0 = .ok (.aload_n 0, 1) := by decide +kernel
theorem dX5_turn_1 : decode cX5_turn 1 = .ok (.iconst 0, 1) := by decide +kernel
theorem dX5_turn_2 : decode cX5_turn 2 = .ok (.putfield 25, 3) := by decide +kernel
theorem dX5_turn_5 : decode cX5_turn 5 = .ok (.aload_n 0, 1) := by decide +kernel
theorem dX5_turn_6 : decode cX5_turn 6 = .ok (.getfield 29, 3) := by decide +kernel
theorem dX5_turn_9 : decode cX5_turn 9 = .ok (.sipush 8192, 3) := by decide +kernel
theorem dX5_turn_12 : decode cX5_turn 12 = .ok (.if_icmp .le 5, 3) := by decide +kernel
theorem dX5_turn_15 : decode cX5_turn 15 = .ok (.iconst 0, 1) := by decide +kernel
theorem dX5_turn_16 : decode cX5_turn 16 = .ok (.ireturn, 1) := by decide +kernel
theorem dX5_turn_17 : decode cX5_turn 17 = .ok (.iconst 0, 1) := by decide +kernel
theorem dX5_turn_18 : decode cX5_turn 18 = .ok (.istore_n 1, 1) := by decide +kernel
theorem dX5_turn_19 : decode cX5_turn 19 = .ok (.iload_n 1, 1) := by decide +kernel
theorem dX5_turn_20 : decode cX5_turn 20 = .ok (.aload_n 0, 1) := by decide +kernel
theorem dX5_turn_21 : decode cX5_turn 21 = .ok (.getfield 29, 3) := by decide +kernel
theorem dX5_turn_24 : decode cX5_turn 24 = .ok (.if_icmp .ge 21, 3) := by decide +kernel
theorem dX5_turn_27 : decode cX5_turn 27 = .ok (.aload_n 0, 1) := by decide +kernel
theorem dX5_turn_28 : decode cX5_turn 28 = .ok (.getfield 19, 3) := by decide +kernel
theorem dX5_turn_31 : decode cX5_turn 31 = .ok (.iload_n 1, 1) := by decide +kernel
theorem dX5_turn_32 : decode cX5_turn 32 = .ok (.aload_n 0, 1) := by decide +kernel
theorem dX5_turn_33 : decode cX5_turn 33 = .ok (.getfield 22, 3) := by decide +kernel
theorem dX5_turn_36 : decode cX5_turn 36 = .ok (.iload_n 1, 1) := by decide +kernel
theorem dX5_turn_37 : decode cX5_turn 37 = .ok (.iaload, 1) := by decide +kernel
theorem dX5_turn_38 : decode cX5_turn 38 = .ok (.iastore, 1) := by decide +kernel
theorem dX5_turn_39 : decode cX5_turn 39 = .ok (.iinc 1 1, 3) := by decide +kernel
theorem dX5_turn_42 : decode cX5_turn 42 = .ok (.goto (-23), 3) := by decide +kernel
theorem dX5_turn_45 : decode cX5_turn 45 = .ok (.aload_n 0, 1) := by decide +kernel
theorem dX5_turn_46 : decode cX5_turn 46 = .ok (.aload_n 0, 1) := by decide +kernel
theorem dX5_turn_47 : decode cX5_turn 47 = .ok (.getfield 29, 3) := by decide +kernel
theorem dX5_turn_50 : decode cX5_turn 50 = .ok (.putfield 47, 3) := by decide +kernel
theorem dX5_turn_53 : decode cX5_turn 53 = .ok (.iconst 1, 1) := by decide +kernel
theorem dX5_turn_54 : decode cX5_turn 54 = .ok (.ireturn, 1) := by decide +kernel
theorem dX5_encode_0 : decode cX5_encode 0 = .ok (.aload_n 0, 1) := by decide +kernel
theorem dX5_encode_1 : decode cX5_encode 1 = .ok (.iconst 0, 1) := by decide +kernel
theorem dX5_encode_2 : decode cX5_encode 2 = .ok (.putfield 25, 3) := by decide +kernel
theorem dX5_encode_5 : decode cX5_encode 5 = .ok (.aload_n 0, 1) := by decide +kernel
theorem dX5_encode_6 : decode cX5_encode 6 = .ok (.iconst 0, 1) := by decide +kernel
theorem dX5_encode_7 : decode cX5_encode 7 = .ok (.putfield 29, 3) := by decide +kernel
theorem dX5_encode_10 : decode cX5_encode 10 = .ok (.iconst 0, 1) := by decide +kernel
theorem dX5_encode_11 : decode cX5_encode 11 = .ok (.istore_n 1, 1) := by decide +kernel
theorem dX5_encode_12 : decode cX5_encode 12 = .ok (.iload_n 1, 1) := by decide +kernel
theorem dX5_encode_13 : decode cX5_encode 13 = .ok (.aload_n 0, 1) := by decide +kernel
theorem dX5_encode_14 : decode cX5_encode 14 = .ok (.getfield 53, 3) := by decide +kernel
theorem dX5_encode_17 : decode cX5_encode 17 = .ok (.if_icmp .ge 34, 3) := by decide +kernel
theorem dX5_encode_20 : decode cX5_encode 20 = .ok (.aload_n 0, 1) := by decide +kernel
theorem dX5_encode_21 : decode cX5_encode 21 = .ok (.getfield 50, 3) := by decide +kernel
theorem dX5_encode_24 : decode cX5_encode 24 = .ok (.bipush 32, 2) := by decide +kernel
theorem dX5_encode_26 : decode cX5_encode 26 = .ok (.if_icmp .ge 19, 3) := by decide +kernel
theorem dX5_encode_29 : decode cX5_encode 29 = .ok (.aload_n 0, 1) := by decide +kernel
theorem dX5_encode_30 : decode cX5_encode 30 = .ok (.getfield 7, 3) := by decide +kernel
theorem dX5_encode_33 : decode cX5_encode 33 = .ok (.iload_n 1, 1) := by decide +kernel
theorem dX5_encode_34 : decode cX5_encode 34 = .ok (.iaload, 1) := by decide +kernel
theorem dX5_encode_35 : decode cX5_encode 35 = .ok (.aload_n 0, 1) := by decide +kernel
theorem dX5_encode_36 : decode cX5_encode 36 = .ok (.getfield 50, 3) := by decide +kernel
theorem dX5_encode_39 : decode cX5_encode 39 = .ok (.iushr, 1) := by decide +kernel
theorem dX5_encode_40 : decode cX5_encode 40 = .ok (.ifCond .eq 5, 3) := by decide +kernel
theorem dX5_encode_43 : decode cX5_encode 43 = .ok (.iconst (-1), 1) := by decide +kernel
theorem dX5_encode_44 : decode cX5_encode 44 = .ok (.ireturn, 1) := by decide +kernel
theorem dX5_encode_45 : decode cX5_encode 45 = .ok (.iinc 1 1, 3) := by decide +kernel
theorem dX5_encode_48 : decode cX5_encode 48 = .ok (.goto (-36), 3) := by decide +kernel
theorem dX5_encode_51 : decode cX5_encode 51 = .ok (.aload_n 0, 1) := by decide +kernel
theorem dX5_encode_52 : decode cX5_encode 52 = .ok (.aload_n 0, 1) := by decide +kernel
theorem dX5_encode_53 : decode cX5_encode 53 = .ok (.getfield 7, 3) := by decide +kernel
theorem dX5_encode_56 : decode cX5_encode 56 = .ok (.aload_n 0, 1) := by decide +kernel
theorem dX5_encode_57 : decode cX5_encode 57 = .ok (.getfield 53, 3) := by decide +kernel
theorem dX5_encode_60 : decode cX5_encode 60 = .ok (.aload_n 0, 1) := by decide +kernel
theorem dX5_encode_61 : decode cX5_encode 61 = .ok (.getfield 50, 3) := by decide +kernel
theorem dX5_encode_64 : decode cX5_encode 64 = .ok (.invokevirtual 83, 3) := by decide +kernel
theorem dX5_encode_67 : decode cX5_encode 67 = .ok (.aload_n 0, 1) := by decide +kernel
theorem dX5_encode_68 : decode cX5_encode 68 = .ok (.getfield 29, 3) := by decide +kernel
theorem dX5_encode_71 : decode cX5_encode 71 = .ok (.ireturn, 1) := by decide +kernel
theorem dX5_init_0 : decode cX5_init 0 = .ok (.aload_n 0, 1) := by decide +kernel
theorem dX5_init_1 : decode cX5_init 1 = .ok (.invokespecial 1, 3) := by decide +kernel
theorem dX5_init_4 : decode cX5_init 4 = .ok (.aload_n 0, 1) := by decide +kernel
theorem dX5_init_5 : decode cX5_init 5 = .ok (.sipush 4096, 3) := by decide +kernel
theorem dX5_init_8 : decode cX5_init 8 = .ok (.newarray .int, 2) := by decide +kernel
theorem dX5_init_10 : decode cX5_init 10 = .ok (.putfield 7, 3) := by decide +kernel
theorem dX5_init_13 : decode cX5_init 13 = .ok (.aload_n 0, 1) := by decide +kernel
theorem dX5_init_14 : decode cX5_init 14 = .ok (.sipush 4104, 3) := by decide +kernel
theorem dX5_init_17 : decode cX5_init 17 = .ok (.newarray .int, 2) := by decide +kernel
theorem dX5_init_19 : decode cX5_init 19 = .ok (.putfield 13, 3) := by decide +kernel
theorem dX5_init_22 : decode cX5_init 22 = .ok (.aload_n 0, 1) := by decide +kernel
theorem dX5_init_23 : decode cX5_init 23 = .ok (.sipush 8192, 3) := by decide +kernel
