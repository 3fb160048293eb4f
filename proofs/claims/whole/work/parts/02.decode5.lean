theorem dX4_feed_47 : decode cX4_feed 47 = .ok (.aload_n 0, 1) := by decide +kernel
theorem dX4_feed_48 : decode cX4_feed 48 = .ok (.getfield 14, 3) := by decide +kernel
theorem dX4_feed_51 : decode cX4_feed 51 = .ok (.iload 5, 2) := by decide +kernel
theorem dX4_feed_53 : decode cX4_feed 53 = .ok (.invokevirtual 62, 3) := by decide +kernel
theorem dX4_feed_56 : decode cX4_feed 56 = .ok (.iconst 1, 1) := by decide +kernel
theorem dX4_feed_57 : decode cX4_feed 57 = .ok (.ireturn, 1) := by decide +kernel
theorem dX4_end_0 : decode cX4_end 0 = .ok (.aload_n 0, 1) := by decide +kernel
theorem dX4_end_1 : decode cX4_end 1 = .ok (.getfield 41, 3) := by decide +kernel
theorem dX4_end_4 : decode cX4_end 4 = .ok (.aload_n 0, 1) := by decide +kernel
theorem dX4_end_5 : decode cX4_end 5 = .ok (.getfield 14, 3) := by decide +kernel
theorem dX4_end_8 : decode cX4_end 8 = .ok (.iload_n 1, 1) := by decide +kernel
theorem dX4_end_9 : decode cX4_end 9 = .ok (.invokevirtual 65, 3) := by decide +kernel
theorem dX4_end_12 : decode cX4_end 12 = .ok (.ifCond .ne 5, 3) := by decide +kernel
theorem dX4_end_15 : decode cX4_end 15 = .ok (.iconst 0, 1) := by decide +kernel
theorem dX4_end_16 : decode cX4_end 16 = .ok (.ireturn, 1) := by decide +kernel
theorem dX4_end_17 : decode cX4_end 17 = .ok (.aload_n 0, 1) := by decide +kernel
theorem dX4_end_18 : decode cX4_end 18 = .ok (.getfield 14, 3) := by decide +kernel
theorem dX4_end_21 : decode cX4_end 21 = .ok (.invokevirtual 69, 3) := by decide +kernel
theorem dX4_end_24 : decode cX4_end 24 = .ok (.iconst 1, 1) := by decide +kernel
theorem dX4_end_25 : decode cX4_end 25 = .ok (.ireturn, 1) := by decide +kernel
theorem dX4_width_0 : decode cX4_width 0 = .ok (.iload_n 1, 1) := by decide +kernel
theorem dX4_width_1 : decode cX4_width 1 = .ok (.ifCond .lt 9, 3) := by decide +kernel
theorem dX4_width_4 : decode cX4_width 4 = .ok (.iload_n 1, 1) := by decide +kernel
theorem dX4_width_5 : decode cX4_width 5 = .ok (.bipush 32, 2) := by decide +kernel
theorem dX4_width_7 : decode cX4_width 7 = .ok (.if_icmp .le 5, 3) := by decide +kernel
theorem dX4_width_10 : decode cX4_width 10 = .ok (.iconst 0, 1) := by decide +kernel
theorem dX4_width_11 : decode cX4_width 11 = .ok (.ireturn, 1) := by decide +kernel
theorem dX4_width_12 : decode cX4_width 12 = .ok (.aload_n 0, 1) := by decide +kernel
theorem dX4_width_13 : decode cX4_width 13 = .ok (.iload_n 1, 1) := by decide +kernel
theorem dX4_width_14 : decode cX4_width 14 = .ok (.putfield 54, 3) := by decide +kernel
theorem dX4_width_17 : decode cX4_width 17 = .ok (.iconst 1, 1) := by decide +kernel
theorem dX4_width_18 : decode cX4_width 18 = .ok (.ireturn, 1) := by decide +kernel
theorem dX4_add_0 : decode cX4_add 0 = .ok (.aload_n 0, 1) := by decide +kernel
theorem dX4_add_1 : decode cX4_add 1 = .ok (.getfield 47, 3) := by decide +kernel
theorem dX4_add_4 : decode cX4_add 4 = .ok (.iload_n 1, 1) := by decide +kernel
theorem dX4_add_5 : decode cX4_add 5 = .ok (.iload_n 2, 1) := by decide +kernel
theorem dX4_add_6 : decode cX4_add 6 = .ok (.invokevirtual 72, 3) := by decide +kernel
theorem dX4_add_9 : decode cX4_add 9 = .ok (.ireturn, 1) := by decide +kernel
theorem dX4_clear_0 : decode cX4_clear 0 = .ok (.aload_n 0, 1) := by decide +kernel
theorem dX4_clear_1 : decode cX4_clear 1 = .ok (.getfield 47, 3) := by decide +kernel
theorem dX4_clear_4 : decode cX4_clear 4 = .ok (.invokevirtual 76, 3) := by decide +kernel
theorem dX4_clear_7 : decode cX4_clear 7 = .ok (.return_, 1) := by decide +kernel
theorem dX4_size_0 : decode cX4_size 0 = .ok (.aload_n 0, 1) := by decide +kernel
theorem dX4_size_1 : decode cX4_size 1 = .ok (.getfield 47, 3) := by decide +kernel
theorem dX4_size_4 : decode cX4_size 4 = .ok (.invokevirtual 95, 3) := by decide +kernel
theorem dX4_size_7 : decode cX4_size 7 = .ok (.ireturn, 1) := by decide +kernel
theorem dX4_value_0 : decode cX4_value 0 = .ok (.aload_n 0, 1) := by decide +kernel
theorem dX4_value_1 : decode cX4_value 1 = .ok (.getfield 47, 3) := by decide +kernel
theorem dX4_value_4 : decode cX4_value 4 = .ok (.iload_n 1, 1) := by decide +kernel
theorem dX4_value_5 : decode cX4_value 5 = .ok (.invokevirtual 96, 3) := by decide +kernel
theorem dX4_value_8 : decode cX4_value 8 = .ok (.ireturn, 1) := by decide +kernel
theorem dX4_output_0 : decode cX4_output 0 = .ok (.aload_n 0, 1) := by decide +kernel
theorem dX4_output_1 : decode cX4_output 1 = .ok (.getfield 35, 3) := by decide +kernel
theorem dX4_output_4 : decode cX4_output 4 = .ok (.iload_n 1, 1) := by decide +kernel
theorem dX4_output_5 : decode cX4_output 5 = .ok (.invokevirtual 100, 3) := by decide +kernel
theorem dX4_output_8 : decode cX4_output 8 = .ok (.ireturn, 1) := by decide +kernel
theorem dX4_turn_0 : decode cX4_turn 0 = .ok (.aload_n 0, 1) := by decide +kernel
theorem dX4_turn_1 : decode cX4_turn 1 = .ok (.getfield 41, 3) := by decide +kernel
theorem dX4_turn_4 : decode cX4_turn 4 = .ok (.aload_n 0, 1) := by decide +kernel
theorem dX4_turn_5 : decode cX4_turn 5 = .ok (.getfield 35, 3) := by decide +kernel
theorem dX4_turn_8 : decode cX4_turn 8 = .ok (.aload_n 0, 1) := by decide +kernel
theorem dX4_turn_9 : decode cX4_turn 9 = .ok (.getfield 35, 3) := by decide +kernel
theorem dX4_turn_12 : decode cX4_turn 12 = .ok (.invokevirtual 85, 3) := by decide +kernel
theorem dX4_turn_15 : decode cX4_turn 15 = .ok (.invokevirtual 65, 3) := by decide +kernel
theorem dX4_turn_18 : decode cX4_turn 18 = .ok (.ireturn, 1) := by decide +kernel
theorem dX4_encode_0 : decode cX4_encode 0 = .ok (.aload_n 0, 1) := by decide +kernel
theorem dX4_encode_1 : decode cX4_encode 1 = .ok (.getfield 35, 3) := by decide +kernel
theorem dX4_encode_4 : decode cX4_encode 4 = .ok (.invokevirtual 69, 3) := by decide +kernel
theorem dX4_encode_7 : decode cX4_encode 7 = .ok (.aload_n 0, 1) := by decide +kernel
theorem dX4_encode_8 : decode cX4_encode 8 = .ok (.getfield 47, 3) := by decide +kernel
theorem dX4_encode_11 : decode cX4_encode 11 = .ok (.aload_n 0, 1) := by decide +kernel
theorem dX4_encode_12 : decode cX4_encode 12 = .ok (.getfield 54, 3) := by decide +kernel
theorem dX4_encode_15 : decode cX4_encode 15 = .ok (.invokevirtual 77, 3) := by decide +kernel
theorem dX4_encode_18 : decode cX4_encode 18 = .ok (.ifCond .ne 5, 3) := by decide +kernel
theorem dX4_encode_21 : decode cX4_encode 21 = .ok (.iconst (-1), 1) := by decide +kernel
theorem dX4_encode_22 : decode cX4_encode 22 = .ok (.ireturn, 1) := by decide +kernel
theorem dX4_encode_23 : decode cX4_encode 23 = .ok (.aload_n 0, 1) := by decide +kernel
theorem dX4_encode_24 : decode cX4_encode 24 = .ok (.getfield 21, 3) := by decide +kernel
theorem dX4_encode_27 : decode cX4_encode 27 = .ok (.aload_n 0, 1) := by decide +kernel
theorem dX4_encode_28 : decode cX4_encode 28 = .ok (.getfield 47, 3) := by decide +kernel
theorem dX4_encode_31 : decode cX4_encode 31 = .ok (.aload_n 0, 1) := by decide +kernel
theorem dX4_encode_32 : decode cX4_encode 32 = .ok (.getfield 54, 3) := by decide +kernel
theorem dX4_encode_35 : decode cX4_encode 35 = .ok (.invokevirtual 81, 3) := by decide +kernel
theorem dX4_encode_38 : decode cX4_encode 38 = .ok (.aload_n 0, 1) := by decide +kernel
theorem dX4_encode_39 : decode cX4_encode 39 = .ok (.getfield 35, 3) := by decide +kernel
theorem dX4_encode_42 : decode cX4_encode 42 = .ok (.invokevirtual 85, 3) := by decide +kernel
theorem dX4_encode_45 : decode cX4_encode 45 = .ok (.ireturn, 1) := by decide +kernel
theorem dX4_exchangeRows_0 : decode cX4_exchangeRows 0 = .ok (.aload_n 0, 1) := by decide +kernel
theorem dX4_exchangeRows_1 : decode cX4_exchangeRows 1 = .ok (.getfield 51, 3) := by decide +kernel
theorem dX4_exchangeRows_4 : decode cX4_exchangeRows 4 = .ok (.astore_n 1, 1) := by decide +kernel
theorem dX4_exchangeRows_5 : decode cX4_exchangeRows 5 = .ok (.aload_n 0, 1) := by decide +kernel
theorem dX4_exchangeRows_6 : decode cX4_exchangeRows 6 = .ok (.aload_n 0, 1) := by decide +kernel
theorem dX4_exchangeRows_7 : decode cX4_exchangeRows 7 = .ok (.getfield 47, 3) := by decide +kernel
theorem dX4_exchangeRows_10 : decode cX4_exchangeRows 10 = .ok (.putfield 51, 3) := by decide +kernel
theorem dX4_exchangeRows_13 : decode cX4_exchangeRows 13 = .ok (.aload_n 0, 1) := by decide +kernel
theorem dX4_exchangeRows_14 : decode cX4_exchangeRows 14 = .ok (.aload_n 1, 1) := by decide +kernel
theorem dX4_exchangeRows_15 : decode cX4_exchangeRows 15 = .ok (.putfield 47, 3) := by decide +kernel
theorem dX4_exchangeRows_18 : decode cX4_exchangeRows 18 = .ok (.return_, 1) := by decide +kernel
theorem dX4_decode_0 : decode cX4_decode 0 = .ok (.iload_n 1, 1) := by decide +kernel
theorem dX4_decode_1 : decode cX4_decode 1 = .ok (.ifCond .lt 10, 3) := by decide +kernel
theorem dX4_decode_4 : decode cX4_decode 4 = .ok (.iload_n 1, 1) := by decide +kernel
theorem dX4_decode_5 : decode cX4_decode 5 = .ok (.sipush 4096, 3) := by decide +kernel
theorem dX4_decode_8 : decode cX4_decode 8 = .ok (.if_icmp .le 5, 3) := by decide +kernel
theorem dX4_decode_11 : decode cX4_decode 11 = .ok (.iconst (-1), 1) := by decide +kernel
theorem dX4_decode_12 : decode cX4_decode 12 = .ok (.ireturn, 1) := by decide +kernel
theorem dX4_decode_13 : decode cX4_decode 13 = .ok (.aload_n 0, 1) := by decide +kernel
theorem dX4_decode_14 : decode cX4_decode 14 = .ok (.getfield 28, 3) := by decide +kernel
theorem dX4_decode_17 : decode cX4_decode 17 = .ok (.aload_n 0, 1) := by decide +kernel
theorem dX4_decode_18 : decode cX4_decode 18 = .ok (.getfield 51, 3) := by decide +kernel
theorem dX4_decode_21 : decode cX4_decode 21 = .ok (.aload_n 0, 1) := by decide +kernel
theorem dX4_decode_22 : decode cX4_decode 22 = .ok (.getfield 54, 3) := by decide +kernel
theorem dX4_decode_25 : decode cX4_decode 25 = .ok (.iload_n 1, 1) := by decide +kernel
theorem dX4_decode_26 : decode cX4_decode 26 = .ok (.invokevirtual 88, 3) := by decide +kernel
theorem dX4_decode_29 : decode cX4_decode 29 = .ok (.istore_n 2, 1) := by decide +kernel
theorem dX4_decode_30 : decode cX4_decode 30 = .ok (.iload_n 2, 1) := by decide +kernel
theorem dX4_decode_31 : decode cX4_decode 31 = .ok (.ifCond .ne 7, 3) := by decide +kernel
theorem dX4_decode_34 : decode cX4_decode 34 = .ok (.aload_n 0, 1) := by decide +kernel
theorem dX4_decode_35 : decode cX4_decode 35 = .ok (.invokevirtual 92, 3) := by decide +kernel
theorem dX4_decode_38 : decode cX4_decode 38 = .ok (.iload_n 2, 1) := by decide +kernel
theorem dX4_decode_39 : decode cX4_decode 39 = .ok (.ireturn, 1) := by decide +kernel
theorem dX0_init_0 : decode cX0_init 0 = .ok (.aload_n 0, 1) := by decide +kernel
theorem dX0_init_1 : decode cX0_init 1 = .ok (.invokespecial 3, 3) := by decide +kernel
theorem dX0_init_4 : decode cX0_init 4 = .ok (.aload_n 0, 1) := by decide +kernel
theorem dX0_init_5 : decode cX0_init 5 = .ok (.iconst 0, 1) := by decide +kernel
theorem dX0_init_6 : decode cX0_init 6 = .ok (.putfield 9, 3) := by decide +kernel
theorem dX0_init_9 : decode cX0_init 9 = .ok (.aload_n 0, 1) := by decide +kernel
theorem dX0_init_10 : decode cX0_init 10 = .ok (.iconst 0, 1) := by decide +kernel
theorem dX0_init_11 : decode cX0_init 11 = .ok (.iload_n 1, 1) := by decide +kernel
theorem dX0_init_12 : decode cX0_init 12 = .ok (.invokestatic 15, 3) := by decide +kernel
theorem dX0_init_15 : decode cX0_init 15 = .ok (.newarray .byte, 2) := by decide +kernel
theorem dX0_init_17 : decode cX0_init 17 = .ok (.putfield 21, 3) := by decide +kernel
theorem dX0_init_20 : decode cX0_init 20 = .ok (.return_, 1) := by decide +kernel
theorem dX2_init_0 : decode cX2_init 0 = .ok (.aload_n 0, 1) := by decide +kernel
theorem dX2_init_1 : decode cX2_init 1 = .ok (.invokespecial 3, 3) := by decide +kernel
theorem dX2_init_4 : decode cX2_init 4 = .ok (.aload_n 0, 1) := by decide +kernel
theorem dX2_init_5 : decode cX2_init 5 = .ok (.sipush 4096, 3) := by decide +kernel
theorem dX2_init_8 : decode cX2_init 8 = .ok (.newarray .int, 2) := by decide +kernel
theorem dX2_init_10 : decode cX2_init 10 = .ok (.putfield 9, 3) := by decide +kernel
theorem dX2_init_13 : decode cX2_init 13 = .ok (.aload_n 0, 1) := by decide +kernel
theorem dX2_init_14 : decode cX2_init 14 = .ok (.iconst 0, 1) := by decide +kernel
theorem dX2_init_15 : decode cX2_init 15 = .ok (.putfield 15, 3) := by decide +kernel
theorem dX2_init_18 : decode cX2_init 18 = .ok (.return_, 1) := by decide +kernel
theorem dX3_init_0 : decode cX3_init 0 = .ok (.aload_n 0, 1) := by decide +kernel
theorem dX3_init_1 : decode cX3_init 1 = .ok (.invokespecial 3, 3) := by decide +kernel
theorem dX3_init_4 : decode cX3_init 4 = .ok (.aload_n 0, 1) := by decide +kernel
theorem dX3_init_5 : decode cX3_init 5 = .ok (.new 9, 3) := by decide +kernel
theorem dX3_init_8 : decode cX3_init 8 = .ok (.dup, 1) := by decide +kernel
theorem dX3_init_9 : decode cX3_init 9 = .ok (.sipush 16386, 3) := by decide +kernel
theorem dX3_init_12 : decode cX3_init 12 = .ok (.invokespecial 11, 3) := by decide +kernel
theorem dX3_init_15 : decode cX3_init 15 = .ok (.putfield 14, 3) := by decide +kernel
