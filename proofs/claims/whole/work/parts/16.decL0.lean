theorem d_L_value_0 : decode c_L_value 0 = .ok (.aload 5, 2) := by decide +kernel
theorem d_L_value_2 : decode c_L_value 2 = .ok (.iconst 0, 1) := by decide +kernel
theorem d_L_value_3 : decode c_L_value 3 = .ok (.aload_n 0, 1) := by decide +kernel
theorem d_L_value_4 : decode c_L_value 4 = .ok (.lload_n 1, 1) := by decide +kernel
theorem d_L_value_5 : decode c_L_value 5 = .ok (.lload_n 3, 1) := by decide +kernel
theorem d_L_value_6 : decode c_L_value 6 = .ok (.invokevirtual 7, 3) := by decide +kernel
theorem d_L_value_9 : decode c_L_value 9 = .ok (.i2l, 1) := by decide +kernel
theorem d_L_value_10 : decode c_L_value 10 = .ok (.lastore, 1) := by decide +kernel
theorem d_L_value_11 : decode c_L_value 11 = .ok (.goto 11, 3) := by decide +kernel
theorem d_L_value_14 : decode c_L_value 14 = .ok (.astore 6, 2) := by decide +kernel
theorem d_L_value_16 : decode c_L_value 16 = .ok (.iconst 1, 1) := by decide +kernel
theorem d_L_value_17 : decode c_L_value 17 = .ok (.ireturn, 1) := by decide +kernel
theorem d_L_value_18 : decode c_L_value 18 = .ok (.astore 6, 2) := by decide +kernel
theorem d_L_value_20 : decode c_L_value 20 = .ok (.iconst 2, 1) := by decide +kernel
theorem d_L_value_21 : decode c_L_value 21 = .ok (.ireturn, 1) := by decide +kernel
theorem d_L_value_22 : decode c_L_value 22 = .ok (.iconst 0, 1) := by decide +kernel
theorem d_L_value_23 : decode c_L_value 23 = .ok (.ireturn, 1) := by decide +kernel
theorem d_L_add_0 : decode c_L_add 0 = .ok (.aload_n 3, 1) := by decide +kernel
theorem d_L_add_1 : decode c_L_add 1 = .ok (.iconst 0, 1) := by decide +kernel
theorem d_L_add_2 : decode c_L_add 2 = .ok (.aload_n 0, 1) := by decide +kernel
theorem d_L_add_3 : decode c_L_add 3 = .ok (.iload_n 1, 1) := by decide +kernel
theorem d_L_add_4 : decode c_L_add 4 = .ok (.iload_n 2, 1) := by decide +kernel
theorem d_L_add_5 : decode c_L_add 5 = .ok (.invokevirtual 17, 3) := by decide +kernel
theorem d_L_add_8 : decode c_L_add 8 = .ok (.i2l, 1) := by decide +kernel
theorem d_L_add_9 : decode c_L_add 9 = .ok (.lastore, 1) := by decide +kernel
theorem d_L_add_10 : decode c_L_add 10 = .ok (.goto 11, 3) := by decide +kernel
theorem d_L_add_13 : decode c_L_add 13 = .ok (.astore 4, 2) := by decide +kernel
theorem d_L_add_15 : decode c_L_add 15 = .ok (.iconst 1, 1) := by decide +kernel
theorem d_L_add_16 : decode c_L_add 16 = .ok (.ireturn, 1) := by decide +kernel
theorem d_L_add_17 : decode c_L_add 17 = .ok (.astore 4, 2) := by decide +kernel
theorem d_L_add_19 : decode c_L_add 19 = .ok (.iconst 2, 1) := by decide +kernel
theorem d_L_add_20 : decode c_L_add 20 = .ok (.ireturn, 1) := by decide +kernel
theorem d_L_add_21 : decode c_L_add 21 = .ok (.iconst 0, 1) := by decide +kernel
theorem d_L_add_22 : decode c_L_add 22 = .ok (.ireturn, 1) := by decide +kernel
theorem d_L_less_0 : decode c_L_less 0 = .ok (.aload_n 3, 1) := by decide +kernel
theorem d_L_less_1 : decode c_L_less 1 = .ok (.iconst 0, 1) := by decide +kernel
theorem d_L_less_2 : decode c_L_less 2 = .ok (.aload_n 0, 1) := by decide +kernel
theorem d_L_less_3 : decode c_L_less 3 = .ok (.iload_n 1, 1) := by decide +kernel
theorem d_L_less_4 : decode c_L_less 4 = .ok (.iload_n 2, 1) := by decide +kernel
theorem d_L_less_5 : decode c_L_less 5 = .ok (.invokevirtual 23, 3) := by decide +kernel
theorem d_L_less_8 : decode c_L_less 8 = .ok (.i2l, 1) := by decide +kernel
theorem d_L_less_9 : decode c_L_less 9 = .ok (.lastore, 1) := by decide +kernel
theorem d_L_less_10 : decode c_L_less 10 = .ok (.goto 11, 3) := by decide +kernel
theorem d_L_less_13 : decode c_L_less 13 = .ok (.astore 4, 2) := by decide +kernel
theorem d_L_less_15 : decode c_L_less 15 = .ok (.iconst 1, 1) := by decide +kernel
theorem d_L_less_16 : decode c_L_less 16 = .ok (.ireturn, 1) := by decide +kernel
theorem d_L_less_17 : decode c_L_less 17 = .ok (.astore 4, 2) := by decide +kernel
theorem d_L_less_19 : decode c_L_less 19 = .ok (.iconst 2, 1) := by decide +kernel
theorem d_L_less_20 : decode c_L_less 20 = .ok (.ireturn, 1) := by decide +kernel
theorem d_L_less_21 : decode c_L_less 21 = .ok (.iconst 0, 1) := by decide +kernel
theorem d_L_less_22 : decode c_L_less 22 = .ok (.ireturn, 1) := by decide +kernel
theorem d_L_times_0 : decode c_L_times 0 = .ok (.aload_n 3, 1) := by decide +kernel
theorem d_L_times_1 : decode c_L_times 1 = .ok (.iconst 0, 1) := by decide +kernel
theorem d_L_times_2 : decode c_L_times 2 = .ok (.aload_n 0, 1) := by decide +kernel
theorem d_L_times_3 : decode c_L_times 3 = .ok (.iload_n 1, 1) := by decide +kernel
theorem d_L_times_4 : decode c_L_times 4 = .ok (.iload_n 2, 1) := by decide +kernel
theorem d_L_times_5 : decode c_L_times 5 = .ok (.invokevirtual 26, 3) := by decide +kernel
theorem d_L_times_8 : decode c_L_times 8 = .ok (.i2l, 1) := by decide +kernel
theorem d_L_times_9 : decode c_L_times 9 = .ok (.lastore, 1) := by decide +kernel
theorem d_L_times_10 : decode c_L_times 10 = .ok (.goto 11, 3) := by decide +kernel
theorem d_L_times_13 : decode c_L_times 13 = .ok (.astore 4, 2) := by decide +kernel
theorem d_L_times_15 : decode c_L_times 15 = .ok (.iconst 1, 1) := by decide +kernel
theorem d_L_times_16 : decode c_L_times 16 = .ok (.ireturn, 1) := by decide +kernel
theorem d_L_times_17 : decode c_L_times 17 = .ok (.astore 4, 2) := by decide +kernel
theorem d_L_times_19 : decode c_L_times 19 = .ok (.iconst 2, 1) := by decide +kernel
theorem d_L_times_20 : decode c_L_times 20 = .ok (.ireturn, 1) := by decide +kernel
theorem d_L_times_21 : decode c_L_times 21 = .ok (.iconst 0, 1) := by decide +kernel
theorem d_L_times_22 : decode c_L_times 22 = .ok (.ireturn, 1) := by decide +kernel
theorem d_L_over_0 : decode c_L_over 0 = .ok (.aload_n 3, 1) := by decide +kernel
theorem d_L_over_1 : decode c_L_over 1 = .ok (.iconst 0, 1) := by decide +kernel
theorem d_L_over_2 : decode c_L_over 2 = .ok (.aload_n 0, 1) := by decide +kernel
theorem d_L_over_3 : decode c_L_over 3 = .ok (.iload_n 1, 1) := by decide +kernel
theorem d_L_over_4 : decode c_L_over 4 = .ok (.iload_n 2, 1) := by decide +kernel
theorem d_L_over_5 : decode c_L_over 5 = .ok (.invokevirtual 29, 3) := by decide +kernel
theorem d_L_over_8 : decode c_L_over 8 = .ok (.i2l, 1) := by decide +kernel
theorem d_L_over_9 : decode c_L_over 9 = .ok (.lastore, 1) := by decide +kernel
theorem d_L_over_10 : decode c_L_over 10 = .ok (.goto 15, 3) := by decide +kernel
theorem d_L_over_13 : decode c_L_over 13 = .ok (.astore 4, 2) := by decide +kernel
theorem d_L_over_15 : decode c_L_over 15 = .ok (.iconst 1, 1) := by decide +kernel
theorem d_L_over_16 : decode c_L_over 16 = .ok (.ireturn, 1) := by decide +kernel
theorem d_L_over_17 : decode c_L_over 17 = .ok (.astore 4, 2) := by decide +kernel
theorem d_L_over_19 : decode c_L_over 19 = .ok (.iconst 2, 1) := by decide +kernel
theorem d_L_over_20 : decode c_L_over 20 = .ok (.ireturn, 1) := by decide +kernel
theorem d_L_over_21 : decode c_L_over 21 = .ok (.astore 4, 2) := by decide +kernel
theorem d_L_over_23 : decode c_L_over 23 = .ok (.iconst 3, 1) := by decide +kernel
theorem d_L_over_24 : decode c_L_over 24 = .ok (.ireturn, 1) := by decide +kernel
theorem d_L_over_25 : decode c_L_over 25 = .ok (.iconst 0, 1) := by decide +kernel
theorem d_L_over_26 : decode c_L_over 26 = .ok (.ireturn, 1) := by decide +kernel
theorem d_L_order_0 : decode c_L_order 0 = .ok (.aload_n 3, 1) := by decide +kernel
theorem d_L_order_1 : decode c_L_order 1 = .ok (.iconst 0, 1) := by decide +kernel
theorem d_L_order_2 : decode c_L_order 2 = .ok (.aload_n 0, 1) := by decide +kernel
theorem d_L_order_3 : decode c_L_order 3 = .ok (.iload_n 1, 1) := by decide +kernel
theorem d_L_order_4 : decode c_L_order 4 = .ok (.iload_n 2, 1) := by decide +kernel
theorem d_L_order_5 : decode c_L_order 5 = .ok (.invokevirtual 32, 3) := by decide +kernel
theorem d_L_order_8 : decode c_L_order 8 = .ok (.i2l, 1) := by decide +kernel
theorem d_L_order_9 : decode c_L_order 9 = .ok (.lastore, 1) := by decide +kernel
theorem d_L_order_10 : decode c_L_order 10 = .ok (.goto 7, 3) := by decide +kernel
theorem d_L_order_13 : decode c_L_order 13 = .ok (.astore 4, 2) := by decide +kernel
theorem d_L_order_15 : decode c_L_order 15 = .ok (.iconst 1, 1) := by decide +kernel
theorem d_L_order_16 : decode c_L_order 16 = .ok (.ireturn, 1) := by decide +kernel
theorem d_L_order_17 : decode c_L_order 17 = .ok (.iconst 0, 1) := by decide +kernel
theorem d_L_order_18 : decode c_L_order 18 = .ok (.ireturn, 1) := by decide +kernel
theorem d_L_round_0 : decode c_L_round 0 = .ok (.aload 5, 2) := by decide +kernel
theorem d_L_round_2 : decode c_L_round 2 = .ok (.iconst 0, 1) := by decide +kernel
theorem d_L_round_3 : decode c_L_round 3 = .ok (.aload_n 0, 1) := by decide +kernel
theorem d_L_round_4 : decode c_L_round 4 = .ok (.iload_n 1, 1) := by decide +kernel
theorem d_L_round_5 : decode c_L_round 5 = .ok (.iload_n 2, 1) := by decide +kernel
theorem d_L_round_6 : decode c_L_round 6 = .ok (.lload_n 3, 1) := by decide +kernel
theorem d_L_round_7 : decode c_L_round 7 = .ok (.invokevirtual 35, 3) := by decide +kernel
theorem d_L_round_10 : decode c_L_round 10 = .ok (.i2l, 1) := by decide +kernel
theorem d_L_round_11 : decode c_L_round 11 = .ok (.lastore, 1) := by decide +kernel
theorem d_L_round_12 : decode c_L_round 12 = .ok (.goto 15, 3) := by decide +kernel
theorem d_L_round_15 : decode c_L_round 15 = .ok (.astore 6, 2) := by decide +kernel
theorem d_L_round_17 : decode c_L_round 17 = .ok (.iconst 1, 1) := by decide +kernel
theorem d_L_round_18 : decode c_L_round 18 = .ok (.ireturn, 1) := by decide +kernel
theorem d_L_round_19 : decode c_L_round 19 = .ok (.astore 6, 2) := by decide +kernel
theorem d_L_round_21 : decode c_L_round 21 = .ok (.iconst 2, 1) := by decide +kernel
theorem d_L_round_22 : decode c_L_round 22 = .ok (.ireturn, 1) := by decide +kernel
theorem d_L_round_23 : decode c_L_round 23 = .ok (.astore 6, 2) := by decide +kernel
theorem d_L_round_25 : decode c_L_round 25 = .ok (.iconst 3, 1) := by decide +kernel
theorem d_L_round_26 : decode c_L_round 26 = .ok (.ireturn, 1) := by decide +kernel
theorem d_L_round_27 : decode c_L_round 27 = .ok (.iconst 0, 1) := by decide +kernel
theorem d_L_round_28 : decode c_L_round 28 = .ok (.ireturn, 1) := by decide +kernel
theorem d_L_span_0 : decode c_L_span 0 = .ok (.aload_n 3, 1) := by decide +kernel
theorem d_L_span_1 : decode c_L_span 1 = .ok (.iconst 0, 1) := by decide +kernel
theorem d_L_span_2 : decode c_L_span 2 = .ok (.aload_n 0, 1) := by decide +kernel
theorem d_L_span_3 : decode c_L_span 3 = .ok (.iload_n 1, 1) := by decide +kernel
theorem d_L_span_4 : decode c_L_span 4 = .ok (.iload_n 2, 1) := by decide +kernel
theorem d_L_span_5 : decode c_L_span 5 = .ok (.invokevirtual 41, 3) := by decide +kernel
theorem d_L_span_8 : decode c_L_span 8 = .ok (.i2l, 1) := by decide +kernel
theorem d_L_span_9 : decode c_L_span 9 = .ok (.lastore, 1) := by decide +kernel
theorem d_L_span_10 : decode c_L_span 10 = .ok (.goto 11, 3) := by decide +kernel
theorem d_L_span_13 : decode c_L_span 13 = .ok (.astore 4, 2) := by decide +kernel
theorem d_L_span_15 : decode c_L_span 15 = .ok (.iconst 1, 1) := by decide +kernel
theorem d_L_span_16 : decode c_L_span 16 = .ok (.ireturn, 1) := by decide +kernel
theorem d_L_span_17 : decode c_L_span 17 = .ok (.astore 4, 2) := by decide +kernel
theorem d_L_span_19 : decode c_L_span 19 = .ok (.iconst 2, 1) := by decide +kernel
theorem d_L_span_20 : decode c_L_span 20 = .ok (.ireturn, 1) := by decide +kernel
theorem d_L_span_21 : decode c_L_span 21 = .ok (.iconst 0, 1) := by decide +kernel
theorem d_L_span_22 : decode c_L_span 22 = .ok (.ireturn, 1) := by decide +kernel
theorem d_L_spanTimes_0 : decode c_L_spanTimes 0 = .ok (.aload_n 3, 1) := by decide +kernel
theorem d_L_spanTimes_1 : decode c_L_spanTimes 1 = .ok (.iconst 0, 1) := by decide +kernel
theorem d_L_spanTimes_2 : decode c_L_spanTimes 2 = .ok (.aload_n 0, 1) := by decide +kernel
theorem d_L_spanTimes_3 : decode c_L_spanTimes 3 = .ok (.iload_n 1, 1) := by decide +kernel
theorem d_L_spanTimes_4 : decode c_L_spanTimes 4 = .ok (.iload_n 2, 1) := by decide +kernel
theorem d_L_spanTimes_5 : decode c_L_spanTimes 5 = .ok (.invokevirtual 44, 3) := by decide +kernel
theorem d_L_spanTimes_8 : decode c_L_spanTimes 8 = .ok (.i2l, 1) := by decide +kernel
theorem d_L_spanTimes_9 : decode c_L_spanTimes 9 = .ok (.lastore, 1) := by decide +kernel
theorem d_L_spanTimes_10 : decode c_L_spanTimes 10 = .ok (.goto 11, 3) := by decide +kernel
theorem d_L_spanTimes_13 : decode c_L_spanTimes 13 = .ok (.astore 4, 2) := by decide +kernel
theorem d_L_spanTimes_15 : decode c_L_spanTimes 15 = .ok (.iconst 1, 1) := by decide +kernel
theorem d_L_spanTimes_16 : decode c_L_spanTimes 16 = .ok (.ireturn, 1) := by decide +kernel
theorem d_L_spanTimes_17 : decode c_L_spanTimes 17 = .ok (.astore 4, 2) := by decide +kernel
theorem d_L_spanTimes_19 : decode c_L_spanTimes 19 = .ok (.iconst 2, 1) := by decide +kernel
theorem d_L_spanTimes_20 : decode c_L_spanTimes 20 = .ok (.ireturn, 1) := by decide +kernel
theorem d_L_spanTimes_21 : decode c_L_spanTimes 21 = .ok (.iconst 0, 1) := by decide +kernel
theorem d_L_spanTimes_22 : decode c_L_spanTimes 22 = .ok (.ireturn, 1) := by decide +kernel
theorem d_L_end_0 : decode c_L_end 0 = .ok (.aload_n 3, 1) := by decide +kernel
theorem d_L_end_1 : decode c_L_end 1 = .ok (.iconst 0, 1) := by decide +kernel
theorem d_L_end_2 : decode c_L_end 2 = .ok (.aload_n 0, 1) := by decide +kernel
theorem d_L_end_3 : decode c_L_end 3 = .ok (.iload_n 1, 1) := by decide +kernel
theorem d_L_end_4 : decode c_L_end 4 = .ok (.iload_n 2, 1) := by decide +kernel
theorem d_L_end_5 : decode c_L_end 5 = .ok (.invokevirtual 47, 3) := by decide +kernel
theorem d_L_end_8 : decode c_L_end 8 = .ok (.i2l, 1) := by decide +kernel
theorem d_L_end_9 : decode c_L_end 9 = .ok (.lastore, 1) := by decide +kernel
theorem d_L_end_10 : decode c_L_end 10 = .ok (.goto 7, 3) := by decide +kernel
theorem d_L_end_13 : decode c_L_end 13 = .ok (.astore 4, 2) := by decide +kernel
theorem d_L_end_15 : decode c_L_end 15 = .ok (.iconst 1, 1) := by decide +kernel
theorem d_L_end_16 : decode c_L_end 16 = .ok (.ireturn, 1) := by decide +kernel
theorem d_L_end_17 : decode c_L_end 17 = .ok (.iconst 0, 1) := by decide +kernel
theorem d_L_end_18 : decode c_L_end 18 = .ok (.ireturn, 1) := by decide +kernel
theorem d_L_within_0 : decode c_L_within 0 = .ok (.aload_n 3, 1) := by decide +kernel
theorem d_L_within_1 : decode c_L_within 1 = .ok (.iconst 0, 1) := by decide +kernel
theorem d_L_within_2 : decode c_L_within 2 = .ok (.aload_n 0, 1) := by decide +kernel
theorem d_L_within_3 : decode c_L_within 3 = .ok (.iload_n 1, 1) := by decide +kernel
theorem d_L_within_4 : decode c_L_within 4 = .ok (.iload_n 2, 1) := by decide +kernel
theorem d_L_within_5 : decode c_L_within 5 = .ok (.invokevirtual 50, 3) := by decide +kernel
theorem d_L_within_8 : decode c_L_within 8 = .ok (.ifCond .eq 7, 3) := by decide +kernel
theorem d_L_within_11 : decode c_L_within 11 = .ok (.lconst 1, 1) := by decide +kernel
theorem d_L_within_12 : decode c_L_within 12 = .ok (.goto 4, 3) := by decide +kernel
theorem d_L_within_15 : decode c_L_within 15 = .ok (.lconst 0, 1) := by decide +kernel
theorem d_L_within_16 : decode c_L_within 16 = .ok (.lastore, 1) := by decide +kernel
theorem d_L_within_17 : decode c_L_within 17 = .ok (.goto 7, 3) := by decide +kernel
theorem d_L_within_20 : decode c_L_within 20 = .ok (.astore 4, 2) := by decide +kernel
theorem d_L_within_22 : decode c_L_within 22 = .ok (.iconst 1, 1) := by decide +kernel
theorem d_L_within_23 : decode c_L_within 23 = .ok (.ireturn, 1) := by decide +kernel
theorem d_L_within_24 : decode c_L_within 24 = .ok (.iconst 0, 1) := by decide +kernel
theorem d_L_within_25 : decode c_L_within 25 = .ok (.ireturn, 1) := by decide +kernel
theorem d_L_weight_0 : decode c_L_weight 0 = .ok (.aload_n 3, 1) := by decide +kernel
theorem d_L_weight_1 : decode c_L_weight 1 = .ok (.iconst 0, 1) := by decide +kernel
theorem d_L_weight_2 : decode c_L_weight 2 = .ok (.aload_n 0, 1) := by decide +kernel
theorem d_L_weight_3 : decode c_L_weight 3 = .ok (.lload_n 1, 1) := by decide +kernel
theorem d_L_weight_4 : decode c_L_weight 4 = .ok (.invokevirtual 54, 3) := by decide +kernel
theorem d_L_weight_7 : decode c_L_weight 7 = .ok (.i2l, 1) := by decide +kernel
theorem d_L_weight_8 : decode c_L_weight 8 = .ok (.lastore, 1) := by decide +kernel
theorem d_L_weight_9 : decode c_L_weight 9 = .ok (.goto 11, 3) := by decide +kernel
theorem d_L_weight_12 : decode c_L_weight 12 = .ok (.astore 4, 2) := by decide +kernel
theorem d_L_weight_14 : decode c_L_weight 14 = .ok (.iconst 1, 1) := by decide +kernel
theorem d_L_weight_15 : decode c_L_weight 15 = .ok (.ireturn, 1) := by decide +kernel
theorem d_L_weight_16 : decode c_L_weight 16 = .ok (.astore 4, 2) := by decide +kernel
theorem d_L_weight_18 : decode c_L_weight 18 = .ok (.iconst 2, 1) := by decide +kernel
theorem d_L_weight_19 : decode c_L_weight 19 = .ok (.ireturn, 1) := by decide +kernel
theorem d_L_weight_20 : decode c_L_weight 20 = .ok (.iconst 0, 1) := by decide +kernel
theorem d_L_weight_21 : decode c_L_weight 21 = .ok (.ireturn, 1) := by decide +kernel
theorem d_L_share_0 : decode c_L_share 0 = .ok (.aload 4, 2) := by decide +kernel
theorem d_L_share_2 : decode c_L_share 2 = .ok (.iconst 0, 1) := by decide +kernel
theorem d_L_share_3 : decode c_L_share 3 = .ok (.aload_n 0, 1) := by decide +kernel
theorem d_L_share_4 : decode c_L_share 4 = .ok (.lload_n 1, 1) := by decide +kernel
theorem d_L_share_5 : decode c_L_share 5 = .ok (.iload_n 3, 1) := by decide +kernel
theorem d_L_share_6 : decode c_L_share 6 = .ok (.invokevirtual 58, 3) := by decide +kernel
theorem d_L_share_9 : decode c_L_share 9 = .ok (.lastore, 1) := by decide +kernel
theorem d_L_share_10 : decode c_L_share 10 = .ok (.goto 15, 3) := by decide +kernel
theorem d_L_share_13 : decode c_L_share 13 = .ok (.astore 5, 2) := by decide +kernel
theorem d_L_share_15 : decode c_L_share 15 = .ok (.iconst 1, 1) := by decide +kernel
theorem d_L_share_16 : decode c_L_share 16 = .ok (.ireturn, 1) := by decide +kernel
theorem d_L_share_17 : decode c_L_share 17 = .ok (.astore 5, 2) := by decide +kernel
theorem d_L_share_19 : decode c_L_share 19 = .ok (.iconst 2, 1) := by decide +kernel
theorem d_L_share_20 : decode c_L_share 20 = .ok (.ireturn, 1) := by decide +kernel
theorem d_L_share_21 : decode c_L_share 21 = .ok (.astore 5, 2) := by decide +kernel
theorem d_L_share_23 : decode c_L_share 23 = .ok (.iconst 3, 1) := by decide +kernel
theorem d_L_share_24 : decode c_L_share 24 = .ok (.ireturn, 1) := by decide +kernel
theorem d_L_share_25 : decode c_L_share 25 = .ok (.iconst 0, 1) := by decide +kernel
theorem d_L_share_26 : decode c_L_share 26 = .ok (.ireturn, 1) := by decide +kernel
theorem d_L_giving_0 : decode c_L_giving 0 = .ok (.aload_n 2, 1) := by decide +kernel
theorem d_L_giving_1 : decode c_L_giving 1 = .ok (.iconst 0, 1) := by decide +kernel
theorem d_L_giving_2 : decode c_L_giving 2 = .ok (.aload_n 0, 1) := by decide +kernel
theorem d_L_giving_3 : decode c_L_giving 3 = .ok (.iload_n 1, 1) := by decide +kernel
theorem d_L_giving_4 : decode c_L_giving 4 = .ok (.invokevirtual 62, 3) := by decide +kernel
theorem d_L_giving_7 : decode c_L_giving 7 = .ok (.i2l, 1) := by decide +kernel
theorem d_L_giving_8 : decode c_L_giving 8 = .ok (.lastore, 1) := by decide +kernel
theorem d_L_giving_9 : decode c_L_giving 9 = .ok (.goto 9, 3) := by decide +kernel
theorem d_L_giving_12 : decode c_L_giving 12 = .ok (.astore_n 3, 1) := by decide +kernel
theorem d_L_giving_13 : decode c_L_giving 13 = .ok (.iconst 1, 1) := by decide +kernel
theorem d_L_giving_14 : decode c_L_giving 14 = .ok (.ireturn, 1) := by decide +kernel
theorem d_L_giving_15 : decode c_L_giving 15 = .ok (.astore_n 3, 1) := by decide +kernel
theorem d_L_giving_16 : decode c_L_giving 16 = .ok (.iconst 2, 1) := by decide +kernel
theorem d_L_giving_17 : decode c_L_giving 17 = .ok (.ireturn, 1) := by decide +kernel
theorem d_L_giving_18 : decode c_L_giving 18 = .ok (.iconst 0, 1) := by decide +kernel
theorem d_L_giving_19 : decode c_L_giving 19 = .ok (.ireturn, 1) := by decide +kernel
theorem d_L_rest_0 : decode c_L_rest 0 = .ok (.aload_n 1, 1) := by decide +kernel
theorem d_L_rest_1 : decode c_L_rest 1 = .ok (.iconst 0, 1) := by decide +kernel
theorem d_L_rest_2 : decode c_L_rest 2 = .ok (.aload_n 0, 1) := by decide +kernel
theorem d_L_rest_3 : decode c_L_rest 3 = .ok (.invokevirtual 66, 3) := by decide +kernel
theorem d_L_rest_6 : decode c_L_rest 6 = .ok (.i2l, 1) := by decide +kernel
theorem d_L_rest_7 : decode c_L_rest 7 = .ok (.lastore, 1) := by decide +kernel
theorem d_L_rest_8 : decode c_L_rest 8 = .ok (.goto 6, 3) := by decide +kernel
theorem d_L_rest_11 : decode c_L_rest 11 = .ok (.astore_n 2, 1) := by decide +kernel
theorem d_L_rest_12 : decode c_L_rest 12 = .ok (.iconst 1, 1) := by decide +kernel
theorem d_L_rest_13 : decode c_L_rest 13 = .ok (.ireturn, 1) := by decide +kernel
theorem d_L_rest_14 : decode c_L_rest 14 = .ok (.iconst 0, 1) := by decide +kernel
theorem d_L_rest_15 : decode c_L_rest 15 = .ok (.ireturn, 1) := by decide +kernel
theorem d_L_sign_0 : decode c_L_sign 0 = .ok (.aload_n 2, 1) := by decide +kernel
theorem d_L_sign_1 : decode c_L_sign 1 = .ok (.iconst 0, 1) := by decide +kernel
theorem d_L_sign_2 : decode c_L_sign 2 = .ok (.aload_n 0, 1) := by decide +kernel
theorem d_L_sign_3 : decode c_L_sign 3 = .ok (.iload_n 1, 1) := by decide +kernel
theorem d_L_sign_4 : decode c_L_sign 4 = .ok (.invokevirtual 70, 3) := by decide +kernel
theorem d_L_sign_7 : decode c_L_sign 7 = .ok (.i2l, 1) := by decide +kernel
theorem d_L_sign_8 : decode c_L_sign 8 = .ok (.lastore, 1) := by decide +kernel
theorem d_L_sign_9 : decode c_L_sign 9 = .ok (.goto 6, 3) := by decide +kernel
theorem d_L_sign_12 : decode c_L_sign 12 = .ok (.astore_n 3, 1) := by decide +kernel
theorem d_L_sign_13 : decode c_L_sign 13 = .ok (.iconst 1, 1) := by decide +kernel
theorem d_L_sign_14 : decode c_L_sign 14 = .ok (.ireturn, 1) := by decide +kernel
theorem d_L_sign_15 : decode c_L_sign 15 = .ok (.iconst 0, 1) := by decide +kernel
theorem d_L_sign_16 : decode c_L_sign 16 = .ok (.ireturn, 1) := by decide +kernel
theorem d_L_digit_0 : decode c_L_digit 0 = .ok (.aload 4, 2) := by decide +kernel
theorem d_L_digit_2 : decode c_L_digit 2 = .ok (.iconst 0, 1) := by decide +kernel
theorem d_L_digit_3 : decode c_L_digit 3 = .ok (.aload_n 0, 1) := by decide +kernel
theorem d_L_digit_4 : decode c_L_digit 4 = .ok (.iload_n 1, 1) := by decide +kernel
theorem d_L_digit_5 : decode c_L_digit 5 = .ok (.iload_n 2, 1) := by decide +kernel
theorem d_L_digit_6 : decode c_L_digit 6 = .ok (.iload_n 3, 1) := by decide +kernel
theorem d_L_digit_7 : decode c_L_digit 7 = .ok (.invokevirtual 73, 3) := by decide +kernel
theorem d_L_digit_10 : decode c_L_digit 10 = .ok (.i2l, 1) := by decide +kernel
theorem d_L_digit_11 : decode c_L_digit 11 = .ok (.lastore, 1) := by decide +kernel
theorem d_L_digit_12 : decode c_L_digit 12 = .ok (.goto 7, 3) := by decide +kernel
theorem d_L_digit_15 : decode c_L_digit 15 = .ok (.astore 5, 2) := by decide +kernel
theorem d_L_digit_17 : decode c_L_digit 17 = .ok (.iconst 1, 1) := by decide +kernel
theorem d_L_digit_18 : decode c_L_digit 18 = .ok (.ireturn, 1) := by decide +kernel
theorem d_L_digit_19 : decode c_L_digit 19 = .ok (.iconst 0, 1) := by decide +kernel
theorem d_L_digit_20 : decode c_L_digit 20 = .ok (.ireturn, 1) := by decide +kernel
