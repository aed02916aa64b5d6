theorem d_K_init_0 : decode c_K_init 0 = .ok (.aload_n 0, 1) := by decide +kernel
theorem d_K_init_1 : decode c_K_init 1 = .ok (.invokespecial 1, 3) := by decide +kernel
theorem d_K_init_4 : decode c_K_init 4 = .ok (.aload_n 0, 1) := by decide +kernel
theorem d_K_init_5 : decode c_K_init 5 = .ok (.new 7, 3) := by decide +kernel
theorem d_K_init_8 : decode c_K_init 8 = .ok (.dup, 1) := by decide +kernel
theorem d_K_init_9 : decode c_K_init 9 = .ok (.invokespecial 9, 3) := by decide +kernel
theorem d_K_init_12 : decode c_K_init 12 = .ok (.putfield 10, 3) := by decide +kernel
theorem d_K_init_15 : decode c_K_init 15 = .ok (.aload_n 0, 1) := by decide +kernel
theorem d_K_init_16 : decode c_K_init 16 = .ok (.bipush 30, 2) := by decide +kernel
theorem d_K_init_18 : decode c_K_init 18 = .ok (.newarray .int, 2) := by decide +kernel
theorem d_K_init_20 : decode c_K_init 20 = .ok (.putfield 16, 3) := by decide +kernel
theorem d_K_init_23 : decode c_K_init 23 = .ok (.aload_n 0, 1) := by decide +kernel
theorem d_K_init_24 : decode c_K_init 24 = .ok (.bipush 30, 2) := by decide +kernel
theorem d_K_init_26 : decode c_K_init 26 = .ok (.newarray .int, 2) := by decide +kernel
theorem d_K_init_28 : decode c_K_init 28 = .ok (.putfield 20, 3) := by decide +kernel
theorem d_K_init_31 : decode c_K_init 31 = .ok (.aload_n 0, 1) := by decide +kernel
theorem d_K_init_32 : decode c_K_init 32 = .ok (.iconst 0, 1) := by decide +kernel
theorem d_K_init_33 : decode c_K_init 33 = .ok (.putfield 23, 3) := by decide +kernel
theorem d_K_init_36 : decode c_K_init 36 = .ok (.aload_n 0, 1) := by decide +kernel
theorem d_K_init_37 : decode c_K_init 37 = .ok (.bipush 20, 2) := by decide +kernel
theorem d_K_init_39 : decode c_K_init 39 = .ok (.newarray .long, 2) := by decide +kernel
theorem d_K_init_41 : decode c_K_init 41 = .ok (.putfield 27, 3) := by decide +kernel
theorem d_K_init_44 : decode c_K_init 44 = .ok (.aload_n 0, 1) := by decide +kernel
theorem d_K_init_45 : decode c_K_init 45 = .ok (.iconst 0, 1) := by decide +kernel
theorem d_K_init_46 : decode c_K_init 46 = .ok (.putfield 31, 3) := by decide +kernel
theorem d_K_init_49 : decode c_K_init 49 = .ok (.aload_n 0, 1) := by decide +kernel
theorem d_K_init_50 : decode c_K_init 50 = .ok (.new 34, 3) := by decide +kernel
theorem d_K_init_53 : decode c_K_init 53 = .ok (.dup, 1) := by decide +kernel
theorem d_K_init_54 : decode c_K_init 54 = .ok (.invokespecial 36, 3) := by decide +kernel
theorem d_K_init_57 : decode c_K_init 57 = .ok (.putfield 37, 3) := by decide +kernel
theorem d_K_init_60 : decode c_K_init 60 = .ok (.aload_n 0, 1) := by decide +kernel
theorem d_K_init_61 : decode c_K_init 61 = .ok (.new 41, 3) := by decide +kernel
theorem d_K_init_64 : decode c_K_init 64 = .ok (.dup, 1) := by decide +kernel
theorem d_K_init_65 : decode c_K_init 65 = .ok (.invokespecial 43, 3) := by decide +kernel
theorem d_K_init_68 : decode c_K_init 68 = .ok (.putfield 44, 3) := by decide +kernel
theorem d_K_init_71 : decode c_K_init 71 = .ok (.aload_n 0, 1) := by decide +kernel
theorem d_K_init_72 : decode c_K_init 72 = .ok (.new 34, 3) := by decide +kernel
theorem d_K_init_75 : decode c_K_init 75 = .ok (.dup, 1) := by decide +kernel
theorem d_K_init_76 : decode c_K_init 76 = .ok (.invokespecial 36, 3) := by decide +kernel
theorem d_K_init_79 : decode c_K_init 79 = .ok (.putfield 48, 3) := by decide +kernel
theorem d_K_init_82 : decode c_K_init 82 = .ok (.aload_n 0, 1) := by decide +kernel
theorem d_K_init_83 : decode c_K_init 83 = .ok (.new 34, 3) := by decide +kernel
theorem d_K_init_86 : decode c_K_init 86 = .ok (.dup, 1) := by decide +kernel
theorem d_K_init_87 : decode c_K_init 87 = .ok (.invokespecial 36, 3) := by decide +kernel
theorem d_K_init_90 : decode c_K_init 90 = .ok (.putfield 51, 3) := by decide +kernel
theorem d_K_init_93 : decode c_K_init 93 = .ok (.aload_n 0, 1) := by decide +kernel
theorem d_K_init_94 : decode c_K_init 94 = .ok (.new 34, 3) := by decide +kernel
theorem d_K_init_97 : decode c_K_init 97 = .ok (.dup, 1) := by decide +kernel
theorem d_K_init_98 : decode c_K_init 98 = .ok (.invokespecial 36, 3) := by decide +kernel
theorem d_K_init_101 : decode c_K_init 101 = .ok (.putfield 54, 3) := by decide +kernel
theorem d_K_init_104 : decode c_K_init 104 = .ok (.aload_n 0, 1) := by decide +kernel
theorem d_K_init_105 : decode c_K_init 105 = .ok (.new 34, 3) := by decide +kernel
theorem d_K_init_108 : decode c_K_init 108 = .ok (.dup, 1) := by decide +kernel
theorem d_K_init_109 : decode c_K_init 109 = .ok (.invokespecial 36, 3) := by decide +kernel
theorem d_K_init_112 : decode c_K_init 112 = .ok (.putfield 57, 3) := by decide +kernel
theorem d_K_init_115 : decode c_K_init 115 = .ok (.return_, 1) := by decide +kernel
theorem d_K_value_0 : decode c_K_value 0 = .ok (.aload_n 0, 1) := by decide +kernel
theorem d_K_value_1 : decode c_K_value 1 = .ok (.iconst 1, 1) := by decide +kernel
theorem d_K_value_2 : decode c_K_value 2 = .ok (.invokevirtual 60, 3) := by decide +kernel
theorem d_K_value_5 : decode c_K_value 5 = .ok (.lload_n 3, 1) := by decide +kernel
theorem d_K_value_6 : decode c_K_value 6 = .ok (.lconst 0, 1) := by decide +kernel
theorem d_K_value_7 : decode c_K_value 7 = .ok (.lcmp, 1) := by decide +kernel
theorem d_K_value_8 : decode c_K_value 8 = .ok (.ifCond .ne 13, 3) := by decide +kernel
theorem d_K_value_11 : decode c_K_value 11 = .ok (.new 64, 3) := by decide +kernel
theorem d_K_value_14 : decode c_K_value 14 = .ok (.dup, 1) := by decide +kernel
theorem d_K_value_15 : decode c_K_value 15 = .ok (.ldc 66, 2) := by decide +kernel
theorem d_K_value_17 : decode c_K_value 17 = .ok (.invokespecial 68, 3) := by decide +kernel
theorem d_K_value_20 : decode c_K_value 20 = .ok (.athrow, 1) := by decide +kernel
theorem d_K_value_21 : decode c_K_value 21 = .ok (.aload_n 0, 1) := by decide +kernel
theorem d_K_value_22 : decode c_K_value 22 = .ok (.getfield 54, 3) := by decide +kernel
theorem d_K_value_25 : decode c_K_value 25 = .ok (.lload_n 1, 1) := by decide +kernel
theorem d_K_value_26 : decode c_K_value 26 = .ok (.lload_n 3, 1) := by decide +kernel
theorem d_K_value_27 : decode c_K_value 27 = .ok (.invokevirtual 71, 3) := by decide +kernel
theorem d_K_value_30 : decode c_K_value 30 = .ok (.aload_n 0, 1) := by decide +kernel
theorem d_K_value_31 : decode c_K_value 31 = .ok (.getfield 44, 3) := by decide +kernel
theorem d_K_value_34 : decode c_K_value 34 = .ok (.aload_n 0, 1) := by decide +kernel
theorem d_K_value_35 : decode c_K_value 35 = .ok (.getfield 54, 3) := by decide +kernel
theorem d_K_value_38 : decode c_K_value 38 = .ok (.invokevirtual 75, 3) := by decide +kernel
theorem d_K_value_41 : decode c_K_value 41 = .ok (.aload_n 0, 1) := by decide +kernel
theorem d_K_value_42 : decode c_K_value 42 = .ok (.invokevirtual 79, 3) := by decide +kernel
theorem d_K_value_45 : decode c_K_value 45 = .ok (.ireturn, 1) := by decide +kernel
theorem d_K_needRoomFor_0 : decode c_K_needRoomFor 0 = .ok (.aload_n 0, 1) := by decide +kernel
theorem d_K_needRoomFor_1 : decode c_K_needRoomFor 1 = .ok (.getfield 10, 3) := by decide +kernel
theorem d_K_needRoomFor_4 : decode c_K_needRoomFor 4 = .ok (.iload_n 1, 1) := by decide +kernel
theorem d_K_needRoomFor_5 : decode c_K_needRoomFor 5 = .ok (.invokevirtual 207, 3) := by decide +kernel
theorem d_K_needRoomFor_8 : decode c_K_needRoomFor 8 = .ok (.ifCond .ne 13, 3) := by decide +kernel
theorem d_K_needRoomFor_11 : decode c_K_needRoomFor 11 = .ok (.new 130, 3) := by decide +kernel
theorem d_K_needRoomFor_14 : decode c_K_needRoomFor 14 = .ok (.dup, 1) := by decide +kernel
theorem d_K_needRoomFor_15 : decode c_K_needRoomFor 15 = .ok (.ldc 210, 2) := by decide +kernel
theorem d_K_needRoomFor_17 : decode c_K_needRoomFor 17 = .ok (.invokespecial 134, 3) := by decide +kernel
theorem d_K_needRoomFor_20 : decode c_K_needRoomFor 20 = .ok (.athrow, 1) := by decide +kernel
theorem d_K_needRoomFor_21 : decode c_K_needRoomFor 21 = .ok (.return_, 1) := by decide +kernel
theorem d_K_keepUnlessTooLong_0 : decode c_K_keepUnlessTooLong 0 = .ok (.aload_n 0, 1) := by decide +kernel
theorem d_K_keepUnlessTooLong_1 : decode c_K_keepUnlessTooLong 1 = .ok (.getfield 54, 3) := by decide +kernel
theorem d_K_keepUnlessTooLong_4 : decode c_K_keepUnlessTooLong 4 = .ok (.invokevirtual 145, 3) := by decide +kernel
theorem d_K_keepUnlessTooLong_7 : decode c_K_keepUnlessTooLong 7 = .ok (.ifCond .eq 7, 3) := by decide +kernel
theorem d_K_keepUnlessTooLong_10 : decode c_K_keepUnlessTooLong 10 = .ok (.iconst (-1), 1) := by decide +kernel
theorem d_K_keepUnlessTooLong_11 : decode c_K_keepUnlessTooLong 11 = .ok (.goto 14, 3) := by decide +kernel
theorem d_K_keepUnlessTooLong_14 : decode c_K_keepUnlessTooLong 14 = .ok (.aload_n 0, 1) := by decide +kernel
theorem d_K_keepUnlessTooLong_15 : decode c_K_keepUnlessTooLong 15 = .ok (.getfield 10, 3) := by decide +kernel
theorem d_K_keepUnlessTooLong_18 : decode c_K_keepUnlessTooLong 18 = .ok (.aload_n 0, 1) := by decide +kernel
theorem d_K_keepUnlessTooLong_19 : decode c_K_keepUnlessTooLong 19 = .ok (.getfield 54, 3) := by decide +kernel
theorem d_K_keepUnlessTooLong_22 : decode c_K_keepUnlessTooLong 22 = .ok (.invokevirtual 149, 3) := by decide +kernel
theorem d_K_keepUnlessTooLong_25 : decode c_K_keepUnlessTooLong 25 = .ok (.ireturn, 1) := by decide +kernel
theorem d_K_add_0 : decode c_K_add 0 = .ok (.aload_n 0, 1) := by decide +kernel
theorem d_K_add_1 : decode c_K_add 1 = .ok (.iload_n 1, 1) := by decide +kernel
theorem d_K_add_2 : decode c_K_add 2 = .ok (.iload_n 2, 1) := by decide +kernel
theorem d_K_add_3 : decode c_K_add 3 = .ok (.invokevirtual 83, 3) := by decide +kernel
theorem d_K_add_6 : decode c_K_add 6 = .ok (.aload_n 0, 1) := by decide +kernel
theorem d_K_add_7 : decode c_K_add 7 = .ok (.iconst 1, 1) := by decide +kernel
theorem d_K_add_8 : decode c_K_add 8 = .ok (.invokevirtual 60, 3) := by decide +kernel
theorem d_K_add_11 : decode c_K_add 11 = .ok (.aload_n 0, 1) := by decide +kernel
theorem d_K_add_12 : decode c_K_add 12 = .ok (.getfield 44, 3) := by decide +kernel
theorem d_K_add_15 : decode c_K_add 15 = .ok (.aload_n 0, 1) := by decide +kernel
theorem d_K_add_16 : decode c_K_add 16 = .ok (.getfield 48, 3) := by decide +kernel
theorem d_K_add_19 : decode c_K_add 19 = .ok (.aload_n 0, 1) := by decide +kernel
theorem d_K_add_20 : decode c_K_add 20 = .ok (.getfield 51, 3) := by decide +kernel
theorem d_K_add_23 : decode c_K_add 23 = .ok (.aload_n 0, 1) := by decide +kernel
theorem d_K_add_24 : decode c_K_add 24 = .ok (.getfield 51, 3) := by decide +kernel
theorem d_K_add_27 : decode c_K_add 27 = .ok (.getfield 87, 3) := by decide +kernel
theorem d_K_add_30 : decode c_K_add 30 = .ok (.aload_n 0, 1) := by decide +kernel
theorem d_K_add_31 : decode c_K_add 31 = .ok (.getfield 54, 3) := by decide +kernel
theorem d_K_add_34 : decode c_K_add 34 = .ok (.invokevirtual 90, 3) := by decide +kernel
theorem d_K_add_37 : decode c_K_add 37 = .ok (.aload_n 0, 1) := by decide +kernel
theorem d_K_add_38 : decode c_K_add 38 = .ok (.getfield 44, 3) := by decide +kernel
theorem d_K_add_41 : decode c_K_add 41 = .ok (.aload_n 0, 1) := by decide +kernel
theorem d_K_add_42 : decode c_K_add 42 = .ok (.getfield 54, 3) := by decide +kernel
theorem d_K_add_45 : decode c_K_add 45 = .ok (.invokevirtual 75, 3) := by decide +kernel
theorem d_K_add_48 : decode c_K_add 48 = .ok (.aload_n 0, 1) := by decide +kernel
theorem d_K_add_49 : decode c_K_add 49 = .ok (.invokevirtual 79, 3) := by decide +kernel
theorem d_K_add_52 : decode c_K_add 52 = .ok (.ireturn, 1) := by decide +kernel
theorem d_K_takeBoth_0 : decode c_K_takeBoth 0 = .ok (.aload_n 0, 1) := by decide +kernel
theorem d_K_takeBoth_1 : decode c_K_takeBoth 1 = .ok (.iload_n 1, 1) := by decide +kernel
theorem d_K_takeBoth_2 : decode c_K_takeBoth 2 = .ok (.invokevirtual 107, 3) := by decide +kernel
theorem d_K_takeBoth_5 : decode c_K_takeBoth 5 = .ok (.aload_n 0, 1) := by decide +kernel
theorem d_K_takeBoth_6 : decode c_K_takeBoth 6 = .ok (.iload_n 2, 1) := by decide +kernel
theorem d_K_takeBoth_7 : decode c_K_takeBoth 7 = .ok (.invokevirtual 107, 3) := by decide +kernel
theorem d_K_takeBoth_10 : decode c_K_takeBoth 10 = .ok (.aload_n 0, 1) := by decide +kernel
theorem d_K_takeBoth_11 : decode c_K_takeBoth 11 = .ok (.getfield 10, 3) := by decide +kernel
theorem d_K_takeBoth_14 : decode c_K_takeBoth 14 = .ok (.iload_n 1, 1) := by decide +kernel
theorem d_K_takeBoth_15 : decode c_K_takeBoth 15 = .ok (.aload_n 0, 1) := by decide +kernel
theorem d_K_takeBoth_16 : decode c_K_takeBoth 16 = .ok (.getfield 48, 3) := by decide +kernel
theorem d_K_takeBoth_19 : decode c_K_takeBoth 19 = .ok (.invokevirtual 122, 3) := by decide +kernel
theorem d_K_takeBoth_22 : decode c_K_takeBoth 22 = .ok (.aload_n 0, 1) := by decide +kernel
theorem d_K_takeBoth_23 : decode c_K_takeBoth 23 = .ok (.getfield 10, 3) := by decide +kernel
theorem d_K_takeBoth_26 : decode c_K_takeBoth 26 = .ok (.iload_n 2, 1) := by decide +kernel
theorem d_K_takeBoth_27 : decode c_K_takeBoth 27 = .ok (.aload_n 0, 1) := by decide +kernel
theorem d_K_takeBoth_28 : decode c_K_takeBoth 28 = .ok (.getfield 51, 3) := by decide +kernel
theorem d_K_takeBoth_31 : decode c_K_takeBoth 31 = .ok (.invokevirtual 122, 3) := by decide +kernel
theorem d_K_takeBoth_34 : decode c_K_takeBoth 34 = .ok (.return_, 1) := by decide +kernel
theorem d_K_needValue_0 : decode c_K_needValue 0 = .ok (.aload_n 0, 1) := by decide +kernel
theorem d_K_needValue_1 : decode c_K_needValue 1 = .ok (.getfield 10, 3) := by decide +kernel
theorem d_K_needValue_4 : decode c_K_needValue 4 = .ok (.iload_n 1, 1) := by decide +kernel
theorem d_K_needValue_5 : decode c_K_needValue 5 = .ok (.invokevirtual 199, 3) := by decide +kernel
theorem d_K_needValue_8 : decode c_K_needValue 8 = .ok (.ifCond .ne 13, 3) := by decide +kernel
theorem d_K_needValue_11 : decode c_K_needValue 11 = .ok (.new 110, 3) := by decide +kernel
theorem d_K_needValue_14 : decode c_K_needValue 14 = .ok (.dup, 1) := by decide +kernel
theorem d_K_needValue_15 : decode c_K_needValue 15 = .ok (.ldc 203, 2) := by decide +kernel
theorem d_K_needValue_17 : decode c_K_needValue 17 = .ok (.invokespecial 114, 3) := by decide +kernel
theorem d_K_needValue_20 : decode c_K_needValue 20 = .ok (.athrow, 1) := by decide +kernel
theorem d_K_needValue_21 : decode c_K_needValue 21 = .ok (.return_, 1) := by decide +kernel
theorem d_K_less_0 : decode c_K_less 0 = .ok (.aload_n 0, 1) := by decide +kernel
theorem d_K_less_1 : decode c_K_less 1 = .ok (.iload_n 1, 1) := by decide +kernel
theorem d_K_less_2 : decode c_K_less 2 = .ok (.iload_n 2, 1) := by decide +kernel
theorem d_K_less_3 : decode c_K_less 3 = .ok (.invokevirtual 83, 3) := by decide +kernel
theorem d_K_less_6 : decode c_K_less 6 = .ok (.aload_n 0, 1) := by decide +kernel
theorem d_K_less_7 : decode c_K_less 7 = .ok (.iconst 1, 1) := by decide +kernel
theorem d_K_less_8 : decode c_K_less 8 = .ok (.invokevirtual 60, 3) := by decide +kernel
theorem d_K_less_11 : decode c_K_less 11 = .ok (.aload_n 0, 1) := by decide +kernel
theorem d_K_less_12 : decode c_K_less 12 = .ok (.getfield 44, 3) := by decide +kernel
theorem d_K_less_15 : decode c_K_less 15 = .ok (.aload_n 0, 1) := by decide +kernel
theorem d_K_less_16 : decode c_K_less 16 = .ok (.getfield 48, 3) := by decide +kernel
theorem d_K_less_19 : decode c_K_less 19 = .ok (.aload_n 0, 1) := by decide +kernel
theorem d_K_less_20 : decode c_K_less 20 = .ok (.getfield 51, 3) := by decide +kernel
theorem d_K_less_23 : decode c_K_less 23 = .ok (.aload_n 0, 1) := by decide +kernel
theorem d_K_less_24 : decode c_K_less 24 = .ok (.getfield 51, 3) := by decide +kernel
theorem d_K_less_27 : decode c_K_less 27 = .ok (.getfield 87, 3) := by decide +kernel
theorem d_K_less_30 : decode c_K_less 30 = .ok (.ineg, 1) := by decide +kernel
theorem d_K_less_31 : decode c_K_less 31 = .ok (.aload_n 0, 1) := by decide +kernel
theorem d_K_less_32 : decode c_K_less 32 = .ok (.getfield 54, 3) := by decide +kernel
theorem d_K_less_35 : decode c_K_less 35 = .ok (.invokevirtual 90, 3) := by decide +kernel
theorem d_K_less_38 : decode c_K_less 38 = .ok (.aload_n 0, 1) := by decide +kernel
theorem d_K_less_39 : decode c_K_less 39 = .ok (.getfield 44, 3) := by decide +kernel
theorem d_K_less_42 : decode c_K_less 42 = .ok (.aload_n 0, 1) := by decide +kernel
theorem d_K_less_43 : decode c_K_less 43 = .ok (.getfield 54, 3) := by decide +kernel
theorem d_K_less_46 : decode c_K_less 46 = .ok (.invokevirtual 75, 3) := by decide +kernel
theorem d_K_less_49 : decode c_K_less 49 = .ok (.aload_n 0, 1) := by decide +kernel
theorem d_K_less_50 : decode c_K_less 50 = .ok (.invokevirtual 79, 3) := by decide +kernel
theorem d_K_less_53 : decode c_K_less 53 = .ok (.ireturn, 1) := by decide +kernel
theorem d_K_times_0 : decode c_K_times 0 = .ok (.aload_n 0, 1) := by decide +kernel
theorem d_K_times_1 : decode c_K_times 1 = .ok (.iload_n 1, 1) := by decide +kernel
theorem d_K_times_2 : decode c_K_times 2 = .ok (.iload_n 2, 1) := by decide +kernel
theorem d_K_times_3 : decode c_K_times 3 = .ok (.invokevirtual 83, 3) := by decide +kernel
theorem d_K_times_6 : decode c_K_times 6 = .ok (.aload_n 0, 1) := by decide +kernel
theorem d_K_times_7 : decode c_K_times 7 = .ok (.iconst 1, 1) := by decide +kernel
theorem d_K_times_8 : decode c_K_times 8 = .ok (.invokevirtual 60, 3) := by decide +kernel
theorem d_K_times_11 : decode c_K_times 11 = .ok (.aload_n 0, 1) := by decide +kernel
theorem d_K_times_12 : decode c_K_times 12 = .ok (.getfield 54, 3) := by decide +kernel
theorem d_K_times_15 : decode c_K_times 15 = .ok (.aload_n 0, 1) := by decide +kernel
theorem d_K_times_16 : decode c_K_times 16 = .ok (.getfield 48, 3) := by decide +kernel
theorem d_K_times_19 : decode c_K_times 19 = .ok (.aload_n 0, 1) := by decide +kernel
theorem d_K_times_20 : decode c_K_times 20 = .ok (.getfield 51, 3) := by decide +kernel
theorem d_K_times_23 : decode c_K_times 23 = .ok (.invokevirtual 94, 3) := by decide +kernel
theorem d_K_times_26 : decode c_K_times 26 = .ok (.aload_n 0, 1) := by decide +kernel
theorem d_K_times_27 : decode c_K_times 27 = .ok (.getfield 44, 3) := by decide +kernel
theorem d_K_times_30 : decode c_K_times 30 = .ok (.aload_n 0, 1) := by decide +kernel
theorem d_K_times_31 : decode c_K_times 31 = .ok (.getfield 54, 3) := by decide +kernel
theorem d_K_times_34 : decode c_K_times 34 = .ok (.invokevirtual 75, 3) := by decide +kernel
theorem d_K_times_37 : decode c_K_times 37 = .ok (.aload_n 0, 1) := by decide +kernel
theorem d_K_times_38 : decode c_K_times 38 = .ok (.invokevirtual 79, 3) := by decide +kernel
theorem d_K_times_41 : decode c_K_times 41 = .ok (.ireturn, 1) := by decide +kernel
theorem d_K_over_0 : decode c_K_over 0 = .ok (.aload_n 0, 1) := by decide +kernel
theorem d_K_over_1 : decode c_K_over 1 = .ok (.iload_n 1, 1) := by decide +kernel
theorem d_K_over_2 : decode c_K_over 2 = .ok (.iload_n 2, 1) := by decide +kernel
theorem d_K_over_3 : decode c_K_over 3 = .ok (.invokevirtual 83, 3) := by decide +kernel
theorem d_K_over_6 : decode c_K_over 6 = .ok (.aload_n 0, 1) := by decide +kernel
theorem d_K_over_7 : decode c_K_over 7 = .ok (.iconst 1, 1) := by decide +kernel
theorem d_K_over_8 : decode c_K_over 8 = .ok (.invokevirtual 60, 3) := by decide +kernel
theorem d_K_over_11 : decode c_K_over 11 = .ok (.aload_n 0, 1) := by decide +kernel
theorem d_K_over_12 : decode c_K_over 12 = .ok (.getfield 51, 3) := by decide +kernel
theorem d_K_over_15 : decode c_K_over 15 = .ok (.getfield 87, 3) := by decide +kernel
theorem d_K_over_18 : decode c_K_over 18 = .ok (.ifCond .ne 13, 3) := by decide +kernel
theorem d_K_over_21 : decode c_K_over 21 = .ok (.new 64, 3) := by decide +kernel
theorem d_K_over_24 : decode c_K_over 24 = .ok (.dup, 1) := by decide +kernel
theorem d_K_over_25 : decode c_K_over 25 = .ok (.ldc 98, 2) := by decide +kernel
theorem d_K_over_27 : decode c_K_over 27 = .ok (.invokespecial 68, 3) := by decide +kernel
theorem d_K_over_30 : decode c_K_over 30 = .ok (.athrow, 1) := by decide +kernel
theorem d_K_over_31 : decode c_K_over 31 = .ok (.aload_n 0, 1) := by decide +kernel
theorem d_K_over_32 : decode c_K_over 32 = .ok (.getfield 54, 3) := by decide +kernel
theorem d_K_over_35 : decode c_K_over 35 = .ok (.aload_n 0, 1) := by decide +kernel
theorem d_K_over_36 : decode c_K_over 36 = .ok (.getfield 48, 3) := by decide +kernel
theorem d_K_over_39 : decode c_K_over 39 = .ok (.aload_n 0, 1) := by decide +kernel
theorem d_K_over_40 : decode c_K_over 40 = .ok (.getfield 51, 3) := by decide +kernel
theorem d_K_over_43 : decode c_K_over 43 = .ok (.invokevirtual 100, 3) := by decide +kernel
theorem d_K_over_46 : decode c_K_over 46 = .ok (.aload_n 0, 1) := by decide +kernel
theorem d_K_over_47 : decode c_K_over 47 = .ok (.getfield 44, 3) := by decide +kernel
theorem d_K_over_50 : decode c_K_over 50 = .ok (.aload_n 0, 1) := by decide +kernel
theorem d_K_over_51 : decode c_K_over 51 = .ok (.getfield 54, 3) := by decide +kernel
theorem d_K_over_54 : decode c_K_over 54 = .ok (.invokevirtual 75, 3) := by decide +kernel
theorem d_K_over_57 : decode c_K_over 57 = .ok (.aload_n 0, 1) := by decide +kernel
theorem d_K_over_58 : decode c_K_over 58 = .ok (.invokevirtual 79, 3) := by decide +kernel
theorem d_K_over_61 : decode c_K_over 61 = .ok (.ireturn, 1) := by decide +kernel
theorem d_K_order_0 : decode c_K_order 0 = .ok (.aload_n 0, 1) := by decide +kernel
theorem d_K_order_1 : decode c_K_order 1 = .ok (.iload_n 1, 1) := by decide +kernel
theorem d_K_order_2 : decode c_K_order 2 = .ok (.iload_n 2, 1) := by decide +kernel
theorem d_K_order_3 : decode c_K_order 3 = .ok (.invokevirtual 83, 3) := by decide +kernel
theorem d_K_order_6 : decode c_K_order 6 = .ok (.aload_n 0, 1) := by decide +kernel
theorem d_K_order_7 : decode c_K_order 7 = .ok (.getfield 44, 3) := by decide +kernel
theorem d_K_order_10 : decode c_K_order 10 = .ok (.aload_n 0, 1) := by decide +kernel
theorem d_K_order_11 : decode c_K_order 11 = .ok (.getfield 48, 3) := by decide +kernel
theorem d_K_order_14 : decode c_K_order 14 = .ok (.aload_n 0, 1) := by decide +kernel
theorem d_K_order_15 : decode c_K_order 15 = .ok (.getfield 51, 3) := by decide +kernel
theorem d_K_order_18 : decode c_K_order 18 = .ok (.aload_n 0, 1) := by decide +kernel
theorem d_K_order_19 : decode c_K_order 19 = .ok (.getfield 54, 3) := by decide +kernel
theorem d_K_order_22 : decode c_K_order 22 = .ok (.invokevirtual 103, 3) := by decide +kernel
theorem d_K_order_25 : decode c_K_order 25 = .ok (.ireturn, 1) := by decide +kernel
theorem d_K_round_0 : decode c_K_round 0 = .ok (.aload_n 0, 1) := by decide +kernel
theorem d_K_round_1 : decode c_K_round 1 = .ok (.iload_n 1, 1) := by decide +kernel
theorem d_K_round_2 : decode c_K_round 2 = .ok (.invokevirtual 107, 3) := by decide +kernel
theorem d_K_round_5 : decode c_K_round 5 = .ok (.iload_n 2, 1) := by decide +kernel
theorem d_K_round_6 : decode c_K_round 6 = .ok (.ifCond .lt 9, 3) := by decide +kernel
theorem d_K_round_9 : decode c_K_round 9 = .ok (.iload_n 2, 1) := by decide +kernel
theorem d_K_round_10 : decode c_K_round 10 = .ok (.bipush 6, 2) := by decide +kernel
theorem d_K_round_12 : decode c_K_round 12 = .ok (.if_icmp .le 13, 3) := by decide +kernel
theorem d_K_round_15 : decode c_K_round 15 = .ok (.new 110, 3) := by decide +kernel
theorem d_K_round_18 : decode c_K_round 18 = .ok (.dup, 1) := by decide +kernel
theorem d_K_round_19 : decode c_K_round 19 = .ok (.ldc 112, 2) := by decide +kernel
theorem d_K_round_21 : decode c_K_round 21 = .ok (.invokespecial 114, 3) := by decide +kernel
theorem d_K_round_24 : decode c_K_round 24 = .ok (.athrow, 1) := by decide +kernel
theorem d_K_round_25 : decode c_K_round 25 = .ok (.lload_n 3, 1) := by decide +kernel
theorem d_K_round_26 : decode c_K_round 26 = .ok (.lconst 1, 1) := by decide +kernel
theorem d_K_round_27 : decode c_K_round 27 = .ok (.lcmp, 1) := by decide +kernel
theorem d_K_round_28 : decode c_K_round 28 = .ok (.ifCond .lt 11, 3) := by decide +kernel
theorem d_K_round_31 : decode c_K_round 31 = .ok (.lload_n 3, 1) := by decide +kernel
theorem d_K_round_32 : decode c_K_round 32 = .ok (.ldc2_w 115, 3) := by decide +kernel
theorem d_K_round_35 : decode c_K_round 35 = .ok (.lcmp, 1) := by decide +kernel
theorem d_K_round_36 : decode c_K_round 36 = .ok (.ifCond .le 13, 3) := by decide +kernel
theorem d_K_round_39 : decode c_K_round 39 = .ok (.new 117, 3) := by decide +kernel
theorem d_K_round_42 : decode c_K_round 42 = .ok (.dup, 1) := by decide +kernel
theorem d_K_round_43 : decode c_K_round 43 = .ok (.ldc 119, 2) := by decide +kernel
theorem d_K_round_45 : decode c_K_round 45 = .ok (.invokespecial 121, 3) := by decide +kernel
theorem d_K_round_48 : decode c_K_round 48 = .ok (.athrow, 1) := by decide +kernel
theorem d_K_round_49 : decode c_K_round 49 = .ok (.aload_n 0, 1) := by decide +kernel
theorem d_K_round_50 : decode c_K_round 50 = .ok (.iconst 1, 1) := by decide +kernel
theorem d_K_round_51 : decode c_K_round 51 = .ok (.invokevirtual 60, 3) := by decide +kernel
theorem d_K_round_54 : decode c_K_round 54 = .ok (.aload_n 0, 1) := by decide +kernel
theorem d_K_round_55 : decode c_K_round 55 = .ok (.getfield 10, 3) := by decide +kernel
theorem d_K_round_58 : decode c_K_round 58 = .ok (.iload_n 1, 1) := by decide +kernel
theorem d_K_round_59 : decode c_K_round 59 = .ok (.aload_n 0, 1) := by decide +kernel
theorem d_K_round_60 : decode c_K_round 60 = .ok (.getfield 48, 3) := by decide +kernel
theorem d_K_round_63 : decode c_K_round 63 = .ok (.invokevirtual 122, 3) := by decide +kernel
theorem d_K_round_66 : decode c_K_round 66 = .ok (.aload_n 0, 1) := by decide +kernel
theorem d_K_round_67 : decode c_K_round 67 = .ok (.getfield 44, 3) := by decide +kernel
theorem d_K_round_70 : decode c_K_round 70 = .ok (.aload_n 0, 1) := by decide +kernel
theorem d_K_round_71 : decode c_K_round 71 = .ok (.getfield 48, 3) := by decide +kernel
theorem d_K_round_74 : decode c_K_round 74 = .ok (.iload_n 2, 1) := by decide +kernel
theorem d_K_round_75 : decode c_K_round 75 = .ok (.lload_n 3, 1) := by decide +kernel
theorem d_K_round_76 : decode c_K_round 76 = .ok (.aload_n 0, 1) := by decide +kernel
theorem d_K_round_77 : decode c_K_round 77 = .ok (.getfield 54, 3) := by decide +kernel
theorem d_K_round_80 : decode c_K_round 80 = .ok (.invokevirtual 126, 3) := by decide +kernel
theorem d_K_round_83 : decode c_K_round 83 = .ok (.aload_n 0, 1) := by decide +kernel
theorem d_K_round_84 : decode c_K_round 84 = .ok (.getfield 44, 3) := by decide +kernel
theorem d_K_round_87 : decode c_K_round 87 = .ok (.aload_n 0, 1) := by decide +kernel
theorem d_K_round_88 : decode c_K_round 88 = .ok (.getfield 54, 3) := by decide +kernel
theorem d_K_round_91 : decode c_K_round 91 = .ok (.invokevirtual 75, 3) := by decide +kernel
theorem d_K_round_94 : decode c_K_round 94 = .ok (.aload_n 0, 1) := by decide +kernel
theorem d_K_round_95 : decode c_K_round 95 = .ok (.invokevirtual 79, 3) := by decide +kernel
theorem d_K_round_98 : decode c_K_round 98 = .ok (.ireturn, 1) := by decide +kernel
theorem d_K_span_0 : decode c_K_span 0 = .ok (.aload_n 0, 1) := by decide +kernel
theorem d_K_span_1 : decode c_K_span 1 = .ok (.iload_n 1, 1) := by decide +kernel
theorem d_K_span_2 : decode c_K_span 2 = .ok (.iload_n 2, 1) := by decide +kernel
theorem d_K_span_3 : decode c_K_span 3 = .ok (.invokevirtual 83, 3) := by decide +kernel
theorem d_K_span_6 : decode c_K_span 6 = .ok (.aload_n 0, 1) := by decide +kernel
theorem d_K_span_7 : decode c_K_span 7 = .ok (.getfield 44, 3) := by decide +kernel
theorem d_K_span_10 : decode c_K_span 10 = .ok (.aload_n 0, 1) := by decide +kernel
theorem d_K_span_11 : decode c_K_span 11 = .ok (.getfield 48, 3) := by decide +kernel
theorem d_K_span_14 : decode c_K_span 14 = .ok (.aload_n 0, 1) := by decide +kernel
theorem d_K_span_15 : decode c_K_span 15 = .ok (.getfield 51, 3) := by decide +kernel
theorem d_K_span_18 : decode c_K_span 18 = .ok (.aload_n 0, 1) := by decide +kernel
theorem d_K_span_19 : decode c_K_span 19 = .ok (.getfield 54, 3) := by decide +kernel
theorem d_K_span_22 : decode c_K_span 22 = .ok (.invokevirtual 103, 3) := by decide +kernel
theorem d_K_span_25 : decode c_K_span 25 = .ok (.ifCond .le 13, 3) := by decide +kernel
theorem d_K_span_28 : decode c_K_span 28 = .ok (.new 130, 3) := by decide +kernel
theorem d_K_span_31 : decode c_K_span 31 = .ok (.dup, 1) := by decide +kernel
theorem d_K_span_32 : decode c_K_span 32 = .ok (.ldc 132, 2) := by decide +kernel
theorem d_K_span_34 : decode c_K_span 34 = .ok (.invokespecial 134, 3) := by decide +kernel
theorem d_K_span_37 : decode c_K_span 37 = .ok (.athrow, 1) := by decide +kernel
theorem d_K_span_38 : decode c_K_span 38 = .ok (.aload_n 0, 1) := by decide +kernel
theorem d_K_span_39 : decode c_K_span 39 = .ok (.invokevirtual 135, 3) := by decide +kernel
theorem d_K_span_42 : decode c_K_span 42 = .ok (.aload_n 0, 1) := by decide +kernel
theorem d_K_span_43 : decode c_K_span 43 = .ok (.iload_n 1, 1) := by decide +kernel
theorem d_K_span_44 : decode c_K_span 44 = .ok (.iload_n 2, 1) := by decide +kernel
theorem d_K_span_45 : decode c_K_span 45 = .ok (.invokevirtual 138, 3) := by decide +kernel
theorem d_K_span_48 : decode c_K_span 48 = .ok (.ireturn, 1) := by decide +kernel
theorem d_K_needRoomForSpan_0 : decode c_K_needRoomForSpan 0 = .ok (.aload_n 0, 1) := by decide +kernel
theorem d_K_needRoomForSpan_1 : decode c_K_needRoomForSpan 1 = .ok (.getfield 23, 3) := by decide +kernel
theorem d_K_needRoomForSpan_4 : decode c_K_needRoomForSpan 4 = .ok (.bipush 30, 2) := by decide +kernel
theorem d_K_needRoomForSpan_6 : decode c_K_needRoomForSpan 6 = .ok (.if_icmp .lt 13, 3) := by decide +kernel
theorem d_K_needRoomForSpan_9 : decode c_K_needRoomForSpan 9 = .ok (.new 130, 3) := by decide +kernel
theorem d_K_needRoomForSpan_12 : decode c_K_needRoomForSpan 12 = .ok (.dup, 1) := by decide +kernel
theorem d_K_needRoomForSpan_13 : decode c_K_needRoomForSpan 13 = .ok (.ldc 212, 2) := by decide +kernel
theorem d_K_needRoomForSpan_15 : decode c_K_needRoomForSpan 15 = .ok (.invokespecial 134, 3) := by decide +kernel
theorem d_K_needRoomForSpan_18 : decode c_K_needRoomForSpan 18 = .ok (.athrow, 1) := by decide +kernel
theorem d_K_needRoomForSpan_19 : decode c_K_needRoomForSpan 19 = .ok (.return_, 1) := by decide +kernel
theorem d_K_keepSpan_0 : decode c_K_keepSpan 0 = .ok (.aload_n 0, 1) := by decide +kernel
theorem d_K_keepSpan_1 : decode c_K_keepSpan 1 = .ok (.getfield 16, 3) := by decide +kernel
theorem d_K_keepSpan_4 : decode c_K_keepSpan 4 = .ok (.aload_n 0, 1) := by decide +kernel
theorem d_K_keepSpan_5 : decode c_K_keepSpan 5 = .ok (.getfield 23, 3) := by decide +kernel
theorem d_K_keepSpan_8 : decode c_K_keepSpan 8 = .ok (.iload_n 1, 1) := by decide +kernel
theorem d_K_keepSpan_9 : decode c_K_keepSpan 9 = .ok (.iastore, 1) := by decide +kernel
theorem d_K_keepSpan_10 : decode c_K_keepSpan 10 = .ok (.aload_n 0, 1) := by decide +kernel
theorem d_K_keepSpan_11 : decode c_K_keepSpan 11 = .ok (.getfield 20, 3) := by decide +kernel
theorem d_K_keepSpan_14 : decode c_K_keepSpan 14 = .ok (.aload_n 0, 1) := by decide +kernel
theorem d_K_keepSpan_15 : decode c_K_keepSpan 15 = .ok (.getfield 23, 3) := by decide +kernel
theorem d_K_keepSpan_18 : decode c_K_keepSpan 18 = .ok (.iload_n 2, 1) := by decide +kernel
theorem d_K_keepSpan_19 : decode c_K_keepSpan 19 = .ok (.iastore, 1) := by decide +kernel
theorem d_K_keepSpan_20 : decode c_K_keepSpan 20 = .ok (.aload_n 0, 1) := by decide +kernel
theorem d_K_keepSpan_21 : decode c_K_keepSpan 21 = .ok (.dup, 1) := by decide +kernel
theorem d_K_keepSpan_22 : decode c_K_keepSpan 22 = .ok (.getfield 23, 3) := by decide +kernel
theorem d_K_keepSpan_25 : decode c_K_keepSpan 25 = .ok (.iconst 1, 1) := by decide +kernel
theorem d_K_keepSpan_26 : decode c_K_keepSpan 26 = .ok (.iadd, 1) := by decide +kernel
theorem d_K_keepSpan_27 : decode c_K_keepSpan 27 = .ok (.putfield 23, 3) := by decide +kernel
theorem d_K_keepSpan_30 : decode c_K_keepSpan 30 = .ok (.aload_n 0, 1) := by decide +kernel
theorem d_K_keepSpan_31 : decode c_K_keepSpan 31 = .ok (.getfield 23, 3) := by decide +kernel
theorem d_K_keepSpan_34 : decode c_K_keepSpan 34 = .ok (.iconst 1, 1) := by decide +kernel
theorem d_K_keepSpan_35 : decode c_K_keepSpan 35 = .ok (.isub, 1) := by decide +kernel
theorem d_K_keepSpan_36 : decode c_K_keepSpan 36 = .ok (.ireturn, 1) := by decide +kernel
theorem d_K_spanTimes_0 : decode c_K_spanTimes 0 = .ok (.aload_n 0, 1) := by decide +kernel
theorem d_K_spanTimes_1 : decode c_K_spanTimes 1 = .ok (.iload_n 1, 1) := by decide +kernel
theorem d_K_spanTimes_2 : decode c_K_spanTimes 2 = .ok (.invokevirtual 142, 3) := by decide +kernel
theorem d_K_spanTimes_5 : decode c_K_spanTimes 5 = .ok (.aload_n 0, 1) := by decide +kernel
theorem d_K_spanTimes_6 : decode c_K_spanTimes 6 = .ok (.iload_n 2, 1) := by decide +kernel
theorem d_K_spanTimes_7 : decode c_K_spanTimes 7 = .ok (.invokevirtual 107, 3) := by decide +kernel
theorem d_K_spanTimes_10 : decode c_K_spanTimes 10 = .ok (.aload_n 0, 1) := by decide +kernel
theorem d_K_spanTimes_11 : decode c_K_spanTimes 11 = .ok (.invokevirtual 135, 3) := by decide +kernel
theorem d_K_spanTimes_14 : decode c_K_spanTimes 14 = .ok (.aload_n 0, 1) := by decide +kernel
theorem d_K_spanTimes_15 : decode c_K_spanTimes 15 = .ok (.iconst 2, 1) := by decide +kernel
theorem d_K_spanTimes_16 : decode c_K_spanTimes 16 = .ok (.invokevirtual 60, 3) := by decide +kernel
theorem d_K_spanTimes_19 : decode c_K_spanTimes 19 = .ok (.aload_n 0, 1) := by decide +kernel
theorem d_K_spanTimes_20 : decode c_K_spanTimes 20 = .ok (.getfield 10, 3) := by decide +kernel
theorem d_K_spanTimes_23 : decode c_K_spanTimes 23 = .ok (.iload_n 2, 1) := by decide +kernel
theorem d_K_spanTimes_24 : decode c_K_spanTimes 24 = .ok (.aload_n 0, 1) := by decide +kernel
theorem d_K_spanTimes_25 : decode c_K_spanTimes 25 = .ok (.getfield 51, 3) := by decide +kernel
theorem d_K_spanTimes_28 : decode c_K_spanTimes 28 = .ok (.invokevirtual 122, 3) := by decide +kernel
theorem d_K_spanTimes_31 : decode c_K_spanTimes 31 = .ok (.aload_n 0, 1) := by decide +kernel
theorem d_K_spanTimes_32 : decode c_K_spanTimes 32 = .ok (.getfield 51, 3) := by decide +kernel
theorem d_K_spanTimes_35 : decode c_K_spanTimes 35 = .ok (.getfield 87, 3) := by decide +kernel
theorem d_K_spanTimes_38 : decode c_K_spanTimes 38 = .ok (.ifCond .ge 7, 3) := by decide +kernel
theorem d_K_spanTimes_41 : decode c_K_spanTimes 41 = .ok (.iconst 1, 1) := by decide +kernel
theorem d_K_spanTimes_42 : decode c_K_spanTimes 42 = .ok (.goto 4, 3) := by decide +kernel
theorem d_K_spanTimes_45 : decode c_K_spanTimes 45 = .ok (.iconst 0, 1) := by decide +kernel
theorem d_K_spanTimes_46 : decode c_K_spanTimes 46 = .ok (.istore_n 3, 1) := by decide +kernel
theorem d_K_spanTimes_47 : decode c_K_spanTimes 47 = .ok (.aload_n 0, 1) := by decide +kernel
theorem d_K_spanTimes_48 : decode c_K_spanTimes 48 = .ok (.getfield 10, 3) := by decide +kernel
theorem d_K_spanTimes_51 : decode c_K_spanTimes 51 = .ok (.iload_n 3, 1) := by decide +kernel
theorem d_K_spanTimes_52 : decode c_K_spanTimes 52 = .ok (.ifCond .eq 12, 3) := by decide +kernel
theorem d_K_spanTimes_55 : decode c_K_spanTimes 55 = .ok (.aload_n 0, 1) := by decide +kernel
theorem d_K_spanTimes_56 : decode c_K_spanTimes 56 = .ok (.getfield 20, 3) := by decide +kernel
theorem d_K_spanTimes_59 : decode c_K_spanTimes 59 = .ok (.iload_n 1, 1) := by decide +kernel
theorem d_K_spanTimes_60 : decode c_K_spanTimes 60 = .ok (.iaload, 1) := by decide +kernel
theorem d_K_spanTimes_61 : decode c_K_spanTimes 61 = .ok (.goto 9, 3) := by decide +kernel
theorem d_K_spanTimes_64 : decode c_K_spanTimes 64 = .ok (.aload_n 0, 1) := by decide +kernel
theorem d_K_spanTimes_65 : decode c_K_spanTimes 65 = .ok (.getfield 16, 3) := by decide +kernel
theorem d_K_spanTimes_68 : decode c_K_spanTimes 68 = .ok (.iload_n 1, 1) := by decide +kernel
theorem d_K_spanTimes_69 : decode c_K_spanTimes 69 = .ok (.iaload, 1) := by decide +kernel
theorem d_K_spanTimes_70 : decode c_K_spanTimes 70 = .ok (.aload_n 0, 1) := by decide +kernel
theorem d_K_spanTimes_71 : decode c_K_spanTimes 71 = .ok (.getfield 48, 3) := by decide +kernel
theorem d_K_spanTimes_74 : decode c_K_spanTimes 74 = .ok (.invokevirtual 122, 3) := by decide +kernel
theorem d_K_spanTimes_77 : decode c_K_spanTimes 77 = .ok (.aload_n 0, 1) := by decide +kernel
theorem d_K_spanTimes_78 : decode c_K_spanTimes 78 = .ok (.getfield 54, 3) := by decide +kernel
theorem d_K_spanTimes_81 : decode c_K_spanTimes 81 = .ok (.aload_n 0, 1) := by decide +kernel
theorem d_K_spanTimes_82 : decode c_K_spanTimes 82 = .ok (.getfield 48, 3) := by decide +kernel
theorem d_K_spanTimes_85 : decode c_K_spanTimes 85 = .ok (.aload_n 0, 1) := by decide +kernel
theorem d_K_spanTimes_86 : decode c_K_spanTimes 86 = .ok (.getfield 51, 3) := by decide +kernel
theorem d_K_spanTimes_89 : decode c_K_spanTimes 89 = .ok (.invokevirtual 94, 3) := by decide +kernel
theorem d_K_spanTimes_92 : decode c_K_spanTimes 92 = .ok (.aload_n 0, 1) := by decide +kernel
theorem d_K_spanTimes_93 : decode c_K_spanTimes 93 = .ok (.getfield 44, 3) := by decide +kernel
theorem d_K_spanTimes_96 : decode c_K_spanTimes 96 = .ok (.aload_n 0, 1) := by decide +kernel
theorem d_K_spanTimes_97 : decode c_K_spanTimes 97 = .ok (.getfield 54, 3) := by decide +kernel
theorem d_K_spanTimes_100 : decode c_K_spanTimes 100 = .ok (.invokevirtual 75, 3) := by decide +kernel
theorem d_K_spanTimes_103 : decode c_K_spanTimes 103 = .ok (.aload_n 0, 1) := by decide +kernel
theorem d_K_spanTimes_104 : decode c_K_spanTimes 104 = .ok (.getfield 10, 3) := by decide +kernel
theorem d_K_spanTimes_107 : decode c_K_spanTimes 107 = .ok (.iload_n 3, 1) := by decide +kernel
theorem d_K_spanTimes_108 : decode c_K_spanTimes 108 = .ok (.ifCond .eq 12, 3) := by decide +kernel
theorem d_K_spanTimes_111 : decode c_K_spanTimes 111 = .ok (.aload_n 0, 1) := by decide +kernel
theorem d_K_spanTimes_112 : decode c_K_spanTimes 112 = .ok (.getfield 16, 3) := by decide +kernel
theorem d_K_spanTimes_115 : decode c_K_spanTimes 115 = .ok (.iload_n 1, 1) := by decide +kernel
theorem d_K_spanTimes_116 : decode c_K_spanTimes 116 = .ok (.iaload, 1) := by decide +kernel
theorem d_K_spanTimes_117 : decode c_K_spanTimes 117 = .ok (.goto 9, 3) := by decide +kernel
theorem d_K_spanTimes_120 : decode c_K_spanTimes 120 = .ok (.aload_n 0, 1) := by decide +kernel
theorem d_K_spanTimes_121 : decode c_K_spanTimes 121 = .ok (.getfield 20, 3) := by decide +kernel
theorem d_K_spanTimes_124 : decode c_K_spanTimes 124 = .ok (.iload_n 1, 1) := by decide +kernel
theorem d_K_spanTimes_125 : decode c_K_spanTimes 125 = .ok (.iaload, 1) := by decide +kernel
theorem d_K_spanTimes_126 : decode c_K_spanTimes 126 = .ok (.aload_n 0, 1) := by decide +kernel
theorem d_K_spanTimes_127 : decode c_K_spanTimes 127 = .ok (.getfield 48, 3) := by decide +kernel
theorem d_K_spanTimes_130 : decode c_K_spanTimes 130 = .ok (.invokevirtual 122, 3) := by decide +kernel
theorem d_K_spanTimes_133 : decode c_K_spanTimes 133 = .ok (.aload_n 0, 1) := by decide +kernel
theorem d_K_spanTimes_134 : decode c_K_spanTimes 134 = .ok (.getfield 57, 3) := by decide +kernel
theorem d_K_spanTimes_137 : decode c_K_spanTimes 137 = .ok (.aload_n 0, 1) := by decide +kernel
theorem d_K_spanTimes_138 : decode c_K_spanTimes 138 = .ok (.getfield 48, 3) := by decide +kernel
theorem d_K_spanTimes_141 : decode c_K_spanTimes 141 = .ok (.aload_n 0, 1) := by decide +kernel
theorem d_K_spanTimes_142 : decode c_K_spanTimes 142 = .ok (.getfield 51, 3) := by decide +kernel
theorem d_K_spanTimes_145 : decode c_K_spanTimes 145 = .ok (.invokevirtual 94, 3) := by decide +kernel
theorem d_K_spanTimes_148 : decode c_K_spanTimes 148 = .ok (.aload_n 0, 1) := by decide +kernel
theorem d_K_spanTimes_149 : decode c_K_spanTimes 149 = .ok (.getfield 44, 3) := by decide +kernel
theorem d_K_spanTimes_152 : decode c_K_spanTimes 152 = .ok (.aload_n 0, 1) := by decide +kernel
theorem d_K_spanTimes_153 : decode c_K_spanTimes 153 = .ok (.getfield 57, 3) := by decide +kernel
theorem d_K_spanTimes_156 : decode c_K_spanTimes 156 = .ok (.invokevirtual 75, 3) := by decide +kernel
theorem d_K_spanTimes_159 : decode c_K_spanTimes 159 = .ok (.aload_n 0, 1) := by decide +kernel
theorem d_K_spanTimes_160 : decode c_K_spanTimes 160 = .ok (.getfield 54, 3) := by decide +kernel
theorem d_K_spanTimes_163 : decode c_K_spanTimes 163 = .ok (.invokevirtual 145, 3) := by decide +kernel
theorem d_K_spanTimes_166 : decode c_K_spanTimes 166 = .ok (.ifCond .ne 13, 3) := by decide +kernel
theorem d_K_spanTimes_169 : decode c_K_spanTimes 169 = .ok (.aload_n 0, 1) := by decide +kernel
theorem d_K_spanTimes_170 : decode c_K_spanTimes 170 = .ok (.getfield 57, 3) := by decide +kernel
theorem d_K_spanTimes_173 : decode c_K_spanTimes 173 = .ok (.invokevirtual 145, 3) := by decide +kernel
theorem d_K_spanTimes_176 : decode c_K_spanTimes 176 = .ok (.ifCond .eq 5, 3) := by decide +kernel
theorem d_K_spanTimes_179 : decode c_K_spanTimes 179 = .ok (.iconst (-1), 1) := by decide +kernel
theorem d_K_spanTimes_180 : decode c_K_spanTimes 180 = .ok (.ireturn, 1) := by decide +kernel
theorem d_K_spanTimes_181 : decode c_K_spanTimes 181 = .ok (.aload_n 0, 1) := by decide +kernel
theorem d_K_spanTimes_182 : decode c_K_spanTimes 182 = .ok (.getfield 10, 3) := by decide +kernel
theorem d_K_spanTimes_185 : decode c_K_spanTimes 185 = .ok (.aload_n 0, 1) := by decide +kernel
theorem d_K_spanTimes_186 : decode c_K_spanTimes 186 = .ok (.getfield 54, 3) := by decide +kernel
theorem d_K_spanTimes_189 : decode c_K_spanTimes 189 = .ok (.invokevirtual 149, 3) := by decide +kernel
theorem d_K_spanTimes_192 : decode c_K_spanTimes 192 = .ok (.istore 4, 2) := by decide +kernel
theorem d_K_spanTimes_194 : decode c_K_spanTimes 194 = .ok (.aload_n 0, 1) := by decide +kernel
theorem d_K_spanTimes_195 : decode c_K_spanTimes 195 = .ok (.getfield 10, 3) := by decide +kernel
theorem d_K_spanTimes_198 : decode c_K_spanTimes 198 = .ok (.aload_n 0, 1) := by decide +kernel
theorem d_K_spanTimes_199 : decode c_K_spanTimes 199 = .ok (.getfield 57, 3) := by decide +kernel
theorem d_K_spanTimes_202 : decode c_K_spanTimes 202 = .ok (.invokevirtual 149, 3) := by decide +kernel
theorem d_K_spanTimes_205 : decode c_K_spanTimes 205 = .ok (.istore 5, 2) := by decide +kernel
theorem d_K_spanTimes_207 : decode c_K_spanTimes 207 = .ok (.aload_n 0, 1) := by decide +kernel
theorem d_K_spanTimes_208 : decode c_K_spanTimes 208 = .ok (.iload 4, 2) := by decide +kernel
theorem d_K_spanTimes_210 : decode c_K_spanTimes 210 = .ok (.iload 5, 2) := by decide +kernel
theorem d_K_spanTimes_212 : decode c_K_spanTimes 212 = .ok (.invokevirtual 138, 3) := by decide +kernel
theorem d_K_spanTimes_215 : decode c_K_spanTimes 215 = .ok (.ireturn, 1) := by decide +kernel
theorem d_K_needSpan_0 : decode c_K_needSpan 0 = .ok (.iload_n 1, 1) := by decide +kernel
theorem d_K_needSpan_1 : decode c_K_needSpan 1 = .ok (.ifCond .lt 11, 3) := by decide +kernel
theorem d_K_needSpan_4 : decode c_K_needSpan 4 = .ok (.iload_n 1, 1) := by decide +kernel
theorem d_K_needSpan_5 : decode c_K_needSpan 5 = .ok (.aload_n 0, 1) := by decide +kernel
theorem d_K_needSpan_6 : decode c_K_needSpan 6 = .ok (.getfield 23, 3) := by decide +kernel
theorem d_K_needSpan_9 : decode c_K_needSpan 9 = .ok (.if_icmp .lt 13, 3) := by decide +kernel
theorem d_K_needSpan_12 : decode c_K_needSpan 12 = .ok (.new 110, 3) := by decide +kernel
theorem d_K_needSpan_15 : decode c_K_needSpan 15 = .ok (.dup, 1) := by decide +kernel
theorem d_K_needSpan_16 : decode c_K_needSpan 16 = .ok (.ldc 205, 2) := by decide +kernel
theorem d_K_needSpan_18 : decode c_K_needSpan 18 = .ok (.invokespecial 114, 3) := by decide +kernel
theorem d_K_needSpan_21 : decode c_K_needSpan 21 = .ok (.athrow, 1) := by decide +kernel
theorem d_K_needSpan_22 : decode c_K_needSpan 22 = .ok (.return_, 1) := by decide +kernel
theorem d_K_end_0 : decode c_K_end 0 = .ok (.aload_n 0, 1) := by decide +kernel
theorem d_K_end_1 : decode c_K_end 1 = .ok (.iload_n 1, 1) := by decide +kernel
theorem d_K_end_2 : decode c_K_end 2 = .ok (.invokevirtual 142, 3) := by decide +kernel
theorem d_K_end_5 : decode c_K_end 5 = .ok (.iload_n 2, 1) := by decide +kernel
theorem d_K_end_6 : decode c_K_end 6 = .ok (.ifCond .eq 18, 3) := by decide +kernel
theorem d_K_end_9 : decode c_K_end 9 = .ok (.iload_n 2, 1) := by decide +kernel
theorem d_K_end_10 : decode c_K_end 10 = .ok (.iconst 1, 1) := by decide +kernel
theorem d_K_end_11 : decode c_K_end 11 = .ok (.if_icmp .eq 13, 3) := by decide +kernel
theorem d_K_end_14 : decode c_K_end 14 = .ok (.new 110, 3) := by decide +kernel
theorem d_K_end_17 : decode c_K_end 17 = .ok (.dup, 1) := by decide +kernel
theorem d_K_end_18 : decode c_K_end 18 = .ok (.ldc 153, 2) := by decide +kernel
theorem d_K_end_20 : decode c_K_end 20 = .ok (.invokespecial 114, 3) := by decide +kernel
theorem d_K_end_23 : decode c_K_end 23 = .ok (.athrow, 1) := by decide +kernel
theorem d_K_end_24 : decode c_K_end 24 = .ok (.iload_n 2, 1) := by decide +kernel
theorem d_K_end_25 : decode c_K_end 25 = .ok (.ifCond .ne 12, 3) := by decide +kernel
theorem d_K_end_28 : decode c_K_end 28 = .ok (.aload_n 0, 1) := by decide +kernel
theorem d_K_end_29 : decode c_K_end 29 = .ok (.getfield 16, 3) := by decide +kernel
theorem d_K_end_32 : decode c_K_end 32 = .ok (.iload_n 1, 1) := by decide +kernel
theorem d_K_end_33 : decode c_K_end 33 = .ok (.iaload, 1) := by decide +kernel
theorem d_K_end_34 : decode c_K_end 34 = .ok (.goto 9, 3) := by decide +kernel
theorem d_K_end_37 : decode c_K_end 37 = .ok (.aload_n 0, 1) := by decide +kernel
theorem d_K_end_38 : decode c_K_end 38 = .ok (.getfield 20, 3) := by decide +kernel
theorem d_K_end_41 : decode c_K_end 41 = .ok (.iload_n 1, 1) := by decide +kernel
theorem d_K_end_42 : decode c_K_end 42 = .ok (.iaload, 1) := by decide +kernel
theorem d_K_end_43 : decode c_K_end 43 = .ok (.ireturn, 1) := by decide +kernel
theorem d_K_within_0 : decode c_K_within 0 = .ok (.aload_n 0, 1) := by decide +kernel
theorem d_K_within_1 : decode c_K_within 1 = .ok (.iload_n 1, 1) := by decide +kernel
theorem d_K_within_2 : decode c_K_within 2 = .ok (.invokevirtual 142, 3) := by decide +kernel
theorem d_K_within_5 : decode c_K_within 5 = .ok (.aload_n 0, 1) := by decide +kernel
theorem d_K_within_6 : decode c_K_within 6 = .ok (.iload_n 2, 1) := by decide +kernel
theorem d_K_within_7 : decode c_K_within 7 = .ok (.invokevirtual 107, 3) := by decide +kernel
theorem d_K_within_10 : decode c_K_within 10 = .ok (.aload_n 0, 1) := by decide +kernel
theorem d_K_within_11 : decode c_K_within 11 = .ok (.getfield 10, 3) := by decide +kernel
theorem d_K_within_14 : decode c_K_within 14 = .ok (.iload_n 2, 1) := by decide +kernel
theorem d_K_within_15 : decode c_K_within 15 = .ok (.aload_n 0, 1) := by decide +kernel
theorem d_K_within_16 : decode c_K_within 16 = .ok (.getfield 51, 3) := by decide +kernel
theorem d_K_within_19 : decode c_K_within 19 = .ok (.invokevirtual 122, 3) := by decide +kernel
theorem d_K_within_22 : decode c_K_within 22 = .ok (.aload_n 0, 1) := by decide +kernel
theorem d_K_within_23 : decode c_K_within 23 = .ok (.getfield 10, 3) := by decide +kernel
theorem d_K_within_26 : decode c_K_within 26 = .ok (.aload_n 0, 1) := by decide +kernel
theorem d_K_within_27 : decode c_K_within 27 = .ok (.getfield 16, 3) := by decide +kernel
theorem d_K_within_30 : decode c_K_within 30 = .ok (.iload_n 1, 1) := by decide +kernel
theorem d_K_within_31 : decode c_K_within 31 = .ok (.iaload, 1) := by decide +kernel
theorem d_K_within_32 : decode c_K_within 32 = .ok (.aload_n 0, 1) := by decide +kernel
theorem d_K_within_33 : decode c_K_within 33 = .ok (.getfield 48, 3) := by decide +kernel
theorem d_K_within_36 : decode c_K_within 36 = .ok (.invokevirtual 122, 3) := by decide +kernel
theorem d_K_within_39 : decode c_K_within 39 = .ok (.aload_n 0, 1) := by decide +kernel
theorem d_K_within_40 : decode c_K_within 40 = .ok (.getfield 44, 3) := by decide +kernel
theorem d_K_within_43 : decode c_K_within 43 = .ok (.aload_n 0, 1) := by decide +kernel
theorem d_K_within_44 : decode c_K_within 44 = .ok (.getfield 48, 3) := by decide +kernel
theorem d_K_within_47 : decode c_K_within 47 = .ok (.aload_n 0, 1) := by decide +kernel
theorem d_K_within_48 : decode c_K_within 48 = .ok (.getfield 51, 3) := by decide +kernel
theorem d_K_within_51 : decode c_K_within 51 = .ok (.aload_n 0, 1) := by decide +kernel
theorem d_K_within_52 : decode c_K_within 52 = .ok (.getfield 54, 3) := by decide +kernel
theorem d_K_within_55 : decode c_K_within 55 = .ok (.invokevirtual 103, 3) := by decide +kernel
theorem d_K_within_58 : decode c_K_within 58 = .ok (.ifCond .le 5, 3) := by decide +kernel
theorem d_K_within_61 : decode c_K_within 61 = .ok (.iconst 0, 1) := by decide +kernel
theorem d_K_within_62 : decode c_K_within 62 = .ok (.ireturn, 1) := by decide +kernel
theorem d_K_within_63 : decode c_K_within 63 = .ok (.aload_n 0, 1) := by decide +kernel
theorem d_K_within_64 : decode c_K_within 64 = .ok (.getfield 10, 3) := by decide +kernel
theorem d_K_within_67 : decode c_K_within 67 = .ok (.aload_n 0, 1) := by decide +kernel
theorem d_K_within_68 : decode c_K_within 68 = .ok (.getfield 20, 3) := by decide +kernel
theorem d_K_within_71 : decode c_K_within 71 = .ok (.iload_n 1, 1) := by decide +kernel
theorem d_K_within_72 : decode c_K_within 72 = .ok (.iaload, 1) := by decide +kernel
theorem d_K_within_73 : decode c_K_within 73 = .ok (.aload_n 0, 1) := by decide +kernel
theorem d_K_within_74 : decode c_K_within 74 = .ok (.getfield 48, 3) := by decide +kernel
theorem d_K_within_77 : decode c_K_within 77 = .ok (.invokevirtual 122, 3) := by decide +kernel
theorem d_K_within_80 : decode c_K_within 80 = .ok (.aload_n 0, 1) := by decide +kernel
theorem d_K_within_81 : decode c_K_within 81 = .ok (.getfield 44, 3) := by decide +kernel
theorem d_K_within_84 : decode c_K_within 84 = .ok (.aload_n 0, 1) := by decide +kernel
theorem d_K_within_85 : decode c_K_within 85 = .ok (.getfield 48, 3) := by decide +kernel
theorem d_K_within_88 : decode c_K_within 88 = .ok (.aload_n 0, 1) := by decide +kernel
theorem d_K_within_89 : decode c_K_within 89 = .ok (.getfield 51, 3) := by decide +kernel
theorem d_K_within_92 : decode c_K_within 92 = .ok (.aload_n 0, 1) := by decide +kernel
theorem d_K_within_93 : decode c_K_within 93 = .ok (.getfield 54, 3) := by decide +kernel
theorem d_K_within_96 : decode c_K_within 96 = .ok (.invokevirtual 103, 3) := by decide +kernel
theorem d_K_within_99 : decode c_K_within 99 = .ok (.ifCond .lt 7, 3) := by decide +kernel
theorem d_K_within_102 : decode c_K_within 102 = .ok (.iconst 1, 1) := by decide +kernel
theorem d_K_within_103 : decode c_K_within 103 = .ok (.goto 4, 3) := by decide +kernel
theorem d_K_within_106 : decode c_K_within 106 = .ok (.iconst 0, 1) := by decide +kernel
theorem d_K_within_107 : decode c_K_within 107 = .ok (.ireturn, 1) := by decide +kernel
theorem d_K_weight_0 : decode c_K_weight 0 = .ok (.lload_n 1, 1) := by decide +kernel
theorem d_K_weight_1 : decode c_K_weight 1 = .ok (.lconst 0, 1) := by decide +kernel
theorem d_K_weight_2 : decode c_K_weight 2 = .ok (.lcmp, 1) := by decide +kernel
theorem d_K_weight_3 : decode c_K_weight 3 = .ok (.ifCond .lt 11, 3) := by decide +kernel
theorem d_K_weight_6 : decode c_K_weight 6 = .ok (.lload_n 1, 1) := by decide +kernel
theorem d_K_weight_7 : decode c_K_weight 7 = .ok (.ldc2_w 115, 3) := by decide +kernel
theorem d_K_weight_10 : decode c_K_weight 10 = .ok (.lcmp, 1) := by decide +kernel
theorem d_K_weight_11 : decode c_K_weight 11 = .ok (.ifCond .le 13, 3) := by decide +kernel
theorem d_K_weight_14 : decode c_K_weight 14 = .ok (.new 117, 3) := by decide +kernel
theorem d_K_weight_17 : decode c_K_weight 17 = .ok (.dup, 1) := by decide +kernel
theorem d_K_weight_18 : decode c_K_weight 18 = .ok (.ldc 155, 2) := by decide +kernel
theorem d_K_weight_20 : decode c_K_weight 20 = .ok (.invokespecial 121, 3) := by decide +kernel
theorem d_K_weight_23 : decode c_K_weight 23 = .ok (.athrow, 1) := by decide +kernel
theorem d_K_weight_24 : decode c_K_weight 24 = .ok (.aload_n 0, 1) := by decide +kernel
theorem d_K_weight_25 : decode c_K_weight 25 = .ok (.getfield 31, 3) := by decide +kernel
theorem d_K_weight_28 : decode c_K_weight 28 = .ok (.bipush 20, 2) := by decide +kernel
theorem d_K_weight_30 : decode c_K_weight 30 = .ok (.if_icmp .lt 13, 3) := by decide +kernel
theorem d_K_weight_33 : decode c_K_weight 33 = .ok (.new 130, 3) := by decide +kernel
theorem d_K_weight_36 : decode c_K_weight 36 = .ok (.dup, 1) := by decide +kernel
theorem d_K_weight_37 : decode c_K_weight 37 = .ok (.ldc 157, 2) := by decide +kernel
theorem d_K_weight_39 : decode c_K_weight 39 = .ok (.invokespecial 134, 3) := by decide +kernel
theorem d_K_weight_42 : decode c_K_weight 42 = .ok (.athrow, 1) := by decide +kernel
theorem d_K_weight_43 : decode c_K_weight 43 = .ok (.aload_n 0, 1) := by decide +kernel
theorem d_K_weight_44 : decode c_K_weight 44 = .ok (.getfield 27, 3) := by decide +kernel
theorem d_K_weight_47 : decode c_K_weight 47 = .ok (.aload_n 0, 1) := by decide +kernel
theorem d_K_weight_48 : decode c_K_weight 48 = .ok (.getfield 31, 3) := by decide +kernel
theorem d_K_weight_51 : decode c_K_weight 51 = .ok (.lload_n 1, 1) := by decide +kernel
theorem d_K_weight_52 : decode c_K_weight 52 = .ok (.lastore, 1) := by decide +kernel
theorem d_K_weight_53 : decode c_K_weight 53 = .ok (.aload_n 0, 1) := by decide +kernel
theorem d_K_weight_54 : decode c_K_weight 54 = .ok (.dup, 1) := by decide +kernel
theorem d_K_weight_55 : decode c_K_weight 55 = .ok (.getfield 31, 3) := by decide +kernel
theorem d_K_weight_58 : decode c_K_weight 58 = .ok (.iconst 1, 1) := by decide +kernel
theorem d_K_weight_59 : decode c_K_weight 59 = .ok (.iadd, 1) := by decide +kernel
theorem d_K_weight_60 : decode c_K_weight 60 = .ok (.putfield 31, 3) := by decide +kernel
theorem d_K_weight_63 : decode c_K_weight 63 = .ok (.aload_n 0, 1) := by decide +kernel
theorem d_K_weight_64 : decode c_K_weight 64 = .ok (.getfield 31, 3) := by decide +kernel
theorem d_K_weight_67 : decode c_K_weight 67 = .ok (.ireturn, 1) := by decide +kernel
theorem d_K_share_0 : decode c_K_share 0 = .ok (.iload_n 3, 1) := by decide +kernel
theorem d_K_share_1 : decode c_K_share 1 = .ok (.ifCond .lt 11, 3) := by decide +kernel
theorem d_K_share_4 : decode c_K_share 4 = .ok (.iload_n 3, 1) := by decide +kernel
theorem d_K_share_5 : decode c_K_share 5 = .ok (.aload_n 0, 1) := by decide +kernel
theorem d_K_share_6 : decode c_K_share 6 = .ok (.getfield 31, 3) := by decide +kernel
theorem d_K_share_9 : decode c_K_share 9 = .ok (.if_icmp .lt 13, 3) := by decide +kernel
theorem d_K_share_12 : decode c_K_share 12 = .ok (.new 110, 3) := by decide +kernel
theorem d_K_share_15 : decode c_K_share 15 = .ok (.dup, 1) := by decide +kernel
theorem d_K_share_16 : decode c_K_share 16 = .ok (.ldc 159, 2) := by decide +kernel
theorem d_K_share_18 : decode c_K_share 18 = .ok (.invokespecial 114, 3) := by decide +kernel
theorem d_K_share_21 : decode c_K_share 21 = .ok (.athrow, 1) := by decide +kernel
theorem d_K_share_22 : decode c_K_share 22 = .ok (.lload_n 1, 1) := by decide +kernel
theorem d_K_share_23 : decode c_K_share 23 = .ok (.lconst 0, 1) := by decide +kernel
theorem d_K_share_24 : decode c_K_share 24 = .ok (.lcmp, 1) := by decide +kernel
theorem d_K_share_25 : decode c_K_share 25 = .ok (.ifCond .lt 11, 3) := by decide +kernel
theorem d_K_share_28 : decode c_K_share 28 = .ok (.lload_n 1, 1) := by decide +kernel
theorem d_K_share_29 : decode c_K_share 29 = .ok (.ldc2_w 115, 3) := by decide +kernel
theorem d_K_share_32 : decode c_K_share 32 = .ok (.lcmp, 1) := by decide +kernel
theorem d_K_share_33 : decode c_K_share 33 = .ok (.ifCond .le 13, 3) := by decide +kernel
theorem d_K_share_36 : decode c_K_share 36 = .ok (.new 117, 3) := by decide +kernel
theorem d_K_share_39 : decode c_K_share 39 = .ok (.dup, 1) := by decide +kernel
theorem d_K_share_40 : decode c_K_share 40 = .ok (.ldc 161, 2) := by decide +kernel
theorem d_K_share_42 : decode c_K_share 42 = .ok (.invokespecial 121, 3) := by decide +kernel
theorem d_K_share_45 : decode c_K_share 45 = .ok (.athrow, 1) := by decide +kernel
theorem d_K_share_46 : decode c_K_share 46 = .ok (.aload_n 0, 1) := by decide +kernel
theorem d_K_share_47 : decode c_K_share 47 = .ok (.invokevirtual 163, 3) := by decide +kernel
theorem d_K_share_50 : decode c_K_share 50 = .ok (.lstore 4, 2) := by decide +kernel
theorem d_K_share_52 : decode c_K_share 52 = .ok (.lload 4, 2) := by decide +kernel
theorem d_K_share_54 : decode c_K_share 54 = .ok (.lconst 0, 1) := by decide +kernel
theorem d_K_share_55 : decode c_K_share 55 = .ok (.lcmp, 1) := by decide +kernel
theorem d_K_share_56 : decode c_K_share 56 = .ok (.ifCond .ne 13, 3) := by decide +kernel
theorem d_K_share_59 : decode c_K_share 59 = .ok (.new 64, 3) := by decide +kernel
theorem d_K_share_62 : decode c_K_share 62 = .ok (.dup, 1) := by decide +kernel
theorem d_K_share_63 : decode c_K_share 63 = .ok (.ldc 167, 2) := by decide +kernel
theorem d_K_share_65 : decode c_K_share 65 = .ok (.invokespecial 68, 3) := by decide +kernel
theorem d_K_share_68 : decode c_K_share 68 = .ok (.athrow, 1) := by decide +kernel
theorem d_K_share_69 : decode c_K_share 69 = .ok (.lload_n 1, 1) := by decide +kernel
theorem d_K_share_70 : decode c_K_share 70 = .ok (.aload_n 0, 1) := by decide +kernel
theorem d_K_share_71 : decode c_K_share 71 = .ok (.getfield 27, 3) := by decide +kernel
theorem d_K_share_74 : decode c_K_share 74 = .ok (.iload_n 3, 1) := by decide +kernel
theorem d_K_share_75 : decode c_K_share 75 = .ok (.laload, 1) := by decide +kernel
theorem d_K_share_76 : decode c_K_share 76 = .ok (.lmul, 1) := by decide +kernel
theorem d_K_share_77 : decode c_K_share 77 = .ok (.lstore 6, 2) := by decide +kernel
theorem d_K_share_79 : decode c_K_share 79 = .ok (.lload 6, 2) := by decide +kernel
theorem d_K_share_81 : decode c_K_share 81 = .ok (.lload 4, 2) := by decide +kernel
theorem d_K_share_83 : decode c_K_share 83 = .ok (.ldiv, 1) := by decide +kernel
theorem d_K_share_84 : decode c_K_share 84 = .ok (.aload_n 0, 1) := by decide +kernel
theorem d_K_share_85 : decode c_K_share 85 = .ok (.lload_n 1, 1) := by decide +kernel
theorem d_K_share_86 : decode c_K_share 86 = .ok (.lload 4, 2) := by decide +kernel
theorem d_K_share_88 : decode c_K_share 88 = .ok (.iload_n 3, 1) := by decide +kernel
theorem d_K_share_89 : decode c_K_share 89 = .ok (.invokevirtual 169, 3) := by decide +kernel
theorem d_K_share_92 : decode c_K_share 92 = .ok (.ifCond .eq 7, 3) := by decide +kernel
theorem d_K_share_95 : decode c_K_share 95 = .ok (.iconst 1, 1) := by decide +kernel
theorem d_K_share_96 : decode c_K_share 96 = .ok (.goto 4, 3) := by decide +kernel
theorem d_K_share_99 : decode c_K_share 99 = .ok (.iconst 0, 1) := by decide +kernel
theorem d_K_share_100 : decode c_K_share 100 = .ok (.i2l, 1) := by decide +kernel
theorem d_K_share_101 : decode c_K_share 101 = .ok (.ladd, 1) := by decide +kernel
theorem d_K_share_102 : decode c_K_share 102 = .ok (.lreturn, 1) := by decide +kernel
theorem d_K_sumOfWeights_0 : decode c_K_sumOfWeights 0 = .ok (.lconst 0, 1) := by decide +kernel
theorem d_K_sumOfWeights_1 : decode c_K_sumOfWeights 1 = .ok (.lstore_n 1, 1) := by decide +kernel
theorem d_K_sumOfWeights_2 : decode c_K_sumOfWeights 2 = .ok (.iconst 0, 1) := by decide +kernel
theorem d_K_sumOfWeights_3 : decode c_K_sumOfWeights 3 = .ok (.istore_n 3, 1) := by decide +kernel
theorem d_K_sumOfWeights_4 : decode c_K_sumOfWeights 4 = .ok (.iload_n 3, 1) := by decide +kernel
theorem d_K_sumOfWeights_5 : decode c_K_sumOfWeights 5 = .ok (.aload_n 0, 1) := by decide +kernel
theorem d_K_sumOfWeights_6 : decode c_K_sumOfWeights 6 = .ok (.getfield 31, 3) := by decide +kernel
theorem d_K_sumOfWeights_9 : decode c_K_sumOfWeights 9 = .ok (.if_icmp .ge 18, 3) := by decide +kernel
theorem d_K_sumOfWeights_12 : decode c_K_sumOfWeights 12 = .ok (.lload_n 1, 1) := by decide +kernel
theorem d_K_sumOfWeights_13 : decode c_K_sumOfWeights 13 = .ok (.aload_n 0, 1) := by decide +kernel
theorem d_K_sumOfWeights_14 : decode c_K_sumOfWeights 14 = .ok (.getfield 27, 3) := by decide +kernel
theorem d_K_sumOfWeights_17 : decode c_K_sumOfWeights 17 = .ok (.iload_n 3, 1) := by decide +kernel
theorem d_K_sumOfWeights_18 : decode c_K_sumOfWeights 18 = .ok (.laload, 1) := by decide +kernel
theorem d_K_sumOfWeights_19 : decode c_K_sumOfWeights 19 = .ok (.ladd, 1) := by decide +kernel
theorem d_K_sumOfWeights_20 : decode c_K_sumOfWeights 20 = .ok (.lstore_n 1, 1) := by decide +kernel
theorem d_K_sumOfWeights_21 : decode c_K_sumOfWeights 21 = .ok (.iinc 3 1, 3) := by decide +kernel
theorem d_K_sumOfWeights_24 : decode c_K_sumOfWeights 24 = .ok (.goto (-20), 3) := by decide +kernel
theorem d_K_sumOfWeights_27 : decode c_K_sumOfWeights 27 = .ok (.lload_n 1, 1) := by decide +kernel
theorem d_K_sumOfWeights_28 : decode c_K_sumOfWeights 28 = .ok (.lreturn, 1) := by decide +kernel
theorem d_K_getsOneMore_0 : decode c_K_getsOneMore 0 = .ok (.lload_n 1, 1) := by decide +kernel
theorem d_K_getsOneMore_1 : decode c_K_getsOneMore 1 = .ok (.aload_n 0, 1) := by decide +kernel
theorem d_K_getsOneMore_2 : decode c_K_getsOneMore 2 = .ok (.getfield 27, 3) := by decide +kernel
theorem d_K_getsOneMore_5 : decode c_K_getsOneMore 5 = .ok (.iload 5, 2) := by decide +kernel
theorem d_K_getsOneMore_7 : decode c_K_getsOneMore 7 = .ok (.laload, 1) := by decide +kernel
theorem d_K_getsOneMore_8 : decode c_K_getsOneMore 8 = .ok (.lmul, 1) := by decide +kernel
theorem d_K_getsOneMore_9 : decode c_K_getsOneMore 9 = .ok (.lload_n 3, 1) := by decide +kernel
theorem d_K_getsOneMore_10 : decode c_K_getsOneMore 10 = .ok (.lrem, 1) := by decide +kernel
theorem d_K_getsOneMore_11 : decode c_K_getsOneMore 11 = .ok (.lstore 6, 2) := by decide +kernel
theorem d_K_getsOneMore_13 : decode c_K_getsOneMore 13 = .ok (.lload_n 1, 1) := by decide +kernel
theorem d_K_getsOneMore_14 : decode c_K_getsOneMore 14 = .ok (.lstore 8, 2) := by decide +kernel
theorem d_K_getsOneMore_16 : decode c_K_getsOneMore 16 = .ok (.iconst 0, 1) := by decide +kernel
theorem d_K_getsOneMore_17 : decode c_K_getsOneMore 17 = .ok (.istore 10, 2) := by decide +kernel
theorem d_K_getsOneMore_19 : decode c_K_getsOneMore 19 = .ok (.iconst 0, 1) := by decide +kernel
theorem d_K_getsOneMore_20 : decode c_K_getsOneMore 20 = .ok (.istore 11, 2) := by decide +kernel
theorem d_K_getsOneMore_22 : decode c_K_getsOneMore 22 = .ok (.iload 11, 2) := by decide +kernel
theorem d_K_getsOneMore_24 : decode c_K_getsOneMore 24 = .ok (.aload_n 0, 1) := by decide +kernel
theorem d_K_getsOneMore_25 : decode c_K_getsOneMore 25 = .ok (.getfield 31, 3) := by decide +kernel
