theorem d_M_init_0 : decode c_M_init 0 = .ok (.aload_n 0, 1) := by decide +kernel
theorem d_M_init_1 : decode c_M_init 1 = .ok (.invokespecial 1, 3) := by decide +kernel
theorem d_M_init_4 : decode c_M_init 4 = .ok (.aload_n 0, 1) := by decide +kernel
theorem d_M_init_5 : decode c_M_init 5 = .ok (.sipush 160, 3) := by decide +kernel
theorem d_M_init_8 : decode c_M_init 8 = .ok (.newarray .long, 2) := by decide +kernel
theorem d_M_init_10 : decode c_M_init 10 = .ok (.putfield 7, 3) := by decide +kernel
theorem d_M_init_13 : decode c_M_init 13 = .ok (.aload_n 0, 1) := by decide +kernel
theorem d_M_init_14 : decode c_M_init 14 = .ok (.bipush 100, 2) := by decide +kernel
theorem d_M_init_16 : decode c_M_init 16 = .ok (.newarray .int, 2) := by decide +kernel
theorem d_M_init_18 : decode c_M_init 18 = .ok (.putfield 13, 3) := by decide +kernel
theorem d_M_init_21 : decode c_M_init 21 = .ok (.aload_n 0, 1) := by decide +kernel
theorem d_M_init_22 : decode c_M_init 22 = .ok (.sipush 800, 3) := by decide +kernel
theorem d_M_init_25 : decode c_M_init 25 = .ok (.newarray .long, 2) := by decide +kernel
theorem d_M_init_27 : decode c_M_init 27 = .ok (.putfield 17, 3) := by decide +kernel
theorem d_M_init_30 : decode c_M_init 30 = .ok (.aload_n 0, 1) := by decide +kernel
theorem d_M_init_31 : decode c_M_init 31 = .ok (.sipush 800, 3) := by decide +kernel
theorem d_M_init_34 : decode c_M_init 34 = .ok (.newarray .long, 2) := by decide +kernel
theorem d_M_init_36 : decode c_M_init 36 = .ok (.putfield 20, 3) := by decide +kernel
theorem d_M_init_39 : decode c_M_init 39 = .ok (.aload_n 0, 1) := by decide +kernel
theorem d_M_init_40 : decode c_M_init 40 = .ok (.bipush 30, 2) := by decide +kernel
theorem d_M_init_42 : decode c_M_init 42 = .ok (.newarray .int, 2) := by decide +kernel
theorem d_M_init_44 : decode c_M_init 44 = .ok (.putfield 23, 3) := by decide +kernel
theorem d_M_init_47 : decode c_M_init 47 = .ok (.aload_n 0, 1) := by decide +kernel
theorem d_M_init_48 : decode c_M_init 48 = .ok (.bipush 30, 2) := by decide +kernel
theorem d_M_init_50 : decode c_M_init 50 = .ok (.newarray .int, 2) := by decide +kernel
theorem d_M_init_52 : decode c_M_init 52 = .ok (.putfield 26, 3) := by decide +kernel
theorem d_M_init_55 : decode c_M_init 55 = .ok (.aload_n 0, 1) := by decide +kernel
theorem d_M_init_56 : decode c_M_init 56 = .ok (.bipush 20, 2) := by decide +kernel
theorem d_M_init_58 : decode c_M_init 58 = .ok (.newarray .long, 2) := by decide +kernel
theorem d_M_init_60 : decode c_M_init 60 = .ok (.putfield 29, 3) := by decide +kernel
theorem d_M_init_63 : decode c_M_init 63 = .ok (.aload_n 0, 1) := by decide +kernel
theorem d_M_init_64 : decode c_M_init 64 = .ok (.bipush 8, 2) := by decide +kernel
theorem d_M_init_66 : decode c_M_init 66 = .ok (.newarray .long, 2) := by decide +kernel
theorem d_M_init_68 : decode c_M_init 68 = .ok (.putfield 32, 3) := by decide +kernel
theorem d_M_init_71 : decode c_M_init 71 = .ok (.aload_n 0, 1) := by decide +kernel
theorem d_M_init_72 : decode c_M_init 72 = .ok (.bipush 8, 2) := by decide +kernel
theorem d_M_init_74 : decode c_M_init 74 = .ok (.newarray .long, 2) := by decide +kernel
theorem d_M_init_76 : decode c_M_init 76 = .ok (.putfield 35, 3) := by decide +kernel
theorem d_M_init_79 : decode c_M_init 79 = .ok (.aload_n 0, 1) := by decide +kernel
theorem d_M_init_80 : decode c_M_init 80 = .ok (.getfield 35, 3) := by decide +kernel
theorem d_M_init_83 : decode c_M_init 83 = .ok (.iconst 0, 1) := by decide +kernel
theorem d_M_init_84 : decode c_M_init 84 = .ok (.lconst 1, 1) := by decide +kernel
theorem d_M_init_85 : decode c_M_init 85 = .ok (.lastore, 1) := by decide +kernel
theorem d_M_init_86 : decode c_M_init 86 = .ok (.return_, 1) := by decide +kernel
theorem d_M_thrown_0 : decode c_M_thrown 0 = .ok (.aload_n 0, 1) := by decide +kernel
theorem d_M_thrown_1 : decode c_M_thrown 1 = .ok (.getfield 38, 3) := by decide +kernel
theorem d_M_thrown_4 : decode c_M_thrown 4 = .ok (.ireturn, 1) := by decide +kernel
theorem d_M_value_0 : decode c_M_value 0 = .ok (.aload_n 0, 1) := by decide +kernel
theorem d_M_value_1 : decode c_M_value 1 = .ok (.aload_n 0, 1) := by decide +kernel
theorem d_M_value_2 : decode c_M_value 2 = .ok (.getfield 42, 3) := by decide +kernel
theorem d_M_value_5 : decode c_M_value 5 = .ok (.bipush 100, 2) := by decide +kernel
theorem d_M_value_7 : decode c_M_value 7 = .ok (.if_icmp .ge 7, 3) := by decide +kernel
theorem d_M_value_10 : decode c_M_value 10 = .ok (.iconst 1, 1) := by decide +kernel
theorem d_M_value_11 : decode c_M_value 11 = .ok (.goto 4, 3) := by decide +kernel
theorem d_M_value_14 : decode c_M_value 14 = .ok (.iconst 0, 1) := by decide +kernel
theorem d_M_value_15 : decode c_M_value 15 = .ok (.lload_n 3, 1) := by decide +kernel
theorem d_M_value_16 : decode c_M_value 16 = .ok (.lconst 0, 1) := by decide +kernel
theorem d_M_value_17 : decode c_M_value 17 = .ok (.lcmp, 1) := by decide +kernel
theorem d_M_value_18 : decode c_M_value 18 = .ok (.ifCond .eq 7, 3) := by decide +kernel
theorem d_M_value_21 : decode c_M_value 21 = .ok (.iconst 1, 1) := by decide +kernel
theorem d_M_value_22 : decode c_M_value 22 = .ok (.goto 4, 3) := by decide +kernel
theorem d_M_value_25 : decode c_M_value 25 = .ok (.iconst 0, 1) := by decide +kernel
theorem d_M_value_26 : decode c_M_value 26 = .ok (.iconst 1, 1) := by decide +kernel
theorem d_M_value_27 : decode c_M_value 27 = .ok (.invokevirtual 118, 3) := by decide +kernel
theorem d_M_value_30 : decode c_M_value 30 = .ok (.ifCond .ne 5, 3) := by decide +kernel
theorem d_M_value_33 : decode c_M_value 33 = .ok (.iconst 0, 1) := by decide +kernel
theorem d_M_value_34 : decode c_M_value 34 = .ok (.ireturn, 1) := by decide +kernel
theorem d_M_value_35 : decode c_M_value 35 = .ok (.aload_n 0, 1) := by decide +kernel
theorem d_M_value_36 : decode c_M_value 36 = .ok (.iconst 0, 1) := by decide +kernel
theorem d_M_value_37 : decode c_M_value 37 = .ok (.lload_n 1, 1) := by decide +kernel
theorem d_M_value_38 : decode c_M_value 38 = .ok (.lconst 0, 1) := by decide +kernel
theorem d_M_value_39 : decode c_M_value 39 = .ok (.lcmp, 1) := by decide +kernel
theorem d_M_value_40 : decode c_M_value 40 = .ok (.ifCond .ge 8, 3) := by decide +kernel
theorem d_M_value_43 : decode c_M_value 43 = .ok (.lload_n 1, 1) := by decide +kernel
theorem d_M_value_44 : decode c_M_value 44 = .ok (.lneg, 1) := by decide +kernel
theorem d_M_value_45 : decode c_M_value 45 = .ok (.goto 4, 3) := by decide +kernel
theorem d_M_value_48 : decode c_M_value 48 = .ok (.lload_n 1, 1) := by decide +kernel
theorem d_M_value_49 : decode c_M_value 49 = .ok (.invokevirtual 91, 3) := by decide +kernel
theorem d_M_value_52 : decode c_M_value 52 = .ok (.aload_n 0, 1) := by decide +kernel
theorem d_M_value_53 : decode c_M_value 53 = .ok (.iconst 1, 1) := by decide +kernel
theorem d_M_value_54 : decode c_M_value 54 = .ok (.lload_n 3, 1) := by decide +kernel
theorem d_M_value_55 : decode c_M_value 55 = .ok (.lconst 0, 1) := by decide +kernel
theorem d_M_value_56 : decode c_M_value 56 = .ok (.lcmp, 1) := by decide +kernel
theorem d_M_value_57 : decode c_M_value 57 = .ok (.ifCond .ge 8, 3) := by decide +kernel
theorem d_M_value_60 : decode c_M_value 60 = .ok (.lload_n 3, 1) := by decide +kernel
theorem d_M_value_61 : decode c_M_value 61 = .ok (.lneg, 1) := by decide +kernel
theorem d_M_value_62 : decode c_M_value 62 = .ok (.goto 4, 3) := by decide +kernel
theorem d_M_value_65 : decode c_M_value 65 = .ok (.lload_n 3, 1) := by decide +kernel
theorem d_M_value_66 : decode c_M_value 66 = .ok (.invokevirtual 91, 3) := by decide +kernel
theorem d_M_value_69 : decode c_M_value 69 = .ok (.aload_n 0, 1) := by decide +kernel
theorem d_M_value_70 : decode c_M_value 70 = .ok (.lload_n 1, 1) := by decide +kernel
theorem d_M_value_71 : decode c_M_value 71 = .ok (.lconst 0, 1) := by decide +kernel
theorem d_M_value_72 : decode c_M_value 72 = .ok (.lcmp, 1) := by decide +kernel
theorem d_M_value_73 : decode c_M_value 73 = .ok (.ifCond .ge 7, 3) := by decide +kernel
theorem d_M_value_76 : decode c_M_value 76 = .ok (.iconst (-1), 1) := by decide +kernel
theorem d_M_value_77 : decode c_M_value 77 = .ok (.goto 4, 3) := by decide +kernel
theorem d_M_value_80 : decode c_M_value 80 = .ok (.iconst 1, 1) := by decide +kernel
theorem d_M_value_81 : decode c_M_value 81 = .ok (.lload_n 3, 1) := by decide +kernel
theorem d_M_value_82 : decode c_M_value 82 = .ok (.lconst 0, 1) := by decide +kernel
theorem d_M_value_83 : decode c_M_value 83 = .ok (.lcmp, 1) := by decide +kernel
theorem d_M_value_84 : decode c_M_value 84 = .ok (.ifCond .ge 7, 3) := by decide +kernel
theorem d_M_value_87 : decode c_M_value 87 = .ok (.iconst (-1), 1) := by decide +kernel
theorem d_M_value_88 : decode c_M_value 88 = .ok (.goto 4, 3) := by decide +kernel
theorem d_M_value_91 : decode c_M_value 91 = .ok (.iconst 1, 1) := by decide +kernel
theorem d_M_value_92 : decode c_M_value 92 = .ok (.imul, 1) := by decide +kernel
theorem d_M_value_93 : decode c_M_value 93 = .ok (.invokevirtual 122, 3) := by decide +kernel
theorem d_M_value_96 : decode c_M_value 96 = .ok (.ireturn, 1) := by decide +kernel
theorem d_M_goes_0 : decode c_M_goes 0 = .ok (.aload_n 0, 1) := by decide +kernel
theorem d_M_goes_1 : decode c_M_goes 1 = .ok (.iload_n 1, 1) := by decide +kernel
theorem d_M_goes_2 : decode c_M_goes 2 = .ok (.ifCond .ne 7, 3) := by decide +kernel
theorem d_M_goes_5 : decode c_M_goes 5 = .ok (.iconst 1, 1) := by decide +kernel
theorem d_M_goes_6 : decode c_M_goes 6 = .ok (.goto 20, 3) := by decide +kernel
theorem d_M_goes_9 : decode c_M_goes 9 = .ok (.iload_n 2, 1) := by decide +kernel
theorem d_M_goes_10 : decode c_M_goes 10 = .ok (.ifCond .ne 7, 3) := by decide +kernel
theorem d_M_goes_13 : decode c_M_goes 13 = .ok (.iconst 2, 1) := by decide +kernel
theorem d_M_goes_14 : decode c_M_goes 14 = .ok (.goto 12, 3) := by decide +kernel
theorem d_M_goes_17 : decode c_M_goes 17 = .ok (.iload_n 3, 1) := by decide +kernel
theorem d_M_goes_18 : decode c_M_goes 18 = .ok (.ifCond .ne 7, 3) := by decide +kernel
theorem d_M_goes_21 : decode c_M_goes 21 = .ok (.iconst 3, 1) := by decide +kernel
theorem d_M_goes_22 : decode c_M_goes 22 = .ok (.goto 4, 3) := by decide +kernel
theorem d_M_goes_25 : decode c_M_goes 25 = .ok (.iconst 0, 1) := by decide +kernel
theorem d_M_goes_26 : decode c_M_goes 26 = .ok (.putfield 38, 3) := by decide +kernel
theorem d_M_goes_29 : decode c_M_goes 29 = .ok (.aload_n 0, 1) := by decide +kernel
theorem d_M_goes_30 : decode c_M_goes 30 = .ok (.getfield 38, 3) := by decide +kernel
theorem d_M_goes_33 : decode c_M_goes 33 = .ok (.ifCond .ne 7, 3) := by decide +kernel
theorem d_M_goes_36 : decode c_M_goes 36 = .ok (.iconst 1, 1) := by decide +kernel
theorem d_M_goes_37 : decode c_M_goes 37 = .ok (.goto 4, 3) := by decide +kernel
theorem d_M_goes_40 : decode c_M_goes 40 = .ok (.iconst 0, 1) := by decide +kernel
theorem d_M_goes_41 : decode c_M_goes 41 = .ok (.ireturn, 1) := by decide +kernel
theorem d_M_set_0 : decode c_M_set 0 = .ok (.aload_n 0, 1) := by decide +kernel
theorem d_M_set_1 : decode c_M_set 1 = .ok (.iload_n 1, 1) := by decide +kernel
theorem d_M_set_2 : decode c_M_set 2 = .ok (.invokevirtual 48, 3) := by decide +kernel
theorem d_M_set_5 : decode c_M_set 5 = .ok (.lload_n 2, 1) := by decide +kernel
theorem d_M_set_6 : decode c_M_set 6 = .ok (.lstore 4, 2) := by decide +kernel
theorem d_M_set_8 : decode c_M_set 8 = .ok (.lload 4, 2) := by decide +kernel
theorem d_M_set_10 : decode c_M_set 10 = .ok (.lconst 0, 1) := by decide +kernel
theorem d_M_set_11 : decode c_M_set 11 = .ok (.lcmp, 1) := by decide +kernel
theorem d_M_set_12 : decode c_M_set 12 = .ok (.ifCond .ge 7, 3) := by decide +kernel
theorem d_M_set_15 : decode c_M_set 15 = .ok (.iconst 1, 1) := by decide +kernel
theorem d_M_set_16 : decode c_M_set 16 = .ok (.goto 4, 3) := by decide +kernel
theorem d_M_set_19 : decode c_M_set 19 = .ok (.iconst 0, 1) := by decide +kernel
theorem d_M_set_20 : decode c_M_set 20 = .ok (.istore 6, 2) := by decide +kernel
theorem d_M_set_22 : decode c_M_set 22 = .ok (.iload 6, 2) := by decide +kernel
theorem d_M_set_24 : decode c_M_set 24 = .ok (.ifCond .eq 8, 3) := by decide +kernel
theorem d_M_set_27 : decode c_M_set 27 = .ok (.ldc2_w 52, 3) := by decide +kernel
theorem d_M_set_30 : decode c_M_set 30 = .ok (.lstore 4, 2) := by decide +kernel
theorem d_M_set_32 : decode c_M_set 32 = .ok (.iconst 0, 1) := by decide +kernel
theorem d_M_set_33 : decode c_M_set 33 = .ok (.istore 7, 2) := by decide +kernel
theorem d_M_set_35 : decode c_M_set 35 = .ok (.lload 4, 2) := by decide +kernel
theorem d_M_set_37 : decode c_M_set 37 = .ok (.lconst 0, 1) := by decide +kernel
theorem d_M_set_38 : decode c_M_set 38 = .ok (.lcmp, 1) := by decide +kernel
theorem d_M_set_39 : decode c_M_set 39 = .ok (.ifCond .le 35, 3) := by decide +kernel
theorem d_M_set_42 : decode c_M_set 42 = .ok (.aload_n 0, 1) := by decide +kernel
theorem d_M_set_43 : decode c_M_set 43 = .ok (.getfield 7, 3) := by decide +kernel
theorem d_M_set_46 : decode c_M_set 46 = .ok (.iload_n 1, 1) := by decide +kernel
theorem d_M_set_47 : decode c_M_set 47 = .ok (.bipush 20, 2) := by decide +kernel
theorem d_M_set_49 : decode c_M_set 49 = .ok (.imul, 1) := by decide +kernel
theorem d_M_set_50 : decode c_M_set 50 = .ok (.iload 7, 2) := by decide +kernel
theorem d_M_set_52 : decode c_M_set 52 = .ok (.iadd, 1) := by decide +kernel
theorem d_M_set_53 : decode c_M_set 53 = .ok (.lload 4, 2) := by decide +kernel
theorem d_M_set_55 : decode c_M_set 55 = .ok (.ldc2_w 54, 3) := by decide +kernel
theorem d_M_set_58 : decode c_M_set 58 = .ok (.lrem, 1) := by decide +kernel
theorem d_M_set_59 : decode c_M_set 59 = .ok (.lastore, 1) := by decide +kernel
theorem d_M_set_60 : decode c_M_set 60 = .ok (.lload 4, 2) := by decide +kernel
theorem d_M_set_62 : decode c_M_set 62 = .ok (.ldc2_w 54, 3) := by decide +kernel
theorem d_M_set_65 : decode c_M_set 65 = .ok (.ldiv, 1) := by decide +kernel
theorem d_M_set_66 : decode c_M_set 66 = .ok (.lstore 4, 2) := by decide +kernel
theorem d_M_set_68 : decode c_M_set 68 = .ok (.iinc 7 1, 3) := by decide +kernel
theorem d_M_set_71 : decode c_M_set 71 = .ok (.goto (-36), 3) := by decide +kernel
theorem d_M_set_74 : decode c_M_set 74 = .ok (.iload 6, 2) := by decide +kernel
theorem d_M_set_76 : decode c_M_set 76 = .ok (.ifCond .eq 16, 3) := by decide +kernel
theorem d_M_set_79 : decode c_M_set 79 = .ok (.aload_n 0, 1) := by decide +kernel
theorem d_M_set_80 : decode c_M_set 80 = .ok (.getfield 7, 3) := by decide +kernel
theorem d_M_set_83 : decode c_M_set 83 = .ok (.iload_n 1, 1) := by decide +kernel
theorem d_M_set_84 : decode c_M_set 84 = .ok (.bipush 20, 2) := by decide +kernel
theorem d_M_set_86 : decode c_M_set 86 = .ok (.imul, 1) := by decide +kernel
theorem d_M_set_87 : decode c_M_set 87 = .ok (.dup2, 1) := by decide +kernel
theorem d_M_set_88 : decode c_M_set 88 = .ok (.laload, 1) := by decide +kernel
theorem d_M_set_89 : decode c_M_set 89 = .ok (.lconst 1, 1) := by decide +kernel
theorem d_M_set_90 : decode c_M_set 90 = .ok (.ladd, 1) := by decide +kernel
theorem d_M_set_91 : decode c_M_set 91 = .ok (.lastore, 1) := by decide +kernel
theorem d_M_set_92 : decode c_M_set 92 = .ok (.return_, 1) := by decide +kernel
theorem d_M_clear_0 : decode c_M_clear 0 = .ok (.iconst 0, 1) := by decide +kernel
theorem d_M_clear_1 : decode c_M_clear 1 = .ok (.istore_n 2, 1) := by decide +kernel
theorem d_M_clear_2 : decode c_M_clear 2 = .ok (.iload_n 2, 1) := by decide +kernel
theorem d_M_clear_3 : decode c_M_clear 3 = .ok (.bipush 20, 2) := by decide +kernel
theorem d_M_clear_5 : decode c_M_clear 5 = .ok (.if_icmp .ge 21, 3) := by decide +kernel
theorem d_M_clear_8 : decode c_M_clear 8 = .ok (.aload_n 0, 1) := by decide +kernel
theorem d_M_clear_9 : decode c_M_clear 9 = .ok (.getfield 7, 3) := by decide +kernel
theorem d_M_clear_12 : decode c_M_clear 12 = .ok (.iload_n 1, 1) := by decide +kernel
theorem d_M_clear_13 : decode c_M_clear 13 = .ok (.bipush 20, 2) := by decide +kernel
theorem d_M_clear_15 : decode c_M_clear 15 = .ok (.imul, 1) := by decide +kernel
theorem d_M_clear_16 : decode c_M_clear 16 = .ok (.iload_n 2, 1) := by decide +kernel
theorem d_M_clear_17 : decode c_M_clear 17 = .ok (.iadd, 1) := by decide +kernel
theorem d_M_clear_18 : decode c_M_clear 18 = .ok (.lconst 0, 1) := by decide +kernel
theorem d_M_clear_19 : decode c_M_clear 19 = .ok (.lastore, 1) := by decide +kernel
theorem d_M_clear_20 : decode c_M_clear 20 = .ok (.iinc 2 1, 3) := by decide +kernel
theorem d_M_clear_23 : decode c_M_clear 23 = .ok (.goto (-21), 3) := by decide +kernel
theorem d_M_clear_26 : decode c_M_clear 26 = .ok (.return_, 1) := by decide +kernel
theorem d_M_keep_0 : decode c_M_keep 0 = .ok (.aload_n 0, 1) := by decide +kernel
theorem d_M_keep_1 : decode c_M_keep 1 = .ok (.invokevirtual 105, 3) := by decide +kernel
theorem d_M_keep_4 : decode c_M_keep 4 = .ok (.ifCond .ne 5, 3) := by decide +kernel
theorem d_M_keep_7 : decode c_M_keep 7 = .ok (.iconst (-1), 1) := by decide +kernel
theorem d_M_keep_8 : decode c_M_keep 8 = .ok (.ireturn, 1) := by decide +kernel
theorem d_M_keep_9 : decode c_M_keep 9 = .ok (.aload_n 0, 1) := by decide +kernel
theorem d_M_keep_10 : decode c_M_keep 10 = .ok (.getfield 13, 3) := by decide +kernel
theorem d_M_keep_13 : decode c_M_keep 13 = .ok (.aload_n 0, 1) := by decide +kernel
theorem d_M_keep_14 : decode c_M_keep 14 = .ok (.getfield 42, 3) := by decide +kernel
theorem d_M_keep_17 : decode c_M_keep 17 = .ok (.aload_n 0, 1) := by decide +kernel
theorem d_M_keep_18 : decode c_M_keep 18 = .ok (.iconst 0, 1) := by decide +kernel
theorem d_M_keep_19 : decode c_M_keep 19 = .ok (.invokevirtual 77, 3) := by decide +kernel
theorem d_M_keep_22 : decode c_M_keep 22 = .ok (.ifCond .eq 7, 3) := by decide +kernel
theorem d_M_keep_25 : decode c_M_keep 25 = .ok (.iconst 0, 1) := by decide +kernel
theorem d_M_keep_26 : decode c_M_keep 26 = .ok (.goto 4, 3) := by decide +kernel
theorem d_M_keep_29 : decode c_M_keep 29 = .ok (.iload_n 1, 1) := by decide +kernel
theorem d_M_keep_30 : decode c_M_keep 30 = .ok (.iastore, 1) := by decide +kernel
theorem d_M_keep_31 : decode c_M_keep 31 = .ok (.iconst 0, 1) := by decide +kernel
theorem d_M_keep_32 : decode c_M_keep 32 = .ok (.istore_n 2, 1) := by decide +kernel
theorem d_M_keep_33 : decode c_M_keep 33 = .ok (.iload_n 2, 1) := by decide +kernel
theorem d_M_keep_34 : decode c_M_keep 34 = .ok (.bipush 8, 2) := by decide +kernel
theorem d_M_keep_36 : decode c_M_keep 36 = .ok (.if_icmp .ge 54, 3) := by decide +kernel
theorem d_M_keep_39 : decode c_M_keep 39 = .ok (.aload_n 0, 1) := by decide +kernel
theorem d_M_keep_40 : decode c_M_keep 40 = .ok (.getfield 17, 3) := by decide +kernel
theorem d_M_keep_43 : decode c_M_keep 43 = .ok (.bipush 8, 2) := by decide +kernel
theorem d_M_keep_45 : decode c_M_keep 45 = .ok (.aload_n 0, 1) := by decide +kernel
theorem d_M_keep_46 : decode c_M_keep 46 = .ok (.getfield 42, 3) := by decide +kernel
theorem d_M_keep_49 : decode c_M_keep 49 = .ok (.imul, 1) := by decide +kernel
theorem d_M_keep_50 : decode c_M_keep 50 = .ok (.iload_n 2, 1) := by decide +kernel
theorem d_M_keep_51 : decode c_M_keep 51 = .ok (.iadd, 1) := by decide +kernel
theorem d_M_keep_52 : decode c_M_keep 52 = .ok (.aload_n 0, 1) := by decide +kernel
theorem d_M_keep_53 : decode c_M_keep 53 = .ok (.getfield 7, 3) := by decide +kernel
theorem d_M_keep_56 : decode c_M_keep 56 = .ok (.iconst 0, 1) := by decide +kernel
theorem d_M_keep_57 : decode c_M_keep 57 = .ok (.iload_n 2, 1) := by decide +kernel
theorem d_M_keep_58 : decode c_M_keep 58 = .ok (.iadd, 1) := by decide +kernel
theorem d_M_keep_59 : decode c_M_keep 59 = .ok (.laload, 1) := by decide +kernel
theorem d_M_keep_60 : decode c_M_keep 60 = .ok (.lastore, 1) := by decide +kernel
theorem d_M_keep_61 : decode c_M_keep 61 = .ok (.aload_n 0, 1) := by decide +kernel
theorem d_M_keep_62 : decode c_M_keep 62 = .ok (.getfield 20, 3) := by decide +kernel
theorem d_M_keep_65 : decode c_M_keep 65 = .ok (.bipush 8, 2) := by decide +kernel
theorem d_M_keep_67 : decode c_M_keep 67 = .ok (.aload_n 0, 1) := by decide +kernel
theorem d_M_keep_68 : decode c_M_keep 68 = .ok (.getfield 42, 3) := by decide +kernel
theorem d_M_keep_71 : decode c_M_keep 71 = .ok (.imul, 1) := by decide +kernel
theorem d_M_keep_72 : decode c_M_keep 72 = .ok (.iload_n 2, 1) := by decide +kernel
theorem d_M_keep_73 : decode c_M_keep 73 = .ok (.iadd, 1) := by decide +kernel
theorem d_M_keep_74 : decode c_M_keep 74 = .ok (.aload_n 0, 1) := by decide +kernel
theorem d_M_keep_75 : decode c_M_keep 75 = .ok (.getfield 7, 3) := by decide +kernel
theorem d_M_keep_78 : decode c_M_keep 78 = .ok (.bipush 20, 2) := by decide +kernel
theorem d_M_keep_80 : decode c_M_keep 80 = .ok (.iload_n 2, 1) := by decide +kernel
theorem d_M_keep_81 : decode c_M_keep 81 = .ok (.iadd, 1) := by decide +kernel
theorem d_M_keep_82 : decode c_M_keep 82 = .ok (.laload, 1) := by decide +kernel
theorem d_M_keep_83 : decode c_M_keep 83 = .ok (.lastore, 1) := by decide +kernel
theorem d_M_keep_84 : decode c_M_keep 84 = .ok (.iinc 2 1, 3) := by decide +kernel
theorem d_M_keep_87 : decode c_M_keep 87 = .ok (.goto (-54), 3) := by decide +kernel
theorem d_M_keep_90 : decode c_M_keep 90 = .ok (.aload_n 0, 1) := by decide +kernel
theorem d_M_keep_91 : decode c_M_keep 91 = .ok (.dup, 1) := by decide +kernel
theorem d_M_keep_92 : decode c_M_keep 92 = .ok (.getfield 42, 3) := by decide +kernel
theorem d_M_keep_95 : decode c_M_keep 95 = .ok (.iconst 1, 1) := by decide +kernel
theorem d_M_keep_96 : decode c_M_keep 96 = .ok (.iadd, 1) := by decide +kernel
theorem d_M_keep_97 : decode c_M_keep 97 = .ok (.putfield 42, 3) := by decide +kernel
theorem d_M_keep_100 : decode c_M_keep 100 = .ok (.aload_n 0, 1) := by decide +kernel
theorem d_M_keep_101 : decode c_M_keep 101 = .ok (.getfield 42, 3) := by decide +kernel
theorem d_M_keep_104 : decode c_M_keep 104 = .ok (.iconst 1, 1) := by decide +kernel
theorem d_M_keep_105 : decode c_M_keep 105 = .ok (.isub, 1) := by decide +kernel
theorem d_M_keep_106 : decode c_M_keep 106 = .ok (.ireturn, 1) := by decide +kernel
theorem d_M_lowest_0 : decode c_M_lowest 0 = .ok (.aload_n 0, 1) := by decide +kernel
theorem d_M_lowest_1 : decode c_M_lowest 1 = .ok (.iconst 0, 1) := by decide +kernel
theorem d_M_lowest_2 : decode c_M_lowest 2 = .ok (.invokevirtual 77, 3) := by decide +kernel
theorem d_M_lowest_5 : decode c_M_lowest 5 = .ok (.ifCond .eq 11, 3) := by decide +kernel
theorem d_M_lowest_8 : decode c_M_lowest 8 = .ok (.aload_n 0, 1) := by decide +kernel
theorem d_M_lowest_9 : decode c_M_lowest 9 = .ok (.iconst 1, 1) := by decide +kernel
theorem d_M_lowest_10 : decode c_M_lowest 10 = .ok (.lconst 1, 1) := by decide +kernel
theorem d_M_lowest_11 : decode c_M_lowest 11 = .ok (.invokevirtual 91, 3) := by decide +kernel
theorem d_M_lowest_14 : decode c_M_lowest 14 = .ok (.iconst 1, 1) := by decide +kernel
theorem d_M_lowest_15 : decode c_M_lowest 15 = .ok (.ireturn, 1) := by decide +kernel
theorem d_M_lowest_16 : decode c_M_lowest 16 = .ok (.aload_n 0, 1) := by decide +kernel
theorem d_M_lowest_17 : decode c_M_lowest 17 = .ok (.iconst 0, 1) := by decide +kernel
theorem d_M_lowest_18 : decode c_M_lowest 18 = .ok (.iconst 4, 1) := by decide +kernel
theorem d_M_lowest_19 : decode c_M_lowest 19 = .ok (.invokevirtual 95, 3) := by decide +kernel
theorem d_M_lowest_22 : decode c_M_lowest 22 = .ok (.aload_n 0, 1) := by decide +kernel
theorem d_M_lowest_23 : decode c_M_lowest 23 = .ok (.iconst 1, 1) := by decide +kernel
theorem d_M_lowest_24 : decode c_M_lowest 24 = .ok (.iconst 5, 1) := by decide +kernel
theorem d_M_lowest_25 : decode c_M_lowest 25 = .ok (.invokevirtual 95, 3) := by decide +kernel
theorem d_M_lowest_28 : decode c_M_lowest 28 = .ok (.aload_n 0, 1) := by decide +kernel
theorem d_M_lowest_29 : decode c_M_lowest 29 = .ok (.iconst 4, 1) := by decide +kernel
theorem d_M_lowest_30 : decode c_M_lowest 30 = .ok (.iconst 5, 1) := by decide +kernel
theorem d_M_lowest_31 : decode c_M_lowest 31 = .ok (.invokevirtual 98, 3) := by decide +kernel
theorem d_M_lowest_34 : decode c_M_lowest 34 = .ok (.aload_n 0, 1) := by decide +kernel
theorem d_M_lowest_35 : decode c_M_lowest 35 = .ok (.iconst 0, 1) := by decide +kernel
theorem d_M_lowest_36 : decode c_M_lowest 36 = .ok (.iconst 4, 1) := by decide +kernel
theorem d_M_lowest_37 : decode c_M_lowest 37 = .ok (.iconst 5, 1) := by decide +kernel
theorem d_M_lowest_38 : decode c_M_lowest 38 = .ok (.invokevirtual 101, 3) := by decide +kernel
theorem d_M_lowest_41 : decode c_M_lowest 41 = .ok (.aload_n 0, 1) := by decide +kernel
theorem d_M_lowest_42 : decode c_M_lowest 42 = .ok (.iconst 5, 1) := by decide +kernel
theorem d_M_lowest_43 : decode c_M_lowest 43 = .ok (.iconst 0, 1) := by decide +kernel
theorem d_M_lowest_44 : decode c_M_lowest 44 = .ok (.invokevirtual 95, 3) := by decide +kernel
theorem d_M_lowest_47 : decode c_M_lowest 47 = .ok (.aload_n 0, 1) := by decide +kernel
theorem d_M_lowest_48 : decode c_M_lowest 48 = .ok (.iconst 1, 1) := by decide +kernel
theorem d_M_lowest_49 : decode c_M_lowest 49 = .ok (.iconst 4, 1) := by decide +kernel
theorem d_M_lowest_50 : decode c_M_lowest 50 = .ok (.iconst 5, 1) := by decide +kernel
theorem d_M_lowest_51 : decode c_M_lowest 51 = .ok (.invokevirtual 101, 3) := by decide +kernel
theorem d_M_lowest_54 : decode c_M_lowest 54 = .ok (.aload_n 0, 1) := by decide +kernel
theorem d_M_lowest_55 : decode c_M_lowest 55 = .ok (.iconst 5, 1) := by decide +kernel
theorem d_M_lowest_56 : decode c_M_lowest 56 = .ok (.iconst 1, 1) := by decide +kernel
theorem d_M_lowest_57 : decode c_M_lowest 57 = .ok (.invokevirtual 95, 3) := by decide +kernel
theorem d_M_lowest_60 : decode c_M_lowest 60 = .ok (.aload_n 0, 1) := by decide +kernel
theorem d_M_lowest_61 : decode c_M_lowest 61 = .ok (.iconst 0, 1) := by decide +kernel
theorem d_M_lowest_62 : decode c_M_lowest 62 = .ok (.invokevirtual 56, 3) := by decide +kernel
theorem d_M_lowest_65 : decode c_M_lowest 65 = .ok (.bipush 8, 2) := by decide +kernel
theorem d_M_lowest_67 : decode c_M_lowest 67 = .ok (.if_icmp .ge 17, 3) := by decide +kernel
theorem d_M_lowest_70 : decode c_M_lowest 70 = .ok (.aload_n 0, 1) := by decide +kernel
theorem d_M_lowest_71 : decode c_M_lowest 71 = .ok (.iconst 1, 1) := by decide +kernel
theorem d_M_lowest_72 : decode c_M_lowest 72 = .ok (.invokevirtual 56, 3) := by decide +kernel
theorem d_M_lowest_75 : decode c_M_lowest 75 = .ok (.bipush 8, 2) := by decide +kernel
theorem d_M_lowest_77 : decode c_M_lowest 77 = .ok (.if_icmp .ge 7, 3) := by decide +kernel
theorem d_M_lowest_80 : decode c_M_lowest 80 = .ok (.iconst 1, 1) := by decide +kernel
theorem d_M_lowest_81 : decode c_M_lowest 81 = .ok (.goto 4, 3) := by decide +kernel
theorem d_M_lowest_84 : decode c_M_lowest 84 = .ok (.iconst 0, 1) := by decide +kernel
theorem d_M_lowest_85 : decode c_M_lowest 85 = .ok (.ireturn, 1) := by decide +kernel
theorem d_M_isNought_0 : decode c_M_isNought 0 = .ok (.aload_n 0, 1) := by decide +kernel
theorem d_M_isNought_1 : decode c_M_isNought 1 = .ok (.iload_n 1, 1) := by decide +kernel
theorem d_M_isNought_2 : decode c_M_isNought 2 = .ok (.invokevirtual 56, 3) := by decide +kernel
theorem d_M_isNought_5 : decode c_M_isNought 5 = .ok (.ifCond .ge 7, 3) := by decide +kernel
theorem d_M_isNought_8 : decode c_M_isNought 8 = .ok (.iconst 1, 1) := by decide +kernel
theorem d_M_isNought_9 : decode c_M_isNought 9 = .ok (.goto 4, 3) := by decide +kernel
theorem d_M_isNought_12 : decode c_M_isNought 12 = .ok (.iconst 0, 1) := by decide +kernel
theorem d_M_isNought_13 : decode c_M_isNought 13 = .ok (.ireturn, 1) := by decide +kernel
theorem d_M_top_0 : decode c_M_top 0 = .ok (.bipush 19, 2) := by decide +kernel
theorem d_M_top_2 : decode c_M_top 2 = .ok (.istore_n 2, 1) := by decide +kernel
theorem d_M_top_3 : decode c_M_top 3 = .ok (.iload_n 2, 1) := by decide +kernel
theorem d_M_top_4 : decode c_M_top 4 = .ok (.ifCond .lt 25, 3) := by decide +kernel
theorem d_M_top_7 : decode c_M_top 7 = .ok (.aload_n 0, 1) := by decide +kernel
theorem d_M_top_8 : decode c_M_top 8 = .ok (.getfield 7, 3) := by decide +kernel
theorem d_M_top_11 : decode c_M_top 11 = .ok (.iload_n 1, 1) := by decide +kernel
theorem d_M_top_12 : decode c_M_top 12 = .ok (.bipush 20, 2) := by decide +kernel
theorem d_M_top_14 : decode c_M_top 14 = .ok (.imul, 1) := by decide +kernel
theorem d_M_top_15 : decode c_M_top 15 = .ok (.iload_n 2, 1) := by decide +kernel
theorem d_M_top_16 : decode c_M_top 16 = .ok (.iadd, 1) := by decide +kernel
theorem d_M_top_17 : decode c_M_top 17 = .ok (.laload, 1) := by decide +kernel
theorem d_M_top_18 : decode c_M_top 18 = .ok (.lconst 0, 1) := by decide +kernel
theorem d_M_top_19 : decode c_M_top 19 = .ok (.lcmp, 1) := by decide +kernel
theorem d_M_top_20 : decode c_M_top 20 = .ok (.ifCond .ne 9, 3) := by decide +kernel
theorem d_M_top_23 : decode c_M_top 23 = .ok (.iinc 2 (-1), 3) := by decide +kernel
theorem d_M_top_26 : decode c_M_top 26 = .ok (.goto (-23), 3) := by decide +kernel
theorem d_M_top_29 : decode c_M_top 29 = .ok (.iload_n 2, 1) := by decide +kernel
theorem d_M_top_30 : decode c_M_top 30 = .ok (.ireturn, 1) := by decide +kernel
theorem d_M_copy_0 : decode c_M_copy 0 = .ok (.iconst 0, 1) := by decide +kernel
theorem d_M_copy_1 : decode c_M_copy 1 = .ok (.istore_n 3, 1) := by decide +kernel
theorem d_M_copy_2 : decode c_M_copy 2 = .ok (.iload_n 3, 1) := by decide +kernel
theorem d_M_copy_3 : decode c_M_copy 3 = .ok (.bipush 20, 2) := by decide +kernel
theorem d_M_copy_5 : decode c_M_copy 5 = .ok (.if_icmp .ge 31, 3) := by decide +kernel
theorem d_M_copy_8 : decode c_M_copy 8 = .ok (.aload_n 0, 1) := by decide +kernel
theorem d_M_copy_9 : decode c_M_copy 9 = .ok (.getfield 7, 3) := by decide +kernel
theorem d_M_copy_12 : decode c_M_copy 12 = .ok (.iload_n 2, 1) := by decide +kernel
theorem d_M_copy_13 : decode c_M_copy 13 = .ok (.bipush 20, 2) := by decide +kernel
theorem d_M_copy_15 : decode c_M_copy 15 = .ok (.imul, 1) := by decide +kernel
theorem d_M_copy_16 : decode c_M_copy 16 = .ok (.iload_n 3, 1) := by decide +kernel
theorem d_M_copy_17 : decode c_M_copy 17 = .ok (.iadd, 1) := by decide +kernel
theorem d_M_copy_18 : decode c_M_copy 18 = .ok (.aload_n 0, 1) := by decide +kernel
theorem d_M_copy_19 : decode c_M_copy 19 = .ok (.getfield 7, 3) := by decide +kernel
theorem d_M_copy_22 : decode c_M_copy 22 = .ok (.iload_n 1, 1) := by decide +kernel
theorem d_M_copy_23 : decode c_M_copy 23 = .ok (.bipush 20, 2) := by decide +kernel
theorem d_M_copy_25 : decode c_M_copy 25 = .ok (.imul, 1) := by decide +kernel
theorem d_M_copy_26 : decode c_M_copy 26 = .ok (.iload_n 3, 1) := by decide +kernel
theorem d_M_copy_27 : decode c_M_copy 27 = .ok (.iadd, 1) := by decide +kernel
theorem d_M_copy_28 : decode c_M_copy 28 = .ok (.laload, 1) := by decide +kernel
theorem d_M_copy_29 : decode c_M_copy 29 = .ok (.lastore, 1) := by decide +kernel
theorem d_M_copy_30 : decode c_M_copy 30 = .ok (.iinc 3 1, 3) := by decide +kernel
theorem d_M_copy_33 : decode c_M_copy 33 = .ok (.goto (-31), 3) := by decide +kernel
theorem d_M_copy_36 : decode c_M_copy 36 = .ok (.return_, 1) := by decide +kernel
theorem d_M_common_0 : decode c_M_common 0 = .ok (.iconst 0, 1) := by decide +kernel
theorem d_M_common_1 : decode c_M_common 1 = .ok (.istore_n 3, 1) := by decide +kernel
theorem d_M_common_2 : decode c_M_common 2 = .ok (.aload_n 0, 1) := by decide +kernel
theorem d_M_common_3 : decode c_M_common 3 = .ok (.iload_n 1, 1) := by decide +kernel
theorem d_M_common_4 : decode c_M_common 4 = .ok (.invokevirtual 70, 3) := by decide +kernel
theorem d_M_common_7 : decode c_M_common 7 = .ok (.ifCond .eq 27, 3) := by decide +kernel
theorem d_M_common_10 : decode c_M_common 10 = .ok (.aload_n 0, 1) := by decide +kernel
theorem d_M_common_11 : decode c_M_common 11 = .ok (.iload_n 2, 1) := by decide +kernel
theorem d_M_common_12 : decode c_M_common 12 = .ok (.invokevirtual 70, 3) := by decide +kernel
theorem d_M_common_15 : decode c_M_common 15 = .ok (.ifCond .eq 19, 3) := by decide +kernel
theorem d_M_common_18 : decode c_M_common 18 = .ok (.aload_n 0, 1) := by decide +kernel
theorem d_M_common_19 : decode c_M_common 19 = .ok (.iload_n 1, 1) := by decide +kernel
theorem d_M_common_20 : decode c_M_common 20 = .ok (.invokevirtual 74, 3) := by decide +kernel
theorem d_M_common_23 : decode c_M_common 23 = .ok (.aload_n 0, 1) := by decide +kernel
theorem d_M_common_24 : decode c_M_common 24 = .ok (.iload_n 2, 1) := by decide +kernel
theorem d_M_common_25 : decode c_M_common 25 = .ok (.invokevirtual 74, 3) := by decide +kernel
theorem d_M_common_28 : decode c_M_common 28 = .ok (.iinc 3 1, 3) := by decide +kernel
theorem d_M_common_31 : decode c_M_common 31 = .ok (.goto (-29), 3) := by decide +kernel
theorem d_M_common_34 : decode c_M_common 34 = .ok (.aload_n 0, 1) := by decide +kernel
theorem d_M_common_35 : decode c_M_common 35 = .ok (.iload_n 1, 1) := by decide +kernel
theorem d_M_common_36 : decode c_M_common 36 = .ok (.invokevirtual 70, 3) := by decide +kernel
theorem d_M_common_39 : decode c_M_common 39 = .ok (.ifCond .eq 11, 3) := by decide +kernel
theorem d_M_common_42 : decode c_M_common 42 = .ok (.aload_n 0, 1) := by decide +kernel
theorem d_M_common_43 : decode c_M_common 43 = .ok (.iload_n 1, 1) := by decide +kernel
theorem d_M_common_44 : decode c_M_common 44 = .ok (.invokevirtual 74, 3) := by decide +kernel
theorem d_M_common_47 : decode c_M_common 47 = .ok (.goto (-13), 3) := by decide +kernel
theorem d_M_common_50 : decode c_M_common 50 = .ok (.aload_n 0, 1) := by decide +kernel
theorem d_M_common_51 : decode c_M_common 51 = .ok (.iload_n 2, 1) := by decide +kernel
theorem d_M_common_52 : decode c_M_common 52 = .ok (.invokevirtual 77, 3) := by decide +kernel
theorem d_M_common_55 : decode c_M_common 55 = .ok (.ifCond .ne 105, 3) := by decide +kernel
theorem d_M_common_58 : decode c_M_common 58 = .ok (.aload_n 0, 1) := by decide +kernel
theorem d_M_common_59 : decode c_M_common 59 = .ok (.iload_n 2, 1) := by decide +kernel
theorem d_M_common_60 : decode c_M_common 60 = .ok (.invokevirtual 70, 3) := by decide +kernel
theorem d_M_common_63 : decode c_M_common 63 = .ok (.ifCond .eq 11, 3) := by decide +kernel
theorem d_M_common_66 : decode c_M_common 66 = .ok (.aload_n 0, 1) := by decide +kernel
theorem d_M_common_67 : decode c_M_common 67 = .ok (.iload_n 2, 1) := by decide +kernel
theorem d_M_common_68 : decode c_M_common 68 = .ok (.invokevirtual 74, 3) := by decide +kernel
theorem d_M_common_71 : decode c_M_common 71 = .ok (.goto (-13), 3) := by decide +kernel
theorem d_M_common_74 : decode c_M_common 74 = .ok (.aload_n 0, 1) := by decide +kernel
theorem d_M_common_75 : decode c_M_common 75 = .ok (.iload_n 1, 1) := by decide +kernel
theorem d_M_common_76 : decode c_M_common 76 = .ok (.iload_n 2, 1) := by decide +kernel
theorem d_M_common_77 : decode c_M_common 77 = .ok (.invokevirtual 80, 3) := by decide +kernel
theorem d_M_common_80 : decode c_M_common 80 = .ok (.ifCond .le 71, 3) := by decide +kernel
theorem d_M_common_83 : decode c_M_common 83 = .ok (.iconst 0, 1) := by decide +kernel
theorem d_M_common_84 : decode c_M_common 84 = .ok (.istore 4, 2) := by decide +kernel
theorem d_M_common_86 : decode c_M_common 86 = .ok (.iload 4, 2) := by decide +kernel
theorem d_M_common_88 : decode c_M_common 88 = .ok (.bipush 20, 2) := by decide +kernel
theorem d_M_common_90 : decode c_M_common 90 = .ok (.if_icmp .ge 61, 3) := by decide +kernel
theorem d_M_common_93 : decode c_M_common 93 = .ok (.aload_n 0, 1) := by decide +kernel
theorem d_M_common_94 : decode c_M_common 94 = .ok (.getfield 7, 3) := by decide +kernel
theorem d_M_common_97 : decode c_M_common 97 = .ok (.iload_n 1, 1) := by decide +kernel
theorem d_M_common_98 : decode c_M_common 98 = .ok (.bipush 20, 2) := by decide +kernel
theorem d_M_common_100 : decode c_M_common 100 = .ok (.imul, 1) := by decide +kernel
theorem d_M_common_101 : decode c_M_common 101 = .ok (.iload 4, 2) := by decide +kernel
theorem d_M_common_103 : decode c_M_common 103 = .ok (.iadd, 1) := by decide +kernel
theorem d_M_common_104 : decode c_M_common 104 = .ok (.laload, 1) := by decide +kernel
theorem d_M_common_105 : decode c_M_common 105 = .ok (.lstore 5, 2) := by decide +kernel
theorem d_M_common_107 : decode c_M_common 107 = .ok (.aload_n 0, 1) := by decide +kernel
theorem d_M_common_108 : decode c_M_common 108 = .ok (.getfield 7, 3) := by decide +kernel
theorem d_M_common_111 : decode c_M_common 111 = .ok (.iload_n 1, 1) := by decide +kernel
theorem d_M_common_112 : decode c_M_common 112 = .ok (.bipush 20, 2) := by decide +kernel
theorem d_M_common_114 : decode c_M_common 114 = .ok (.imul, 1) := by decide +kernel
theorem d_M_common_115 : decode c_M_common 115 = .ok (.iload 4, 2) := by decide +kernel
theorem d_M_common_117 : decode c_M_common 117 = .ok (.iadd, 1) := by decide +kernel
theorem d_M_common_118 : decode c_M_common 118 = .ok (.aload_n 0, 1) := by decide +kernel
theorem d_M_common_119 : decode c_M_common 119 = .ok (.getfield 7, 3) := by decide +kernel
theorem d_M_common_122 : decode c_M_common 122 = .ok (.iload_n 2, 1) := by decide +kernel
theorem d_M_common_123 : decode c_M_common 123 = .ok (.bipush 20, 2) := by decide +kernel
theorem d_M_common_125 : decode c_M_common 125 = .ok (.imul, 1) := by decide +kernel
theorem d_M_common_126 : decode c_M_common 126 = .ok (.iload 4, 2) := by decide +kernel
theorem d_M_common_128 : decode c_M_common 128 = .ok (.iadd, 1) := by decide +kernel
theorem d_M_common_129 : decode c_M_common 129 = .ok (.laload, 1) := by decide +kernel
theorem d_M_common_130 : decode c_M_common 130 = .ok (.lastore, 1) := by decide +kernel
theorem d_M_common_131 : decode c_M_common 131 = .ok (.aload_n 0, 1) := by decide +kernel
theorem d_M_common_132 : decode c_M_common 132 = .ok (.getfield 7, 3) := by decide +kernel
theorem d_M_common_135 : decode c_M_common 135 = .ok (.iload_n 2, 1) := by decide +kernel
theorem d_M_common_136 : decode c_M_common 136 = .ok (.bipush 20, 2) := by decide +kernel
theorem d_M_common_138 : decode c_M_common 138 = .ok (.imul, 1) := by decide +kernel
theorem d_M_common_139 : decode c_M_common 139 = .ok (.iload 4, 2) := by decide +kernel
theorem d_M_common_141 : decode c_M_common 141 = .ok (.iadd, 1) := by decide +kernel
theorem d_M_common_142 : decode c_M_common 142 = .ok (.lload 5, 2) := by decide +kernel
theorem d_M_common_144 : decode c_M_common 144 = .ok (.lastore, 1) := by decide +kernel
theorem d_M_common_145 : decode c_M_common 145 = .ok (.iinc 4 1, 3) := by decide +kernel
theorem d_M_common_148 : decode c_M_common 148 = .ok (.goto (-62), 3) := by decide +kernel
theorem d_M_common_151 : decode c_M_common 151 = .ok (.aload_n 0, 1) := by decide +kernel
theorem d_M_common_152 : decode c_M_common 152 = .ok (.iload_n 2, 1) := by decide +kernel
theorem d_M_common_153 : decode c_M_common 153 = .ok (.iload_n 1, 1) := by decide +kernel
theorem d_M_common_154 : decode c_M_common 154 = .ok (.invokevirtual 84, 3) := by decide +kernel
theorem d_M_common_157 : decode c_M_common 157 = .ok (.goto (-107), 3) := by decide +kernel
theorem d_M_common_160 : decode c_M_common 160 = .ok (.iconst 0, 1) := by decide +kernel
theorem d_M_common_161 : decode c_M_common 161 = .ok (.istore 4, 2) := by decide +kernel
theorem d_M_common_163 : decode c_M_common 163 = .ok (.iload 4, 2) := by decide +kernel
theorem d_M_common_165 : decode c_M_common 165 = .ok (.iload_n 3, 1) := by decide +kernel
theorem d_M_common_166 : decode c_M_common 166 = .ok (.if_icmp .ge 15, 3) := by decide +kernel
theorem d_M_common_169 : decode c_M_common 169 = .ok (.aload_n 0, 1) := by decide +kernel
theorem d_M_common_170 : decode c_M_common 170 = .ok (.iload_n 1, 1) := by decide +kernel
theorem d_M_common_171 : decode c_M_common 171 = .ok (.iload_n 1, 1) := by decide +kernel
theorem d_M_common_172 : decode c_M_common 172 = .ok (.invokevirtual 88, 3) := by decide +kernel
theorem d_M_common_175 : decode c_M_common 175 = .ok (.iinc 4 1, 3) := by decide +kernel
theorem d_M_common_178 : decode c_M_common 178 = .ok (.goto (-15), 3) := by decide +kernel
theorem d_M_common_181 : decode c_M_common 181 = .ok (.return_, 1) := by decide +kernel
theorem d_M_isEven_0 : decode c_M_isEven 0 = .ok (.aload_n 0, 1) := by decide +kernel
theorem d_M_isEven_1 : decode c_M_isEven 1 = .ok (.getfield 7, 3) := by decide +kernel
theorem d_M_isEven_4 : decode c_M_isEven 4 = .ok (.iload_n 1, 1) := by decide +kernel
theorem d_M_isEven_5 : decode c_M_isEven 5 = .ok (.bipush 20, 2) := by decide +kernel
theorem d_M_isEven_7 : decode c_M_isEven 7 = .ok (.imul, 1) := by decide +kernel
theorem d_M_isEven_8 : decode c_M_isEven 8 = .ok (.laload, 1) := by decide +kernel
theorem d_M_isEven_9 : decode c_M_isEven 9 = .ok (.ldc2_w 60, 3) := by decide +kernel
theorem d_M_isEven_12 : decode c_M_isEven 12 = .ok (.lrem, 1) := by decide +kernel
theorem d_M_isEven_13 : decode c_M_isEven 13 = .ok (.lconst 0, 1) := by decide +kernel
theorem d_M_isEven_14 : decode c_M_isEven 14 = .ok (.lcmp, 1) := by decide +kernel
theorem d_M_isEven_15 : decode c_M_isEven 15 = .ok (.ifCond .ne 7, 3) := by decide +kernel
theorem d_M_isEven_18 : decode c_M_isEven 18 = .ok (.iconst 1, 1) := by decide +kernel
theorem d_M_isEven_19 : decode c_M_isEven 19 = .ok (.goto 4, 3) := by decide +kernel
theorem d_M_isEven_22 : decode c_M_isEven 22 = .ok (.iconst 0, 1) := by decide +kernel
theorem d_M_isEven_23 : decode c_M_isEven 23 = .ok (.ireturn, 1) := by decide +kernel
theorem d_M_halve_0 : decode c_M_halve 0 = .ok (.lconst 0, 1) := by decide +kernel
theorem d_M_halve_1 : decode c_M_halve 1 = .ok (.lstore_n 2, 1) := by decide +kernel
theorem d_M_halve_2 : decode c_M_halve 2 = .ok (.aload_n 0, 1) := by decide +kernel
theorem d_M_halve_3 : decode c_M_halve 3 = .ok (.iload_n 1, 1) := by decide +kernel
theorem d_M_halve_4 : decode c_M_halve 4 = .ok (.invokevirtual 56, 3) := by decide +kernel
theorem d_M_halve_7 : decode c_M_halve 7 = .ok (.istore 4, 2) := by decide +kernel
theorem d_M_halve_9 : decode c_M_halve 9 = .ok (.iload 4, 2) := by decide +kernel
theorem d_M_halve_11 : decode c_M_halve 11 = .ok (.ifCond .lt 54, 3) := by decide +kernel
theorem d_M_halve_14 : decode c_M_halve 14 = .ok (.aload_n 0, 1) := by decide +kernel
theorem d_M_halve_15 : decode c_M_halve 15 = .ok (.getfield 7, 3) := by decide +kernel
theorem d_M_halve_18 : decode c_M_halve 18 = .ok (.iload_n 1, 1) := by decide +kernel
theorem d_M_halve_19 : decode c_M_halve 19 = .ok (.bipush 20, 2) := by decide +kernel
theorem d_M_halve_21 : decode c_M_halve 21 = .ok (.imul, 1) := by decide +kernel
theorem d_M_halve_22 : decode c_M_halve 22 = .ok (.iload 4, 2) := by decide +kernel
theorem d_M_halve_24 : decode c_M_halve 24 = .ok (.iadd, 1) := by decide +kernel
theorem d_M_halve_25 : decode c_M_halve 25 = .ok (.laload, 1) := by decide +kernel
theorem d_M_halve_26 : decode c_M_halve 26 = .ok (.lload_n 2, 1) := by decide +kernel
theorem d_M_halve_27 : decode c_M_halve 27 = .ok (.ldc2_w 54, 3) := by decide +kernel
theorem d_M_halve_30 : decode c_M_halve 30 = .ok (.lmul, 1) := by decide +kernel
theorem d_M_halve_31 : decode c_M_halve 31 = .ok (.ladd, 1) := by decide +kernel
theorem d_M_halve_32 : decode c_M_halve 32 = .ok (.lstore 5, 2) := by decide +kernel
theorem d_M_halve_34 : decode c_M_halve 34 = .ok (.aload_n 0, 1) := by decide +kernel
theorem d_M_halve_35 : decode c_M_halve 35 = .ok (.getfield 7, 3) := by decide +kernel
theorem d_M_halve_38 : decode c_M_halve 38 = .ok (.iload_n 1, 1) := by decide +kernel
theorem d_M_halve_39 : decode c_M_halve 39 = .ok (.bipush 20, 2) := by decide +kernel
theorem d_M_halve_41 : decode c_M_halve 41 = .ok (.imul, 1) := by decide +kernel
theorem d_M_halve_42 : decode c_M_halve 42 = .ok (.iload 4, 2) := by decide +kernel
theorem d_M_halve_44 : decode c_M_halve 44 = .ok (.iadd, 1) := by decide +kernel
theorem d_M_halve_45 : decode c_M_halve 45 = .ok (.lload 5, 2) := by decide +kernel
theorem d_M_halve_47 : decode c_M_halve 47 = .ok (.ldc2_w 60, 3) := by decide +kernel
theorem d_M_halve_50 : decode c_M_halve 50 = .ok (.ldiv, 1) := by decide +kernel
theorem d_M_halve_51 : decode c_M_halve 51 = .ok (.lastore, 1) := by decide +kernel
theorem d_M_halve_52 : decode c_M_halve 52 = .ok (.lload 5, 2) := by decide +kernel
theorem d_M_halve_54 : decode c_M_halve 54 = .ok (.ldc2_w 60, 3) := by decide +kernel
theorem d_M_halve_57 : decode c_M_halve 57 = .ok (.lrem, 1) := by decide +kernel
theorem d_M_halve_58 : decode c_M_halve 58 = .ok (.lstore_n 2, 1) := by decide +kernel
theorem d_M_halve_59 : decode c_M_halve 59 = .ok (.iinc 4 (-1), 3) := by decide +kernel
theorem d_M_halve_62 : decode c_M_halve 62 = .ok (.goto (-53), 3) := by decide +kernel
theorem d_M_halve_65 : decode c_M_halve 65 = .ok (.return_, 1) := by decide +kernel
theorem d_M_compare_0 : decode c_M_compare 0 = .ok (.bipush 19, 2) := by decide +kernel
theorem d_M_compare_2 : decode c_M_compare 2 = .ok (.istore_n 3, 1) := by decide +kernel
theorem d_M_compare_3 : decode c_M_compare 3 = .ok (.iload_n 3, 1) := by decide +kernel
theorem d_M_compare_4 : decode c_M_compare 4 = .ok (.ifCond .le 35, 3) := by decide +kernel
theorem d_M_compare_7 : decode c_M_compare 7 = .ok (.aload_n 0, 1) := by decide +kernel
theorem d_M_compare_8 : decode c_M_compare 8 = .ok (.getfield 7, 3) := by decide +kernel
theorem d_M_compare_11 : decode c_M_compare 11 = .ok (.iload_n 1, 1) := by decide +kernel
theorem d_M_compare_12 : decode c_M_compare 12 = .ok (.bipush 20, 2) := by decide +kernel
theorem d_M_compare_14 : decode c_M_compare 14 = .ok (.imul, 1) := by decide +kernel
theorem d_M_compare_15 : decode c_M_compare 15 = .ok (.iload_n 3, 1) := by decide +kernel
theorem d_M_compare_16 : decode c_M_compare 16 = .ok (.iadd, 1) := by decide +kernel
theorem d_M_compare_17 : decode c_M_compare 17 = .ok (.laload, 1) := by decide +kernel
theorem d_M_compare_18 : decode c_M_compare 18 = .ok (.aload_n 0, 1) := by decide +kernel
theorem d_M_compare_19 : decode c_M_compare 19 = .ok (.getfield 7, 3) := by decide +kernel
theorem d_M_compare_22 : decode c_M_compare 22 = .ok (.iload_n 2, 1) := by decide +kernel
theorem d_M_compare_23 : decode c_M_compare 23 = .ok (.bipush 20, 2) := by decide +kernel
theorem d_M_compare_25 : decode c_M_compare 25 = .ok (.imul, 1) := by decide +kernel
theorem d_M_compare_26 : decode c_M_compare 26 = .ok (.iload_n 3, 1) := by decide +kernel
theorem d_M_compare_27 : decode c_M_compare 27 = .ok (.iadd, 1) := by decide +kernel
theorem d_M_compare_28 : decode c_M_compare 28 = .ok (.laload, 1) := by decide +kernel
theorem d_M_compare_29 : decode c_M_compare 29 = .ok (.lcmp, 1) := by decide +kernel
theorem d_M_compare_30 : decode c_M_compare 30 = .ok (.ifCond .ne 9, 3) := by decide +kernel
theorem d_M_compare_33 : decode c_M_compare 33 = .ok (.iinc 3 (-1), 3) := by decide +kernel
theorem d_M_compare_36 : decode c_M_compare 36 = .ok (.goto (-33), 3) := by decide +kernel
theorem d_M_compare_39 : decode c_M_compare 39 = .ok (.aload_n 0, 1) := by decide +kernel
theorem d_M_compare_40 : decode c_M_compare 40 = .ok (.getfield 7, 3) := by decide +kernel
theorem d_M_compare_43 : decode c_M_compare 43 = .ok (.iload_n 1, 1) := by decide +kernel
theorem d_M_compare_44 : decode c_M_compare 44 = .ok (.bipush 20, 2) := by decide +kernel
theorem d_M_compare_46 : decode c_M_compare 46 = .ok (.imul, 1) := by decide +kernel
theorem d_M_compare_47 : decode c_M_compare 47 = .ok (.iload_n 3, 1) := by decide +kernel
theorem d_M_compare_48 : decode c_M_compare 48 = .ok (.iadd, 1) := by decide +kernel
theorem d_M_compare_49 : decode c_M_compare 49 = .ok (.laload, 1) := by decide +kernel
theorem d_M_compare_50 : decode c_M_compare 50 = .ok (.aload_n 0, 1) := by decide +kernel
theorem d_M_compare_51 : decode c_M_compare 51 = .ok (.getfield 7, 3) := by decide +kernel
theorem d_M_compare_54 : decode c_M_compare 54 = .ok (.iload_n 2, 1) := by decide +kernel
theorem d_M_compare_55 : decode c_M_compare 55 = .ok (.bipush 20, 2) := by decide +kernel
theorem d_M_compare_57 : decode c_M_compare 57 = .ok (.imul, 1) := by decide +kernel
theorem d_M_compare_58 : decode c_M_compare 58 = .ok (.iload_n 3, 1) := by decide +kernel
theorem d_M_compare_59 : decode c_M_compare 59 = .ok (.iadd, 1) := by decide +kernel
theorem d_M_compare_60 : decode c_M_compare 60 = .ok (.laload, 1) := by decide +kernel
theorem d_M_compare_61 : decode c_M_compare 61 = .ok (.lsub, 1) := by decide +kernel
theorem d_M_compare_62 : decode c_M_compare 62 = .ok (.lstore 4, 2) := by decide +kernel
theorem d_M_compare_64 : decode c_M_compare 64 = .ok (.lload 4, 2) := by decide +kernel
theorem d_M_compare_66 : decode c_M_compare 66 = .ok (.lconst 0, 1) := by decide +kernel
theorem d_M_compare_67 : decode c_M_compare 67 = .ok (.lcmp, 1) := by decide +kernel
theorem d_M_compare_68 : decode c_M_compare 68 = .ok (.ifCond .ge 7, 3) := by decide +kernel
theorem d_M_compare_71 : decode c_M_compare 71 = .ok (.iconst (-1), 1) := by decide +kernel
theorem d_M_compare_72 : decode c_M_compare 72 = .ok (.goto 15, 3) := by decide +kernel
theorem d_M_compare_75 : decode c_M_compare 75 = .ok (.lload 4, 2) := by decide +kernel
theorem d_M_compare_77 : decode c_M_compare 77 = .ok (.lconst 0, 1) := by decide +kernel
theorem d_M_compare_78 : decode c_M_compare 78 = .ok (.lcmp, 1) := by decide +kernel
theorem d_M_compare_79 : decode c_M_compare 79 = .ok (.ifCond .le 7, 3) := by decide +kernel
theorem d_M_compare_82 : decode c_M_compare 82 = .ok (.iconst 1, 1) := by decide +kernel
theorem d_M_compare_83 : decode c_M_compare 83 = .ok (.goto 4, 3) := by decide +kernel
theorem d_M_compare_86 : decode c_M_compare 86 = .ok (.iconst 0, 1) := by decide +kernel
theorem d_M_compare_87 : decode c_M_compare 87 = .ok (.ireturn, 1) := by decide +kernel
theorem d_M_takesOff_0 : decode c_M_takesOff 0 = .ok (.lconst 0, 1) := by decide +kernel
theorem d_M_takesOff_1 : decode c_M_takesOff 1 = .ok (.lstore_n 3, 1) := by decide +kernel
theorem d_M_takesOff_2 : decode c_M_takesOff 2 = .ok (.aload_n 0, 1) := by decide +kernel
theorem d_M_takesOff_3 : decode c_M_takesOff 3 = .ok (.iload_n 1, 1) := by decide +kernel
theorem d_M_takesOff_4 : decode c_M_takesOff 4 = .ok (.invokevirtual 56, 3) := by decide +kernel
theorem d_M_takesOff_7 : decode c_M_takesOff 7 = .ok (.istore 5, 2) := by decide +kernel
theorem d_M_takesOff_9 : decode c_M_takesOff 9 = .ok (.iconst 0, 1) := by decide +kernel
theorem d_M_takesOff_10 : decode c_M_takesOff 10 = .ok (.istore 6, 2) := by decide +kernel
theorem d_M_takesOff_12 : decode c_M_takesOff 12 = .ok (.iload 6, 2) := by decide +kernel
theorem d_M_takesOff_14 : decode c_M_takesOff 14 = .ok (.iload 5, 2) := by decide +kernel
theorem d_M_takesOff_16 : decode c_M_takesOff 16 = .ok (.if_icmp .gt 71, 3) := by decide +kernel
theorem d_M_takesOff_19 : decode c_M_takesOff 19 = .ok (.aload_n 0, 1) := by decide +kernel
theorem d_M_takesOff_20 : decode c_M_takesOff 20 = .ok (.getfield 7, 3) := by decide +kernel
theorem d_M_takesOff_23 : decode c_M_takesOff 23 = .ok (.iload_n 1, 1) := by decide +kernel
theorem d_M_takesOff_24 : decode c_M_takesOff 24 = .ok (.bipush 20, 2) := by decide +kernel
theorem d_M_takesOff_26 : decode c_M_takesOff 26 = .ok (.imul, 1) := by decide +kernel
theorem d_M_takesOff_27 : decode c_M_takesOff 27 = .ok (.iload 6, 2) := by decide +kernel
theorem d_M_takesOff_29 : decode c_M_takesOff 29 = .ok (.iadd, 1) := by decide +kernel
theorem d_M_takesOff_30 : decode c_M_takesOff 30 = .ok (.laload, 1) := by decide +kernel
theorem d_M_takesOff_31 : decode c_M_takesOff 31 = .ok (.aload_n 0, 1) := by decide +kernel
theorem d_M_takesOff_32 : decode c_M_takesOff 32 = .ok (.getfield 7, 3) := by decide +kernel
theorem d_M_takesOff_35 : decode c_M_takesOff 35 = .ok (.iload_n 2, 1) := by decide +kernel
theorem d_M_takesOff_36 : decode c_M_takesOff 36 = .ok (.bipush 20, 2) := by decide +kernel
theorem d_M_takesOff_38 : decode c_M_takesOff 38 = .ok (.imul, 1) := by decide +kernel
theorem d_M_takesOff_39 : decode c_M_takesOff 39 = .ok (.iload 6, 2) := by decide +kernel
theorem d_M_takesOff_41 : decode c_M_takesOff 41 = .ok (.iadd, 1) := by decide +kernel
theorem d_M_takesOff_42 : decode c_M_takesOff 42 = .ok (.laload, 1) := by decide +kernel
theorem d_M_takesOff_43 : decode c_M_takesOff 43 = .ok (.lsub, 1) := by decide +kernel
theorem d_M_takesOff_44 : decode c_M_takesOff 44 = .ok (.lload_n 3, 1) := by decide +kernel
theorem d_M_takesOff_45 : decode c_M_takesOff 45 = .ok (.lsub, 1) := by decide +kernel
theorem d_M_takesOff_46 : decode c_M_takesOff 46 = .ok (.lstore 7, 2) := by decide +kernel
theorem d_M_takesOff_48 : decode c_M_takesOff 48 = .ok (.lload 7, 2) := by decide +kernel
theorem d_M_takesOff_50 : decode c_M_takesOff 50 = .ok (.lconst 0, 1) := by decide +kernel
theorem d_M_takesOff_51 : decode c_M_takesOff 51 = .ok (.lcmp, 1) := by decide +kernel
theorem d_M_takesOff_52 : decode c_M_takesOff 52 = .ok (.ifCond .ge 7, 3) := by decide +kernel
theorem d_M_takesOff_55 : decode c_M_takesOff 55 = .ok (.lconst 1, 1) := by decide +kernel
theorem d_M_takesOff_56 : decode c_M_takesOff 56 = .ok (.goto 4, 3) := by decide +kernel
theorem d_M_takesOff_59 : decode c_M_takesOff 59 = .ok (.lconst 0, 1) := by decide +kernel
theorem d_M_takesOff_60 : decode c_M_takesOff 60 = .ok (.lstore_n 3, 1) := by decide +kernel
theorem d_M_takesOff_61 : decode c_M_takesOff 61 = .ok (.aload_n 0, 1) := by decide +kernel
theorem d_M_takesOff_62 : decode c_M_takesOff 62 = .ok (.getfield 7, 3) := by decide +kernel
theorem d_M_takesOff_65 : decode c_M_takesOff 65 = .ok (.iload_n 1, 1) := by decide +kernel
theorem d_M_takesOff_66 : decode c_M_takesOff 66 = .ok (.bipush 20, 2) := by decide +kernel
theorem d_M_takesOff_68 : decode c_M_takesOff 68 = .ok (.imul, 1) := by decide +kernel
theorem d_M_takesOff_69 : decode c_M_takesOff 69 = .ok (.iload 6, 2) := by decide +kernel
theorem d_M_takesOff_71 : decode c_M_takesOff 71 = .ok (.iadd, 1) := by decide +kernel
theorem d_M_takesOff_72 : decode c_M_takesOff 72 = .ok (.lload 7, 2) := by decide +kernel
theorem d_M_takesOff_74 : decode c_M_takesOff 74 = .ok (.lload_n 3, 1) := by decide +kernel
theorem d_M_takesOff_75 : decode c_M_takesOff 75 = .ok (.ldc2_w 54, 3) := by decide +kernel
theorem d_M_takesOff_78 : decode c_M_takesOff 78 = .ok (.lmul, 1) := by decide +kernel
theorem d_M_takesOff_79 : decode c_M_takesOff 79 = .ok (.ladd, 1) := by decide +kernel
theorem d_M_takesOff_80 : decode c_M_takesOff 80 = .ok (.lastore, 1) := by decide +kernel
theorem d_M_takesOff_81 : decode c_M_takesOff 81 = .ok (.iinc 6 1, 3) := by decide +kernel
theorem d_M_takesOff_84 : decode c_M_takesOff 84 = .ok (.goto (-72), 3) := by decide +kernel
theorem d_M_takesOff_87 : decode c_M_takesOff 87 = .ok (.return_, 1) := by decide +kernel
theorem d_M_adds_0 : decode c_M_adds 0 = .ok (.lconst 0, 1) := by decide +kernel
theorem d_M_adds_1 : decode c_M_adds 1 = .ok (.lstore_n 3, 1) := by decide +kernel
theorem d_M_adds_2 : decode c_M_adds 2 = .ok (.iconst 0, 1) := by decide +kernel
theorem d_M_adds_3 : decode c_M_adds 3 = .ok (.istore 5, 2) := by decide +kernel
theorem d_M_adds_5 : decode c_M_adds 5 = .ok (.iload 5, 2) := by decide +kernel
theorem d_M_adds_7 : decode c_M_adds 7 = .ok (.bipush 20, 2) := by decide +kernel
theorem d_M_adds_9 : decode c_M_adds 9 = .ok (.if_icmp .ge 73, 3) := by decide +kernel
theorem d_M_adds_12 : decode c_M_adds 12 = .ok (.aload_n 0, 1) := by decide +kernel
theorem d_M_adds_13 : decode c_M_adds 13 = .ok (.getfield 7, 3) := by decide +kernel
theorem d_M_adds_16 : decode c_M_adds 16 = .ok (.iload_n 1, 1) := by decide +kernel
theorem d_M_adds_17 : decode c_M_adds 17 = .ok (.bipush 20, 2) := by decide +kernel
theorem d_M_adds_19 : decode c_M_adds 19 = .ok (.imul, 1) := by decide +kernel
theorem d_M_adds_20 : decode c_M_adds 20 = .ok (.iload 5, 2) := by decide +kernel
theorem d_M_adds_22 : decode c_M_adds 22 = .ok (.iadd, 1) := by decide +kernel
theorem d_M_adds_23 : decode c_M_adds 23 = .ok (.laload, 1) := by decide +kernel
theorem d_M_adds_24 : decode c_M_adds 24 = .ok (.aload_n 0, 1) := by decide +kernel
theorem d_M_adds_25 : decode c_M_adds 25 = .ok (.getfield 7, 3) := by decide +kernel
theorem d_M_adds_28 : decode c_M_adds 28 = .ok (.iload_n 2, 1) := by decide +kernel
theorem d_M_adds_29 : decode c_M_adds 29 = .ok (.bipush 20, 2) := by decide +kernel
theorem d_M_adds_31 : decode c_M_adds 31 = .ok (.imul, 1) := by decide +kernel
theorem d_M_adds_32 : decode c_M_adds 32 = .ok (.iload 5, 2) := by decide +kernel
theorem d_M_adds_34 : decode c_M_adds 34 = .ok (.iadd, 1) := by decide +kernel
theorem d_M_adds_35 : decode c_M_adds 35 = .ok (.laload, 1) := by decide +kernel
theorem d_M_adds_36 : decode c_M_adds 36 = .ok (.ladd, 1) := by decide +kernel
theorem d_M_adds_37 : decode c_M_adds 37 = .ok (.lload_n 3, 1) := by decide +kernel
theorem d_M_adds_38 : decode c_M_adds 38 = .ok (.ladd, 1) := by decide +kernel
theorem d_M_adds_39 : decode c_M_adds 39 = .ok (.lstore 6, 2) := by decide +kernel
theorem d_M_adds_41 : decode c_M_adds 41 = .ok (.lload 6, 2) := by decide +kernel
theorem d_M_adds_43 : decode c_M_adds 43 = .ok (.ldc2_w 54, 3) := by decide +kernel
theorem d_M_adds_46 : decode c_M_adds 46 = .ok (.lcmp, 1) := by decide +kernel
theorem d_M_adds_47 : decode c_M_adds 47 = .ok (.ifCond .lt 7, 3) := by decide +kernel
theorem d_M_adds_50 : decode c_M_adds 50 = .ok (.lconst 1, 1) := by decide +kernel
theorem d_M_adds_51 : decode c_M_adds 51 = .ok (.goto 4, 3) := by decide +kernel
theorem d_M_adds_54 : decode c_M_adds 54 = .ok (.lconst 0, 1) := by decide +kernel
theorem d_M_adds_55 : decode c_M_adds 55 = .ok (.lstore_n 3, 1) := by decide +kernel
theorem d_M_adds_56 : decode c_M_adds 56 = .ok (.aload_n 0, 1) := by decide +kernel
theorem d_M_adds_57 : decode c_M_adds 57 = .ok (.getfield 7, 3) := by decide +kernel
theorem d_M_adds_60 : decode c_M_adds 60 = .ok (.iload_n 1, 1) := by decide +kernel
theorem d_M_adds_61 : decode c_M_adds 61 = .ok (.bipush 20, 2) := by decide +kernel
theorem d_M_adds_63 : decode c_M_adds 63 = .ok (.imul, 1) := by decide +kernel
theorem d_M_adds_64 : decode c_M_adds 64 = .ok (.iload 5, 2) := by decide +kernel
theorem d_M_adds_66 : decode c_M_adds 66 = .ok (.iadd, 1) := by decide +kernel
theorem d_M_adds_67 : decode c_M_adds 67 = .ok (.lload 6, 2) := by decide +kernel
theorem d_M_adds_69 : decode c_M_adds 69 = .ok (.lload_n 3, 1) := by decide +kernel
theorem d_M_adds_70 : decode c_M_adds 70 = .ok (.ldc2_w 54, 3) := by decide +kernel
theorem d_M_adds_73 : decode c_M_adds 73 = .ok (.lmul, 1) := by decide +kernel
theorem d_M_adds_74 : decode c_M_adds 74 = .ok (.lsub, 1) := by decide +kernel
theorem d_M_adds_75 : decode c_M_adds 75 = .ok (.lastore, 1) := by decide +kernel
theorem d_M_adds_76 : decode c_M_adds 76 = .ok (.iinc 5 1, 3) := by decide +kernel
theorem d_M_adds_79 : decode c_M_adds 79 = .ok (.goto (-74), 3) := by decide +kernel
theorem d_M_adds_82 : decode c_M_adds 82 = .ok (.return_, 1) := by decide +kernel
theorem d_M_divide_0 : decode c_M_divide 0 = .ok (.aload_n 0, 1) := by decide +kernel
theorem d_M_divide_1 : decode c_M_divide 1 = .ok (.iload_n 3, 1) := by decide +kernel
theorem d_M_divide_2 : decode c_M_divide 2 = .ok (.invokevirtual 48, 3) := by decide +kernel
theorem d_M_divide_5 : decode c_M_divide 5 = .ok (.aload_n 0, 1) := by decide +kernel
theorem d_M_divide_6 : decode c_M_divide 6 = .ok (.iload_n 1, 1) := by decide +kernel
theorem d_M_divide_7 : decode c_M_divide 7 = .ok (.invokevirtual 56, 3) := by decide +kernel
theorem d_M_divide_10 : decode c_M_divide 10 = .ok (.aload_n 0, 1) := by decide +kernel
theorem d_M_divide_11 : decode c_M_divide 11 = .ok (.iload_n 2, 1) := by decide +kernel
theorem d_M_divide_12 : decode c_M_divide 12 = .ok (.invokevirtual 56, 3) := by decide +kernel
theorem d_M_divide_15 : decode c_M_divide 15 = .ok (.isub, 1) := by decide +kernel
theorem d_M_divide_16 : decode c_M_divide 16 = .ok (.istore 4, 2) := by decide +kernel
theorem d_M_divide_18 : decode c_M_divide 18 = .ok (.iload 4, 2) := by decide +kernel
theorem d_M_divide_20 : decode c_M_divide 20 = .ok (.ifCond .lt 174, 3) := by decide +kernel
theorem d_M_divide_23 : decode c_M_divide 23 = .ok (.aload_n 0, 1) := by decide +kernel
