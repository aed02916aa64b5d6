theorem d_K_getsOneMore_28 : decode c_K_getsOneMore 28 = .ok (.if_icmp .ge 61, 3) := by decide +kernel
theorem d_K_getsOneMore_31 : decode c_K_getsOneMore 31 = .ok (.lload_n 1, 1) := by decide +kernel
theorem d_K_getsOneMore_32 : decode c_K_getsOneMore 32 = .ok (.aload_n 0, 1) := by decide +kernel
theorem d_K_getsOneMore_33 : decode c_K_getsOneMore 33 = .ok (.getfield 27, 3) := by decide +kernel
theorem d_K_getsOneMore_36 : decode c_K_getsOneMore 36 = .ok (.iload 11, 2) := by decide +kernel
theorem d_K_getsOneMore_38 : decode c_K_getsOneMore 38 = .ok (.laload, 1) := by decide +kernel
theorem d_K_getsOneMore_39 : decode c_K_getsOneMore 39 = .ok (.lmul, 1) := by decide +kernel
theorem d_K_getsOneMore_40 : decode c_K_getsOneMore 40 = .ok (.lstore 12, 2) := by decide +kernel
theorem d_K_getsOneMore_42 : decode c_K_getsOneMore 42 = .ok (.lload 12, 2) := by decide +kernel
theorem d_K_getsOneMore_44 : decode c_K_getsOneMore 44 = .ok (.lload_n 3, 1) := by decide +kernel
theorem d_K_getsOneMore_45 : decode c_K_getsOneMore 45 = .ok (.lrem, 1) := by decide +kernel
theorem d_K_getsOneMore_46 : decode c_K_getsOneMore 46 = .ok (.lstore 14, 2) := by decide +kernel
theorem d_K_getsOneMore_48 : decode c_K_getsOneMore 48 = .ok (.lload 8, 2) := by decide +kernel
theorem d_K_getsOneMore_50 : decode c_K_getsOneMore 50 = .ok (.lload 12, 2) := by decide +kernel
theorem d_K_getsOneMore_52 : decode c_K_getsOneMore 52 = .ok (.lload_n 3, 1) := by decide +kernel
theorem d_K_getsOneMore_53 : decode c_K_getsOneMore 53 = .ok (.ldiv, 1) := by decide +kernel
theorem d_K_getsOneMore_54 : decode c_K_getsOneMore 54 = .ok (.lsub, 1) := by decide +kernel
theorem d_K_getsOneMore_55 : decode c_K_getsOneMore 55 = .ok (.lstore 8, 2) := by decide +kernel
theorem d_K_getsOneMore_57 : decode c_K_getsOneMore 57 = .ok (.lload 14, 2) := by decide +kernel
theorem d_K_getsOneMore_59 : decode c_K_getsOneMore 59 = .ok (.lload 6, 2) := by decide +kernel
theorem d_K_getsOneMore_61 : decode c_K_getsOneMore 61 = .ok (.lcmp, 1) := by decide +kernel
theorem d_K_getsOneMore_62 : decode c_K_getsOneMore 62 = .ok (.ifCond .gt 18, 3) := by decide +kernel
theorem d_K_getsOneMore_65 : decode c_K_getsOneMore 65 = .ok (.lload 14, 2) := by decide +kernel
theorem d_K_getsOneMore_67 : decode c_K_getsOneMore 67 = .ok (.lload 6, 2) := by decide +kernel
theorem d_K_getsOneMore_69 : decode c_K_getsOneMore 69 = .ok (.lcmp, 1) := by decide +kernel
theorem d_K_getsOneMore_70 : decode c_K_getsOneMore 70 = .ok (.ifCond .ne 13, 3) := by decide +kernel
theorem d_K_getsOneMore_73 : decode c_K_getsOneMore 73 = .ok (.iload 11, 2) := by decide +kernel
theorem d_K_getsOneMore_75 : decode c_K_getsOneMore 75 = .ok (.iload 5, 2) := by decide +kernel
theorem d_K_getsOneMore_77 : decode c_K_getsOneMore 77 = .ok (.if_icmp .ge 6, 3) := by decide +kernel
theorem d_K_getsOneMore_80 : decode c_K_getsOneMore 80 = .ok (.iinc 10 1, 3) := by decide +kernel
theorem d_K_getsOneMore_83 : decode c_K_getsOneMore 83 = .ok (.iinc 11 1, 3) := by decide +kernel
theorem d_K_getsOneMore_86 : decode c_K_getsOneMore 86 = .ok (.goto (-64), 3) := by decide +kernel
theorem d_K_getsOneMore_89 : decode c_K_getsOneMore 89 = .ok (.iload 10, 2) := by decide +kernel
theorem d_K_getsOneMore_91 : decode c_K_getsOneMore 91 = .ok (.i2l, 1) := by decide +kernel
theorem d_K_getsOneMore_92 : decode c_K_getsOneMore 92 = .ok (.lload 8, 2) := by decide +kernel
theorem d_K_getsOneMore_94 : decode c_K_getsOneMore 94 = .ok (.lcmp, 1) := by decide +kernel
theorem d_K_getsOneMore_95 : decode c_K_getsOneMore 95 = .ok (.ifCond .ge 7, 3) := by decide +kernel
theorem d_K_getsOneMore_98 : decode c_K_getsOneMore 98 = .ok (.iconst 1, 1) := by decide +kernel
theorem d_K_getsOneMore_99 : decode c_K_getsOneMore 99 = .ok (.goto 4, 3) := by decide +kernel
theorem d_K_getsOneMore_102 : decode c_K_getsOneMore 102 = .ok (.iconst 0, 1) := by decide +kernel
theorem d_K_getsOneMore_103 : decode c_K_getsOneMore 103 = .ok (.ireturn, 1) := by decide +kernel
theorem d_K_giving_0 : decode c_K_giving 0 = .ok (.aload_n 0, 1) := by decide +kernel
theorem d_K_giving_1 : decode c_K_giving 1 = .ok (.iload_n 1, 1) := by decide +kernel
theorem d_K_giving_2 : decode c_K_giving 2 = .ok (.invokevirtual 107, 3) := by decide +kernel
theorem d_K_giving_5 : decode c_K_giving 5 = .ok (.aload_n 0, 1) := by decide +kernel
theorem d_K_giving_6 : decode c_K_giving 6 = .ok (.iconst 1, 1) := by decide +kernel
theorem d_K_giving_7 : decode c_K_giving 7 = .ok (.invokevirtual 60, 3) := by decide +kernel
theorem d_K_giving_10 : decode c_K_giving 10 = .ok (.aload_n 0, 1) := by decide +kernel
theorem d_K_giving_11 : decode c_K_giving 11 = .ok (.getfield 10, 3) := by decide +kernel
theorem d_K_giving_14 : decode c_K_giving 14 = .ok (.iload_n 1, 1) := by decide +kernel
theorem d_K_giving_15 : decode c_K_giving 15 = .ok (.aload_n 0, 1) := by decide +kernel
theorem d_K_giving_16 : decode c_K_giving 16 = .ok (.getfield 48, 3) := by decide +kernel
theorem d_K_giving_19 : decode c_K_giving 19 = .ok (.invokevirtual 122, 3) := by decide +kernel
theorem d_K_giving_22 : decode c_K_giving 22 = .ok (.aload_n 0, 1) := by decide +kernel
theorem d_K_giving_23 : decode c_K_giving 23 = .ok (.getfield 44, 3) := by decide +kernel
theorem d_K_giving_26 : decode c_K_giving 26 = .ok (.aload_n 0, 1) := by decide +kernel
theorem d_K_giving_27 : decode c_K_giving 27 = .ok (.getfield 48, 3) := by decide +kernel
theorem d_K_giving_30 : decode c_K_giving 30 = .ok (.aload_n 0, 1) := by decide +kernel
theorem d_K_giving_31 : decode c_K_giving 31 = .ok (.getfield 37, 3) := by decide +kernel
theorem d_K_giving_34 : decode c_K_giving 34 = .ok (.aload_n 0, 1) := by decide +kernel
theorem d_K_giving_35 : decode c_K_giving 35 = .ok (.getfield 37, 3) := by decide +kernel
theorem d_K_giving_38 : decode c_K_giving 38 = .ok (.getfield 87, 3) := by decide +kernel
theorem d_K_giving_41 : decode c_K_giving 41 = .ok (.aload_n 0, 1) := by decide +kernel
theorem d_K_giving_42 : decode c_K_giving 42 = .ok (.getfield 54, 3) := by decide +kernel
theorem d_K_giving_45 : decode c_K_giving 45 = .ok (.invokevirtual 90, 3) := by decide +kernel
theorem d_K_giving_48 : decode c_K_giving 48 = .ok (.aload_n 0, 1) := by decide +kernel
theorem d_K_giving_49 : decode c_K_giving 49 = .ok (.getfield 44, 3) := by decide +kernel
theorem d_K_giving_52 : decode c_K_giving 52 = .ok (.aload_n 0, 1) := by decide +kernel
theorem d_K_giving_53 : decode c_K_giving 53 = .ok (.getfield 54, 3) := by decide +kernel
theorem d_K_giving_56 : decode c_K_giving 56 = .ok (.invokevirtual 75, 3) := by decide +kernel
theorem d_K_giving_59 : decode c_K_giving 59 = .ok (.aload_n 0, 1) := by decide +kernel
theorem d_K_giving_60 : decode c_K_giving 60 = .ok (.getfield 44, 3) := by decide +kernel
theorem d_K_giving_63 : decode c_K_giving 63 = .ok (.aload_n 0, 1) := by decide +kernel
theorem d_K_giving_64 : decode c_K_giving 64 = .ok (.getfield 54, 3) := by decide +kernel
theorem d_K_giving_67 : decode c_K_giving 67 = .ok (.aload_n 0, 1) := by decide +kernel
theorem d_K_giving_68 : decode c_K_giving 68 = .ok (.getfield 57, 3) := by decide +kernel
theorem d_K_giving_71 : decode c_K_giving 71 = .ok (.invokevirtual 173, 3) := by decide +kernel
theorem d_K_giving_74 : decode c_K_giving 74 = .ok (.aload_n 0, 1) := by decide +kernel
theorem d_K_giving_75 : decode c_K_giving 75 = .ok (.getfield 54, 3) := by decide +kernel
theorem d_K_giving_78 : decode c_K_giving 78 = .ok (.invokevirtual 145, 3) := by decide +kernel
theorem d_K_giving_81 : decode c_K_giving 81 = .ok (.ifCond .ne 13, 3) := by decide +kernel
theorem d_K_giving_84 : decode c_K_giving 84 = .ok (.aload_n 0, 1) := by decide +kernel
theorem d_K_giving_85 : decode c_K_giving 85 = .ok (.getfield 57, 3) := by decide +kernel
theorem d_K_giving_88 : decode c_K_giving 88 = .ok (.invokevirtual 145, 3) := by decide +kernel
theorem d_K_giving_91 : decode c_K_giving 91 = .ok (.ifCond .eq 5, 3) := by decide +kernel
theorem d_K_giving_94 : decode c_K_giving 94 = .ok (.iconst (-1), 1) := by decide +kernel
theorem d_K_giving_95 : decode c_K_giving 95 = .ok (.ireturn, 1) := by decide +kernel
theorem d_K_giving_96 : decode c_K_giving 96 = .ok (.aload_n 0, 1) := by decide +kernel
theorem d_K_giving_97 : decode c_K_giving 97 = .ok (.getfield 37, 3) := by decide +kernel
theorem d_K_giving_100 : decode c_K_giving 100 = .ok (.aload_n 0, 1) := by decide +kernel
theorem d_K_giving_101 : decode c_K_giving 101 = .ok (.getfield 57, 3) := by decide +kernel
theorem d_K_giving_104 : decode c_K_giving 104 = .ok (.invokevirtual 176, 3) := by decide +kernel
theorem d_K_giving_107 : decode c_K_giving 107 = .ok (.aload_n 0, 1) := by decide +kernel
theorem d_K_giving_108 : decode c_K_giving 108 = .ok (.getfield 10, 3) := by decide +kernel
theorem d_K_giving_111 : decode c_K_giving 111 = .ok (.aload_n 0, 1) := by decide +kernel
theorem d_K_giving_112 : decode c_K_giving 112 = .ok (.getfield 54, 3) := by decide +kernel
theorem d_K_giving_115 : decode c_K_giving 115 = .ok (.invokevirtual 149, 3) := by decide +kernel
theorem d_K_giving_118 : decode c_K_giving 118 = .ok (.ireturn, 1) := by decide +kernel
theorem d_K_rest_0 : decode c_K_rest 0 = .ok (.aload_n 0, 1) := by decide +kernel
theorem d_K_rest_1 : decode c_K_rest 1 = .ok (.iconst 1, 1) := by decide +kernel
theorem d_K_rest_2 : decode c_K_rest 2 = .ok (.invokevirtual 60, 3) := by decide +kernel
theorem d_K_rest_5 : decode c_K_rest 5 = .ok (.aload_n 0, 1) := by decide +kernel
theorem d_K_rest_6 : decode c_K_rest 6 = .ok (.getfield 10, 3) := by decide +kernel
theorem d_K_rest_9 : decode c_K_rest 9 = .ok (.aload_n 0, 1) := by decide +kernel
theorem d_K_rest_10 : decode c_K_rest 10 = .ok (.getfield 37, 3) := by decide +kernel
theorem d_K_rest_13 : decode c_K_rest 13 = .ok (.invokevirtual 149, 3) := by decide +kernel
theorem d_K_rest_16 : decode c_K_rest 16 = .ok (.ireturn, 1) := by decide +kernel
theorem d_K_sign_0 : decode c_K_sign 0 = .ok (.aload_n 0, 1) := by decide +kernel
theorem d_K_sign_1 : decode c_K_sign 1 = .ok (.iload_n 1, 1) := by decide +kernel
theorem d_K_sign_2 : decode c_K_sign 2 = .ok (.invokevirtual 107, 3) := by decide +kernel
theorem d_K_sign_5 : decode c_K_sign 5 = .ok (.aload_n 0, 1) := by decide +kernel
theorem d_K_sign_6 : decode c_K_sign 6 = .ok (.getfield 10, 3) := by decide +kernel
theorem d_K_sign_9 : decode c_K_sign 9 = .ok (.iload_n 1, 1) := by decide +kernel
theorem d_K_sign_10 : decode c_K_sign 10 = .ok (.aload_n 0, 1) := by decide +kernel
theorem d_K_sign_11 : decode c_K_sign 11 = .ok (.getfield 48, 3) := by decide +kernel
theorem d_K_sign_14 : decode c_K_sign 14 = .ok (.invokevirtual 122, 3) := by decide +kernel
theorem d_K_sign_17 : decode c_K_sign 17 = .ok (.aload_n 0, 1) := by decide +kernel
theorem d_K_sign_18 : decode c_K_sign 18 = .ok (.getfield 48, 3) := by decide +kernel
theorem d_K_sign_21 : decode c_K_sign 21 = .ok (.getfield 87, 3) := by decide +kernel
theorem d_K_sign_24 : decode c_K_sign 24 = .ok (.ireturn, 1) := by decide +kernel
theorem d_K_digit_0 : decode c_K_digit 0 = .ok (.aload_n 0, 1) := by decide +kernel
theorem d_K_digit_1 : decode c_K_digit 1 = .ok (.iload_n 1, 1) := by decide +kernel
theorem d_K_digit_2 : decode c_K_digit 2 = .ok (.invokevirtual 107, 3) := by decide +kernel
theorem d_K_digit_5 : decode c_K_digit 5 = .ok (.iload_n 2, 1) := by decide +kernel
theorem d_K_digit_6 : decode c_K_digit 6 = .ok (.ifCond .eq 18, 3) := by decide +kernel
theorem d_K_digit_9 : decode c_K_digit 9 = .ok (.iload_n 2, 1) := by decide +kernel
theorem d_K_digit_10 : decode c_K_digit 10 = .ok (.iconst 1, 1) := by decide +kernel
theorem d_K_digit_11 : decode c_K_digit 11 = .ok (.if_icmp .eq 13, 3) := by decide +kernel
theorem d_K_digit_14 : decode c_K_digit 14 = .ok (.new 110, 3) := by decide +kernel
theorem d_K_digit_17 : decode c_K_digit 17 = .ok (.dup, 1) := by decide +kernel
theorem d_K_digit_18 : decode c_K_digit 18 = .ok (.ldc 179, 2) := by decide +kernel
theorem d_K_digit_20 : decode c_K_digit 20 = .ok (.invokespecial 114, 3) := by decide +kernel
theorem d_K_digit_23 : decode c_K_digit 23 = .ok (.athrow, 1) := by decide +kernel
theorem d_K_digit_24 : decode c_K_digit 24 = .ok (.aload_n 0, 1) := by decide +kernel
theorem d_K_digit_25 : decode c_K_digit 25 = .ok (.getfield 10, 3) := by decide +kernel
theorem d_K_digit_28 : decode c_K_digit 28 = .ok (.iload_n 1, 1) := by decide +kernel
theorem d_K_digit_29 : decode c_K_digit 29 = .ok (.aload_n 0, 1) := by decide +kernel
theorem d_K_digit_30 : decode c_K_digit 30 = .ok (.getfield 48, 3) := by decide +kernel
theorem d_K_digit_33 : decode c_K_digit 33 = .ok (.invokevirtual 122, 3) := by decide +kernel
theorem d_K_digit_36 : decode c_K_digit 36 = .ok (.iload_n 2, 1) := by decide +kernel
theorem d_K_digit_37 : decode c_K_digit 37 = .ok (.ifCond .ne 13, 3) := by decide +kernel
theorem d_K_digit_40 : decode c_K_digit 40 = .ok (.aload_n 0, 1) := by decide +kernel
theorem d_K_digit_41 : decode c_K_digit 41 = .ok (.getfield 48, 3) := by decide +kernel
theorem d_K_digit_44 : decode c_K_digit 44 = .ok (.getfield 181, 3) := by decide +kernel
theorem d_K_digit_47 : decode c_K_digit 47 = .ok (.goto 10, 3) := by decide +kernel
theorem d_K_digit_50 : decode c_K_digit 50 = .ok (.aload_n 0, 1) := by decide +kernel
theorem d_K_digit_51 : decode c_K_digit 51 = .ok (.getfield 48, 3) := by decide +kernel
theorem d_K_digit_54 : decode c_K_digit 54 = .ok (.getfield 185, 3) := by decide +kernel
theorem d_K_digit_57 : decode c_K_digit 57 = .ok (.astore 4, 2) := by decide +kernel
theorem d_K_digit_59 : decode c_K_digit 59 = .ok (.iload_n 3, 1) := by decide +kernel
theorem d_K_digit_60 : decode c_K_digit 60 = .ok (.ifCond .lt 12, 3) := by decide +kernel
theorem d_K_digit_63 : decode c_K_digit 63 = .ok (.iload_n 3, 1) := by decide +kernel
theorem d_K_digit_64 : decode c_K_digit 64 = .ok (.aload 4, 2) := by decide +kernel
theorem d_K_digit_66 : decode c_K_digit 66 = .ok (.invokevirtual 188, 3) := by decide +kernel
theorem d_K_digit_69 : decode c_K_digit 69 = .ok (.if_icmp .lt 13, 3) := by decide +kernel
theorem d_K_digit_72 : decode c_K_digit 72 = .ok (.new 110, 3) := by decide +kernel
theorem d_K_digit_75 : decode c_K_digit 75 = .ok (.dup, 1) := by decide +kernel
theorem d_K_digit_76 : decode c_K_digit 76 = .ok (.ldc 193, 2) := by decide +kernel
theorem d_K_digit_78 : decode c_K_digit 78 = .ok (.invokespecial 114, 3) := by decide +kernel
theorem d_K_digit_81 : decode c_K_digit 81 = .ok (.athrow, 1) := by decide +kernel
theorem d_K_digit_82 : decode c_K_digit 82 = .ok (.aload 4, 2) := by decide +kernel
theorem d_K_digit_84 : decode c_K_digit 84 = .ok (.iload_n 3, 1) := by decide +kernel
theorem d_K_digit_85 : decode c_K_digit 85 = .ok (.invokevirtual 195, 3) := by decide +kernel
theorem d_K_digit_88 : decode c_K_digit 88 = .ok (.ireturn, 1) := by decide +kernel
