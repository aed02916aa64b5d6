theorem d_B_init_0 : decode c_B_init 0 = .ok (.aload_n 0, 1) := by decide +kernel
theorem d_B_init_1 : decode c_B_init 1 = .ok (.invokespecial 3, 3) := by decide +kernel
theorem d_B_init_4 : decode c_B_init 4 = .ok (.aload_n 0, 1) := by decide +kernel
theorem d_B_init_5 : decode c_B_init 5 = .ok (.new 9, 3) := by decide +kernel
theorem d_B_init_8 : decode c_B_init 8 = .ok (.dup, 1) := by decide +kernel
theorem d_B_init_9 : decode c_B_init 9 = .ok (.invokespecial 11, 3) := by decide +kernel
theorem d_B_init_12 : decode c_B_init 12 = .ok (.putfield 12, 3) := by decide +kernel
theorem d_B_init_15 : decode c_B_init 15 = .ok (.aload_n 0, 1) := by decide +kernel
theorem d_B_init_16 : decode c_B_init 16 = .ok (.new 9, 3) := by decide +kernel
theorem d_B_init_19 : decode c_B_init 19 = .ok (.dup, 1) := by decide +kernel
theorem d_B_init_20 : decode c_B_init 20 = .ok (.invokespecial 11, 3) := by decide +kernel
theorem d_B_init_23 : decode c_B_init 23 = .ok (.putfield 18, 3) := by decide +kernel
theorem d_B_init_26 : decode c_B_init 26 = .ok (.aload_n 0, 1) := by decide +kernel
theorem d_B_init_27 : decode c_B_init 27 = .ok (.new 9, 3) := by decide +kernel
theorem d_B_init_30 : decode c_B_init 30 = .ok (.dup, 1) := by decide +kernel
theorem d_B_init_31 : decode c_B_init 31 = .ok (.invokespecial 11, 3) := by decide +kernel
theorem d_B_init_34 : decode c_B_init 34 = .ok (.putfield 21, 3) := by decide +kernel
theorem d_B_init_37 : decode c_B_init 37 = .ok (.return_, 1) := by decide +kernel
theorem d_B_bringToLowest_0 : decode c_B_bringToLowest 0 = .ok (.aload_n 0, 1) := by decide +kernel
theorem d_B_bringToLowest_1 : decode c_B_bringToLowest 1 = .ok (.getfield 12, 3) := by decide +kernel
theorem d_B_bringToLowest_4 : decode c_B_bringToLowest 4 = .ok (.aload_n 1, 1) := by decide +kernel
theorem d_B_bringToLowest_5 : decode c_B_bringToLowest 5 = .ok (.getfield 29, 3) := by decide +kernel
theorem d_B_bringToLowest_8 : decode c_B_bringToLowest 8 = .ok (.invokevirtual 52, 3) := by decide +kernel
theorem d_B_bringToLowest_11 : decode c_B_bringToLowest 11 = .ok (.aload_n 0, 1) := by decide +kernel
theorem d_B_bringToLowest_12 : decode c_B_bringToLowest 12 = .ok (.getfield 18, 3) := by decide +kernel
theorem d_B_bringToLowest_15 : decode c_B_bringToLowest 15 = .ok (.aload_n 1, 1) := by decide +kernel
theorem d_B_bringToLowest_16 : decode c_B_bringToLowest 16 = .ok (.getfield 24, 3) := by decide +kernel
theorem d_B_bringToLowest_19 : decode c_B_bringToLowest 19 = .ok (.invokevirtual 52, 3) := by decide +kernel
theorem d_B_bringToLowest_22 : decode c_B_bringToLowest 22 = .ok (.aload_n 0, 1) := by decide +kernel
theorem d_B_bringToLowest_23 : decode c_B_bringToLowest 23 = .ok (.invokevirtual 83, 3) := by decide +kernel
theorem d_B_bringToLowest_26 : decode c_B_bringToLowest 26 = .ok (.astore_n 2, 1) := by decide +kernel
theorem d_B_bringToLowest_27 : decode c_B_bringToLowest 27 = .ok (.aload_n 2, 1) := by decide +kernel
theorem d_B_bringToLowest_28 : decode c_B_bringToLowest 28 = .ok (.invokevirtual 87, 3) := by decide +kernel
theorem d_B_bringToLowest_31 : decode c_B_bringToLowest 31 = .ok (.ifCond .ne 21, 3) := by decide +kernel
theorem d_B_bringToLowest_34 : decode c_B_bringToLowest 34 = .ok (.aload_n 0, 1) := by decide +kernel
theorem d_B_bringToLowest_35 : decode c_B_bringToLowest 35 = .ok (.aload_n 1, 1) := by decide +kernel
theorem d_B_bringToLowest_36 : decode c_B_bringToLowest 36 = .ok (.getfield 24, 3) := by decide +kernel
theorem d_B_bringToLowest_39 : decode c_B_bringToLowest 39 = .ok (.aload_n 2, 1) := by decide +kernel
theorem d_B_bringToLowest_40 : decode c_B_bringToLowest 40 = .ok (.invokevirtual 90, 3) := by decide +kernel
theorem d_B_bringToLowest_43 : decode c_B_bringToLowest 43 = .ok (.aload_n 0, 1) := by decide +kernel
theorem d_B_bringToLowest_44 : decode c_B_bringToLowest 44 = .ok (.aload_n 1, 1) := by decide +kernel
theorem d_B_bringToLowest_45 : decode c_B_bringToLowest 45 = .ok (.getfield 29, 3) := by decide +kernel
theorem d_B_bringToLowest_48 : decode c_B_bringToLowest 48 = .ok (.aload_n 2, 1) := by decide +kernel
theorem d_B_bringToLowest_49 : decode c_B_bringToLowest 49 = .ok (.invokevirtual 90, 3) := by decide +kernel
theorem d_B_bringToLowest_52 : decode c_B_bringToLowest 52 = .ok (.return_, 1) := by decide +kernel
theorem d_B_commonDivisor_0 : decode c_B_commonDivisor 0 = .ok (.aload_n 0, 1) := by decide +kernel
theorem d_B_commonDivisor_1 : decode c_B_commonDivisor 1 = .ok (.getfield 12, 3) := by decide +kernel
theorem d_B_commonDivisor_4 : decode c_B_commonDivisor 4 = .ok (.astore_n 1, 1) := by decide +kernel
theorem d_B_commonDivisor_5 : decode c_B_commonDivisor 5 = .ok (.aload_n 0, 1) := by decide +kernel
theorem d_B_commonDivisor_6 : decode c_B_commonDivisor 6 = .ok (.getfield 18, 3) := by decide +kernel
theorem d_B_commonDivisor_9 : decode c_B_commonDivisor 9 = .ok (.astore_n 2, 1) := by decide +kernel
theorem d_B_commonDivisor_10 : decode c_B_commonDivisor 10 = .ok (.iconst 0, 1) := by decide +kernel
theorem d_B_commonDivisor_11 : decode c_B_commonDivisor 11 = .ok (.istore_n 3, 1) := by decide +kernel
theorem d_B_commonDivisor_12 : decode c_B_commonDivisor 12 = .ok (.iload_n 3, 1) := by decide +kernel
theorem d_B_commonDivisor_13 : decode c_B_commonDivisor 13 = .ok (.sipush 10000, 3) := by decide +kernel
theorem d_B_commonDivisor_16 : decode c_B_commonDivisor 16 = .ok (.if_icmp .ge 29, 3) := by decide +kernel
theorem d_B_commonDivisor_19 : decode c_B_commonDivisor 19 = .ok (.aload_n 2, 1) := by decide +kernel
theorem d_B_commonDivisor_20 : decode c_B_commonDivisor 20 = .ok (.invokevirtual 93, 3) := by decide +kernel
theorem d_B_commonDivisor_23 : decode c_B_commonDivisor 23 = .ok (.ifCond .ne 22, 3) := by decide +kernel
theorem d_B_commonDivisor_26 : decode c_B_commonDivisor 26 = .ok (.aload_n 1, 1) := by decide +kernel
theorem d_B_commonDivisor_27 : decode c_B_commonDivisor 27 = .ok (.aload_n 2, 1) := by decide +kernel
theorem d_B_commonDivisor_28 : decode c_B_commonDivisor 28 = .ok (.invokevirtual 96, 3) := by decide +kernel
theorem d_B_commonDivisor_31 : decode c_B_commonDivisor 31 = .ok (.aload_n 1, 1) := by decide +kernel
theorem d_B_commonDivisor_32 : decode c_B_commonDivisor 32 = .ok (.astore 4, 2) := by decide +kernel
theorem d_B_commonDivisor_34 : decode c_B_commonDivisor 34 = .ok (.aload_n 2, 1) := by decide +kernel
theorem d_B_commonDivisor_35 : decode c_B_commonDivisor 35 = .ok (.astore_n 1, 1) := by decide +kernel
theorem d_B_commonDivisor_36 : decode c_B_commonDivisor 36 = .ok (.aload 4, 2) := by decide +kernel
theorem d_B_commonDivisor_38 : decode c_B_commonDivisor 38 = .ok (.astore_n 2, 1) := by decide +kernel
theorem d_B_commonDivisor_39 : decode c_B_commonDivisor 39 = .ok (.iinc 3 1, 3) := by decide +kernel
theorem d_B_commonDivisor_42 : decode c_B_commonDivisor 42 = .ok (.goto (-30), 3) := by decide +kernel
theorem d_B_commonDivisor_45 : decode c_B_commonDivisor 45 = .ok (.aload_n 2, 1) := by decide +kernel
theorem d_B_commonDivisor_46 : decode c_B_commonDivisor 46 = .ok (.invokevirtual 66, 3) := by decide +kernel
theorem d_B_commonDivisor_49 : decode c_B_commonDivisor 49 = .ok (.ifCond .eq 5, 3) := by decide +kernel
theorem d_B_commonDivisor_52 : decode c_B_commonDivisor 52 = .ok (.aload_n 1, 1) := by decide +kernel
theorem d_B_commonDivisor_53 : decode c_B_commonDivisor 53 = .ok (.areturn, 1) := by decide +kernel
theorem d_B_commonDivisor_54 : decode c_B_commonDivisor 54 = .ok (.aload_n 1, 1) := by decide +kernel
theorem d_B_commonDivisor_55 : decode c_B_commonDivisor 55 = .ok (.aload_n 2, 1) := by decide +kernel
theorem d_B_commonDivisor_56 : decode c_B_commonDivisor 56 = .ok (.invokevirtual 96, 3) := by decide +kernel
theorem d_B_commonDivisor_59 : decode c_B_commonDivisor 59 = .ok (.aload_n 2, 1) := by decide +kernel
theorem d_B_commonDivisor_60 : decode c_B_commonDivisor 60 = .ok (.aload_n 2, 1) := by decide +kernel
theorem d_B_commonDivisor_61 : decode c_B_commonDivisor 61 = .ok (.invokevirtual 99, 3) := by decide +kernel
theorem d_B_commonDivisor_64 : decode c_B_commonDivisor 64 = .ok (.aload_n 1, 1) := by decide +kernel
theorem d_B_commonDivisor_65 : decode c_B_commonDivisor 65 = .ok (.invokevirtual 99, 3) := by decide +kernel
theorem d_B_commonDivisor_68 : decode c_B_commonDivisor 68 = .ok (.invokestatic 103, 3) := by decide +kernel
theorem d_B_commonDivisor_71 : decode c_B_commonDivisor 71 = .ok (.invokevirtual 59, 3) := by decide +kernel
theorem d_B_commonDivisor_74 : decode c_B_commonDivisor 74 = .ok (.aload_n 2, 1) := by decide +kernel
theorem d_B_commonDivisor_75 : decode c_B_commonDivisor 75 = .ok (.areturn, 1) := by decide +kernel
theorem d_B_commonDivisorOf_0 : decode c_B_commonDivisorOf 0 = .ok (.lload_n 0, 1) := by decide +kernel
theorem d_B_commonDivisorOf_1 : decode c_B_commonDivisorOf 1 = .ok (.lstore 4, 2) := by decide +kernel
theorem d_B_commonDivisorOf_3 : decode c_B_commonDivisorOf 3 = .ok (.lload_n 2, 1) := by decide +kernel
theorem d_B_commonDivisorOf_4 : decode c_B_commonDivisorOf 4 = .ok (.lstore 6, 2) := by decide +kernel
theorem d_B_commonDivisorOf_6 : decode c_B_commonDivisorOf 6 = .ok (.iconst 0, 1) := by decide +kernel
theorem d_B_commonDivisorOf_7 : decode c_B_commonDivisorOf 7 = .ok (.istore 8, 2) := by decide +kernel
theorem d_B_commonDivisorOf_9 : decode c_B_commonDivisorOf 9 = .ok (.iload 8, 2) := by decide +kernel
theorem d_B_commonDivisorOf_11 : decode c_B_commonDivisorOf 11 = .ok (.sipush 10000, 3) := by decide +kernel
theorem d_B_commonDivisorOf_14 : decode c_B_commonDivisorOf 14 = .ok (.if_icmp .ge 31, 3) := by decide +kernel
theorem d_B_commonDivisorOf_17 : decode c_B_commonDivisorOf 17 = .ok (.lload 6, 2) := by decide +kernel
theorem d_B_commonDivisorOf_19 : decode c_B_commonDivisorOf 19 = .ok (.lconst 0, 1) := by decide +kernel
theorem d_B_commonDivisorOf_20 : decode c_B_commonDivisorOf 20 = .ok (.lcmp, 1) := by decide +kernel
theorem d_B_commonDivisorOf_21 : decode c_B_commonDivisorOf 21 = .ok (.ifCond .eq 24, 3) := by decide +kernel
theorem d_B_commonDivisorOf_24 : decode c_B_commonDivisorOf 24 = .ok (.lload 4, 2) := by decide +kernel
theorem d_B_commonDivisorOf_26 : decode c_B_commonDivisorOf 26 = .ok (.lload 6, 2) := by decide +kernel
theorem d_B_commonDivisorOf_28 : decode c_B_commonDivisorOf 28 = .ok (.lrem, 1) := by decide +kernel
theorem d_B_commonDivisorOf_29 : decode c_B_commonDivisorOf 29 = .ok (.lstore 9, 2) := by decide +kernel
theorem d_B_commonDivisorOf_31 : decode c_B_commonDivisorOf 31 = .ok (.lload 6, 2) := by decide +kernel
theorem d_B_commonDivisorOf_33 : decode c_B_commonDivisorOf 33 = .ok (.lstore 4, 2) := by decide +kernel
theorem d_B_commonDivisorOf_35 : decode c_B_commonDivisorOf 35 = .ok (.lload 9, 2) := by decide +kernel
theorem d_B_commonDivisorOf_37 : decode c_B_commonDivisorOf 37 = .ok (.lstore 6, 2) := by decide +kernel
theorem d_B_commonDivisorOf_39 : decode c_B_commonDivisorOf 39 = .ok (.iinc 8 1, 3) := by decide +kernel
theorem d_B_commonDivisorOf_42 : decode c_B_commonDivisorOf 42 = .ok (.goto (-33), 3) := by decide +kernel
theorem d_B_commonDivisorOf_45 : decode c_B_commonDivisorOf 45 = .ok (.lload 4, 2) := by decide +kernel
theorem d_B_commonDivisorOf_47 : decode c_B_commonDivisorOf 47 = .ok (.lreturn, 1) := by decide +kernel
theorem d_B_divideOut_0 : decode c_B_divideOut 0 = .ok (.aload_n 1, 1) := by decide +kernel
theorem d_B_divideOut_1 : decode c_B_divideOut 1 = .ok (.aload_n 2, 1) := by decide +kernel
theorem d_B_divideOut_2 : decode c_B_divideOut 2 = .ok (.aload_n 0, 1) := by decide +kernel
theorem d_B_divideOut_3 : decode c_B_divideOut 3 = .ok (.getfield 21, 3) := by decide +kernel
theorem d_B_divideOut_6 : decode c_B_divideOut 6 = .ok (.invokevirtual 63, 3) := by decide +kernel
theorem d_B_divideOut_9 : decode c_B_divideOut 9 = .ok (.aload_n 1, 1) := by decide +kernel
theorem d_B_divideOut_10 : decode c_B_divideOut 10 = .ok (.aload_n 0, 1) := by decide +kernel
theorem d_B_divideOut_11 : decode c_B_divideOut 11 = .ok (.getfield 21, 3) := by decide +kernel
theorem d_B_divideOut_14 : decode c_B_divideOut 14 = .ok (.invokevirtual 52, 3) := by decide +kernel
theorem d_B_divideOut_17 : decode c_B_divideOut 17 = .ok (.return_, 1) := by decide +kernel
theorem d_B_putSum_0 : decode c_B_putSum 0 = .ok (.aload 4, 2) := by decide +kernel
theorem d_B_putSum_2 : decode c_B_putSum 2 = .ok (.getfield 24, 3) := by decide +kernel
theorem d_B_putSum_5 : decode c_B_putSum 5 = .ok (.aload_n 1, 1) := by decide +kernel
theorem d_B_putSum_6 : decode c_B_putSum 6 = .ok (.getfield 24, 3) := by decide +kernel
theorem d_B_putSum_9 : decode c_B_putSum 9 = .ok (.aload_n 2, 1) := by decide +kernel
theorem d_B_putSum_10 : decode c_B_putSum 10 = .ok (.getfield 29, 3) := by decide +kernel
theorem d_B_putSum_13 : decode c_B_putSum 13 = .ok (.invokevirtual 32, 3) := by decide +kernel
theorem d_B_putSum_16 : decode c_B_putSum 16 = .ok (.aload_n 0, 1) := by decide +kernel
theorem d_B_putSum_17 : decode c_B_putSum 17 = .ok (.getfield 18, 3) := by decide +kernel
theorem d_B_putSum_20 : decode c_B_putSum 20 = .ok (.aload_n 2, 1) := by decide +kernel
theorem d_B_putSum_21 : decode c_B_putSum 21 = .ok (.getfield 24, 3) := by decide +kernel
theorem d_B_putSum_24 : decode c_B_putSum 24 = .ok (.aload_n 1, 1) := by decide +kernel
theorem d_B_putSum_25 : decode c_B_putSum 25 = .ok (.getfield 29, 3) := by decide +kernel
theorem d_B_putSum_28 : decode c_B_putSum 28 = .ok (.invokevirtual 32, 3) := by decide +kernel
theorem d_B_putSum_31 : decode c_B_putSum 31 = .ok (.aload 4, 2) := by decide +kernel
theorem d_B_putSum_33 : decode c_B_putSum 33 = .ok (.getfield 29, 3) := by decide +kernel
theorem d_B_putSum_36 : decode c_B_putSum 36 = .ok (.aload_n 1, 1) := by decide +kernel
theorem d_B_putSum_37 : decode c_B_putSum 37 = .ok (.getfield 29, 3) := by decide +kernel
theorem d_B_putSum_40 : decode c_B_putSum 40 = .ok (.aload_n 2, 1) := by decide +kernel
theorem d_B_putSum_41 : decode c_B_putSum 41 = .ok (.getfield 29, 3) := by decide +kernel
theorem d_B_putSum_44 : decode c_B_putSum 44 = .ok (.invokevirtual 32, 3) := by decide +kernel
theorem d_B_putSum_47 : decode c_B_putSum 47 = .ok (.aload_n 1, 1) := by decide +kernel
theorem d_B_putSum_48 : decode c_B_putSum 48 = .ok (.getfield 36, 3) := by decide +kernel
theorem d_B_putSum_51 : decode c_B_putSum 51 = .ok (.iload_n 3, 1) := by decide +kernel
theorem d_B_putSum_52 : decode c_B_putSum 52 = .ok (.imul, 1) := by decide +kernel
theorem d_B_putSum_53 : decode c_B_putSum 53 = .ok (.ifCond .lt 36, 3) := by decide +kernel
theorem d_B_putSum_56 : decode c_B_putSum 56 = .ok (.aload 4, 2) := by decide +kernel
theorem d_B_putSum_58 : decode c_B_putSum 58 = .ok (.getfield 24, 3) := by decide +kernel
theorem d_B_putSum_61 : decode c_B_putSum 61 = .ok (.aload_n 0, 1) := by decide +kernel
theorem d_B_putSum_62 : decode c_B_putSum 62 = .ok (.getfield 18, 3) := by decide +kernel
theorem d_B_putSum_65 : decode c_B_putSum 65 = .ok (.invokevirtual 40, 3) := by decide +kernel
theorem d_B_putSum_68 : decode c_B_putSum 68 = .ok (.aload 4, 2) := by decide +kernel
theorem d_B_putSum_70 : decode c_B_putSum 70 = .ok (.aload_n 1, 1) := by decide +kernel
theorem d_B_putSum_71 : decode c_B_putSum 71 = .ok (.getfield 36, 3) := by decide +kernel
theorem d_B_putSum_74 : decode c_B_putSum 74 = .ok (.ifCond .eq 10, 3) := by decide +kernel
theorem d_B_putSum_77 : decode c_B_putSum 77 = .ok (.aload_n 1, 1) := by decide +kernel
theorem d_B_putSum_78 : decode c_B_putSum 78 = .ok (.getfield 36, 3) := by decide +kernel
theorem d_B_putSum_81 : decode c_B_putSum 81 = .ok (.goto 4, 3) := by decide +kernel
theorem d_B_putSum_84 : decode c_B_putSum 84 = .ok (.iload_n 3, 1) := by decide +kernel
theorem d_B_putSum_85 : decode c_B_putSum 85 = .ok (.putfield 36, 3) := by decide +kernel
theorem d_B_putSum_88 : decode c_B_putSum 88 = .ok (.return_, 1) := by decide +kernel
theorem d_B_putSum_89 : decode c_B_putSum 89 = .ok (.aload 4, 2) := by decide +kernel
theorem d_B_putSum_91 : decode c_B_putSum 91 = .ok (.getfield 24, 3) := by decide +kernel
theorem d_B_putSum_94 : decode c_B_putSum 94 = .ok (.aload_n 0, 1) := by decide +kernel
theorem d_B_putSum_95 : decode c_B_putSum 95 = .ok (.getfield 18, 3) := by decide +kernel
theorem d_B_putSum_98 : decode c_B_putSum 98 = .ok (.iconst 0, 1) := by decide +kernel
theorem d_B_putSum_99 : decode c_B_putSum 99 = .ok (.invokevirtual 44, 3) := by decide +kernel
theorem d_B_putSum_102 : decode c_B_putSum 102 = .ok (.istore 5, 2) := by decide +kernel
theorem d_B_putSum_104 : decode c_B_putSum 104 = .ok (.iload 5, 2) := by decide +kernel
theorem d_B_putSum_106 : decode c_B_putSum 106 = .ok (.ifCond .lt 20, 3) := by decide +kernel
theorem d_B_putSum_109 : decode c_B_putSum 109 = .ok (.aload 4, 2) := by decide +kernel
theorem d_B_putSum_111 : decode c_B_putSum 111 = .ok (.getfield 24, 3) := by decide +kernel
theorem d_B_putSum_114 : decode c_B_putSum 114 = .ok (.aload_n 0, 1) := by decide +kernel
theorem d_B_putSum_115 : decode c_B_putSum 115 = .ok (.getfield 18, 3) := by decide +kernel
theorem d_B_putSum_118 : decode c_B_putSum 118 = .ok (.lconst 1, 1) := by decide +kernel
theorem d_B_putSum_119 : decode c_B_putSum 119 = .ok (.iconst 0, 1) := by decide +kernel
theorem d_B_putSum_120 : decode c_B_putSum 120 = .ok (.invokevirtual 48, 3) := by decide +kernel
theorem d_B_putSum_123 : decode c_B_putSum 123 = .ok (.goto 29, 3) := by decide +kernel
theorem d_B_putSum_126 : decode c_B_putSum 126 = .ok (.aload_n 0, 1) := by decide +kernel
theorem d_B_putSum_127 : decode c_B_putSum 127 = .ok (.getfield 18, 3) := by decide +kernel
theorem d_B_putSum_130 : decode c_B_putSum 130 = .ok (.aload 4, 2) := by decide +kernel
theorem d_B_putSum_132 : decode c_B_putSum 132 = .ok (.getfield 24, 3) := by decide +kernel
theorem d_B_putSum_135 : decode c_B_putSum 135 = .ok (.lconst 1, 1) := by decide +kernel
theorem d_B_putSum_136 : decode c_B_putSum 136 = .ok (.iconst 0, 1) := by decide +kernel
theorem d_B_putSum_137 : decode c_B_putSum 137 = .ok (.invokevirtual 48, 3) := by decide +kernel
theorem d_B_putSum_140 : decode c_B_putSum 140 = .ok (.aload 4, 2) := by decide +kernel
theorem d_B_putSum_142 : decode c_B_putSum 142 = .ok (.getfield 24, 3) := by decide +kernel
theorem d_B_putSum_145 : decode c_B_putSum 145 = .ok (.aload_n 0, 1) := by decide +kernel
theorem d_B_putSum_146 : decode c_B_putSum 146 = .ok (.getfield 18, 3) := by decide +kernel
theorem d_B_putSum_149 : decode c_B_putSum 149 = .ok (.invokevirtual 52, 3) := by decide +kernel
theorem d_B_putSum_152 : decode c_B_putSum 152 = .ok (.aload 4, 2) := by decide +kernel
theorem d_B_putSum_154 : decode c_B_putSum 154 = .ok (.aload_n 1, 1) := by decide +kernel
theorem d_B_putSum_155 : decode c_B_putSum 155 = .ok (.getfield 36, 3) := by decide +kernel
theorem d_B_putSum_158 : decode c_B_putSum 158 = .ok (.iload 5, 2) := by decide +kernel
theorem d_B_putSum_160 : decode c_B_putSum 160 = .ok (.imul, 1) := by decide +kernel
theorem d_B_putSum_161 : decode c_B_putSum 161 = .ok (.putfield 36, 3) := by decide +kernel
theorem d_B_putSum_164 : decode c_B_putSum 164 = .ok (.return_, 1) := by decide +kernel
theorem d_B_compare_0 : decode c_B_compare 0 = .ok (.aload_n 0, 1) := by decide +kernel
theorem d_B_compare_1 : decode c_B_compare 1 = .ok (.aload_n 1, 1) := by decide +kernel
theorem d_B_compare_2 : decode c_B_compare 2 = .ok (.aload_n 2, 1) := by decide +kernel
theorem d_B_compare_3 : decode c_B_compare 3 = .ok (.aload_n 2, 1) := by decide +kernel
theorem d_B_compare_4 : decode c_B_compare 4 = .ok (.getfield 36, 3) := by decide +kernel
theorem d_B_compare_7 : decode c_B_compare 7 = .ok (.ineg, 1) := by decide +kernel
theorem d_B_compare_8 : decode c_B_compare 8 = .ok (.aload_n 3, 1) := by decide +kernel
theorem d_B_compare_9 : decode c_B_compare 9 = .ok (.invokevirtual 55, 3) := by decide +kernel
theorem d_B_compare_12 : decode c_B_compare 12 = .ok (.aload_n 3, 1) := by decide +kernel
theorem d_B_compare_13 : decode c_B_compare 13 = .ok (.getfield 36, 3) := by decide +kernel
theorem d_B_compare_16 : decode c_B_compare 16 = .ok (.ireturn, 1) := by decide +kernel
theorem d_B_putRounded_0 : decode c_B_putRounded 0 = .ok (.aload_n 0, 1) := by decide +kernel
theorem d_B_putRounded_1 : decode c_B_putRounded 1 = .ok (.getfield 18, 3) := by decide +kernel
theorem d_B_putRounded_4 : decode c_B_putRounded 4 = .ok (.lload_n 3, 1) := by decide +kernel
theorem d_B_putRounded_5 : decode c_B_putRounded 5 = .ok (.invokevirtual 59, 3) := by decide +kernel
theorem d_B_putRounded_8 : decode c_B_putRounded 8 = .ok (.aload_n 0, 1) := by decide +kernel
theorem d_B_putRounded_9 : decode c_B_putRounded 9 = .ok (.getfield 12, 3) := by decide +kernel
theorem d_B_putRounded_12 : decode c_B_putRounded 12 = .ok (.aload_n 1, 1) := by decide +kernel
theorem d_B_putRounded_13 : decode c_B_putRounded 13 = .ok (.getfield 24, 3) := by decide +kernel
theorem d_B_putRounded_16 : decode c_B_putRounded 16 = .ok (.aload_n 0, 1) := by decide +kernel
theorem d_B_putRounded_17 : decode c_B_putRounded 17 = .ok (.getfield 18, 3) := by decide +kernel
theorem d_B_putRounded_20 : decode c_B_putRounded 20 = .ok (.invokevirtual 32, 3) := by decide +kernel
theorem d_B_putRounded_23 : decode c_B_putRounded 23 = .ok (.aload_n 0, 1) := by decide +kernel
theorem d_B_putRounded_24 : decode c_B_putRounded 24 = .ok (.getfield 12, 3) := by decide +kernel
theorem d_B_putRounded_27 : decode c_B_putRounded 27 = .ok (.aload_n 1, 1) := by decide +kernel
theorem d_B_putRounded_28 : decode c_B_putRounded 28 = .ok (.getfield 29, 3) := by decide +kernel
theorem d_B_putRounded_31 : decode c_B_putRounded 31 = .ok (.aload 5, 2) := by decide +kernel
theorem d_B_putRounded_33 : decode c_B_putRounded 33 = .ok (.getfield 24, 3) := by decide +kernel
theorem d_B_putRounded_36 : decode c_B_putRounded 36 = .ok (.invokevirtual 63, 3) := by decide +kernel
theorem d_B_putRounded_39 : decode c_B_putRounded 39 = .ok (.aload_n 0, 1) := by decide +kernel
theorem d_B_putRounded_40 : decode c_B_putRounded 40 = .ok (.getfield 12, 3) := by decide +kernel
theorem d_B_putRounded_43 : decode c_B_putRounded 43 = .ok (.invokevirtual 66, 3) := by decide +kernel
theorem d_B_putRounded_46 : decode c_B_putRounded 46 = .ok (.ifCond .ne 40, 3) := by decide +kernel
theorem d_B_putRounded_49 : decode c_B_putRounded 49 = .ok (.aload_n 0, 1) := by decide +kernel
theorem d_B_putRounded_50 : decode c_B_putRounded 50 = .ok (.aload_n 1, 1) := by decide +kernel
theorem d_B_putRounded_51 : decode c_B_putRounded 51 = .ok (.iload_n 2, 1) := by decide +kernel
theorem d_B_putRounded_52 : decode c_B_putRounded 52 = .ok (.aload 5, 2) := by decide +kernel
theorem d_B_putRounded_54 : decode c_B_putRounded 54 = .ok (.getfield 24, 3) := by decide +kernel
theorem d_B_putRounded_57 : decode c_B_putRounded 57 = .ok (.invokevirtual 70, 3) := by decide +kernel
theorem d_B_putRounded_60 : decode c_B_putRounded 60 = .ok (.invokevirtual 73, 3) := by decide +kernel
theorem d_B_putRounded_63 : decode c_B_putRounded 63 = .ok (.ifCond .eq 23, 3) := by decide +kernel
theorem d_B_putRounded_66 : decode c_B_putRounded 66 = .ok (.aload_n 0, 1) := by decide +kernel
theorem d_B_putRounded_67 : decode c_B_putRounded 67 = .ok (.getfield 18, 3) := by decide +kernel
theorem d_B_putRounded_70 : decode c_B_putRounded 70 = .ok (.lconst 1, 1) := by decide +kernel
theorem d_B_putRounded_71 : decode c_B_putRounded 71 = .ok (.invokevirtual 59, 3) := by decide +kernel
theorem d_B_putRounded_74 : decode c_B_putRounded 74 = .ok (.aload 5, 2) := by decide +kernel
theorem d_B_putRounded_76 : decode c_B_putRounded 76 = .ok (.getfield 24, 3) := by decide +kernel
theorem d_B_putRounded_79 : decode c_B_putRounded 79 = .ok (.aload_n 0, 1) := by decide +kernel
theorem d_B_putRounded_80 : decode c_B_putRounded 80 = .ok (.getfield 18, 3) := by decide +kernel
theorem d_B_putRounded_83 : decode c_B_putRounded 83 = .ok (.invokevirtual 40, 3) := by decide +kernel
theorem d_B_putRounded_86 : decode c_B_putRounded 86 = .ok (.aload 5, 2) := by decide +kernel
theorem d_B_putRounded_88 : decode c_B_putRounded 88 = .ok (.getfield 29, 3) := by decide +kernel
theorem d_B_putRounded_91 : decode c_B_putRounded 91 = .ok (.lload_n 3, 1) := by decide +kernel
theorem d_B_putRounded_92 : decode c_B_putRounded 92 = .ok (.invokevirtual 59, 3) := by decide +kernel
theorem d_B_putRounded_95 : decode c_B_putRounded 95 = .ok (.aload 5, 2) := by decide +kernel
theorem d_B_putRounded_97 : decode c_B_putRounded 97 = .ok (.aload 5, 2) := by decide +kernel
theorem d_B_putRounded_99 : decode c_B_putRounded 99 = .ok (.getfield 24, 3) := by decide +kernel
theorem d_B_putRounded_102 : decode c_B_putRounded 102 = .ok (.invokevirtual 66, 3) := by decide +kernel
theorem d_B_putRounded_105 : decode c_B_putRounded 105 = .ok (.ifCond .eq 7, 3) := by decide +kernel
theorem d_B_putRounded_108 : decode c_B_putRounded 108 = .ok (.iconst 0, 1) := by decide +kernel
theorem d_B_putRounded_109 : decode c_B_putRounded 109 = .ok (.goto 7, 3) := by decide +kernel
theorem d_B_putRounded_112 : decode c_B_putRounded 112 = .ok (.aload_n 1, 1) := by decide +kernel
theorem d_B_putRounded_113 : decode c_B_putRounded 113 = .ok (.getfield 36, 3) := by decide +kernel
theorem d_B_putRounded_116 : decode c_B_putRounded 116 = .ok (.putfield 36, 3) := by decide +kernel
theorem d_B_putRounded_119 : decode c_B_putRounded 119 = .ok (.return_, 1) := by decide +kernel
theorem d_B_goesFromZero_0 : decode c_B_goesFromZero 0 = .ok (.iload_n 2, 1) := by decide +kernel
theorem d_B_goesFromZero_1 : decode c_B_goesFromZero 1 = .ok (.tableswitch 61 0 3 #[31, 44, 57, 59], 31) := by decide +kernel
theorem d_B_goesFromZero_32 : decode c_B_goesFromZero 32 = .ok (.aload_n 1, 1) := by decide +kernel
theorem d_B_goesFromZero_33 : decode c_B_goesFromZero 33 = .ok (.getfield 36, 3) := by decide +kernel
theorem d_B_goesFromZero_36 : decode c_B_goesFromZero 36 = .ok (.ifCond .ge 7, 3) := by decide +kernel
theorem d_B_goesFromZero_39 : decode c_B_goesFromZero 39 = .ok (.iconst 1, 1) := by decide +kernel
theorem d_B_goesFromZero_40 : decode c_B_goesFromZero 40 = .ok (.goto 4, 3) := by decide +kernel
theorem d_B_goesFromZero_43 : decode c_B_goesFromZero 43 = .ok (.iconst 0, 1) := by decide +kernel
theorem d_B_goesFromZero_44 : decode c_B_goesFromZero 44 = .ok (.ireturn, 1) := by decide +kernel
theorem d_B_goesFromZero_45 : decode c_B_goesFromZero 45 = .ok (.aload_n 1, 1) := by decide +kernel
theorem d_B_goesFromZero_46 : decode c_B_goesFromZero 46 = .ok (.getfield 36, 3) := by decide +kernel
theorem d_B_goesFromZero_49 : decode c_B_goesFromZero 49 = .ok (.ifCond .le 7, 3) := by decide +kernel
theorem d_B_goesFromZero_52 : decode c_B_goesFromZero 52 = .ok (.iconst 1, 1) := by decide +kernel
theorem d_B_goesFromZero_53 : decode c_B_goesFromZero 53 = .ok (.goto 4, 3) := by decide +kernel
theorem d_B_goesFromZero_56 : decode c_B_goesFromZero 56 = .ok (.iconst 0, 1) := by decide +kernel
theorem d_B_goesFromZero_57 : decode c_B_goesFromZero 57 = .ok (.ireturn, 1) := by decide +kernel
theorem d_B_goesFromZero_58 : decode c_B_goesFromZero 58 = .ok (.iconst 0, 1) := by decide +kernel
theorem d_B_goesFromZero_59 : decode c_B_goesFromZero 59 = .ok (.ireturn, 1) := by decide +kernel
theorem d_B_goesFromZero_60 : decode c_B_goesFromZero 60 = .ok (.iconst 1, 1) := by decide +kernel
theorem d_B_goesFromZero_61 : decode c_B_goesFromZero 61 = .ok (.ireturn, 1) := by decide +kernel
theorem d_B_goesFromZero_62 : decode c_B_goesFromZero 62 = .ok (.aload_n 0, 1) := by decide +kernel
theorem d_B_goesFromZero_63 : decode c_B_goesFromZero 63 = .ok (.aload_n 1, 1) := by decide +kernel
theorem d_B_goesFromZero_64 : decode c_B_goesFromZero 64 = .ok (.iload_n 2, 1) := by decide +kernel
theorem d_B_goesFromZero_65 : decode c_B_goesFromZero 65 = .ok (.iload_n 3, 1) := by decide +kernel
theorem d_B_goesFromZero_66 : decode c_B_goesFromZero 66 = .ok (.invokevirtual 77, 3) := by decide +kernel
theorem d_B_goesFromZero_69 : decode c_B_goesFromZero 69 = .ok (.ireturn, 1) := by decide +kernel
theorem d_B_isNearerFromZero_0 : decode c_B_isNearerFromZero 0 = .ok (.aload_n 0, 1) := by decide +kernel
theorem d_B_isNearerFromZero_1 : decode c_B_isNearerFromZero 1 = .ok (.getfield 18, 3) := by decide +kernel
theorem d_B_isNearerFromZero_4 : decode c_B_isNearerFromZero 4 = .ok (.aload_n 1, 1) := by decide +kernel
theorem d_B_isNearerFromZero_5 : decode c_B_isNearerFromZero 5 = .ok (.getfield 29, 3) := by decide +kernel
theorem d_B_isNearerFromZero_8 : decode c_B_isNearerFromZero 8 = .ok (.invokevirtual 52, 3) := by decide +kernel
theorem d_B_isNearerFromZero_11 : decode c_B_isNearerFromZero 11 = .ok (.aload_n 0, 1) := by decide +kernel
theorem d_B_isNearerFromZero_12 : decode c_B_isNearerFromZero 12 = .ok (.getfield 18, 3) := by decide +kernel
theorem d_B_isNearerFromZero_15 : decode c_B_isNearerFromZero 15 = .ok (.aload_n 0, 1) := by decide +kernel
theorem d_B_isNearerFromZero_16 : decode c_B_isNearerFromZero 16 = .ok (.getfield 12, 3) := by decide +kernel
theorem d_B_isNearerFromZero_19 : decode c_B_isNearerFromZero 19 = .ok (.lconst 1, 1) := by decide +kernel
theorem d_B_isNearerFromZero_20 : decode c_B_isNearerFromZero 20 = .ok (.iconst 0, 1) := by decide +kernel
theorem d_B_isNearerFromZero_21 : decode c_B_isNearerFromZero 21 = .ok (.invokevirtual 48, 3) := by decide +kernel
theorem d_B_isNearerFromZero_24 : decode c_B_isNearerFromZero 24 = .ok (.aload_n 0, 1) := by decide +kernel
theorem d_B_isNearerFromZero_25 : decode c_B_isNearerFromZero 25 = .ok (.getfield 12, 3) := by decide +kernel
theorem d_B_isNearerFromZero_28 : decode c_B_isNearerFromZero 28 = .ok (.aload_n 0, 1) := by decide +kernel
theorem d_B_isNearerFromZero_29 : decode c_B_isNearerFromZero 29 = .ok (.getfield 18, 3) := by decide +kernel
theorem d_B_isNearerFromZero_32 : decode c_B_isNearerFromZero 32 = .ok (.iconst 0, 1) := by decide +kernel
theorem d_B_isNearerFromZero_33 : decode c_B_isNearerFromZero 33 = .ok (.invokevirtual 44, 3) := by decide +kernel
theorem d_B_isNearerFromZero_36 : decode c_B_isNearerFromZero 36 = .ok (.istore 4, 2) := by decide +kernel
theorem d_B_isNearerFromZero_38 : decode c_B_isNearerFromZero 38 = .ok (.iload 4, 2) := by decide +kernel
theorem d_B_isNearerFromZero_40 : decode c_B_isNearerFromZero 40 = .ok (.ifCond .eq 14, 3) := by decide +kernel
theorem d_B_isNearerFromZero_43 : decode c_B_isNearerFromZero 43 = .ok (.iload 4, 2) := by decide +kernel
theorem d_B_isNearerFromZero_45 : decode c_B_isNearerFromZero 45 = .ok (.ifCond .le 7, 3) := by decide +kernel
theorem d_B_isNearerFromZero_48 : decode c_B_isNearerFromZero 48 = .ok (.iconst 1, 1) := by decide +kernel
theorem d_B_isNearerFromZero_49 : decode c_B_isNearerFromZero 49 = .ok (.goto 4, 3) := by decide +kernel
theorem d_B_isNearerFromZero_52 : decode c_B_isNearerFromZero 52 = .ok (.iconst 0, 1) := by decide +kernel
theorem d_B_isNearerFromZero_53 : decode c_B_isNearerFromZero 53 = .ok (.ireturn, 1) := by decide +kernel
theorem d_B_isNearerFromZero_54 : decode c_B_isNearerFromZero 54 = .ok (.iload_n 2, 1) := by decide +kernel
theorem d_B_isNearerFromZero_55 : decode c_B_isNearerFromZero 55 = .ok (.iconst 5, 1) := by decide +kernel
theorem d_B_isNearerFromZero_56 : decode c_B_isNearerFromZero 56 = .ok (.if_icmp .ne 5, 3) := by decide +kernel
theorem d_B_isNearerFromZero_59 : decode c_B_isNearerFromZero 59 = .ok (.iload_n 3, 1) := by decide +kernel
theorem d_B_isNearerFromZero_60 : decode c_B_isNearerFromZero 60 = .ok (.ireturn, 1) := by decide +kernel
theorem d_B_isNearerFromZero_61 : decode c_B_isNearerFromZero 61 = .ok (.iload_n 2, 1) := by decide +kernel
theorem d_B_isNearerFromZero_62 : decode c_B_isNearerFromZero 62 = .ok (.iconst 4, 1) := by decide +kernel
theorem d_B_isNearerFromZero_63 : decode c_B_isNearerFromZero 63 = .ok (.if_icmp .ne 18, 3) := by decide +kernel
theorem d_B_isNearerFromZero_66 : decode c_B_isNearerFromZero 66 = .ok (.aload_n 1, 1) := by decide +kernel
theorem d_B_isNearerFromZero_67 : decode c_B_isNearerFromZero 67 = .ok (.getfield 36, 3) := by decide +kernel
theorem d_B_isNearerFromZero_70 : decode c_B_isNearerFromZero 70 = .ok (.ifCond .le 7, 3) := by decide +kernel
theorem d_B_isNearerFromZero_73 : decode c_B_isNearerFromZero 73 = .ok (.iconst 1, 1) := by decide +kernel
theorem d_B_isNearerFromZero_74 : decode c_B_isNearerFromZero 74 = .ok (.goto 19, 3) := by decide +kernel
theorem d_B_isNearerFromZero_77 : decode c_B_isNearerFromZero 77 = .ok (.iconst 0, 1) := by decide +kernel
theorem d_B_isNearerFromZero_78 : decode c_B_isNearerFromZero 78 = .ok (.goto 15, 3) := by decide +kernel
theorem d_B_isNearerFromZero_81 : decode c_B_isNearerFromZero 81 = .ok (.aload_n 1, 1) := by decide +kernel
theorem d_B_isNearerFromZero_82 : decode c_B_isNearerFromZero 82 = .ok (.getfield 36, 3) := by decide +kernel
theorem d_B_isNearerFromZero_85 : decode c_B_isNearerFromZero 85 = .ok (.ifCond .ge 7, 3) := by decide +kernel
theorem d_B_isNearerFromZero_88 : decode c_B_isNearerFromZero 88 = .ok (.iconst 1, 1) := by decide +kernel
theorem d_B_isNearerFromZero_89 : decode c_B_isNearerFromZero 89 = .ok (.goto 4, 3) := by decide +kernel
theorem d_B_isNearerFromZero_92 : decode c_B_isNearerFromZero 92 = .ok (.iconst 0, 1) := by decide +kernel
theorem d_B_isNearerFromZero_93 : decode c_B_isNearerFromZero 93 = .ok (.ireturn, 1) := by decide +kernel
theorem d_B_splitOffRest_0 : decode c_B_splitOffRest 0 = .ok (.aload_n 2, 1) := by decide +kernel
theorem d_B_splitOffRest_1 : decode c_B_splitOffRest 1 = .ok (.aload_n 1, 1) := by decide +kernel
theorem d_B_splitOffRest_2 : decode c_B_splitOffRest 2 = .ok (.invokevirtual 80, 3) := by decide +kernel
theorem d_B_splitOffRest_5 : decode c_B_splitOffRest 5 = .ok (.aload_n 2, 1) := by decide +kernel
theorem d_B_splitOffRest_6 : decode c_B_splitOffRest 6 = .ok (.getfield 24, 3) := by decide +kernel
theorem d_B_splitOffRest_9 : decode c_B_splitOffRest 9 = .ok (.aload_n 2, 1) := by decide +kernel
theorem d_B_splitOffRest_10 : decode c_B_splitOffRest 10 = .ok (.getfield 29, 3) := by decide +kernel
theorem d_B_splitOffRest_13 : decode c_B_splitOffRest 13 = .ok (.aload_n 1, 1) := by decide +kernel
theorem d_B_splitOffRest_14 : decode c_B_splitOffRest 14 = .ok (.getfield 24, 3) := by decide +kernel
theorem d_B_splitOffRest_17 : decode c_B_splitOffRest 17 = .ok (.invokevirtual 63, 3) := by decide +kernel
theorem d_B_splitOffRest_20 : decode c_B_splitOffRest 20 = .ok (.aload_n 1, 1) := by decide +kernel
theorem d_B_splitOffRest_21 : decode c_B_splitOffRest 21 = .ok (.getfield 36, 3) := by decide +kernel
theorem d_B_splitOffRest_24 : decode c_B_splitOffRest 24 = .ok (.ifCond .ge 67, 3) := by decide +kernel
theorem d_B_splitOffRest_27 : decode c_B_splitOffRest 27 = .ok (.aload_n 2, 1) := by decide +kernel
theorem d_B_splitOffRest_28 : decode c_B_splitOffRest 28 = .ok (.getfield 24, 3) := by decide +kernel
theorem d_B_splitOffRest_31 : decode c_B_splitOffRest 31 = .ok (.invokevirtual 66, 3) := by decide +kernel
theorem d_B_splitOffRest_34 : decode c_B_splitOffRest 34 = .ok (.ifCond .ne 57, 3) := by decide +kernel
theorem d_B_splitOffRest_37 : decode c_B_splitOffRest 37 = .ok (.aload_n 0, 1) := by decide +kernel
theorem d_B_splitOffRest_38 : decode c_B_splitOffRest 38 = .ok (.getfield 18, 3) := by decide +kernel
theorem d_B_splitOffRest_41 : decode c_B_splitOffRest 41 = .ok (.aload_n 2, 1) := by decide +kernel
theorem d_B_splitOffRest_42 : decode c_B_splitOffRest 42 = .ok (.getfield 29, 3) := by decide +kernel
theorem d_B_splitOffRest_45 : decode c_B_splitOffRest 45 = .ok (.invokevirtual 52, 3) := by decide +kernel
theorem d_B_splitOffRest_48 : decode c_B_splitOffRest 48 = .ok (.aload_n 0, 1) := by decide +kernel
theorem d_B_splitOffRest_49 : decode c_B_splitOffRest 49 = .ok (.getfield 18, 3) := by decide +kernel
theorem d_B_splitOffRest_52 : decode c_B_splitOffRest 52 = .ok (.aload_n 2, 1) := by decide +kernel
theorem d_B_splitOffRest_53 : decode c_B_splitOffRest 53 = .ok (.getfield 24, 3) := by decide +kernel
theorem d_B_splitOffRest_56 : decode c_B_splitOffRest 56 = .ok (.lconst 1, 1) := by decide +kernel
theorem d_B_splitOffRest_57 : decode c_B_splitOffRest 57 = .ok (.iconst 0, 1) := by decide +kernel
theorem d_B_splitOffRest_58 : decode c_B_splitOffRest 58 = .ok (.invokevirtual 48, 3) := by decide +kernel
theorem d_B_splitOffRest_61 : decode c_B_splitOffRest 61 = .ok (.aload_n 2, 1) := by decide +kernel
theorem d_B_splitOffRest_62 : decode c_B_splitOffRest 62 = .ok (.getfield 24, 3) := by decide +kernel
theorem d_B_splitOffRest_65 : decode c_B_splitOffRest 65 = .ok (.aload_n 0, 1) := by decide +kernel
theorem d_B_splitOffRest_66 : decode c_B_splitOffRest 66 = .ok (.getfield 18, 3) := by decide +kernel
theorem d_B_splitOffRest_69 : decode c_B_splitOffRest 69 = .ok (.invokevirtual 52, 3) := by decide +kernel
theorem d_B_splitOffRest_72 : decode c_B_splitOffRest 72 = .ok (.aload_n 0, 1) := by decide +kernel
theorem d_B_splitOffRest_73 : decode c_B_splitOffRest 73 = .ok (.getfield 18, 3) := by decide +kernel
theorem d_B_splitOffRest_76 : decode c_B_splitOffRest 76 = .ok (.lconst 1, 1) := by decide +kernel
theorem d_B_splitOffRest_77 : decode c_B_splitOffRest 77 = .ok (.invokevirtual 59, 3) := by decide +kernel
theorem d_B_splitOffRest_80 : decode c_B_splitOffRest 80 = .ok (.aload_n 1, 1) := by decide +kernel
theorem d_B_splitOffRest_81 : decode c_B_splitOffRest 81 = .ok (.getfield 24, 3) := by decide +kernel
theorem d_B_splitOffRest_84 : decode c_B_splitOffRest 84 = .ok (.aload_n 0, 1) := by decide +kernel
theorem d_B_splitOffRest_85 : decode c_B_splitOffRest 85 = .ok (.getfield 18, 3) := by decide +kernel
theorem d_B_splitOffRest_88 : decode c_B_splitOffRest 88 = .ok (.invokevirtual 40, 3) := by decide +kernel
theorem d_B_splitOffRest_91 : decode c_B_splitOffRest 91 = .ok (.aload_n 2, 1) := by decide +kernel
theorem d_B_splitOffRest_92 : decode c_B_splitOffRest 92 = .ok (.aload_n 2, 1) := by decide +kernel
theorem d_B_splitOffRest_93 : decode c_B_splitOffRest 93 = .ok (.getfield 24, 3) := by decide +kernel
theorem d_B_splitOffRest_96 : decode c_B_splitOffRest 96 = .ok (.invokevirtual 66, 3) := by decide +kernel
theorem d_B_splitOffRest_99 : decode c_B_splitOffRest 99 = .ok (.ifCond .eq 7, 3) := by decide +kernel
theorem d_B_splitOffRest_102 : decode c_B_splitOffRest 102 = .ok (.iconst 0, 1) := by decide +kernel
theorem d_B_splitOffRest_103 : decode c_B_splitOffRest 103 = .ok (.goto 4, 3) := by decide +kernel
theorem d_B_splitOffRest_106 : decode c_B_splitOffRest 106 = .ok (.iconst 1, 1) := by decide +kernel
theorem d_B_splitOffRest_107 : decode c_B_splitOffRest 107 = .ok (.putfield 36, 3) := by decide +kernel
theorem d_B_splitOffRest_110 : decode c_B_splitOffRest 110 = .ok (.aload_n 1, 1) := by decide +kernel
theorem d_B_splitOffRest_111 : decode c_B_splitOffRest 111 = .ok (.getfield 29, 3) := by decide +kernel
theorem d_B_splitOffRest_114 : decode c_B_splitOffRest 114 = .ok (.lconst 1, 1) := by decide +kernel
theorem d_B_splitOffRest_115 : decode c_B_splitOffRest 115 = .ok (.invokevirtual 59, 3) := by decide +kernel
theorem d_B_splitOffRest_118 : decode c_B_splitOffRest 118 = .ok (.aload_n 1, 1) := by decide +kernel
theorem d_B_splitOffRest_119 : decode c_B_splitOffRest 119 = .ok (.aload_n 1, 1) := by decide +kernel
theorem d_B_splitOffRest_120 : decode c_B_splitOffRest 120 = .ok (.getfield 24, 3) := by decide +kernel
theorem d_B_splitOffRest_123 : decode c_B_splitOffRest 123 = .ok (.invokevirtual 66, 3) := by decide +kernel
theorem d_B_splitOffRest_126 : decode c_B_splitOffRest 126 = .ok (.ifCond .eq 7, 3) := by decide +kernel
theorem d_B_splitOffRest_129 : decode c_B_splitOffRest 129 = .ok (.iconst 0, 1) := by decide +kernel
theorem d_B_splitOffRest_130 : decode c_B_splitOffRest 130 = .ok (.goto 7, 3) := by decide +kernel
theorem d_B_splitOffRest_133 : decode c_B_splitOffRest 133 = .ok (.aload_n 1, 1) := by decide +kernel
theorem d_B_splitOffRest_134 : decode c_B_splitOffRest 134 = .ok (.getfield 36, 3) := by decide +kernel
theorem d_B_splitOffRest_137 : decode c_B_splitOffRest 137 = .ok (.putfield 36, 3) := by decide +kernel
theorem d_B_splitOffRest_140 : decode c_B_splitOffRest 140 = .ok (.return_, 1) := by decide +kernel
