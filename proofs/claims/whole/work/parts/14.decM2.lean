theorem d_M_over_34 : decode c_M_over 34 = .ok (.goto 4, 3) := by decide +kernel
theorem d_M_over_37 : decode c_M_over 37 = .ok (.iconst 0, 1) := by decide +kernel
theorem d_M_over_38 : decode c_M_over 38 = .ok (.iload_n 3, 1) := by decide +kernel
theorem d_M_over_39 : decode c_M_over 39 = .ok (.ifCond .eq 16, 3) := by decide +kernel
theorem d_M_over_42 : decode c_M_over 42 = .ok (.aload_n 0, 1) := by decide +kernel
theorem d_M_over_43 : decode c_M_over 43 = .ok (.getfield 13, 3) := by decide +kernel
theorem d_M_over_46 : decode c_M_over 46 = .ok (.iload_n 2, 1) := by decide +kernel
theorem d_M_over_47 : decode c_M_over 47 = .ok (.iaload, 1) := by decide +kernel
theorem d_M_over_48 : decode c_M_over 48 = .ok (.ifCond .eq 7, 3) := by decide +kernel
theorem d_M_over_51 : decode c_M_over 51 = .ok (.iconst 1, 1) := by decide +kernel
theorem d_M_over_52 : decode c_M_over 52 = .ok (.goto 4, 3) := by decide +kernel
theorem d_M_over_55 : decode c_M_over 55 = .ok (.iconst 0, 1) := by decide +kernel
theorem d_M_over_56 : decode c_M_over 56 = .ok (.invokevirtual 118, 3) := by decide +kernel
theorem d_M_over_59 : decode c_M_over 59 = .ok (.ifCond .ne 5, 3) := by decide +kernel
theorem d_M_over_62 : decode c_M_over 62 = .ok (.iconst 0, 1) := by decide +kernel
theorem d_M_over_63 : decode c_M_over 63 = .ok (.ireturn, 1) := by decide +kernel
theorem d_M_over_64 : decode c_M_over 64 = .ok (.aload_n 0, 1) := by decide +kernel
theorem d_M_over_65 : decode c_M_over 65 = .ok (.iload_n 1, 1) := by decide +kernel
theorem d_M_over_66 : decode c_M_over 66 = .ok (.iconst 2, 1) := by decide +kernel
theorem d_M_over_67 : decode c_M_over 67 = .ok (.invokevirtual 109, 3) := by decide +kernel
theorem d_M_over_70 : decode c_M_over 70 = .ok (.aload_n 0, 1) := by decide +kernel
theorem d_M_over_71 : decode c_M_over 71 = .ok (.iload_n 2, 1) := by decide +kernel
theorem d_M_over_72 : decode c_M_over 72 = .ok (.iconst 3, 1) := by decide +kernel
theorem d_M_over_73 : decode c_M_over 73 = .ok (.invokevirtual 112, 3) := by decide +kernel
theorem d_M_over_76 : decode c_M_over 76 = .ok (.aload_n 0, 1) := by decide +kernel
theorem d_M_over_77 : decode c_M_over 77 = .ok (.iconst 2, 1) := by decide +kernel
theorem d_M_over_78 : decode c_M_over 78 = .ok (.iconst 3, 1) := by decide +kernel
theorem d_M_over_79 : decode c_M_over 79 = .ok (.iconst 0, 1) := by decide +kernel
theorem d_M_over_80 : decode c_M_over 80 = .ok (.invokevirtual 115, 3) := by decide +kernel
theorem d_M_over_83 : decode c_M_over 83 = .ok (.aload_n 0, 1) := by decide +kernel
theorem d_M_over_84 : decode c_M_over 84 = .ok (.iload_n 1, 1) := by decide +kernel
theorem d_M_over_85 : decode c_M_over 85 = .ok (.iconst 2, 1) := by decide +kernel
theorem d_M_over_86 : decode c_M_over 86 = .ok (.invokevirtual 112, 3) := by decide +kernel
theorem d_M_over_89 : decode c_M_over 89 = .ok (.aload_n 0, 1) := by decide +kernel
theorem d_M_over_90 : decode c_M_over 90 = .ok (.iload_n 2, 1) := by decide +kernel
theorem d_M_over_91 : decode c_M_over 91 = .ok (.iconst 3, 1) := by decide +kernel
theorem d_M_over_92 : decode c_M_over 92 = .ok (.invokevirtual 109, 3) := by decide +kernel
theorem d_M_over_95 : decode c_M_over 95 = .ok (.aload_n 0, 1) := by decide +kernel
theorem d_M_over_96 : decode c_M_over 96 = .ok (.iconst 2, 1) := by decide +kernel
theorem d_M_over_97 : decode c_M_over 97 = .ok (.iconst 3, 1) := by decide +kernel
theorem d_M_over_98 : decode c_M_over 98 = .ok (.iconst 1, 1) := by decide +kernel
theorem d_M_over_99 : decode c_M_over 99 = .ok (.invokevirtual 115, 3) := by decide +kernel
theorem d_M_over_102 : decode c_M_over 102 = .ok (.aload_n 0, 1) := by decide +kernel
theorem d_M_over_103 : decode c_M_over 103 = .ok (.aload_n 0, 1) := by decide +kernel
theorem d_M_over_104 : decode c_M_over 104 = .ok (.getfield 13, 3) := by decide +kernel
theorem d_M_over_107 : decode c_M_over 107 = .ok (.iload_n 1, 1) := by decide +kernel
theorem d_M_over_108 : decode c_M_over 108 = .ok (.iaload, 1) := by decide +kernel
theorem d_M_over_109 : decode c_M_over 109 = .ok (.aload_n 0, 1) := by decide +kernel
theorem d_M_over_110 : decode c_M_over 110 = .ok (.getfield 13, 3) := by decide +kernel
theorem d_M_over_113 : decode c_M_over 113 = .ok (.iload_n 2, 1) := by decide +kernel
theorem d_M_over_114 : decode c_M_over 114 = .ok (.iaload, 1) := by decide +kernel
theorem d_M_over_115 : decode c_M_over 115 = .ok (.imul, 1) := by decide +kernel
theorem d_M_over_116 : decode c_M_over 116 = .ok (.invokevirtual 122, 3) := by decide +kernel
theorem d_M_over_119 : decode c_M_over 119 = .ok (.ireturn, 1) := by decide +kernel
theorem d_M_order_0 : decode c_M_order 0 = .ok (.aload_n 0, 1) := by decide +kernel
theorem d_M_order_1 : decode c_M_order 1 = .ok (.aload_n 0, 1) := by decide +kernel
theorem d_M_order_2 : decode c_M_order 2 = .ok (.iload_n 1, 1) := by decide +kernel
theorem d_M_order_3 : decode c_M_order 3 = .ok (.invokevirtual 125, 3) := by decide +kernel
theorem d_M_order_6 : decode c_M_order 6 = .ok (.ifCond .eq 15, 3) := by decide +kernel
theorem d_M_order_9 : decode c_M_order 9 = .ok (.aload_n 0, 1) := by decide +kernel
theorem d_M_order_10 : decode c_M_order 10 = .ok (.iload_n 2, 1) := by decide +kernel
theorem d_M_order_11 : decode c_M_order 11 = .ok (.invokevirtual 125, 3) := by decide +kernel
theorem d_M_order_14 : decode c_M_order 14 = .ok (.ifCond .eq 7, 3) := by decide +kernel
theorem d_M_order_17 : decode c_M_order 17 = .ok (.iconst 1, 1) := by decide +kernel
theorem d_M_order_18 : decode c_M_order 18 = .ok (.goto 4, 3) := by decide +kernel
theorem d_M_order_21 : decode c_M_order 21 = .ok (.iconst 0, 1) := by decide +kernel
theorem d_M_order_22 : decode c_M_order 22 = .ok (.iconst 1, 1) := by decide +kernel
theorem d_M_order_23 : decode c_M_order 23 = .ok (.iconst 1, 1) := by decide +kernel
theorem d_M_order_24 : decode c_M_order 24 = .ok (.invokevirtual 118, 3) := by decide +kernel
theorem d_M_order_27 : decode c_M_order 27 = .ok (.ifCond .ne 5, 3) := by decide +kernel
theorem d_M_order_30 : decode c_M_order 30 = .ok (.iconst 0, 1) := by decide +kernel
theorem d_M_order_31 : decode c_M_order 31 = .ok (.ireturn, 1) := by decide +kernel
theorem d_M_order_32 : decode c_M_order 32 = .ok (.aload_n 0, 1) := by decide +kernel
theorem d_M_order_33 : decode c_M_order 33 = .ok (.iload_n 1, 1) := by decide +kernel
theorem d_M_order_34 : decode c_M_order 34 = .ok (.iload_n 2, 1) := by decide +kernel
theorem d_M_order_35 : decode c_M_order 35 = .ok (.invokevirtual 135, 3) := by decide +kernel
theorem d_M_order_38 : decode c_M_order 38 = .ok (.ireturn, 1) := by decide +kernel
theorem d_M_compareValues_0 : decode c_M_compareValues 0 = .ok (.aload_n 0, 1) := by decide +kernel
theorem d_M_compareValues_1 : decode c_M_compareValues 1 = .ok (.iload_n 1, 1) := by decide +kernel
theorem d_M_compareValues_2 : decode c_M_compareValues 2 = .ok (.iload_n 2, 1) := by decide +kernel
theorem d_M_compareValues_3 : decode c_M_compareValues 3 = .ok (.iconst (-1), 1) := by decide +kernel
theorem d_M_compareValues_4 : decode c_M_compareValues 4 = .ok (.invokevirtual 128, 3) := by decide +kernel
theorem d_M_compareValues_7 : decode c_M_compareValues 7 = .ok (.istore_n 3, 1) := by decide +kernel
theorem d_M_compareValues_8 : decode c_M_compareValues 8 = .ok (.aload_n 0, 1) := by decide +kernel
theorem d_M_compareValues_9 : decode c_M_compareValues 9 = .ok (.iconst 0, 1) := by decide +kernel
theorem d_M_compareValues_10 : decode c_M_compareValues 10 = .ok (.invokevirtual 77, 3) := by decide +kernel
theorem d_M_compareValues_13 : decode c_M_compareValues 13 = .ok (.ifCond .eq 7, 3) := by decide +kernel
theorem d_M_compareValues_16 : decode c_M_compareValues 16 = .ok (.iconst 0, 1) := by decide +kernel
theorem d_M_compareValues_17 : decode c_M_compareValues 17 = .ok (.goto 4, 3) := by decide +kernel
theorem d_M_compareValues_20 : decode c_M_compareValues 20 = .ok (.iload_n 3, 1) := by decide +kernel
theorem d_M_compareValues_21 : decode c_M_compareValues 21 = .ok (.ireturn, 1) := by decide +kernel
theorem d_M_round_0 : decode c_M_round 0 = .ok (.aload_n 0, 1) := by decide +kernel
theorem d_M_round_1 : decode c_M_round 1 = .ok (.aload_n 0, 1) := by decide +kernel
theorem d_M_round_2 : decode c_M_round 2 = .ok (.iload_n 1, 1) := by decide +kernel
theorem d_M_round_3 : decode c_M_round 3 = .ok (.invokevirtual 125, 3) := by decide +kernel
theorem d_M_round_6 : decode c_M_round 6 = .ok (.ifCond .eq 17, 3) := by decide +kernel
theorem d_M_round_9 : decode c_M_round 9 = .ok (.iload_n 2, 1) := by decide +kernel
theorem d_M_round_10 : decode c_M_round 10 = .ok (.ifCond .lt 13, 3) := by decide +kernel
theorem d_M_round_13 : decode c_M_round 13 = .ok (.iload_n 2, 1) := by decide +kernel
theorem d_M_round_14 : decode c_M_round 14 = .ok (.bipush 6, 2) := by decide +kernel
theorem d_M_round_16 : decode c_M_round 16 = .ok (.if_icmp .gt 7, 3) := by decide +kernel
theorem d_M_round_19 : decode c_M_round 19 = .ok (.iconst 1, 1) := by decide +kernel
theorem d_M_round_20 : decode c_M_round 20 = .ok (.goto 4, 3) := by decide +kernel
theorem d_M_round_23 : decode c_M_round 23 = .ok (.iconst 0, 1) := by decide +kernel
theorem d_M_round_24 : decode c_M_round 24 = .ok (.lload_n 3, 1) := by decide +kernel
theorem d_M_round_25 : decode c_M_round 25 = .ok (.lconst 1, 1) := by decide +kernel
theorem d_M_round_26 : decode c_M_round 26 = .ok (.lcmp, 1) := by decide +kernel
theorem d_M_round_27 : decode c_M_round 27 = .ok (.ifCond .lt 15, 3) := by decide +kernel
theorem d_M_round_30 : decode c_M_round 30 = .ok (.lload_n 3, 1) := by decide +kernel
theorem d_M_round_31 : decode c_M_round 31 = .ok (.ldc2_w 138, 3) := by decide +kernel
theorem d_M_round_34 : decode c_M_round 34 = .ok (.lcmp, 1) := by decide +kernel
theorem d_M_round_35 : decode c_M_round 35 = .ok (.ifCond .gt 7, 3) := by decide +kernel
theorem d_M_round_38 : decode c_M_round 38 = .ok (.iconst 1, 1) := by decide +kernel
theorem d_M_round_39 : decode c_M_round 39 = .ok (.goto 4, 3) := by decide +kernel
theorem d_M_round_42 : decode c_M_round 42 = .ok (.iconst 0, 1) := by decide +kernel
theorem d_M_round_43 : decode c_M_round 43 = .ok (.aload_n 0, 1) := by decide +kernel
theorem d_M_round_44 : decode c_M_round 44 = .ok (.getfield 42, 3) := by decide +kernel
theorem d_M_round_47 : decode c_M_round 47 = .ok (.bipush 100, 2) := by decide +kernel
theorem d_M_round_49 : decode c_M_round 49 = .ok (.if_icmp .ge 7, 3) := by decide +kernel
theorem d_M_round_52 : decode c_M_round 52 = .ok (.iconst 1, 1) := by decide +kernel
theorem d_M_round_53 : decode c_M_round 53 = .ok (.goto 4, 3) := by decide +kernel
theorem d_M_round_56 : decode c_M_round 56 = .ok (.iconst 0, 1) := by decide +kernel
theorem d_M_round_57 : decode c_M_round 57 = .ok (.invokevirtual 118, 3) := by decide +kernel
theorem d_M_round_60 : decode c_M_round 60 = .ok (.ifCond .ne 5, 3) := by decide +kernel
theorem d_M_round_63 : decode c_M_round 63 = .ok (.iconst 0, 1) := by decide +kernel
theorem d_M_round_64 : decode c_M_round 64 = .ok (.ireturn, 1) := by decide +kernel
theorem d_M_round_65 : decode c_M_round 65 = .ok (.aload_n 0, 1) := by decide +kernel
theorem d_M_round_66 : decode c_M_round 66 = .ok (.iload_n 1, 1) := by decide +kernel
theorem d_M_round_67 : decode c_M_round 67 = .ok (.iconst 3, 1) := by decide +kernel
theorem d_M_round_68 : decode c_M_round 68 = .ok (.invokevirtual 109, 3) := by decide +kernel
theorem d_M_round_71 : decode c_M_round 71 = .ok (.aload_n 0, 1) := by decide +kernel
theorem d_M_round_72 : decode c_M_round 72 = .ok (.bipush 6, 2) := by decide +kernel
theorem d_M_round_74 : decode c_M_round 74 = .ok (.lload_n 3, 1) := by decide +kernel
theorem d_M_round_75 : decode c_M_round 75 = .ok (.invokevirtual 91, 3) := by decide +kernel
theorem d_M_round_78 : decode c_M_round 78 = .ok (.aload_n 0, 1) := by decide +kernel
theorem d_M_round_79 : decode c_M_round 79 = .ok (.iconst 3, 1) := by decide +kernel
theorem d_M_round_80 : decode c_M_round 80 = .ok (.bipush 6, 2) := by decide +kernel
theorem d_M_round_82 : decode c_M_round 82 = .ok (.iconst 2, 1) := by decide +kernel
theorem d_M_round_83 : decode c_M_round 83 = .ok (.invokevirtual 115, 3) := by decide +kernel
theorem d_M_round_86 : decode c_M_round 86 = .ok (.aload_n 0, 1) := by decide +kernel
theorem d_M_round_87 : decode c_M_round 87 = .ok (.iload_n 1, 1) := by decide +kernel
theorem d_M_round_88 : decode c_M_round 88 = .ok (.iconst 3, 1) := by decide +kernel
theorem d_M_round_89 : decode c_M_round 89 = .ok (.invokevirtual 112, 3) := by decide +kernel
theorem d_M_round_92 : decode c_M_round 92 = .ok (.aload_n 0, 1) := by decide +kernel
theorem d_M_round_93 : decode c_M_round 93 = .ok (.iconst 2, 1) := by decide +kernel
theorem d_M_round_94 : decode c_M_round 94 = .ok (.iconst 3, 1) := by decide +kernel
theorem d_M_round_95 : decode c_M_round 95 = .ok (.iconst 0, 1) := by decide +kernel
theorem d_M_round_96 : decode c_M_round 96 = .ok (.invokevirtual 101, 3) := by decide +kernel
theorem d_M_round_99 : decode c_M_round 99 = .ok (.aload_n 0, 1) := by decide +kernel
theorem d_M_round_100 : decode c_M_round 100 = .ok (.iload_n 2, 1) := by decide +kernel
theorem d_M_round_101 : decode c_M_round 101 = .ok (.aload_n 0, 1) := by decide +kernel
theorem d_M_round_102 : decode c_M_round 102 = .ok (.getfield 13, 3) := by decide +kernel
theorem d_M_round_105 : decode c_M_round 105 = .ok (.iload_n 1, 1) := by decide +kernel
theorem d_M_round_106 : decode c_M_round 106 = .ok (.iaload, 1) := by decide +kernel
theorem d_M_round_107 : decode c_M_round 107 = .ok (.invokevirtual 140, 3) := by decide +kernel
theorem d_M_round_110 : decode c_M_round 110 = .ok (.ifCond .eq 15, 3) := by decide +kernel
theorem d_M_round_113 : decode c_M_round 113 = .ok (.aload_n 0, 1) := by decide +kernel
theorem d_M_round_114 : decode c_M_round 114 = .ok (.iconst 1, 1) := by decide +kernel
theorem d_M_round_115 : decode c_M_round 115 = .ok (.lconst 1, 1) := by decide +kernel
theorem d_M_round_116 : decode c_M_round 116 = .ok (.invokevirtual 91, 3) := by decide +kernel
theorem d_M_round_119 : decode c_M_round 119 = .ok (.aload_n 0, 1) := by decide +kernel
theorem d_M_round_120 : decode c_M_round 120 = .ok (.iconst 0, 1) := by decide +kernel
theorem d_M_round_121 : decode c_M_round 121 = .ok (.iconst 1, 1) := by decide +kernel
theorem d_M_round_122 : decode c_M_round 122 = .ok (.invokevirtual 88, 3) := by decide +kernel
theorem d_M_round_125 : decode c_M_round 125 = .ok (.aload_n 0, 1) := by decide +kernel
theorem d_M_round_126 : decode c_M_round 126 = .ok (.bipush 6, 2) := by decide +kernel
theorem d_M_round_128 : decode c_M_round 128 = .ok (.iconst 1, 1) := by decide +kernel
theorem d_M_round_129 : decode c_M_round 129 = .ok (.invokevirtual 95, 3) := by decide +kernel
theorem d_M_round_132 : decode c_M_round 132 = .ok (.aload_n 0, 1) := by decide +kernel
theorem d_M_round_133 : decode c_M_round 133 = .ok (.aload_n 0, 1) := by decide +kernel
theorem d_M_round_134 : decode c_M_round 134 = .ok (.getfield 13, 3) := by decide +kernel
theorem d_M_round_137 : decode c_M_round 137 = .ok (.iload_n 1, 1) := by decide +kernel
theorem d_M_round_138 : decode c_M_round 138 = .ok (.iaload, 1) := by decide +kernel
theorem d_M_round_139 : decode c_M_round 139 = .ok (.invokevirtual 122, 3) := by decide +kernel
theorem d_M_round_142 : decode c_M_round 142 = .ok (.ireturn, 1) := by decide +kernel
theorem d_M_isUp_0 : decode c_M_isUp 0 = .ok (.aload_n 0, 1) := by decide +kernel
theorem d_M_isUp_1 : decode c_M_isUp 1 = .ok (.iconst 2, 1) := by decide +kernel
theorem d_M_isUp_2 : decode c_M_isUp 2 = .ok (.invokevirtual 77, 3) := by decide +kernel
theorem d_M_isUp_5 : decode c_M_isUp 5 = .ok (.ifCond .eq 5, 3) := by decide +kernel
theorem d_M_isUp_8 : decode c_M_isUp 8 = .ok (.iconst 0, 1) := by decide +kernel
theorem d_M_isUp_9 : decode c_M_isUp 9 = .ok (.ireturn, 1) := by decide +kernel
theorem d_M_isUp_10 : decode c_M_isUp 10 = .ok (.iload_n 1, 1) := by decide +kernel
theorem d_M_isUp_11 : decode c_M_isUp 11 = .ok (.iconst 2, 1) := by decide +kernel
theorem d_M_isUp_12 : decode c_M_isUp 12 = .ok (.if_icmp .ge 29, 3) := by decide +kernel
theorem d_M_isUp_15 : decode c_M_isUp 15 = .ok (.iload_n 1, 1) := by decide +kernel
theorem d_M_isUp_16 : decode c_M_isUp 16 = .ok (.ifCond .ne 15, 3) := by decide +kernel
theorem d_M_isUp_19 : decode c_M_isUp 19 = .ok (.iload_n 2, 1) := by decide +kernel
theorem d_M_isUp_20 : decode c_M_isUp 20 = .ok (.ifCond .ge 7, 3) := by decide +kernel
theorem d_M_isUp_23 : decode c_M_isUp 23 = .ok (.iconst 1, 1) := by decide +kernel
theorem d_M_isUp_24 : decode c_M_isUp 24 = .ok (.goto 16, 3) := by decide +kernel
theorem d_M_isUp_27 : decode c_M_isUp 27 = .ok (.iconst 0, 1) := by decide +kernel
theorem d_M_isUp_28 : decode c_M_isUp 28 = .ok (.goto 12, 3) := by decide +kernel
theorem d_M_isUp_31 : decode c_M_isUp 31 = .ok (.iload_n 2, 1) := by decide +kernel
theorem d_M_isUp_32 : decode c_M_isUp 32 = .ok (.ifCond .le 7, 3) := by decide +kernel
theorem d_M_isUp_35 : decode c_M_isUp 35 = .ok (.iconst 1, 1) := by decide +kernel
theorem d_M_isUp_36 : decode c_M_isUp 36 = .ok (.goto 4, 3) := by decide +kernel
theorem d_M_isUp_39 : decode c_M_isUp 39 = .ok (.iconst 0, 1) := by decide +kernel
theorem d_M_isUp_40 : decode c_M_isUp 40 = .ok (.ireturn, 1) := by decide +kernel
theorem d_M_isUp_41 : decode c_M_isUp 41 = .ok (.iload_n 1, 1) := by decide +kernel
theorem d_M_isUp_42 : decode c_M_isUp 42 = .ok (.iconst 4, 1) := by decide +kernel
theorem d_M_isUp_43 : decode c_M_isUp 43 = .ok (.if_icmp .ge 14, 3) := by decide +kernel
theorem d_M_isUp_46 : decode c_M_isUp 46 = .ok (.iload_n 1, 1) := by decide +kernel
theorem d_M_isUp_47 : decode c_M_isUp 47 = .ok (.iconst 3, 1) := by decide +kernel
theorem d_M_isUp_48 : decode c_M_isUp 48 = .ok (.if_icmp .ne 7, 3) := by decide +kernel
theorem d_M_isUp_51 : decode c_M_isUp 51 = .ok (.iconst 1, 1) := by decide +kernel
theorem d_M_isUp_52 : decode c_M_isUp 52 = .ok (.goto 4, 3) := by decide +kernel
theorem d_M_isUp_55 : decode c_M_isUp 55 = .ok (.iconst 0, 1) := by decide +kernel
theorem d_M_isUp_56 : decode c_M_isUp 56 = .ok (.ireturn, 1) := by decide +kernel
theorem d_M_isUp_57 : decode c_M_isUp 57 = .ok (.aload_n 0, 1) := by decide +kernel
theorem d_M_isUp_58 : decode c_M_isUp 58 = .ok (.iconst 2, 1) := by decide +kernel
theorem d_M_isUp_59 : decode c_M_isUp 59 = .ok (.iconst 2, 1) := by decide +kernel
theorem d_M_isUp_60 : decode c_M_isUp 60 = .ok (.invokevirtual 88, 3) := by decide +kernel
theorem d_M_isUp_63 : decode c_M_isUp 63 = .ok (.aload_n 0, 1) := by decide +kernel
theorem d_M_isUp_64 : decode c_M_isUp 64 = .ok (.iconst 2, 1) := by decide +kernel
theorem d_M_isUp_65 : decode c_M_isUp 65 = .ok (.iconst 3, 1) := by decide +kernel
theorem d_M_isUp_66 : decode c_M_isUp 66 = .ok (.invokevirtual 80, 3) := by decide +kernel
theorem d_M_isUp_69 : decode c_M_isUp 69 = .ok (.istore_n 3, 1) := by decide +kernel
theorem d_M_isUp_70 : decode c_M_isUp 70 = .ok (.iload_n 3, 1) := by decide +kernel
theorem d_M_isUp_71 : decode c_M_isUp 71 = .ok (.ifCond .eq 13, 3) := by decide +kernel
theorem d_M_isUp_74 : decode c_M_isUp 74 = .ok (.iload_n 3, 1) := by decide +kernel
theorem d_M_isUp_75 : decode c_M_isUp 75 = .ok (.ifCond .le 7, 3) := by decide +kernel
theorem d_M_isUp_78 : decode c_M_isUp 78 = .ok (.iconst 1, 1) := by decide +kernel
theorem d_M_isUp_79 : decode c_M_isUp 79 = .ok (.goto 4, 3) := by decide +kernel
theorem d_M_isUp_82 : decode c_M_isUp 82 = .ok (.iconst 0, 1) := by decide +kernel
theorem d_M_isUp_83 : decode c_M_isUp 83 = .ok (.ireturn, 1) := by decide +kernel
theorem d_M_isUp_84 : decode c_M_isUp 84 = .ok (.iload_n 1, 1) := by decide +kernel
theorem d_M_isUp_85 : decode c_M_isUp 85 = .ok (.iconst 4, 1) := by decide +kernel
theorem d_M_isUp_86 : decode c_M_isUp 86 = .ok (.if_icmp .ne 15, 3) := by decide +kernel
theorem d_M_isUp_89 : decode c_M_isUp 89 = .ok (.iload_n 2, 1) := by decide +kernel
theorem d_M_isUp_90 : decode c_M_isUp 90 = .ok (.ifCond .le 7, 3) := by decide +kernel
theorem d_M_isUp_93 : decode c_M_isUp 93 = .ok (.iconst 1, 1) := by decide +kernel
theorem d_M_isUp_94 : decode c_M_isUp 94 = .ok (.goto 38, 3) := by decide +kernel
theorem d_M_isUp_97 : decode c_M_isUp 97 = .ok (.iconst 0, 1) := by decide +kernel
theorem d_M_isUp_98 : decode c_M_isUp 98 = .ok (.goto 34, 3) := by decide +kernel
theorem d_M_isUp_101 : decode c_M_isUp 101 = .ok (.iload_n 1, 1) := by decide +kernel
theorem d_M_isUp_102 : decode c_M_isUp 102 = .ok (.bipush 6, 2) := by decide +kernel
theorem d_M_isUp_104 : decode c_M_isUp 104 = .ok (.if_icmp .ne 15, 3) := by decide +kernel
theorem d_M_isUp_107 : decode c_M_isUp 107 = .ok (.iload_n 2, 1) := by decide +kernel
theorem d_M_isUp_108 : decode c_M_isUp 108 = .ok (.ifCond .ge 7, 3) := by decide +kernel
theorem d_M_isUp_111 : decode c_M_isUp 111 = .ok (.iconst 1, 1) := by decide +kernel
theorem d_M_isUp_112 : decode c_M_isUp 112 = .ok (.goto 20, 3) := by decide +kernel
theorem d_M_isUp_115 : decode c_M_isUp 115 = .ok (.iconst 0, 1) := by decide +kernel
theorem d_M_isUp_116 : decode c_M_isUp 116 = .ok (.goto 16, 3) := by decide +kernel
theorem d_M_isUp_119 : decode c_M_isUp 119 = .ok (.aload_n 0, 1) := by decide +kernel
theorem d_M_isUp_120 : decode c_M_isUp 120 = .ok (.iconst 0, 1) := by decide +kernel
theorem d_M_isUp_121 : decode c_M_isUp 121 = .ok (.invokevirtual 70, 3) := by decide +kernel
theorem d_M_isUp_124 : decode c_M_isUp 124 = .ok (.ifCond .ne 7, 3) := by decide +kernel
theorem d_M_isUp_127 : decode c_M_isUp 127 = .ok (.iconst 1, 1) := by decide +kernel
theorem d_M_isUp_128 : decode c_M_isUp 128 = .ok (.goto 4, 3) := by decide +kernel
theorem d_M_isUp_131 : decode c_M_isUp 131 = .ok (.iconst 0, 1) := by decide +kernel
theorem d_M_isUp_132 : decode c_M_isUp 132 = .ok (.ireturn, 1) := by decide +kernel
theorem d_M_span_0 : decode c_M_span 0 = .ok (.aload_n 0, 1) := by decide +kernel
theorem d_M_span_1 : decode c_M_span 1 = .ok (.iload_n 1, 1) := by decide +kernel
theorem d_M_span_2 : decode c_M_span 2 = .ok (.invokevirtual 125, 3) := by decide +kernel
theorem d_M_span_5 : decode c_M_span 5 = .ok (.ifCond .eq 15, 3) := by decide +kernel
theorem d_M_span_8 : decode c_M_span 8 = .ok (.aload_n 0, 1) := by decide +kernel
theorem d_M_span_9 : decode c_M_span 9 = .ok (.iload_n 2, 1) := by decide +kernel
theorem d_M_span_10 : decode c_M_span 10 = .ok (.invokevirtual 125, 3) := by decide +kernel
theorem d_M_span_13 : decode c_M_span 13 = .ok (.ifCond .eq 7, 3) := by decide +kernel
theorem d_M_span_16 : decode c_M_span 16 = .ok (.iconst 1, 1) := by decide +kernel
theorem d_M_span_17 : decode c_M_span 17 = .ok (.goto 4, 3) := by decide +kernel
theorem d_M_span_20 : decode c_M_span 20 = .ok (.iconst 0, 1) := by decide +kernel
theorem d_M_span_21 : decode c_M_span 21 = .ok (.istore_n 3, 1) := by decide +kernel
theorem d_M_span_22 : decode c_M_span 22 = .ok (.aload_n 0, 1) := by decide +kernel
theorem d_M_span_23 : decode c_M_span 23 = .ok (.iload_n 3, 1) := by decide +kernel
theorem d_M_span_24 : decode c_M_span 24 = .ok (.iload_n 3, 1) := by decide +kernel
theorem d_M_span_25 : decode c_M_span 25 = .ok (.ifCond .eq 25, 3) := by decide +kernel
theorem d_M_span_28 : decode c_M_span 28 = .ok (.aload_n 0, 1) := by decide +kernel
theorem d_M_span_29 : decode c_M_span 29 = .ok (.iload_n 1, 1) := by decide +kernel
theorem d_M_span_30 : decode c_M_span 30 = .ok (.iload_n 2, 1) := by decide +kernel
theorem d_M_span_31 : decode c_M_span 31 = .ok (.invokevirtual 135, 3) := by decide +kernel
theorem d_M_span_34 : decode c_M_span 34 = .ok (.ifCond .gt 16, 3) := by decide +kernel
theorem d_M_span_37 : decode c_M_span 37 = .ok (.aload_n 0, 1) := by decide +kernel
theorem d_M_span_38 : decode c_M_span 38 = .ok (.getfield 45, 3) := by decide +kernel
theorem d_M_span_41 : decode c_M_span 41 = .ok (.bipush 30, 2) := by decide +kernel
theorem d_M_span_43 : decode c_M_span 43 = .ok (.if_icmp .ge 7, 3) := by decide +kernel
theorem d_M_span_46 : decode c_M_span 46 = .ok (.iconst 1, 1) := by decide +kernel
theorem d_M_span_47 : decode c_M_span 47 = .ok (.goto 4, 3) := by decide +kernel
theorem d_M_span_50 : decode c_M_span 50 = .ok (.iconst 0, 1) := by decide +kernel
theorem d_M_span_51 : decode c_M_span 51 = .ok (.iconst 1, 1) := by decide +kernel
theorem d_M_span_52 : decode c_M_span 52 = .ok (.invokevirtual 118, 3) := by decide +kernel
theorem d_M_span_55 : decode c_M_span 55 = .ok (.ifCond .ne 5, 3) := by decide +kernel
theorem d_M_span_58 : decode c_M_span 58 = .ok (.iconst 0, 1) := by decide +kernel
theorem d_M_span_59 : decode c_M_span 59 = .ok (.ireturn, 1) := by decide +kernel
theorem d_M_span_60 : decode c_M_span 60 = .ok (.aload_n 0, 1) := by decide +kernel
theorem d_M_span_61 : decode c_M_span 61 = .ok (.getfield 23, 3) := by decide +kernel
theorem d_M_span_64 : decode c_M_span 64 = .ok (.aload_n 0, 1) := by decide +kernel
theorem d_M_span_65 : decode c_M_span 65 = .ok (.getfield 45, 3) := by decide +kernel
theorem d_M_span_68 : decode c_M_span 68 = .ok (.iload_n 1, 1) := by decide +kernel
theorem d_M_span_69 : decode c_M_span 69 = .ok (.iastore, 1) := by decide +kernel
theorem d_M_span_70 : decode c_M_span 70 = .ok (.aload_n 0, 1) := by decide +kernel
theorem d_M_span_71 : decode c_M_span 71 = .ok (.getfield 26, 3) := by decide +kernel
theorem d_M_span_74 : decode c_M_span 74 = .ok (.aload_n 0, 1) := by decide +kernel
theorem d_M_span_75 : decode c_M_span 75 = .ok (.getfield 45, 3) := by decide +kernel
theorem d_M_span_78 : decode c_M_span 78 = .ok (.iload_n 2, 1) := by decide +kernel
theorem d_M_span_79 : decode c_M_span 79 = .ok (.iastore, 1) := by decide +kernel
theorem d_M_span_80 : decode c_M_span 80 = .ok (.aload_n 0, 1) := by decide +kernel
theorem d_M_span_81 : decode c_M_span 81 = .ok (.dup, 1) := by decide +kernel
theorem d_M_span_82 : decode c_M_span 82 = .ok (.getfield 45, 3) := by decide +kernel
theorem d_M_span_85 : decode c_M_span 85 = .ok (.iconst 1, 1) := by decide +kernel
theorem d_M_span_86 : decode c_M_span 86 = .ok (.iadd, 1) := by decide +kernel
theorem d_M_span_87 : decode c_M_span 87 = .ok (.putfield 45, 3) := by decide +kernel
theorem d_M_span_90 : decode c_M_span 90 = .ok (.aload_n 0, 1) := by decide +kernel
theorem d_M_span_91 : decode c_M_span 91 = .ok (.getfield 45, 3) := by decide +kernel
theorem d_M_span_94 : decode c_M_span 94 = .ok (.iconst 1, 1) := by decide +kernel
theorem d_M_span_95 : decode c_M_span 95 = .ok (.isub, 1) := by decide +kernel
theorem d_M_span_96 : decode c_M_span 96 = .ok (.ireturn, 1) := by decide +kernel
theorem d_M_spanTimes_0 : decode c_M_spanTimes 0 = .ok (.aload_n 0, 1) := by decide +kernel
theorem d_M_spanTimes_1 : decode c_M_spanTimes 1 = .ok (.iload_n 1, 1) := by decide +kernel
theorem d_M_spanTimes_2 : decode c_M_spanTimes 2 = .ok (.invokevirtual 144, 3) := by decide +kernel
theorem d_M_spanTimes_5 : decode c_M_spanTimes 5 = .ok (.ifCond .eq 15, 3) := by decide +kernel
theorem d_M_spanTimes_8 : decode c_M_spanTimes 8 = .ok (.aload_n 0, 1) := by decide +kernel
theorem d_M_spanTimes_9 : decode c_M_spanTimes 9 = .ok (.iload_n 2, 1) := by decide +kernel
theorem d_M_spanTimes_10 : decode c_M_spanTimes 10 = .ok (.invokevirtual 125, 3) := by decide +kernel
theorem d_M_spanTimes_13 : decode c_M_spanTimes 13 = .ok (.ifCond .eq 7, 3) := by decide +kernel
theorem d_M_spanTimes_16 : decode c_M_spanTimes 16 = .ok (.iconst 1, 1) := by decide +kernel
theorem d_M_spanTimes_17 : decode c_M_spanTimes 17 = .ok (.goto 4, 3) := by decide +kernel
theorem d_M_spanTimes_20 : decode c_M_spanTimes 20 = .ok (.iconst 0, 1) := by decide +kernel
theorem d_M_spanTimes_21 : decode c_M_spanTimes 21 = .ok (.istore_n 3, 1) := by decide +kernel
theorem d_M_spanTimes_22 : decode c_M_spanTimes 22 = .ok (.aload_n 0, 1) := by decide +kernel
theorem d_M_spanTimes_23 : decode c_M_spanTimes 23 = .ok (.iload_n 3, 1) := by decide +kernel
theorem d_M_spanTimes_24 : decode c_M_spanTimes 24 = .ok (.aload_n 0, 1) := by decide +kernel
theorem d_M_spanTimes_25 : decode c_M_spanTimes 25 = .ok (.getfield 45, 3) := by decide +kernel
theorem d_M_spanTimes_28 : decode c_M_spanTimes 28 = .ok (.bipush 30, 2) := by decide +kernel
theorem d_M_spanTimes_30 : decode c_M_spanTimes 30 = .ok (.if_icmp .ge 16, 3) := by decide +kernel
theorem d_M_spanTimes_33 : decode c_M_spanTimes 33 = .ok (.aload_n 0, 1) := by decide +kernel
theorem d_M_spanTimes_34 : decode c_M_spanTimes 34 = .ok (.getfield 42, 3) := by decide +kernel
theorem d_M_spanTimes_37 : decode c_M_spanTimes 37 = .ok (.bipush 98, 2) := by decide +kernel
theorem d_M_spanTimes_39 : decode c_M_spanTimes 39 = .ok (.if_icmp .gt 7, 3) := by decide +kernel
theorem d_M_spanTimes_42 : decode c_M_spanTimes 42 = .ok (.iconst 1, 1) := by decide +kernel
theorem d_M_spanTimes_43 : decode c_M_spanTimes 43 = .ok (.goto 4, 3) := by decide +kernel
theorem d_M_spanTimes_46 : decode c_M_spanTimes 46 = .ok (.iconst 0, 1) := by decide +kernel
theorem d_M_spanTimes_47 : decode c_M_spanTimes 47 = .ok (.iconst 1, 1) := by decide +kernel
theorem d_M_spanTimes_48 : decode c_M_spanTimes 48 = .ok (.invokevirtual 118, 3) := by decide +kernel
theorem d_M_spanTimes_51 : decode c_M_spanTimes 51 = .ok (.ifCond .ne 5, 3) := by decide +kernel
theorem d_M_spanTimes_54 : decode c_M_spanTimes 54 = .ok (.iconst 0, 1) := by decide +kernel
theorem d_M_spanTimes_55 : decode c_M_spanTimes 55 = .ok (.ireturn, 1) := by decide +kernel
theorem d_M_spanTimes_56 : decode c_M_spanTimes 56 = .ok (.aload_n 0, 1) := by decide +kernel
theorem d_M_spanTimes_57 : decode c_M_spanTimes 57 = .ok (.aload_n 0, 1) := by decide +kernel
theorem d_M_spanTimes_58 : decode c_M_spanTimes 58 = .ok (.aload_n 0, 1) := by decide +kernel
theorem d_M_spanTimes_59 : decode c_M_spanTimes 59 = .ok (.getfield 13, 3) := by decide +kernel
theorem d_M_spanTimes_62 : decode c_M_spanTimes 62 = .ok (.iload_n 2, 1) := by decide +kernel
theorem d_M_spanTimes_63 : decode c_M_spanTimes 63 = .ok (.iaload, 1) := by decide +kernel
theorem d_M_spanTimes_64 : decode c_M_spanTimes 64 = .ok (.ifCond .ge 12, 3) := by decide +kernel
theorem d_M_spanTimes_67 : decode c_M_spanTimes 67 = .ok (.aload_n 0, 1) := by decide +kernel
theorem d_M_spanTimes_68 : decode c_M_spanTimes 68 = .ok (.getfield 26, 3) := by decide +kernel
theorem d_M_spanTimes_71 : decode c_M_spanTimes 71 = .ok (.iload_n 1, 1) := by decide +kernel
theorem d_M_spanTimes_72 : decode c_M_spanTimes 72 = .ok (.iaload, 1) := by decide +kernel
theorem d_M_spanTimes_73 : decode c_M_spanTimes 73 = .ok (.goto 9, 3) := by decide +kernel
theorem d_M_spanTimes_76 : decode c_M_spanTimes 76 = .ok (.aload_n 0, 1) := by decide +kernel
theorem d_M_spanTimes_77 : decode c_M_spanTimes 77 = .ok (.getfield 23, 3) := by decide +kernel
theorem d_M_spanTimes_80 : decode c_M_spanTimes 80 = .ok (.iload_n 1, 1) := by decide +kernel
theorem d_M_spanTimes_81 : decode c_M_spanTimes 81 = .ok (.iaload, 1) := by decide +kernel
theorem d_M_spanTimes_82 : decode c_M_spanTimes 82 = .ok (.iload_n 2, 1) := by decide +kernel
theorem d_M_spanTimes_83 : decode c_M_spanTimes 83 = .ok (.invokevirtual 132, 3) := by decide +kernel
theorem d_M_spanTimes_86 : decode c_M_spanTimes 86 = .ok (.invokevirtual 122, 3) := by decide +kernel
theorem d_M_spanTimes_89 : decode c_M_spanTimes 89 = .ok (.istore 4, 2) := by decide +kernel
theorem d_M_spanTimes_91 : decode c_M_spanTimes 91 = .ok (.iload 4, 2) := by decide +kernel
theorem d_M_spanTimes_93 : decode c_M_spanTimes 93 = .ok (.ifCond .ge 5, 3) := by decide +kernel
theorem d_M_spanTimes_96 : decode c_M_spanTimes 96 = .ok (.iconst (-1), 1) := by decide +kernel
theorem d_M_spanTimes_97 : decode c_M_spanTimes 97 = .ok (.ireturn, 1) := by decide +kernel
theorem d_M_spanTimes_98 : decode c_M_spanTimes 98 = .ok (.aload_n 0, 1) := by decide +kernel
theorem d_M_spanTimes_99 : decode c_M_spanTimes 99 = .ok (.aload_n 0, 1) := by decide +kernel
theorem d_M_spanTimes_100 : decode c_M_spanTimes 100 = .ok (.aload_n 0, 1) := by decide +kernel
theorem d_M_spanTimes_101 : decode c_M_spanTimes 101 = .ok (.getfield 13, 3) := by decide +kernel
theorem d_M_spanTimes_104 : decode c_M_spanTimes 104 = .ok (.iload_n 2, 1) := by decide +kernel
theorem d_M_spanTimes_105 : decode c_M_spanTimes 105 = .ok (.iaload, 1) := by decide +kernel
theorem d_M_spanTimes_106 : decode c_M_spanTimes 106 = .ok (.ifCond .ge 12, 3) := by decide +kernel
theorem d_M_spanTimes_109 : decode c_M_spanTimes 109 = .ok (.aload_n 0, 1) := by decide +kernel
theorem d_M_spanTimes_110 : decode c_M_spanTimes 110 = .ok (.getfield 23, 3) := by decide +kernel
theorem d_M_spanTimes_113 : decode c_M_spanTimes 113 = .ok (.iload_n 1, 1) := by decide +kernel
theorem d_M_spanTimes_114 : decode c_M_spanTimes 114 = .ok (.iaload, 1) := by decide +kernel
theorem d_M_spanTimes_115 : decode c_M_spanTimes 115 = .ok (.goto 9, 3) := by decide +kernel
theorem d_M_spanTimes_118 : decode c_M_spanTimes 118 = .ok (.aload_n 0, 1) := by decide +kernel
theorem d_M_spanTimes_119 : decode c_M_spanTimes 119 = .ok (.getfield 26, 3) := by decide +kernel
theorem d_M_spanTimes_122 : decode c_M_spanTimes 122 = .ok (.iload_n 1, 1) := by decide +kernel
theorem d_M_spanTimes_123 : decode c_M_spanTimes 123 = .ok (.iaload, 1) := by decide +kernel
theorem d_M_spanTimes_124 : decode c_M_spanTimes 124 = .ok (.iload_n 2, 1) := by decide +kernel
theorem d_M_spanTimes_125 : decode c_M_spanTimes 125 = .ok (.invokevirtual 132, 3) := by decide +kernel
theorem d_M_spanTimes_128 : decode c_M_spanTimes 128 = .ok (.invokevirtual 122, 3) := by decide +kernel
theorem d_M_spanTimes_131 : decode c_M_spanTimes 131 = .ok (.istore 5, 2) := by decide +kernel
theorem d_M_spanTimes_133 : decode c_M_spanTimes 133 = .ok (.iload 5, 2) := by decide +kernel
theorem d_M_spanTimes_135 : decode c_M_spanTimes 135 = .ok (.ifCond .ge 15, 3) := by decide +kernel
theorem d_M_spanTimes_138 : decode c_M_spanTimes 138 = .ok (.aload_n 0, 1) := by decide +kernel
theorem d_M_spanTimes_139 : decode c_M_spanTimes 139 = .ok (.dup, 1) := by decide +kernel
theorem d_M_spanTimes_140 : decode c_M_spanTimes 140 = .ok (.getfield 42, 3) := by decide +kernel
theorem d_M_spanTimes_143 : decode c_M_spanTimes 143 = .ok (.iconst 1, 1) := by decide +kernel
theorem d_M_spanTimes_144 : decode c_M_spanTimes 144 = .ok (.isub, 1) := by decide +kernel
theorem d_M_spanTimes_145 : decode c_M_spanTimes 145 = .ok (.putfield 42, 3) := by decide +kernel
theorem d_M_spanTimes_148 : decode c_M_spanTimes 148 = .ok (.iconst (-1), 1) := by decide +kernel
theorem d_M_spanTimes_149 : decode c_M_spanTimes 149 = .ok (.ireturn, 1) := by decide +kernel
theorem d_M_spanTimes_150 : decode c_M_spanTimes 150 = .ok (.aload_n 0, 1) := by decide +kernel
theorem d_M_spanTimes_151 : decode c_M_spanTimes 151 = .ok (.getfield 23, 3) := by decide +kernel
theorem d_M_spanTimes_154 : decode c_M_spanTimes 154 = .ok (.aload_n 0, 1) := by decide +kernel
theorem d_M_spanTimes_155 : decode c_M_spanTimes 155 = .ok (.getfield 45, 3) := by decide +kernel
theorem d_M_spanTimes_158 : decode c_M_spanTimes 158 = .ok (.iload 4, 2) := by decide +kernel
theorem d_M_spanTimes_160 : decode c_M_spanTimes 160 = .ok (.iastore, 1) := by decide +kernel
theorem d_M_spanTimes_161 : decode c_M_spanTimes 161 = .ok (.aload_n 0, 1) := by decide +kernel
theorem d_M_spanTimes_162 : decode c_M_spanTimes 162 = .ok (.getfield 26, 3) := by decide +kernel
theorem d_M_spanTimes_165 : decode c_M_spanTimes 165 = .ok (.aload_n 0, 1) := by decide +kernel
theorem d_M_spanTimes_166 : decode c_M_spanTimes 166 = .ok (.getfield 45, 3) := by decide +kernel
theorem d_M_spanTimes_169 : decode c_M_spanTimes 169 = .ok (.iload 5, 2) := by decide +kernel
theorem d_M_spanTimes_171 : decode c_M_spanTimes 171 = .ok (.iastore, 1) := by decide +kernel
theorem d_M_spanTimes_172 : decode c_M_spanTimes 172 = .ok (.aload_n 0, 1) := by decide +kernel
theorem d_M_spanTimes_173 : decode c_M_spanTimes 173 = .ok (.dup, 1) := by decide +kernel
theorem d_M_spanTimes_174 : decode c_M_spanTimes 174 = .ok (.getfield 45, 3) := by decide +kernel
theorem d_M_spanTimes_177 : decode c_M_spanTimes 177 = .ok (.iconst 1, 1) := by decide +kernel
theorem d_M_spanTimes_178 : decode c_M_spanTimes 178 = .ok (.iadd, 1) := by decide +kernel
theorem d_M_spanTimes_179 : decode c_M_spanTimes 179 = .ok (.putfield 45, 3) := by decide +kernel
theorem d_M_spanTimes_182 : decode c_M_spanTimes 182 = .ok (.aload_n 0, 1) := by decide +kernel
theorem d_M_spanTimes_183 : decode c_M_spanTimes 183 = .ok (.getfield 45, 3) := by decide +kernel
theorem d_M_spanTimes_186 : decode c_M_spanTimes 186 = .ok (.iconst 1, 1) := by decide +kernel
theorem d_M_spanTimes_187 : decode c_M_spanTimes 187 = .ok (.isub, 1) := by decide +kernel
theorem d_M_spanTimes_188 : decode c_M_spanTimes 188 = .ok (.ireturn, 1) := by decide +kernel
theorem d_M_isSpan_0 : decode c_M_isSpan 0 = .ok (.iload_n 1, 1) := by decide +kernel
theorem d_M_isSpan_1 : decode c_M_isSpan 1 = .ok (.ifCond .lt 15, 3) := by decide +kernel
theorem d_M_isSpan_4 : decode c_M_isSpan 4 = .ok (.iload_n 1, 1) := by decide +kernel
theorem d_M_isSpan_5 : decode c_M_isSpan 5 = .ok (.aload_n 0, 1) := by decide +kernel
theorem d_M_isSpan_6 : decode c_M_isSpan 6 = .ok (.getfield 45, 3) := by decide +kernel
theorem d_M_isSpan_9 : decode c_M_isSpan 9 = .ok (.if_icmp .ge 7, 3) := by decide +kernel
theorem d_M_isSpan_12 : decode c_M_isSpan 12 = .ok (.iconst 1, 1) := by decide +kernel
theorem d_M_isSpan_13 : decode c_M_isSpan 13 = .ok (.goto 4, 3) := by decide +kernel
theorem d_M_isSpan_16 : decode c_M_isSpan 16 = .ok (.iconst 0, 1) := by decide +kernel
theorem d_M_isSpan_17 : decode c_M_isSpan 17 = .ok (.ireturn, 1) := by decide +kernel
theorem d_M_end_0 : decode c_M_end 0 = .ok (.aload_n 0, 1) := by decide +kernel
theorem d_M_end_1 : decode c_M_end 1 = .ok (.aload_n 0, 1) := by decide +kernel
theorem d_M_end_2 : decode c_M_end 2 = .ok (.iload_n 1, 1) := by decide +kernel
theorem d_M_end_3 : decode c_M_end 3 = .ok (.invokevirtual 144, 3) := by decide +kernel
theorem d_M_end_6 : decode c_M_end 6 = .ok (.ifCond .eq 16, 3) := by decide +kernel
theorem d_M_end_9 : decode c_M_end 9 = .ok (.iload_n 2, 1) := by decide +kernel
theorem d_M_end_10 : decode c_M_end 10 = .ok (.ifCond .lt 12, 3) := by decide +kernel
theorem d_M_end_13 : decode c_M_end 13 = .ok (.iload_n 2, 1) := by decide +kernel
theorem d_M_end_14 : decode c_M_end 14 = .ok (.iconst 1, 1) := by decide +kernel
theorem d_M_end_15 : decode c_M_end 15 = .ok (.if_icmp .gt 7, 3) := by decide +kernel
theorem d_M_end_18 : decode c_M_end 18 = .ok (.iconst 1, 1) := by decide +kernel
theorem d_M_end_19 : decode c_M_end 19 = .ok (.goto 4, 3) := by decide +kernel
theorem d_M_end_22 : decode c_M_end 22 = .ok (.iconst 0, 1) := by decide +kernel
theorem d_M_end_23 : decode c_M_end 23 = .ok (.iconst 1, 1) := by decide +kernel
theorem d_M_end_24 : decode c_M_end 24 = .ok (.iconst 1, 1) := by decide +kernel
theorem d_M_end_25 : decode c_M_end 25 = .ok (.invokevirtual 118, 3) := by decide +kernel
theorem d_M_end_28 : decode c_M_end 28 = .ok (.ifCond .ne 5, 3) := by decide +kernel
theorem d_M_end_31 : decode c_M_end 31 = .ok (.iconst 0, 1) := by decide +kernel
theorem d_M_end_32 : decode c_M_end 32 = .ok (.ireturn, 1) := by decide +kernel
theorem d_M_end_33 : decode c_M_end 33 = .ok (.iload_n 2, 1) := by decide +kernel
theorem d_M_end_34 : decode c_M_end 34 = .ok (.ifCond .ne 12, 3) := by decide +kernel
theorem d_M_end_37 : decode c_M_end 37 = .ok (.aload_n 0, 1) := by decide +kernel
theorem d_M_end_38 : decode c_M_end 38 = .ok (.getfield 23, 3) := by decide +kernel
theorem d_M_end_41 : decode c_M_end 41 = .ok (.iload_n 1, 1) := by decide +kernel
theorem d_M_end_42 : decode c_M_end 42 = .ok (.iaload, 1) := by decide +kernel
theorem d_M_end_43 : decode c_M_end 43 = .ok (.goto 9, 3) := by decide +kernel
theorem d_M_end_46 : decode c_M_end 46 = .ok (.aload_n 0, 1) := by decide +kernel
theorem d_M_end_47 : decode c_M_end 47 = .ok (.getfield 26, 3) := by decide +kernel
theorem d_M_end_50 : decode c_M_end 50 = .ok (.iload_n 1, 1) := by decide +kernel
theorem d_M_end_51 : decode c_M_end 51 = .ok (.iaload, 1) := by decide +kernel
theorem d_M_end_52 : decode c_M_end 52 = .ok (.ireturn, 1) := by decide +kernel
theorem d_M_within_0 : decode c_M_within 0 = .ok (.aload_n 0, 1) := by decide +kernel
theorem d_M_within_1 : decode c_M_within 1 = .ok (.iload_n 1, 1) := by decide +kernel
theorem d_M_within_2 : decode c_M_within 2 = .ok (.invokevirtual 144, 3) := by decide +kernel
theorem d_M_within_5 : decode c_M_within 5 = .ok (.ifCond .eq 15, 3) := by decide +kernel
theorem d_M_within_8 : decode c_M_within 8 = .ok (.aload_n 0, 1) := by decide +kernel
theorem d_M_within_9 : decode c_M_within 9 = .ok (.iload_n 2, 1) := by decide +kernel
theorem d_M_within_10 : decode c_M_within 10 = .ok (.invokevirtual 125, 3) := by decide +kernel
theorem d_M_within_13 : decode c_M_within 13 = .ok (.ifCond .eq 7, 3) := by decide +kernel
theorem d_M_within_16 : decode c_M_within 16 = .ok (.iconst 1, 1) := by decide +kernel
theorem d_M_within_17 : decode c_M_within 17 = .ok (.goto 4, 3) := by decide +kernel
theorem d_M_within_20 : decode c_M_within 20 = .ok (.iconst 0, 1) := by decide +kernel
theorem d_M_within_21 : decode c_M_within 21 = .ok (.istore_n 3, 1) := by decide +kernel
theorem d_M_within_22 : decode c_M_within 22 = .ok (.aload_n 0, 1) := by decide +kernel
theorem d_M_within_23 : decode c_M_within 23 = .ok (.iload_n 3, 1) := by decide +kernel
theorem d_M_within_24 : decode c_M_within 24 = .ok (.iconst 1, 1) := by decide +kernel
theorem d_M_within_25 : decode c_M_within 25 = .ok (.iconst 1, 1) := by decide +kernel
theorem d_M_within_26 : decode c_M_within 26 = .ok (.invokevirtual 118, 3) := by decide +kernel
theorem d_M_within_29 : decode c_M_within 29 = .ok (.ifCond .eq 35, 3) := by decide +kernel
theorem d_M_within_32 : decode c_M_within 32 = .ok (.aload_n 0, 1) := by decide +kernel
theorem d_M_within_33 : decode c_M_within 33 = .ok (.aload_n 0, 1) := by decide +kernel
theorem d_M_within_34 : decode c_M_within 34 = .ok (.getfield 23, 3) := by decide +kernel
theorem d_M_within_37 : decode c_M_within 37 = .ok (.iload_n 1, 1) := by decide +kernel
theorem d_M_within_38 : decode c_M_within 38 = .ok (.iaload, 1) := by decide +kernel
theorem d_M_within_39 : decode c_M_within 39 = .ok (.iload_n 2, 1) := by decide +kernel
theorem d_M_within_40 : decode c_M_within 40 = .ok (.invokevirtual 135, 3) := by decide +kernel
theorem d_M_within_43 : decode c_M_within 43 = .ok (.ifCond .gt 21, 3) := by decide +kernel
theorem d_M_within_46 : decode c_M_within 46 = .ok (.aload_n 0, 1) := by decide +kernel
theorem d_M_within_47 : decode c_M_within 47 = .ok (.iload_n 2, 1) := by decide +kernel
theorem d_M_within_48 : decode c_M_within 48 = .ok (.aload_n 0, 1) := by decide +kernel
theorem d_M_within_49 : decode c_M_within 49 = .ok (.getfield 26, 3) := by decide +kernel
theorem d_M_within_52 : decode c_M_within 52 = .ok (.iload_n 1, 1) := by decide +kernel
theorem d_M_within_53 : decode c_M_within 53 = .ok (.iaload, 1) := by decide +kernel
theorem d_M_within_54 : decode c_M_within 54 = .ok (.invokevirtual 135, 3) := by decide +kernel
theorem d_M_within_57 : decode c_M_within 57 = .ok (.ifCond .gt 7, 3) := by decide +kernel
theorem d_M_within_60 : decode c_M_within 60 = .ok (.iconst 1, 1) := by decide +kernel
theorem d_M_within_61 : decode c_M_within 61 = .ok (.goto 4, 3) := by decide +kernel
theorem d_M_within_64 : decode c_M_within 64 = .ok (.iconst 0, 1) := by decide +kernel
theorem d_M_within_65 : decode c_M_within 65 = .ok (.ireturn, 1) := by decide +kernel
theorem d_M_weight_0 : decode c_M_weight 0 = .ok (.aload_n 0, 1) := by decide +kernel
theorem d_M_weight_1 : decode c_M_weight 1 = .ok (.lload_n 1, 1) := by decide +kernel
theorem d_M_weight_2 : decode c_M_weight 2 = .ok (.lconst 0, 1) := by decide +kernel
theorem d_M_weight_3 : decode c_M_weight 3 = .ok (.lcmp, 1) := by decide +kernel
theorem d_M_weight_4 : decode c_M_weight 4 = .ok (.ifCond .lt 15, 3) := by decide +kernel
theorem d_M_weight_7 : decode c_M_weight 7 = .ok (.lload_n 1, 1) := by decide +kernel
theorem d_M_weight_8 : decode c_M_weight 8 = .ok (.ldc2_w 138, 3) := by decide +kernel
theorem d_M_weight_11 : decode c_M_weight 11 = .ok (.lcmp, 1) := by decide +kernel
theorem d_M_weight_12 : decode c_M_weight 12 = .ok (.ifCond .gt 7, 3) := by decide +kernel
theorem d_M_weight_15 : decode c_M_weight 15 = .ok (.iconst 1, 1) := by decide +kernel
theorem d_M_weight_16 : decode c_M_weight 16 = .ok (.goto 4, 3) := by decide +kernel
theorem d_M_weight_19 : decode c_M_weight 19 = .ok (.iconst 0, 1) := by decide +kernel
theorem d_M_weight_20 : decode c_M_weight 20 = .ok (.aload_n 0, 1) := by decide +kernel
theorem d_M_weight_21 : decode c_M_weight 21 = .ok (.getfield 147, 3) := by decide +kernel
theorem d_M_weight_24 : decode c_M_weight 24 = .ok (.bipush 20, 2) := by decide +kernel
theorem d_M_weight_26 : decode c_M_weight 26 = .ok (.if_icmp .ge 7, 3) := by decide +kernel
theorem d_M_weight_29 : decode c_M_weight 29 = .ok (.iconst 1, 1) := by decide +kernel
theorem d_M_weight_30 : decode c_M_weight 30 = .ok (.goto 4, 3) := by decide +kernel
theorem d_M_weight_33 : decode c_M_weight 33 = .ok (.iconst 0, 1) := by decide +kernel
theorem d_M_weight_34 : decode c_M_weight 34 = .ok (.iconst 1, 1) := by decide +kernel
theorem d_M_weight_35 : decode c_M_weight 35 = .ok (.invokevirtual 118, 3) := by decide +kernel
theorem d_M_weight_38 : decode c_M_weight 38 = .ok (.ifCond .ne 5, 3) := by decide +kernel
theorem d_M_weight_41 : decode c_M_weight 41 = .ok (.iconst 0, 1) := by decide +kernel
theorem d_M_weight_42 : decode c_M_weight 42 = .ok (.ireturn, 1) := by decide +kernel
theorem d_M_weight_43 : decode c_M_weight 43 = .ok (.aload_n 0, 1) := by decide +kernel
theorem d_M_weight_44 : decode c_M_weight 44 = .ok (.getfield 29, 3) := by decide +kernel
theorem d_M_weight_47 : decode c_M_weight 47 = .ok (.aload_n 0, 1) := by decide +kernel
theorem d_M_weight_48 : decode c_M_weight 48 = .ok (.getfield 147, 3) := by decide +kernel
theorem d_M_weight_51 : decode c_M_weight 51 = .ok (.lload_n 1, 1) := by decide +kernel
theorem d_M_weight_52 : decode c_M_weight 52 = .ok (.lastore, 1) := by decide +kernel
theorem d_M_weight_53 : decode c_M_weight 53 = .ok (.aload_n 0, 1) := by decide +kernel
theorem d_M_weight_54 : decode c_M_weight 54 = .ok (.dup, 1) := by decide +kernel
theorem d_M_weight_55 : decode c_M_weight 55 = .ok (.getfield 147, 3) := by decide +kernel
theorem d_M_weight_58 : decode c_M_weight 58 = .ok (.iconst 1, 1) := by decide +kernel
theorem d_M_weight_59 : decode c_M_weight 59 = .ok (.iadd, 1) := by decide +kernel
theorem d_M_weight_60 : decode c_M_weight 60 = .ok (.putfield 147, 3) := by decide +kernel
theorem d_M_weight_63 : decode c_M_weight 63 = .ok (.aload_n 0, 1) := by decide +kernel
theorem d_M_weight_64 : decode c_M_weight 64 = .ok (.getfield 147, 3) := by decide +kernel
theorem d_M_weight_67 : decode c_M_weight 67 = .ok (.ireturn, 1) := by decide +kernel
theorem d_M_share_0 : decode c_M_share 0 = .ok (.lconst 0, 1) := by decide +kernel
theorem d_M_share_1 : decode c_M_share 1 = .ok (.lstore 4, 2) := by decide +kernel
theorem d_M_share_3 : decode c_M_share 3 = .ok (.iconst 0, 1) := by decide +kernel
theorem d_M_share_4 : decode c_M_share 4 = .ok (.istore 6, 2) := by decide +kernel
theorem d_M_share_6 : decode c_M_share 6 = .ok (.iload 6, 2) := by decide +kernel
theorem d_M_share_8 : decode c_M_share 8 = .ok (.aload_n 0, 1) := by decide +kernel
theorem d_M_share_9 : decode c_M_share 9 = .ok (.getfield 147, 3) := by decide +kernel
theorem d_M_share_12 : decode c_M_share 12 = .ok (.if_icmp .ge 21, 3) := by decide +kernel
theorem d_M_share_15 : decode c_M_share 15 = .ok (.lload 4, 2) := by decide +kernel
theorem d_M_share_17 : decode c_M_share 17 = .ok (.aload_n 0, 1) := by decide +kernel
theorem d_M_share_18 : decode c_M_share 18 = .ok (.getfield 29, 3) := by decide +kernel
theorem d_M_share_21 : decode c_M_share 21 = .ok (.iload 6, 2) := by decide +kernel
theorem d_M_share_23 : decode c_M_share 23 = .ok (.laload, 1) := by decide +kernel
theorem d_M_share_24 : decode c_M_share 24 = .ok (.ladd, 1) := by decide +kernel
theorem d_M_share_25 : decode c_M_share 25 = .ok (.lstore 4, 2) := by decide +kernel
theorem d_M_share_27 : decode c_M_share 27 = .ok (.iinc 6 1, 3) := by decide +kernel
theorem d_M_share_30 : decode c_M_share 30 = .ok (.goto (-24), 3) := by decide +kernel
theorem d_M_share_33 : decode c_M_share 33 = .ok (.aload_n 0, 1) := by decide +kernel
theorem d_M_share_34 : decode c_M_share 34 = .ok (.iload_n 3, 1) := by decide +kernel
theorem d_M_share_35 : decode c_M_share 35 = .ok (.ifCond .lt 15, 3) := by decide +kernel
theorem d_M_share_38 : decode c_M_share 38 = .ok (.iload_n 3, 1) := by decide +kernel
theorem d_M_share_39 : decode c_M_share 39 = .ok (.aload_n 0, 1) := by decide +kernel
theorem d_M_share_40 : decode c_M_share 40 = .ok (.getfield 147, 3) := by decide +kernel
theorem d_M_share_43 : decode c_M_share 43 = .ok (.if_icmp .ge 7, 3) := by decide +kernel
theorem d_M_share_46 : decode c_M_share 46 = .ok (.iconst 1, 1) := by decide +kernel
theorem d_M_share_47 : decode c_M_share 47 = .ok (.goto 4, 3) := by decide +kernel
theorem d_M_share_50 : decode c_M_share 50 = .ok (.iconst 0, 1) := by decide +kernel
theorem d_M_share_51 : decode c_M_share 51 = .ok (.lload_n 1, 1) := by decide +kernel
theorem d_M_share_52 : decode c_M_share 52 = .ok (.lconst 0, 1) := by decide +kernel
theorem d_M_share_53 : decode c_M_share 53 = .ok (.lcmp, 1) := by decide +kernel
theorem d_M_share_54 : decode c_M_share 54 = .ok (.ifCond .lt 15, 3) := by decide +kernel
theorem d_M_share_57 : decode c_M_share 57 = .ok (.lload_n 1, 1) := by decide +kernel
theorem d_M_share_58 : decode c_M_share 58 = .ok (.ldc2_w 138, 3) := by decide +kernel
theorem d_M_share_61 : decode c_M_share 61 = .ok (.lcmp, 1) := by decide +kernel
theorem d_M_share_62 : decode c_M_share 62 = .ok (.ifCond .gt 7, 3) := by decide +kernel
theorem d_M_share_65 : decode c_M_share 65 = .ok (.iconst 1, 1) := by decide +kernel
theorem d_M_share_66 : decode c_M_share 66 = .ok (.goto 4, 3) := by decide +kernel
theorem d_M_share_69 : decode c_M_share 69 = .ok (.iconst 0, 1) := by decide +kernel
theorem d_M_share_70 : decode c_M_share 70 = .ok (.lload 4, 2) := by decide +kernel
theorem d_M_share_72 : decode c_M_share 72 = .ok (.lconst 0, 1) := by decide +kernel
theorem d_M_share_73 : decode c_M_share 73 = .ok (.lcmp, 1) := by decide +kernel
theorem d_M_share_74 : decode c_M_share 74 = .ok (.ifCond .le 7, 3) := by decide +kernel
theorem d_M_share_77 : decode c_M_share 77 = .ok (.iconst 1, 1) := by decide +kernel
theorem d_M_share_78 : decode c_M_share 78 = .ok (.goto 4, 3) := by decide +kernel
theorem d_M_share_81 : decode c_M_share 81 = .ok (.iconst 0, 1) := by decide +kernel
theorem d_M_share_82 : decode c_M_share 82 = .ok (.invokevirtual 118, 3) := by decide +kernel
theorem d_M_share_85 : decode c_M_share 85 = .ok (.ifCond .ne 5, 3) := by decide +kernel
theorem d_M_share_88 : decode c_M_share 88 = .ok (.lconst 0, 1) := by decide +kernel
theorem d_M_share_89 : decode c_M_share 89 = .ok (.lreturn, 1) := by decide +kernel
theorem d_M_share_90 : decode c_M_share 90 = .ok (.lload_n 1, 1) := by decide +kernel
theorem d_M_share_91 : decode c_M_share 91 = .ok (.lstore 6, 2) := by decide +kernel
theorem d_M_share_93 : decode c_M_share 93 = .ok (.iconst 0, 1) := by decide +kernel
theorem d_M_share_94 : decode c_M_share 94 = .ok (.istore 8, 2) := by decide +kernel
theorem d_M_share_96 : decode c_M_share 96 = .ok (.iload 8, 2) := by decide +kernel
theorem d_M_share_98 : decode c_M_share 98 = .ok (.aload_n 0, 1) := by decide +kernel
theorem d_M_share_99 : decode c_M_share 99 = .ok (.getfield 147, 3) := by decide +kernel
theorem d_M_share_102 : decode c_M_share 102 = .ok (.if_icmp .ge 26, 3) := by decide +kernel
theorem d_M_share_105 : decode c_M_share 105 = .ok (.lload 6, 2) := by decide +kernel
theorem d_M_share_107 : decode c_M_share 107 = .ok (.lload_n 1, 1) := by decide +kernel
theorem d_M_share_108 : decode c_M_share 108 = .ok (.aload_n 0, 1) := by decide +kernel
theorem d_M_share_109 : decode c_M_share 109 = .ok (.getfield 29, 3) := by decide +kernel
theorem d_M_share_112 : decode c_M_share 112 = .ok (.iload 8, 2) := by decide +kernel
theorem d_M_share_114 : decode c_M_share 114 = .ok (.laload, 1) := by decide +kernel
theorem d_M_share_115 : decode c_M_share 115 = .ok (.lmul, 1) := by decide +kernel
theorem d_M_share_116 : decode c_M_share 116 = .ok (.lload 4, 2) := by decide +kernel
theorem d_M_share_118 : decode c_M_share 118 = .ok (.ldiv, 1) := by decide +kernel
theorem d_M_share_119 : decode c_M_share 119 = .ok (.lsub, 1) := by decide +kernel
theorem d_M_share_120 : decode c_M_share 120 = .ok (.lstore 6, 2) := by decide +kernel
theorem d_M_share_122 : decode c_M_share 122 = .ok (.iinc 8 1, 3) := by decide +kernel
theorem d_M_share_125 : decode c_M_share 125 = .ok (.goto (-29), 3) := by decide +kernel
theorem d_M_share_128 : decode c_M_share 128 = .ok (.iconst 0, 1) := by decide +kernel
theorem d_M_share_129 : decode c_M_share 129 = .ok (.istore 8, 2) := by decide +kernel
theorem d_M_share_131 : decode c_M_share 131 = .ok (.iconst 0, 1) := by decide +kernel
theorem d_M_share_132 : decode c_M_share 132 = .ok (.istore 9, 2) := by decide +kernel
theorem d_M_share_134 : decode c_M_share 134 = .ok (.iload 9, 2) := by decide +kernel
theorem d_M_share_136 : decode c_M_share 136 = .ok (.aload_n 0, 1) := by decide +kernel
theorem d_M_share_137 : decode c_M_share 137 = .ok (.getfield 147, 3) := by decide +kernel
theorem d_M_share_140 : decode c_M_share 140 = .ok (.if_icmp .ge 61, 3) := by decide +kernel
theorem d_M_share_143 : decode c_M_share 143 = .ok (.lload_n 1, 1) := by decide +kernel
theorem d_M_share_144 : decode c_M_share 144 = .ok (.aload_n 0, 1) := by decide +kernel
theorem d_M_share_145 : decode c_M_share 145 = .ok (.getfield 29, 3) := by decide +kernel
theorem d_M_share_148 : decode c_M_share 148 = .ok (.iload 9, 2) := by decide +kernel
theorem d_M_share_150 : decode c_M_share 150 = .ok (.laload, 1) := by decide +kernel
theorem d_M_share_151 : decode c_M_share 151 = .ok (.lmul, 1) := by decide +kernel
theorem d_M_share_152 : decode c_M_share 152 = .ok (.lload 4, 2) := by decide +kernel
theorem d_M_share_154 : decode c_M_share 154 = .ok (.lrem, 1) := by decide +kernel
theorem d_M_share_155 : decode c_M_share 155 = .ok (.lstore 10, 2) := by decide +kernel
theorem d_M_share_157 : decode c_M_share 157 = .ok (.lload_n 1, 1) := by decide +kernel
theorem d_M_share_158 : decode c_M_share 158 = .ok (.aload_n 0, 1) := by decide +kernel
theorem d_M_share_159 : decode c_M_share 159 = .ok (.getfield 29, 3) := by decide +kernel
theorem d_M_share_162 : decode c_M_share 162 = .ok (.iload_n 3, 1) := by decide +kernel
theorem d_M_share_163 : decode c_M_share 163 = .ok (.laload, 1) := by decide +kernel
theorem d_M_share_164 : decode c_M_share 164 = .ok (.lmul, 1) := by decide +kernel
theorem d_M_share_165 : decode c_M_share 165 = .ok (.lload 4, 2) := by decide +kernel
theorem d_M_share_167 : decode c_M_share 167 = .ok (.lrem, 1) := by decide +kernel
theorem d_M_share_168 : decode c_M_share 168 = .ok (.lstore 12, 2) := by decide +kernel
theorem d_M_share_170 : decode c_M_share 170 = .ok (.lload 10, 2) := by decide +kernel
theorem d_M_share_172 : decode c_M_share 172 = .ok (.lload 12, 2) := by decide +kernel
theorem d_M_share_174 : decode c_M_share 174 = .ok (.lcmp, 1) := by decide +kernel
theorem d_M_share_175 : decode c_M_share 175 = .ok (.ifCond .gt 17, 3) := by decide +kernel
theorem d_M_share_178 : decode c_M_share 178 = .ok (.lload 10, 2) := by decide +kernel
theorem d_M_share_180 : decode c_M_share 180 = .ok (.lload 12, 2) := by decide +kernel
theorem d_M_share_182 : decode c_M_share 182 = .ok (.lcmp, 1) := by decide +kernel
theorem d_M_share_183 : decode c_M_share 183 = .ok (.ifCond .ne 12, 3) := by decide +kernel
theorem d_M_share_186 : decode c_M_share 186 = .ok (.iload 9, 2) := by decide +kernel
theorem d_M_share_188 : decode c_M_share 188 = .ok (.iload_n 3, 1) := by decide +kernel
theorem d_M_share_189 : decode c_M_share 189 = .ok (.if_icmp .ge 6, 3) := by decide +kernel
theorem d_M_share_192 : decode c_M_share 192 = .ok (.iinc 8 1, 3) := by decide +kernel
theorem d_M_share_195 : decode c_M_share 195 = .ok (.iinc 9 1, 3) := by decide +kernel
theorem d_M_share_198 : decode c_M_share 198 = .ok (.goto (-64), 3) := by decide +kernel
theorem d_M_share_201 : decode c_M_share 201 = .ok (.lload_n 1, 1) := by decide +kernel
theorem d_M_share_202 : decode c_M_share 202 = .ok (.aload_n 0, 1) := by decide +kernel
theorem d_M_share_203 : decode c_M_share 203 = .ok (.getfield 29, 3) := by decide +kernel
theorem d_M_share_206 : decode c_M_share 206 = .ok (.iload_n 3, 1) := by decide +kernel
theorem d_M_share_207 : decode c_M_share 207 = .ok (.laload, 1) := by decide +kernel
theorem d_M_share_208 : decode c_M_share 208 = .ok (.lmul, 1) := by decide +kernel
theorem d_M_share_209 : decode c_M_share 209 = .ok (.lload 4, 2) := by decide +kernel
theorem d_M_share_211 : decode c_M_share 211 = .ok (.ldiv, 1) := by decide +kernel
theorem d_M_share_212 : decode c_M_share 212 = .ok (.iload 8, 2) := by decide +kernel
theorem d_M_share_214 : decode c_M_share 214 = .ok (.i2l, 1) := by decide +kernel
theorem d_M_share_215 : decode c_M_share 215 = .ok (.lload 6, 2) := by decide +kernel
theorem d_M_share_217 : decode c_M_share 217 = .ok (.lcmp, 1) := by decide +kernel
theorem d_M_share_218 : decode c_M_share 218 = .ok (.ifCond .ge 7, 3) := by decide +kernel
theorem d_M_share_221 : decode c_M_share 221 = .ok (.lconst 1, 1) := by decide +kernel
theorem d_M_share_222 : decode c_M_share 222 = .ok (.goto 4, 3) := by decide +kernel
theorem d_M_share_225 : decode c_M_share 225 = .ok (.lconst 0, 1) := by decide +kernel
theorem d_M_share_226 : decode c_M_share 226 = .ok (.ladd, 1) := by decide +kernel
theorem d_M_share_227 : decode c_M_share 227 = .ok (.lreturn, 1) := by decide +kernel
theorem d_M_giving_0 : decode c_M_giving 0 = .ok (.aload_n 0, 1) := by decide +kernel
theorem d_M_giving_1 : decode c_M_giving 1 = .ok (.aload_n 0, 1) := by decide +kernel
theorem d_M_giving_2 : decode c_M_giving 2 = .ok (.iload_n 1, 1) := by decide +kernel
theorem d_M_giving_3 : decode c_M_giving 3 = .ok (.invokevirtual 125, 3) := by decide +kernel
theorem d_M_giving_6 : decode c_M_giving 6 = .ok (.aload_n 0, 1) := by decide +kernel
theorem d_M_giving_7 : decode c_M_giving 7 = .ok (.getfield 42, 3) := by decide +kernel
theorem d_M_giving_10 : decode c_M_giving 10 = .ok (.bipush 100, 2) := by decide +kernel
theorem d_M_giving_12 : decode c_M_giving 12 = .ok (.if_icmp .ge 7, 3) := by decide +kernel
theorem d_M_giving_15 : decode c_M_giving 15 = .ok (.iconst 1, 1) := by decide +kernel
theorem d_M_giving_16 : decode c_M_giving 16 = .ok (.goto 4, 3) := by decide +kernel
theorem d_M_giving_19 : decode c_M_giving 19 = .ok (.iconst 0, 1) := by decide +kernel
theorem d_M_giving_20 : decode c_M_giving 20 = .ok (.iconst 1, 1) := by decide +kernel
theorem d_M_giving_21 : decode c_M_giving 21 = .ok (.invokevirtual 118, 3) := by decide +kernel
theorem d_M_giving_24 : decode c_M_giving 24 = .ok (.ifCond .ne 5, 3) := by decide +kernel
theorem d_M_giving_27 : decode c_M_giving 27 = .ok (.iconst 0, 1) := by decide +kernel
theorem d_M_giving_28 : decode c_M_giving 28 = .ok (.ireturn, 1) := by decide +kernel
theorem d_M_giving_29 : decode c_M_giving 29 = .ok (.aload_n 0, 1) := by decide +kernel
theorem d_M_giving_30 : decode c_M_giving 30 = .ok (.bipush 6, 2) := by decide +kernel
theorem d_M_giving_32 : decode c_M_giving 32 = .ok (.invokevirtual 48, 3) := by decide +kernel
theorem d_M_giving_35 : decode c_M_giving 35 = .ok (.aload_n 0, 1) := by decide +kernel
theorem d_M_giving_36 : decode c_M_giving 36 = .ok (.iconst 3, 1) := by decide +kernel
theorem d_M_giving_37 : decode c_M_giving 37 = .ok (.invokevirtual 48, 3) := by decide +kernel
theorem d_M_giving_40 : decode c_M_giving 40 = .ok (.iconst 0, 1) := by decide +kernel
theorem d_M_giving_41 : decode c_M_giving 41 = .ok (.istore_n 2, 1) := by decide +kernel
theorem d_M_giving_42 : decode c_M_giving 42 = .ok (.iload_n 2, 1) := by decide +kernel
theorem d_M_giving_43 : decode c_M_giving 43 = .ok (.bipush 8, 2) := by decide +kernel
theorem d_M_giving_45 : decode c_M_giving 45 = .ok (.if_icmp .ge 39, 3) := by decide +kernel
theorem d_M_giving_48 : decode c_M_giving 48 = .ok (.aload_n 0, 1) := by decide +kernel
theorem d_M_giving_49 : decode c_M_giving 49 = .ok (.getfield 7, 3) := by decide +kernel
theorem d_M_giving_52 : decode c_M_giving 52 = .ok (.bipush 120, 2) := by decide +kernel
theorem d_M_giving_54 : decode c_M_giving 54 = .ok (.iload_n 2, 1) := by decide +kernel
theorem d_M_giving_55 : decode c_M_giving 55 = .ok (.iadd, 1) := by decide +kernel
theorem d_M_giving_56 : decode c_M_giving 56 = .ok (.aload_n 0, 1) := by decide +kernel
theorem d_M_giving_57 : decode c_M_giving 57 = .ok (.getfield 32, 3) := by decide +kernel
theorem d_M_giving_60 : decode c_M_giving 60 = .ok (.iload_n 2, 1) := by decide +kernel
theorem d_M_giving_61 : decode c_M_giving 61 = .ok (.laload, 1) := by decide +kernel
theorem d_M_giving_62 : decode c_M_giving 62 = .ok (.lastore, 1) := by decide +kernel
theorem d_M_giving_63 : decode c_M_giving 63 = .ok (.aload_n 0, 1) := by decide +kernel
theorem d_M_giving_64 : decode c_M_giving 64 = .ok (.getfield 7, 3) := by decide +kernel
theorem d_M_giving_67 : decode c_M_giving 67 = .ok (.bipush 60, 2) := by decide +kernel
