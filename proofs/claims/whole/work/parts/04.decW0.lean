theorem d_W_init_0 : decode c_W_init 0 = .ok (.aload_n 0, 1) := by decide +kernel
theorem d_W_init_1 : decode c_W_init 1 = .ok (.invokespecial 3, 3) := by decide +kernel
theorem d_W_init_4 : decode c_W_init 4 = .ok (.aload_n 0, 1) := by decide +kernel
theorem d_W_init_5 : decode c_W_init 5 = .ok (.bipush 12, 2) := by decide +kernel
theorem d_W_init_7 : decode c_W_init 7 = .ok (.newarray .int, 2) := by decide +kernel
theorem d_W_init_9 : decode c_W_init 9 = .ok (.putfield 9, 3) := by decide +kernel
theorem d_W_init_12 : decode c_W_init 12 = .ok (.aload_n 0, 1) := by decide +kernel
theorem d_W_init_13 : decode c_W_init 13 = .ok (.iconst 0, 1) := by decide +kernel
theorem d_W_init_14 : decode c_W_init 14 = .ok (.putfield 15, 3) := by decide +kernel
theorem d_W_init_17 : decode c_W_init 17 = .ok (.return_, 1) := by decide +kernel
theorem d_W_becomeSizeOf_0 : decode c_W_becomeSizeOf 0 = .ok (.aload_n 0, 1) := by decide +kernel
theorem d_W_becomeSizeOf_1 : decode c_W_becomeSizeOf 1 = .ok (.invokevirtual 30, 3) := by decide +kernel
theorem d_W_becomeSizeOf_4 : decode c_W_becomeSizeOf 4 = .ok (.lload_n 1, 1) := by decide +kernel
theorem d_W_becomeSizeOf_5 : decode c_W_becomeSizeOf 5 = .ok (.lconst 0, 1) := by decide +kernel
theorem d_W_becomeSizeOf_6 : decode c_W_becomeSizeOf 6 = .ok (.lcmp, 1) := by decide +kernel
theorem d_W_becomeSizeOf_7 : decode c_W_becomeSizeOf 7 = .ok (.ifCond .ge 7, 3) := by decide +kernel
theorem d_W_becomeSizeOf_10 : decode c_W_becomeSizeOf 10 = .ok (.lload_n 1, 1) := by decide +kernel
theorem d_W_becomeSizeOf_11 : decode c_W_becomeSizeOf 11 = .ok (.goto 5, 3) := by decide +kernel
theorem d_W_becomeSizeOf_14 : decode c_W_becomeSizeOf 14 = .ok (.lload_n 1, 1) := by decide +kernel
theorem d_W_becomeSizeOf_15 : decode c_W_becomeSizeOf 15 = .ok (.lneg, 1) := by decide +kernel
theorem d_W_becomeSizeOf_16 : decode c_W_becomeSizeOf 16 = .ok (.lstore_n 3, 1) := by decide +kernel
theorem d_W_becomeSizeOf_17 : decode c_W_becomeSizeOf 17 = .ok (.iconst 0, 1) := by decide +kernel
theorem d_W_becomeSizeOf_18 : decode c_W_becomeSizeOf 18 = .ok (.istore 5, 2) := by decide +kernel
theorem d_W_becomeSizeOf_20 : decode c_W_becomeSizeOf 20 = .ok (.iload 5, 2) := by decide +kernel
theorem d_W_becomeSizeOf_22 : decode c_W_becomeSizeOf 22 = .ok (.bipush 12, 2) := by decide +kernel
theorem d_W_becomeSizeOf_24 : decode c_W_becomeSizeOf 24 = .ok (.if_icmp .ge 35, 3) := by decide +kernel
theorem d_W_becomeSizeOf_27 : decode c_W_becomeSizeOf 27 = .ok (.lload_n 3, 1) := by decide +kernel
theorem d_W_becomeSizeOf_28 : decode c_W_becomeSizeOf 28 = .ok (.lconst 0, 1) := by decide +kernel
theorem d_W_becomeSizeOf_29 : decode c_W_becomeSizeOf 29 = .ok (.lcmp, 1) := by decide +kernel
theorem d_W_becomeSizeOf_30 : decode c_W_becomeSizeOf 30 = .ok (.ifCond .eq 29, 3) := by decide +kernel
theorem d_W_becomeSizeOf_33 : decode c_W_becomeSizeOf 33 = .ok (.aload_n 0, 1) := by decide +kernel
theorem d_W_becomeSizeOf_34 : decode c_W_becomeSizeOf 34 = .ok (.getfield 9, 3) := by decide +kernel
theorem d_W_becomeSizeOf_37 : decode c_W_becomeSizeOf 37 = .ok (.iload 5, 2) := by decide +kernel
theorem d_W_becomeSizeOf_39 : decode c_W_becomeSizeOf 39 = .ok (.lload_n 3, 1) := by decide +kernel
theorem d_W_becomeSizeOf_40 : decode c_W_becomeSizeOf 40 = .ok (.ldc2_w 23, 3) := by decide +kernel
theorem d_W_becomeSizeOf_43 : decode c_W_becomeSizeOf 43 = .ok (.lrem, 1) := by decide +kernel
theorem d_W_becomeSizeOf_44 : decode c_W_becomeSizeOf 44 = .ok (.lneg, 1) := by decide +kernel
theorem d_W_becomeSizeOf_45 : decode c_W_becomeSizeOf 45 = .ok (.l2i, 1) := by decide +kernel
theorem d_W_becomeSizeOf_46 : decode c_W_becomeSizeOf 46 = .ok (.iastore, 1) := by decide +kernel
theorem d_W_becomeSizeOf_47 : decode c_W_becomeSizeOf 47 = .ok (.lload_n 3, 1) := by decide +kernel
theorem d_W_becomeSizeOf_48 : decode c_W_becomeSizeOf 48 = .ok (.ldc2_w 23, 3) := by decide +kernel
theorem d_W_becomeSizeOf_51 : decode c_W_becomeSizeOf 51 = .ok (.ldiv, 1) := by decide +kernel
theorem d_W_becomeSizeOf_52 : decode c_W_becomeSizeOf 52 = .ok (.lstore_n 3, 1) := by decide +kernel
theorem d_W_becomeSizeOf_53 : decode c_W_becomeSizeOf 53 = .ok (.iinc 5 1, 3) := by decide +kernel
theorem d_W_becomeSizeOf_56 : decode c_W_becomeSizeOf 56 = .ok (.goto (-36), 3) := by decide +kernel
theorem d_W_becomeSizeOf_59 : decode c_W_becomeSizeOf 59 = .ok (.aload_n 0, 1) := by decide +kernel
theorem d_W_becomeSizeOf_60 : decode c_W_becomeSizeOf 60 = .ok (.bipush 12, 2) := by decide +kernel
theorem d_W_becomeSizeOf_62 : decode c_W_becomeSizeOf 62 = .ok (.invokevirtual 33, 3) := by decide +kernel
theorem d_W_becomeSizeOf_65 : decode c_W_becomeSizeOf 65 = .ok (.return_, 1) := by decide +kernel
theorem d_W_becomeZero_0 : decode c_W_becomeZero 0 = .ok (.iconst 0, 1) := by decide +kernel
theorem d_W_becomeZero_1 : decode c_W_becomeZero 1 = .ok (.istore_n 1, 1) := by decide +kernel
theorem d_W_becomeZero_2 : decode c_W_becomeZero 2 = .ok (.iload_n 1, 1) := by decide +kernel
theorem d_W_becomeZero_3 : decode c_W_becomeZero 3 = .ok (.bipush 12, 2) := by decide +kernel
theorem d_W_becomeZero_5 : decode c_W_becomeZero 5 = .ok (.if_icmp .ge 16, 3) := by decide +kernel
theorem d_W_becomeZero_8 : decode c_W_becomeZero 8 = .ok (.aload_n 0, 1) := by decide +kernel
theorem d_W_becomeZero_9 : decode c_W_becomeZero 9 = .ok (.getfield 9, 3) := by decide +kernel
theorem d_W_becomeZero_12 : decode c_W_becomeZero 12 = .ok (.iload_n 1, 1) := by decide +kernel
theorem d_W_becomeZero_13 : decode c_W_becomeZero 13 = .ok (.iconst 0, 1) := by decide +kernel
theorem d_W_becomeZero_14 : decode c_W_becomeZero 14 = .ok (.iastore, 1) := by decide +kernel
theorem d_W_becomeZero_15 : decode c_W_becomeZero 15 = .ok (.iinc 1 1, 3) := by decide +kernel
theorem d_W_becomeZero_18 : decode c_W_becomeZero 18 = .ok (.goto (-16), 3) := by decide +kernel
theorem d_W_becomeZero_21 : decode c_W_becomeZero 21 = .ok (.aload_n 0, 1) := by decide +kernel
theorem d_W_becomeZero_22 : decode c_W_becomeZero 22 = .ok (.iconst 0, 1) := by decide +kernel
theorem d_W_becomeZero_23 : decode c_W_becomeZero 23 = .ok (.putfield 15, 3) := by decide +kernel
theorem d_W_becomeZero_26 : decode c_W_becomeZero 26 = .ok (.return_, 1) := by decide +kernel
theorem d_W_dropZerosFrom_0 : decode c_W_dropZerosFrom 0 = .ok (.aload_n 0, 1) := by decide +kernel
theorem d_W_dropZerosFrom_1 : decode c_W_dropZerosFrom 1 = .ok (.iload_n 1, 1) := by decide +kernel
theorem d_W_dropZerosFrom_2 : decode c_W_dropZerosFrom 2 = .ok (.putfield 15, 3) := by decide +kernel
theorem d_W_dropZerosFrom_5 : decode c_W_dropZerosFrom 5 = .ok (.aload_n 0, 1) := by decide +kernel
theorem d_W_dropZerosFrom_6 : decode c_W_dropZerosFrom 6 = .ok (.getfield 15, 3) := by decide +kernel
theorem d_W_dropZerosFrom_9 : decode c_W_dropZerosFrom 9 = .ok (.ifCond .le 30, 3) := by decide +kernel
theorem d_W_dropZerosFrom_12 : decode c_W_dropZerosFrom 12 = .ok (.aload_n 0, 1) := by decide +kernel
theorem d_W_dropZerosFrom_13 : decode c_W_dropZerosFrom 13 = .ok (.getfield 9, 3) := by decide +kernel
theorem d_W_dropZerosFrom_16 : decode c_W_dropZerosFrom 16 = .ok (.aload_n 0, 1) := by decide +kernel
theorem d_W_dropZerosFrom_17 : decode c_W_dropZerosFrom 17 = .ok (.getfield 15, 3) := by decide +kernel
theorem d_W_dropZerosFrom_20 : decode c_W_dropZerosFrom 20 = .ok (.iconst 1, 1) := by decide +kernel
theorem d_W_dropZerosFrom_21 : decode c_W_dropZerosFrom 21 = .ok (.isub, 1) := by decide +kernel
theorem d_W_dropZerosFrom_22 : decode c_W_dropZerosFrom 22 = .ok (.iaload, 1) := by decide +kernel
theorem d_W_dropZerosFrom_23 : decode c_W_dropZerosFrom 23 = .ok (.ifCond .ne 16, 3) := by decide +kernel
theorem d_W_dropZerosFrom_26 : decode c_W_dropZerosFrom 26 = .ok (.aload_n 0, 1) := by decide +kernel
theorem d_W_dropZerosFrom_27 : decode c_W_dropZerosFrom 27 = .ok (.dup, 1) := by decide +kernel
theorem d_W_dropZerosFrom_28 : decode c_W_dropZerosFrom 28 = .ok (.getfield 15, 3) := by decide +kernel
theorem d_W_dropZerosFrom_31 : decode c_W_dropZerosFrom 31 = .ok (.iconst 1, 1) := by decide +kernel
theorem d_W_dropZerosFrom_32 : decode c_W_dropZerosFrom 32 = .ok (.isub, 1) := by decide +kernel
theorem d_W_dropZerosFrom_33 : decode c_W_dropZerosFrom 33 = .ok (.putfield 15, 3) := by decide +kernel
theorem d_W_dropZerosFrom_36 : decode c_W_dropZerosFrom 36 = .ok (.goto (-31), 3) := by decide +kernel
theorem d_W_dropZerosFrom_39 : decode c_W_dropZerosFrom 39 = .ok (.return_, 1) := by decide +kernel
theorem d_W_becomeCopy_0 : decode c_W_becomeCopy 0 = .ok (.iconst 0, 1) := by decide +kernel
theorem d_W_becomeCopy_1 : decode c_W_becomeCopy 1 = .ok (.istore_n 2, 1) := by decide +kernel
theorem d_W_becomeCopy_2 : decode c_W_becomeCopy 2 = .ok (.iload_n 2, 1) := by decide +kernel
theorem d_W_becomeCopy_3 : decode c_W_becomeCopy 3 = .ok (.bipush 12, 2) := by decide +kernel
theorem d_W_becomeCopy_5 : decode c_W_becomeCopy 5 = .ok (.if_icmp .ge 21, 3) := by decide +kernel
theorem d_W_becomeCopy_8 : decode c_W_becomeCopy 8 = .ok (.aload_n 0, 1) := by decide +kernel
theorem d_W_becomeCopy_9 : decode c_W_becomeCopy 9 = .ok (.getfield 9, 3) := by decide +kernel
theorem d_W_becomeCopy_12 : decode c_W_becomeCopy 12 = .ok (.iload_n 2, 1) := by decide +kernel
theorem d_W_becomeCopy_13 : decode c_W_becomeCopy 13 = .ok (.aload_n 1, 1) := by decide +kernel
theorem d_W_becomeCopy_14 : decode c_W_becomeCopy 14 = .ok (.getfield 9, 3) := by decide +kernel
theorem d_W_becomeCopy_17 : decode c_W_becomeCopy 17 = .ok (.iload_n 2, 1) := by decide +kernel
theorem d_W_becomeCopy_18 : decode c_W_becomeCopy 18 = .ok (.iaload, 1) := by decide +kernel
theorem d_W_becomeCopy_19 : decode c_W_becomeCopy 19 = .ok (.iastore, 1) := by decide +kernel
theorem d_W_becomeCopy_20 : decode c_W_becomeCopy 20 = .ok (.iinc 2 1, 3) := by decide +kernel
theorem d_W_becomeCopy_23 : decode c_W_becomeCopy 23 = .ok (.goto (-21), 3) := by decide +kernel
theorem d_W_becomeCopy_26 : decode c_W_becomeCopy 26 = .ok (.aload_n 0, 1) := by decide +kernel
theorem d_W_becomeCopy_27 : decode c_W_becomeCopy 27 = .ok (.aload_n 1, 1) := by decide +kernel
theorem d_W_becomeCopy_28 : decode c_W_becomeCopy 28 = .ok (.getfield 15, 3) := by decide +kernel
theorem d_W_becomeCopy_31 : decode c_W_becomeCopy 31 = .ok (.putfield 15, 3) := by decide +kernel
theorem d_W_becomeCopy_34 : decode c_W_becomeCopy 34 = .ok (.return_, 1) := by decide +kernel
theorem d_W_isShort_0 : decode c_W_isShort 0 = .ok (.aload_n 0, 1) := by decide +kernel
theorem d_W_isShort_1 : decode c_W_isShort 1 = .ok (.getfield 15, 3) := by decide +kernel
theorem d_W_isShort_4 : decode c_W_isShort 4 = .ok (.iconst 2, 1) := by decide +kernel
theorem d_W_isShort_5 : decode c_W_isShort 5 = .ok (.if_icmp .gt 7, 3) := by decide +kernel
theorem d_W_isShort_8 : decode c_W_isShort 8 = .ok (.iconst 1, 1) := by decide +kernel
theorem d_W_isShort_9 : decode c_W_isShort 9 = .ok (.goto 4, 3) := by decide +kernel
theorem d_W_isShort_12 : decode c_W_isShort 12 = .ok (.iconst 0, 1) := by decide +kernel
theorem d_W_isShort_13 : decode c_W_isShort 13 = .ok (.ireturn, 1) := by decide +kernel
theorem d_W_becomeRemainder_0 : decode c_W_becomeRemainder 0 = .ok (.aload_n 1, 1) := by decide +kernel
theorem d_W_becomeRemainder_1 : decode c_W_becomeRemainder 1 = .ok (.invokevirtual 38, 3) := by decide +kernel
theorem d_W_becomeRemainder_4 : decode c_W_becomeRemainder 4 = .ok (.ifCond .eq 4, 3) := by decide +kernel
theorem d_W_becomeRemainder_7 : decode c_W_becomeRemainder 7 = .ok (.return_, 1) := by decide +kernel
theorem d_W_becomeRemainder_8 : decode c_W_becomeRemainder 8 = .ok (.aload_n 0, 1) := by decide +kernel
theorem d_W_becomeRemainder_9 : decode c_W_becomeRemainder 9 = .ok (.getfield 15, 3) := by decide +kernel
theorem d_W_becomeRemainder_12 : decode c_W_becomeRemainder 12 = .ok (.aload_n 1, 1) := by decide +kernel
theorem d_W_becomeRemainder_13 : decode c_W_becomeRemainder 13 = .ok (.getfield 15, 3) := by decide +kernel
theorem d_W_becomeRemainder_16 : decode c_W_becomeRemainder 16 = .ok (.isub, 1) := by decide +kernel
theorem d_W_becomeRemainder_17 : decode c_W_becomeRemainder 17 = .ok (.istore_n 2, 1) := by decide +kernel
theorem d_W_becomeRemainder_18 : decode c_W_becomeRemainder 18 = .ok (.iload_n 2, 1) := by decide +kernel
theorem d_W_becomeRemainder_19 : decode c_W_becomeRemainder 19 = .ok (.ifCond .lt 16, 3) := by decide +kernel
theorem d_W_becomeRemainder_22 : decode c_W_becomeRemainder 22 = .ok (.aload_n 0, 1) := by decide +kernel
theorem d_W_becomeRemainder_23 : decode c_W_becomeRemainder 23 = .ok (.aload_n 1, 1) := by decide +kernel
theorem d_W_becomeRemainder_24 : decode c_W_becomeRemainder 24 = .ok (.iload_n 2, 1) := by decide +kernel
theorem d_W_becomeRemainder_25 : decode c_W_becomeRemainder 25 = .ok (.invokevirtual 42, 3) := by decide +kernel
theorem d_W_becomeRemainder_28 : decode c_W_becomeRemainder 28 = .ok (.pop2, 1) := by decide +kernel
theorem d_W_becomeRemainder_29 : decode c_W_becomeRemainder 29 = .ok (.iinc 2 (-1), 3) := by decide +kernel
theorem d_W_becomeRemainder_32 : decode c_W_becomeRemainder 32 = .ok (.goto (-14), 3) := by decide +kernel
theorem d_W_becomeRemainder_35 : decode c_W_becomeRemainder 35 = .ok (.return_, 1) := by decide +kernel
theorem d_W_isZero_0 : decode c_W_isZero 0 = .ok (.aload_n 0, 1) := by decide +kernel
theorem d_W_isZero_1 : decode c_W_isZero 1 = .ok (.getfield 15, 3) := by decide +kernel
theorem d_W_isZero_4 : decode c_W_isZero 4 = .ok (.ifCond .ne 7, 3) := by decide +kernel
theorem d_W_isZero_7 : decode c_W_isZero 7 = .ok (.iconst 1, 1) := by decide +kernel
theorem d_W_isZero_8 : decode c_W_isZero 8 = .ok (.goto 4, 3) := by decide +kernel
theorem d_W_isZero_11 : decode c_W_isZero 11 = .ok (.iconst 0, 1) := by decide +kernel
theorem d_W_isZero_12 : decode c_W_isZero 12 = .ok (.ireturn, 1) := by decide +kernel
theorem d_W_takeOut_0 : decode c_W_takeOut 0 = .ok (.lconst 0, 1) := by decide +kernel
theorem d_W_takeOut_1 : decode c_W_takeOut 1 = .ok (.lstore_n 3, 1) := by decide +kernel
theorem d_W_takeOut_2 : decode c_W_takeOut 2 = .ok (.iconst 0, 1) := by decide +kernel
theorem d_W_takeOut_3 : decode c_W_takeOut 3 = .ok (.istore 5, 2) := by decide +kernel
theorem d_W_takeOut_5 : decode c_W_takeOut 5 = .ok (.iload 5, 2) := by decide +kernel
theorem d_W_takeOut_7 : decode c_W_takeOut 7 = .ok (.sipush 1000, 3) := by decide +kernel
theorem d_W_takeOut_10 : decode c_W_takeOut 10 = .ok (.if_icmp .ge 43, 3) := by decide +kernel
theorem d_W_takeOut_13 : decode c_W_takeOut 13 = .ok (.aload_n 0, 1) := by decide +kernel
theorem d_W_takeOut_14 : decode c_W_takeOut 14 = .ok (.aload_n 1, 1) := by decide +kernel
theorem d_W_takeOut_15 : decode c_W_takeOut 15 = .ok (.iload_n 2, 1) := by decide +kernel
theorem d_W_takeOut_16 : decode c_W_takeOut 16 = .ok (.invokevirtual 46, 3) := by decide +kernel
theorem d_W_takeOut_19 : decode c_W_takeOut 19 = .ok (.ifCond .lt 34, 3) := by decide +kernel
theorem d_W_takeOut_22 : decode c_W_takeOut 22 = .ok (.lconst 1, 1) := by decide +kernel
theorem d_W_takeOut_23 : decode c_W_takeOut 23 = .ok (.aload_n 0, 1) := by decide +kernel
theorem d_W_takeOut_24 : decode c_W_takeOut 24 = .ok (.aload_n 1, 1) := by decide +kernel
theorem d_W_takeOut_25 : decode c_W_takeOut 25 = .ok (.iload_n 2, 1) := by decide +kernel
theorem d_W_takeOut_26 : decode c_W_takeOut 26 = .ok (.invokevirtual 50, 3) := by decide +kernel
theorem d_W_takeOut_29 : decode c_W_takeOut 29 = .ok (.invokestatic 53, 3) := by decide +kernel
theorem d_W_takeOut_32 : decode c_W_takeOut 32 = .ok (.lstore 6, 2) := by decide +kernel
theorem d_W_takeOut_34 : decode c_W_takeOut 34 = .ok (.aload_n 0, 1) := by decide +kernel
theorem d_W_takeOut_35 : decode c_W_takeOut 35 = .ok (.aload_n 1, 1) := by decide +kernel
theorem d_W_takeOut_36 : decode c_W_takeOut 36 = .ok (.lload 6, 2) := by decide +kernel
theorem d_W_takeOut_38 : decode c_W_takeOut 38 = .ok (.iload_n 2, 1) := by decide +kernel
theorem d_W_takeOut_39 : decode c_W_takeOut 39 = .ok (.invokevirtual 59, 3) := by decide +kernel
theorem d_W_takeOut_42 : decode c_W_takeOut 42 = .ok (.lload_n 3, 1) := by decide +kernel
theorem d_W_takeOut_43 : decode c_W_takeOut 43 = .ok (.lload 6, 2) := by decide +kernel
theorem d_W_takeOut_45 : decode c_W_takeOut 45 = .ok (.ladd, 1) := by decide +kernel
theorem d_W_takeOut_46 : decode c_W_takeOut 46 = .ok (.lstore_n 3, 1) := by decide +kernel
theorem d_W_takeOut_47 : decode c_W_takeOut 47 = .ok (.iinc 5 1, 3) := by decide +kernel
theorem d_W_takeOut_50 : decode c_W_takeOut 50 = .ok (.goto (-45), 3) := by decide +kernel
theorem d_W_takeOut_53 : decode c_W_takeOut 53 = .ok (.lload_n 3, 1) := by decide +kernel
theorem d_W_takeOut_54 : decode c_W_takeOut 54 = .ok (.lreturn, 1) := by decide +kernel
theorem d_W_compareWith_0 : decode c_W_compareWith 0 = .ok (.aload_n 0, 1) := by decide +kernel
theorem d_W_compareWith_1 : decode c_W_compareWith 1 = .ok (.getfield 15, 3) := by decide +kernel
theorem d_W_compareWith_4 : decode c_W_compareWith 4 = .ok (.aload_n 1, 1) := by decide +kernel
theorem d_W_compareWith_5 : decode c_W_compareWith 5 = .ok (.getfield 15, 3) := by decide +kernel
theorem d_W_compareWith_8 : decode c_W_compareWith 8 = .ok (.iload_n 2, 1) := by decide +kernel
theorem d_W_compareWith_9 : decode c_W_compareWith 9 = .ok (.iadd, 1) := by decide +kernel
theorem d_W_compareWith_10 : decode c_W_compareWith 10 = .ok (.if_icmp .eq 22, 3) := by decide +kernel
theorem d_W_compareWith_13 : decode c_W_compareWith 13 = .ok (.aload_n 0, 1) := by decide +kernel
theorem d_W_compareWith_14 : decode c_W_compareWith 14 = .ok (.getfield 15, 3) := by decide +kernel
theorem d_W_compareWith_17 : decode c_W_compareWith 17 = .ok (.aload_n 1, 1) := by decide +kernel
theorem d_W_compareWith_18 : decode c_W_compareWith 18 = .ok (.getfield 15, 3) := by decide +kernel
theorem d_W_compareWith_21 : decode c_W_compareWith 21 = .ok (.iload_n 2, 1) := by decide +kernel
theorem d_W_compareWith_22 : decode c_W_compareWith 22 = .ok (.iadd, 1) := by decide +kernel
theorem d_W_compareWith_23 : decode c_W_compareWith 23 = .ok (.if_icmp .ge 7, 3) := by decide +kernel
theorem d_W_compareWith_26 : decode c_W_compareWith 26 = .ok (.iconst (-1), 1) := by decide +kernel
theorem d_W_compareWith_27 : decode c_W_compareWith 27 = .ok (.goto 4, 3) := by decide +kernel
theorem d_W_compareWith_30 : decode c_W_compareWith 30 = .ok (.iconst 1, 1) := by decide +kernel
theorem d_W_compareWith_31 : decode c_W_compareWith 31 = .ok (.ireturn, 1) := by decide +kernel
theorem d_W_compareWith_32 : decode c_W_compareWith 32 = .ok (.aload_n 1, 1) := by decide +kernel
theorem d_W_compareWith_33 : decode c_W_compareWith 33 = .ok (.getfield 15, 3) := by decide +kernel
theorem d_W_compareWith_36 : decode c_W_compareWith 36 = .ok (.iconst 1, 1) := by decide +kernel
theorem d_W_compareWith_37 : decode c_W_compareWith 37 = .ok (.isub, 1) := by decide +kernel
theorem d_W_compareWith_38 : decode c_W_compareWith 38 = .ok (.istore_n 3, 1) := by decide +kernel
theorem d_W_compareWith_39 : decode c_W_compareWith 39 = .ok (.iload_n 3, 1) := by decide +kernel
theorem d_W_compareWith_40 : decode c_W_compareWith 40 = .ok (.ifCond .lt 50, 3) := by decide +kernel
theorem d_W_compareWith_43 : decode c_W_compareWith 43 = .ok (.aload_n 0, 1) := by decide +kernel
theorem d_W_compareWith_44 : decode c_W_compareWith 44 = .ok (.iload_n 3, 1) := by decide +kernel
theorem d_W_compareWith_45 : decode c_W_compareWith 45 = .ok (.iload_n 2, 1) := by decide +kernel
theorem d_W_compareWith_46 : decode c_W_compareWith 46 = .ok (.iadd, 1) := by decide +kernel
theorem d_W_compareWith_47 : decode c_W_compareWith 47 = .ok (.invokevirtual 19, 3) := by decide +kernel
theorem d_W_compareWith_50 : decode c_W_compareWith 50 = .ok (.lstore 4, 2) := by decide +kernel
theorem d_W_compareWith_52 : decode c_W_compareWith 52 = .ok (.lload 4, 2) := by decide +kernel
theorem d_W_compareWith_54 : decode c_W_compareWith 54 = .ok (.aload_n 1, 1) := by decide +kernel
theorem d_W_compareWith_55 : decode c_W_compareWith 55 = .ok (.getfield 9, 3) := by decide +kernel
theorem d_W_compareWith_58 : decode c_W_compareWith 58 = .ok (.iload_n 3, 1) := by decide +kernel
theorem d_W_compareWith_59 : decode c_W_compareWith 59 = .ok (.iaload, 1) := by decide +kernel
theorem d_W_compareWith_60 : decode c_W_compareWith 60 = .ok (.i2l, 1) := by decide +kernel
theorem d_W_compareWith_61 : decode c_W_compareWith 61 = .ok (.lcmp, 1) := by decide +kernel
theorem d_W_compareWith_62 : decode c_W_compareWith 62 = .ok (.ifCond .eq 22, 3) := by decide +kernel
theorem d_W_compareWith_65 : decode c_W_compareWith 65 = .ok (.lload 4, 2) := by decide +kernel
theorem d_W_compareWith_67 : decode c_W_compareWith 67 = .ok (.aload_n 1, 1) := by decide +kernel
theorem d_W_compareWith_68 : decode c_W_compareWith 68 = .ok (.getfield 9, 3) := by decide +kernel
theorem d_W_compareWith_71 : decode c_W_compareWith 71 = .ok (.iload_n 3, 1) := by decide +kernel
theorem d_W_compareWith_72 : decode c_W_compareWith 72 = .ok (.iaload, 1) := by decide +kernel
theorem d_W_compareWith_73 : decode c_W_compareWith 73 = .ok (.i2l, 1) := by decide +kernel
theorem d_W_compareWith_74 : decode c_W_compareWith 74 = .ok (.lcmp, 1) := by decide +kernel
theorem d_W_compareWith_75 : decode c_W_compareWith 75 = .ok (.ifCond .ge 7, 3) := by decide +kernel
theorem d_W_compareWith_78 : decode c_W_compareWith 78 = .ok (.iconst (-1), 1) := by decide +kernel
theorem d_W_compareWith_79 : decode c_W_compareWith 79 = .ok (.goto 4, 3) := by decide +kernel
theorem d_W_compareWith_82 : decode c_W_compareWith 82 = .ok (.iconst 1, 1) := by decide +kernel
theorem d_W_compareWith_83 : decode c_W_compareWith 83 = .ok (.ireturn, 1) := by decide +kernel
theorem d_W_compareWith_84 : decode c_W_compareWith 84 = .ok (.iinc 3 (-1), 3) := by decide +kernel
theorem d_W_compareWith_87 : decode c_W_compareWith 87 = .ok (.goto (-48), 3) := by decide +kernel
theorem d_W_compareWith_90 : decode c_W_compareWith 90 = .ok (.iconst 0, 1) := by decide +kernel
theorem d_W_compareWith_91 : decode c_W_compareWith 91 = .ok (.ireturn, 1) := by decide +kernel
theorem d_W_limbAt_0 : decode c_W_limbAt 0 = .ok (.iload_n 1, 1) := by decide +kernel
theorem d_W_limbAt_1 : decode c_W_limbAt 1 = .ok (.ifCond .lt 19, 3) := by decide +kernel
theorem d_W_limbAt_4 : decode c_W_limbAt 4 = .ok (.iload_n 1, 1) := by decide +kernel
theorem d_W_limbAt_5 : decode c_W_limbAt 5 = .ok (.bipush 12, 2) := by decide +kernel
theorem d_W_limbAt_7 : decode c_W_limbAt 7 = .ok (.if_icmp .ge 13, 3) := by decide +kernel
theorem d_W_limbAt_10 : decode c_W_limbAt 10 = .ok (.aload_n 0, 1) := by decide +kernel
theorem d_W_limbAt_11 : decode c_W_limbAt 11 = .ok (.getfield 9, 3) := by decide +kernel
theorem d_W_limbAt_14 : decode c_W_limbAt 14 = .ok (.iload_n 1, 1) := by decide +kernel
theorem d_W_limbAt_15 : decode c_W_limbAt 15 = .ok (.iaload, 1) := by decide +kernel
theorem d_W_limbAt_16 : decode c_W_limbAt 16 = .ok (.i2l, 1) := by decide +kernel
theorem d_W_limbAt_17 : decode c_W_limbAt 17 = .ok (.goto 4, 3) := by decide +kernel
theorem d_W_limbAt_20 : decode c_W_limbAt 20 = .ok (.lconst 0, 1) := by decide +kernel
theorem d_W_limbAt_21 : decode c_W_limbAt 21 = .ok (.lreturn, 1) := by decide +kernel
theorem d_W_guessOften_0 : decode c_W_guessOften 0 = .ok (.aload_n 1, 1) := by decide +kernel
theorem d_W_guessOften_1 : decode c_W_guessOften 1 = .ok (.getfield 15, 3) := by decide +kernel
theorem d_W_guessOften_4 : decode c_W_guessOften 4 = .ok (.iconst 1, 1) := by decide +kernel
theorem d_W_guessOften_5 : decode c_W_guessOften 5 = .ok (.isub, 1) := by decide +kernel
theorem d_W_guessOften_6 : decode c_W_guessOften 6 = .ok (.istore_n 3, 1) := by decide +kernel
theorem d_W_guessOften_7 : decode c_W_guessOften 7 = .ok (.aload_n 1, 1) := by decide +kernel
theorem d_W_guessOften_8 : decode c_W_guessOften 8 = .ok (.iload_n 3, 1) := by decide +kernel
theorem d_W_guessOften_9 : decode c_W_guessOften 9 = .ok (.invokevirtual 19, 3) := by decide +kernel
theorem d_W_guessOften_12 : decode c_W_guessOften 12 = .ok (.invokestatic 63, 3) := by decide +kernel
theorem d_W_guessOften_15 : decode c_W_guessOften 15 = .ok (.lstore 4, 2) := by decide +kernel
theorem d_W_guessOften_17 : decode c_W_guessOften 17 = .ok (.ldc2_w 23, 3) := by decide +kernel
theorem d_W_guessOften_20 : decode c_W_guessOften 20 = .ok (.lload 4, 2) := by decide +kernel
theorem d_W_guessOften_22 : decode c_W_guessOften 22 = .ok (.ldiv, 1) := by decide +kernel
theorem d_W_guessOften_23 : decode c_W_guessOften 23 = .ok (.lstore 6, 2) := by decide +kernel
theorem d_W_guessOften_25 : decode c_W_guessOften 25 = .ok (.aload_n 1, 1) := by decide +kernel
theorem d_W_guessOften_26 : decode c_W_guessOften 26 = .ok (.iload_n 3, 1) := by decide +kernel
theorem d_W_guessOften_27 : decode c_W_guessOften 27 = .ok (.invokevirtual 19, 3) := by decide +kernel
theorem d_W_guessOften_30 : decode c_W_guessOften 30 = .ok (.lload 6, 2) := by decide +kernel
theorem d_W_guessOften_32 : decode c_W_guessOften 32 = .ok (.lmul, 1) := by decide +kernel
theorem d_W_guessOften_33 : decode c_W_guessOften 33 = .ok (.aload_n 1, 1) := by decide +kernel
theorem d_W_guessOften_34 : decode c_W_guessOften 34 = .ok (.iload_n 3, 1) := by decide +kernel
theorem d_W_guessOften_35 : decode c_W_guessOften 35 = .ok (.iconst 1, 1) := by decide +kernel
theorem d_W_guessOften_36 : decode c_W_guessOften 36 = .ok (.isub, 1) := by decide +kernel
theorem d_W_guessOften_37 : decode c_W_guessOften 37 = .ok (.invokevirtual 19, 3) := by decide +kernel
theorem d_W_guessOften_40 : decode c_W_guessOften 40 = .ok (.lload 4, 2) := by decide +kernel
theorem d_W_guessOften_42 : decode c_W_guessOften 42 = .ok (.ldiv, 1) := by decide +kernel
theorem d_W_guessOften_43 : decode c_W_guessOften 43 = .ok (.ladd, 1) := by decide +kernel
theorem d_W_guessOften_44 : decode c_W_guessOften 44 = .ok (.lconst 1, 1) := by decide +kernel
theorem d_W_guessOften_45 : decode c_W_guessOften 45 = .ok (.ladd, 1) := by decide +kernel
theorem d_W_guessOften_46 : decode c_W_guessOften 46 = .ok (.lstore 8, 2) := by decide +kernel
theorem d_W_guessOften_48 : decode c_W_guessOften 48 = .ok (.aload_n 0, 1) := by decide +kernel
theorem d_W_guessOften_49 : decode c_W_guessOften 49 = .ok (.iload_n 3, 1) := by decide +kernel
theorem d_W_guessOften_50 : decode c_W_guessOften 50 = .ok (.iload_n 2, 1) := by decide +kernel
theorem d_W_guessOften_51 : decode c_W_guessOften 51 = .ok (.iadd, 1) := by decide +kernel
theorem d_W_guessOften_52 : decode c_W_guessOften 52 = .ok (.iconst 1, 1) := by decide +kernel
theorem d_W_guessOften_53 : decode c_W_guessOften 53 = .ok (.iadd, 1) := by decide +kernel
theorem d_W_guessOften_54 : decode c_W_guessOften 54 = .ok (.invokevirtual 19, 3) := by decide +kernel
theorem d_W_guessOften_57 : decode c_W_guessOften 57 = .ok (.lload 6, 2) := by decide +kernel
theorem d_W_guessOften_59 : decode c_W_guessOften 59 = .ok (.lmul, 1) := by decide +kernel
theorem d_W_guessOften_60 : decode c_W_guessOften 60 = .ok (.ldc2_w 23, 3) := by decide +kernel
theorem d_W_guessOften_63 : decode c_W_guessOften 63 = .ok (.lmul, 1) := by decide +kernel
theorem d_W_guessOften_64 : decode c_W_guessOften 64 = .ok (.aload_n 0, 1) := by decide +kernel
theorem d_W_guessOften_65 : decode c_W_guessOften 65 = .ok (.iload_n 3, 1) := by decide +kernel
theorem d_W_guessOften_66 : decode c_W_guessOften 66 = .ok (.iload_n 2, 1) := by decide +kernel
theorem d_W_guessOften_67 : decode c_W_guessOften 67 = .ok (.iadd, 1) := by decide +kernel
theorem d_W_guessOften_68 : decode c_W_guessOften 68 = .ok (.invokevirtual 19, 3) := by decide +kernel
theorem d_W_guessOften_71 : decode c_W_guessOften 71 = .ok (.lload 6, 2) := by decide +kernel
theorem d_W_guessOften_73 : decode c_W_guessOften 73 = .ok (.lmul, 1) := by decide +kernel
theorem d_W_guessOften_74 : decode c_W_guessOften 74 = .ok (.ladd, 1) := by decide +kernel
theorem d_W_guessOften_75 : decode c_W_guessOften 75 = .ok (.aload_n 0, 1) := by decide +kernel
theorem d_W_guessOften_76 : decode c_W_guessOften 76 = .ok (.iload_n 3, 1) := by decide +kernel
theorem d_W_guessOften_77 : decode c_W_guessOften 77 = .ok (.iload_n 2, 1) := by decide +kernel
theorem d_W_guessOften_78 : decode c_W_guessOften 78 = .ok (.iadd, 1) := by decide +kernel
theorem d_W_guessOften_79 : decode c_W_guessOften 79 = .ok (.iconst 1, 1) := by decide +kernel
theorem d_W_guessOften_80 : decode c_W_guessOften 80 = .ok (.isub, 1) := by decide +kernel
theorem d_W_guessOften_81 : decode c_W_guessOften 81 = .ok (.invokevirtual 19, 3) := by decide +kernel
theorem d_W_guessOften_84 : decode c_W_guessOften 84 = .ok (.lload 4, 2) := by decide +kernel
theorem d_W_guessOften_86 : decode c_W_guessOften 86 = .ok (.ldiv, 1) := by decide +kernel
theorem d_W_guessOften_87 : decode c_W_guessOften 87 = .ok (.ladd, 1) := by decide +kernel
theorem d_W_guessOften_88 : decode c_W_guessOften 88 = .ok (.lstore 10, 2) := by decide +kernel
theorem d_W_guessOften_90 : decode c_W_guessOften 90 = .ok (.lload 10, 2) := by decide +kernel
theorem d_W_guessOften_92 : decode c_W_guessOften 92 = .ok (.lload 8, 2) := by decide +kernel
theorem d_W_guessOften_94 : decode c_W_guessOften 94 = .ok (.ldiv, 1) := by decide +kernel
theorem d_W_guessOften_95 : decode c_W_guessOften 95 = .ok (.lreturn, 1) := by decide +kernel
theorem d_W_tenAbove_0 : decode c_W_tenAbove 0 = .ok (.getstatic 25, 3) := by decide +kernel
theorem d_W_tenAbove_3 : decode c_W_tenAbove 3 = .ok (.astore_n 2, 1) := by decide +kernel
theorem d_W_tenAbove_4 : decode c_W_tenAbove 4 = .ok (.aload_n 2, 1) := by decide +kernel
theorem d_W_tenAbove_5 : decode c_W_tenAbove 5 = .ok (.arraylength, 1) := by decide +kernel
theorem d_W_tenAbove_6 : decode c_W_tenAbove 6 = .ok (.istore_n 3, 1) := by decide +kernel
theorem d_W_tenAbove_7 : decode c_W_tenAbove 7 = .ok (.iconst 0, 1) := by decide +kernel
theorem d_W_tenAbove_8 : decode c_W_tenAbove 8 = .ok (.istore 4, 2) := by decide +kernel
theorem d_W_tenAbove_10 : decode c_W_tenAbove 10 = .ok (.iload 4, 2) := by decide +kernel
theorem d_W_tenAbove_12 : decode c_W_tenAbove 12 = .ok (.iload_n 3, 1) := by decide +kernel
theorem d_W_tenAbove_13 : decode c_W_tenAbove 13 = .ok (.if_icmp .ge 27, 3) := by decide +kernel
theorem d_W_tenAbove_16 : decode c_W_tenAbove 16 = .ok (.aload_n 2, 1) := by decide +kernel
theorem d_W_tenAbove_17 : decode c_W_tenAbove 17 = .ok (.iload 4, 2) := by decide +kernel
theorem d_W_tenAbove_19 : decode c_W_tenAbove 19 = .ok (.iaload, 1) := by decide +kernel
theorem d_W_tenAbove_20 : decode c_W_tenAbove 20 = .ok (.istore 5, 2) := by decide +kernel
theorem d_W_tenAbove_22 : decode c_W_tenAbove 22 = .ok (.iload 5, 2) := by decide +kernel
theorem d_W_tenAbove_24 : decode c_W_tenAbove 24 = .ok (.i2l, 1) := by decide +kernel
theorem d_W_tenAbove_25 : decode c_W_tenAbove 25 = .ok (.lload_n 0, 1) := by decide +kernel
theorem d_W_tenAbove_26 : decode c_W_tenAbove 26 = .ok (.lcmp, 1) := by decide +kernel
theorem d_W_tenAbove_27 : decode c_W_tenAbove 27 = .ok (.ifCond .le 7, 3) := by decide +kernel
theorem d_W_tenAbove_30 : decode c_W_tenAbove 30 = .ok (.iload 5, 2) := by decide +kernel
theorem d_W_tenAbove_32 : decode c_W_tenAbove 32 = .ok (.i2l, 1) := by decide +kernel
theorem d_W_tenAbove_33 : decode c_W_tenAbove 33 = .ok (.lreturn, 1) := by decide +kernel
theorem d_W_tenAbove_34 : decode c_W_tenAbove 34 = .ok (.iinc 4 1, 3) := by decide +kernel
theorem d_W_tenAbove_37 : decode c_W_tenAbove 37 = .ok (.goto (-27), 3) := by decide +kernel
theorem d_W_tenAbove_40 : decode c_W_tenAbove 40 = .ok (.ldc2_w 23, 3) := by decide +kernel
theorem d_W_tenAbove_43 : decode c_W_tenAbove 43 = .ok (.lreturn, 1) := by decide +kernel
theorem d_W_decreaseBy_0 : decode c_W_decreaseBy 0 = .ok (.lconst 0, 1) := by decide +kernel
theorem d_W_decreaseBy_1 : decode c_W_decreaseBy 1 = .ok (.lstore 5, 2) := by decide +kernel
theorem d_W_decreaseBy_3 : decode c_W_decreaseBy 3 = .ok (.iconst 0, 1) := by decide +kernel
theorem d_W_decreaseBy_4 : decode c_W_decreaseBy 4 = .ok (.istore 7, 2) := by decide +kernel
theorem d_W_decreaseBy_6 : decode c_W_decreaseBy 6 = .ok (.iload 7, 2) := by decide +kernel
theorem d_W_decreaseBy_8 : decode c_W_decreaseBy 8 = .ok (.iload 4, 2) := by decide +kernel
theorem d_W_decreaseBy_10 : decode c_W_decreaseBy 10 = .ok (.iadd, 1) := by decide +kernel
theorem d_W_decreaseBy_11 : decode c_W_decreaseBy 11 = .ok (.bipush 12, 2) := by decide +kernel
theorem d_W_decreaseBy_13 : decode c_W_decreaseBy 13 = .ok (.if_icmp .ge 96, 3) := by decide +kernel
theorem d_W_decreaseBy_16 : decode c_W_decreaseBy 16 = .ok (.iload 7, 2) := by decide +kernel
theorem d_W_decreaseBy_18 : decode c_W_decreaseBy 18 = .ok (.aload_n 1, 1) := by decide +kernel
theorem d_W_decreaseBy_19 : decode c_W_decreaseBy 19 = .ok (.getfield 15, 3) := by decide +kernel
theorem d_W_decreaseBy_22 : decode c_W_decreaseBy 22 = .ok (.if_icmp .lt 10, 3) := by decide +kernel
theorem d_W_decreaseBy_25 : decode c_W_decreaseBy 25 = .ok (.lload 5, 2) := by decide +kernel
theorem d_W_decreaseBy_27 : decode c_W_decreaseBy 27 = .ok (.lconst 0, 1) := by decide +kernel
theorem d_W_decreaseBy_28 : decode c_W_decreaseBy 28 = .ok (.lcmp, 1) := by decide +kernel
theorem d_W_decreaseBy_29 : decode c_W_decreaseBy 29 = .ok (.ifCond .eq 80, 3) := by decide +kernel
theorem d_W_decreaseBy_32 : decode c_W_decreaseBy 32 = .ok (.lload 5, 2) := by decide +kernel
theorem d_W_decreaseBy_34 : decode c_W_decreaseBy 34 = .ok (.aload_n 1, 1) := by decide +kernel
theorem d_W_decreaseBy_35 : decode c_W_decreaseBy 35 = .ok (.iload 7, 2) := by decide +kernel
theorem d_W_decreaseBy_37 : decode c_W_decreaseBy 37 = .ok (.invokevirtual 19, 3) := by decide +kernel
theorem d_W_decreaseBy_40 : decode c_W_decreaseBy 40 = .ok (.lload_n 2, 1) := by decide +kernel
theorem d_W_decreaseBy_41 : decode c_W_decreaseBy 41 = .ok (.lmul, 1) := by decide +kernel
theorem d_W_decreaseBy_42 : decode c_W_decreaseBy 42 = .ok (.ladd, 1) := by decide +kernel
theorem d_W_decreaseBy_43 : decode c_W_decreaseBy 43 = .ok (.lstore 5, 2) := by decide +kernel
theorem d_W_decreaseBy_45 : decode c_W_decreaseBy 45 = .ok (.aload_n 0, 1) := by decide +kernel
theorem d_W_decreaseBy_46 : decode c_W_decreaseBy 46 = .ok (.getfield 9, 3) := by decide +kernel
theorem d_W_decreaseBy_49 : decode c_W_decreaseBy 49 = .ok (.iload 7, 2) := by decide +kernel
theorem d_W_decreaseBy_51 : decode c_W_decreaseBy 51 = .ok (.iload 4, 2) := by decide +kernel
theorem d_W_decreaseBy_53 : decode c_W_decreaseBy 53 = .ok (.iadd, 1) := by decide +kernel
theorem d_W_decreaseBy_54 : decode c_W_decreaseBy 54 = .ok (.iaload, 1) := by decide +kernel
theorem d_W_decreaseBy_55 : decode c_W_decreaseBy 55 = .ok (.lload 5, 2) := by decide +kernel
theorem d_W_decreaseBy_57 : decode c_W_decreaseBy 57 = .ok (.ldc2_w 23, 3) := by decide +kernel
theorem d_W_decreaseBy_60 : decode c_W_decreaseBy 60 = .ok (.lrem, 1) := by decide +kernel
theorem d_W_decreaseBy_61 : decode c_W_decreaseBy 61 = .ok (.l2i, 1) := by decide +kernel
theorem d_W_decreaseBy_62 : decode c_W_decreaseBy 62 = .ok (.isub, 1) := by decide +kernel
theorem d_W_decreaseBy_63 : decode c_W_decreaseBy 63 = .ok (.istore 8, 2) := by decide +kernel
theorem d_W_decreaseBy_65 : decode c_W_decreaseBy 65 = .ok (.lload 5, 2) := by decide +kernel
theorem d_W_decreaseBy_67 : decode c_W_decreaseBy 67 = .ok (.ldc2_w 23, 3) := by decide +kernel
theorem d_W_decreaseBy_70 : decode c_W_decreaseBy 70 = .ok (.ldiv, 1) := by decide +kernel
theorem d_W_decreaseBy_71 : decode c_W_decreaseBy 71 = .ok (.lstore 5, 2) := by decide +kernel
theorem d_W_decreaseBy_73 : decode c_W_decreaseBy 73 = .ok (.iload 8, 2) := by decide +kernel
theorem d_W_decreaseBy_75 : decode c_W_decreaseBy 75 = .ok (.ifCond .ge 16, 3) := by decide +kernel
theorem d_W_decreaseBy_78 : decode c_W_decreaseBy 78 = .ok (.iload 8, 2) := by decide +kernel
theorem d_W_decreaseBy_80 : decode c_W_decreaseBy 80 = .ok (.ldc 37, 2) := by decide +kernel
theorem d_W_decreaseBy_82 : decode c_W_decreaseBy 82 = .ok (.iadd, 1) := by decide +kernel
theorem d_W_decreaseBy_83 : decode c_W_decreaseBy 83 = .ok (.istore 8, 2) := by decide +kernel
theorem d_W_decreaseBy_85 : decode c_W_decreaseBy 85 = .ok (.lload 5, 2) := by decide +kernel
theorem d_W_decreaseBy_87 : decode c_W_decreaseBy 87 = .ok (.lconst 1, 1) := by decide +kernel
theorem d_W_decreaseBy_88 : decode c_W_decreaseBy 88 = .ok (.ladd, 1) := by decide +kernel
theorem d_W_decreaseBy_89 : decode c_W_decreaseBy 89 = .ok (.lstore 5, 2) := by decide +kernel
theorem d_W_decreaseBy_91 : decode c_W_decreaseBy 91 = .ok (.aload_n 0, 1) := by decide +kernel
theorem d_W_decreaseBy_92 : decode c_W_decreaseBy 92 = .ok (.getfield 9, 3) := by decide +kernel
theorem d_W_decreaseBy_95 : decode c_W_decreaseBy 95 = .ok (.iload 7, 2) := by decide +kernel
theorem d_W_decreaseBy_97 : decode c_W_decreaseBy 97 = .ok (.iload 4, 2) := by decide +kernel
theorem d_W_decreaseBy_99 : decode c_W_decreaseBy 99 = .ok (.iadd, 1) := by decide +kernel
theorem d_W_decreaseBy_100 : decode c_W_decreaseBy 100 = .ok (.iload 8, 2) := by decide +kernel
theorem d_W_decreaseBy_102 : decode c_W_decreaseBy 102 = .ok (.iastore, 1) := by decide +kernel
theorem d_W_decreaseBy_103 : decode c_W_decreaseBy 103 = .ok (.iinc 7 1, 3) := by decide +kernel
theorem d_W_decreaseBy_106 : decode c_W_decreaseBy 106 = .ok (.goto (-100), 3) := by decide +kernel
theorem d_W_decreaseBy_109 : decode c_W_decreaseBy 109 = .ok (.aload_n 0, 1) := by decide +kernel
theorem d_W_decreaseBy_110 : decode c_W_decreaseBy 110 = .ok (.aload_n 0, 1) := by decide +kernel
theorem d_W_decreaseBy_111 : decode c_W_decreaseBy 111 = .ok (.getfield 15, 3) := by decide +kernel
theorem d_W_decreaseBy_114 : decode c_W_decreaseBy 114 = .ok (.invokevirtual 33, 3) := by decide +kernel
theorem d_W_decreaseBy_117 : decode c_W_decreaseBy 117 = .ok (.return_, 1) := by decide +kernel
theorem d_W_asLong_0 : decode c_W_asLong 0 = .ok (.aload_n 0, 1) := by decide +kernel
theorem d_W_asLong_1 : decode c_W_asLong 1 = .ok (.iconst 1, 1) := by decide +kernel
theorem d_W_asLong_2 : decode c_W_asLong 2 = .ok (.invokevirtual 19, 3) := by decide +kernel
theorem d_W_asLong_5 : decode c_W_asLong 5 = .ok (.ldc2_w 23, 3) := by decide +kernel
theorem d_W_asLong_8 : decode c_W_asLong 8 = .ok (.lmul, 1) := by decide +kernel
theorem d_W_asLong_9 : decode c_W_asLong 9 = .ok (.aload_n 0, 1) := by decide +kernel
theorem d_W_asLong_10 : decode c_W_asLong 10 = .ok (.iconst 0, 1) := by decide +kernel
theorem d_W_asLong_11 : decode c_W_asLong 11 = .ok (.invokevirtual 19, 3) := by decide +kernel
theorem d_W_asLong_14 : decode c_W_asLong 14 = .ok (.ladd, 1) := by decide +kernel
theorem d_W_asLong_15 : decode c_W_asLong 15 = .ok (.lreturn, 1) := by decide +kernel
theorem d_W_isOne_0 : decode c_W_isOne 0 = .ok (.aload_n 0, 1) := by decide +kernel
theorem d_W_isOne_1 : decode c_W_isOne 1 = .ok (.getfield 15, 3) := by decide +kernel
theorem d_W_isOne_4 : decode c_W_isOne 4 = .ok (.iconst 1, 1) := by decide +kernel
theorem d_W_isOne_5 : decode c_W_isOne 5 = .ok (.if_icmp .ne 17, 3) := by decide +kernel
theorem d_W_isOne_8 : decode c_W_isOne 8 = .ok (.aload_n 0, 1) := by decide +kernel
theorem d_W_isOne_9 : decode c_W_isOne 9 = .ok (.getfield 9, 3) := by decide +kernel
theorem d_W_isOne_12 : decode c_W_isOne 12 = .ok (.iconst 0, 1) := by decide +kernel
theorem d_W_isOne_13 : decode c_W_isOne 13 = .ok (.iaload, 1) := by decide +kernel
theorem d_W_isOne_14 : decode c_W_isOne 14 = .ok (.iconst 1, 1) := by decide +kernel
theorem d_W_isOne_15 : decode c_W_isOne 15 = .ok (.if_icmp .ne 7, 3) := by decide +kernel
theorem d_W_isOne_18 : decode c_W_isOne 18 = .ok (.iconst 1, 1) := by decide +kernel
theorem d_W_isOne_19 : decode c_W_isOne 19 = .ok (.goto 4, 3) := by decide +kernel
theorem d_W_isOne_22 : decode c_W_isOne 22 = .ok (.iconst 0, 1) := by decide +kernel
theorem d_W_isOne_23 : decode c_W_isOne 23 = .ok (.ireturn, 1) := by decide +kernel
theorem d_W_divideBy_0 : decode c_W_divideBy 0 = .ok (.aload_n 2, 1) := by decide +kernel
theorem d_W_divideBy_1 : decode c_W_divideBy 1 = .ok (.invokevirtual 30, 3) := by decide +kernel
theorem d_W_divideBy_4 : decode c_W_divideBy 4 = .ok (.aload_n 1, 1) := by decide +kernel
theorem d_W_divideBy_5 : decode c_W_divideBy 5 = .ok (.invokevirtual 38, 3) := by decide +kernel
theorem d_W_divideBy_8 : decode c_W_divideBy 8 = .ok (.ifCond .eq 4, 3) := by decide +kernel
theorem d_W_divideBy_11 : decode c_W_divideBy 11 = .ok (.return_, 1) := by decide +kernel
theorem d_W_divideBy_12 : decode c_W_divideBy 12 = .ok (.aload_n 0, 1) := by decide +kernel
theorem d_W_divideBy_13 : decode c_W_divideBy 13 = .ok (.getfield 15, 3) := by decide +kernel
theorem d_W_divideBy_16 : decode c_W_divideBy 16 = .ok (.aload_n 1, 1) := by decide +kernel
theorem d_W_divideBy_17 : decode c_W_divideBy 17 = .ok (.getfield 15, 3) := by decide +kernel
theorem d_W_divideBy_20 : decode c_W_divideBy 20 = .ok (.isub, 1) := by decide +kernel
theorem d_W_divideBy_21 : decode c_W_divideBy 21 = .ok (.istore_n 3, 1) := by decide +kernel
theorem d_W_divideBy_22 : decode c_W_divideBy 22 = .ok (.iload_n 3, 1) := by decide +kernel
theorem d_W_divideBy_23 : decode c_W_divideBy 23 = .ok (.ifCond .lt 22, 3) := by decide +kernel
theorem d_W_divideBy_26 : decode c_W_divideBy 26 = .ok (.aload_n 2, 1) := by decide +kernel
theorem d_W_divideBy_27 : decode c_W_divideBy 27 = .ok (.getfield 9, 3) := by decide +kernel
theorem d_W_divideBy_30 : decode c_W_divideBy 30 = .ok (.iload_n 3, 1) := by decide +kernel
theorem d_W_divideBy_31 : decode c_W_divideBy 31 = .ok (.aload_n 0, 1) := by decide +kernel
theorem d_W_divideBy_32 : decode c_W_divideBy 32 = .ok (.aload_n 1, 1) := by decide +kernel
theorem d_W_divideBy_33 : decode c_W_divideBy 33 = .ok (.iload_n 3, 1) := by decide +kernel
theorem d_W_divideBy_34 : decode c_W_divideBy 34 = .ok (.invokevirtual 42, 3) := by decide +kernel
theorem d_W_divideBy_37 : decode c_W_divideBy 37 = .ok (.l2i, 1) := by decide +kernel
theorem d_W_divideBy_38 : decode c_W_divideBy 38 = .ok (.iastore, 1) := by decide +kernel
theorem d_W_divideBy_39 : decode c_W_divideBy 39 = .ok (.iinc 3 (-1), 3) := by decide +kernel
theorem d_W_divideBy_42 : decode c_W_divideBy 42 = .ok (.goto (-20), 3) := by decide +kernel
theorem d_W_divideBy_45 : decode c_W_divideBy 45 = .ok (.aload_n 2, 1) := by decide +kernel
theorem d_W_divideBy_46 : decode c_W_divideBy 46 = .ok (.bipush 12, 2) := by decide +kernel
theorem d_W_divideBy_48 : decode c_W_divideBy 48 = .ok (.invokevirtual 33, 3) := by decide +kernel
theorem d_W_divideBy_51 : decode c_W_divideBy 51 = .ok (.return_, 1) := by decide +kernel
theorem d_W_countDigits_0 : decode c_W_countDigits 0 = .ok (.aload_n 0, 1) := by decide +kernel
theorem d_W_countDigits_1 : decode c_W_countDigits 1 = .ok (.getfield 15, 3) := by decide +kernel
theorem d_W_countDigits_4 : decode c_W_countDigits 4 = .ok (.ifCond .ne 5, 3) := by decide +kernel
theorem d_W_countDigits_7 : decode c_W_countDigits 7 = .ok (.iconst 1, 1) := by decide +kernel
theorem d_W_countDigits_8 : decode c_W_countDigits 8 = .ok (.ireturn, 1) := by decide +kernel
theorem d_W_countDigits_9 : decode c_W_countDigits 9 = .ok (.aload_n 0, 1) := by decide +kernel
theorem d_W_countDigits_10 : decode c_W_countDigits 10 = .ok (.getfield 9, 3) := by decide +kernel
theorem d_W_countDigits_13 : decode c_W_countDigits 13 = .ok (.aload_n 0, 1) := by decide +kernel
theorem d_W_countDigits_14 : decode c_W_countDigits 14 = .ok (.getfield 15, 3) := by decide +kernel
theorem d_W_countDigits_17 : decode c_W_countDigits 17 = .ok (.iconst 1, 1) := by decide +kernel
theorem d_W_countDigits_18 : decode c_W_countDigits 18 = .ok (.isub, 1) := by decide +kernel
theorem d_W_countDigits_19 : decode c_W_countDigits 19 = .ok (.iaload, 1) := by decide +kernel
theorem d_W_countDigits_20 : decode c_W_countDigits 20 = .ok (.istore_n 1, 1) := by decide +kernel
theorem d_W_countDigits_21 : decode c_W_countDigits 21 = .ok (.aload_n 0, 1) := by decide +kernel
theorem d_W_countDigits_22 : decode c_W_countDigits 22 = .ok (.getfield 15, 3) := by decide +kernel
theorem d_W_countDigits_25 : decode c_W_countDigits 25 = .ok (.iconst 1, 1) := by decide +kernel
theorem d_W_countDigits_26 : decode c_W_countDigits 26 = .ok (.isub, 1) := by decide +kernel
theorem d_W_countDigits_27 : decode c_W_countDigits 27 = .ok (.bipush 9, 2) := by decide +kernel
theorem d_W_countDigits_29 : decode c_W_countDigits 29 = .ok (.imul, 1) := by decide +kernel
theorem d_W_countDigits_30 : decode c_W_countDigits 30 = .ok (.istore_n 2, 1) := by decide +kernel
theorem d_W_countDigits_31 : decode c_W_countDigits 31 = .ok (.getstatic 25, 3) := by decide +kernel
theorem d_W_countDigits_34 : decode c_W_countDigits 34 = .ok (.astore_n 3, 1) := by decide +kernel
theorem d_W_countDigits_35 : decode c_W_countDigits 35 = .ok (.aload_n 3, 1) := by decide +kernel
theorem d_W_countDigits_36 : decode c_W_countDigits 36 = .ok (.arraylength, 1) := by decide +kernel
theorem d_W_countDigits_37 : decode c_W_countDigits 37 = .ok (.istore 4, 2) := by decide +kernel
theorem d_W_countDigits_39 : decode c_W_countDigits 39 = .ok (.iconst 0, 1) := by decide +kernel
theorem d_W_countDigits_40 : decode c_W_countDigits 40 = .ok (.istore 5, 2) := by decide +kernel
theorem d_W_countDigits_42 : decode c_W_countDigits 42 = .ok (.iload 5, 2) := by decide +kernel
theorem d_W_countDigits_44 : decode c_W_countDigits 44 = .ok (.iload 4, 2) := by decide +kernel
theorem d_W_countDigits_46 : decode c_W_countDigits 46 = .ok (.if_icmp .ge 29, 3) := by decide +kernel
theorem d_W_countDigits_49 : decode c_W_countDigits 49 = .ok (.aload_n 3, 1) := by decide +kernel
theorem d_W_countDigits_50 : decode c_W_countDigits 50 = .ok (.iload 5, 2) := by decide +kernel
theorem d_W_countDigits_52 : decode c_W_countDigits 52 = .ok (.iaload, 1) := by decide +kernel
theorem d_W_countDigits_53 : decode c_W_countDigits 53 = .ok (.istore 6, 2) := by decide +kernel
theorem d_W_countDigits_55 : decode c_W_countDigits 55 = .ok (.iload_n 2, 1) := by decide +kernel
theorem d_W_countDigits_56 : decode c_W_countDigits 56 = .ok (.iload_n 1, 1) := by decide +kernel
theorem d_W_countDigits_57 : decode c_W_countDigits 57 = .ok (.iload 6, 2) := by decide +kernel
theorem d_W_countDigits_59 : decode c_W_countDigits 59 = .ok (.if_icmp .lt 7, 3) := by decide +kernel
theorem d_W_countDigits_62 : decode c_W_countDigits 62 = .ok (.iconst 1, 1) := by decide +kernel
theorem d_W_countDigits_63 : decode c_W_countDigits 63 = .ok (.goto 4, 3) := by decide +kernel
theorem d_W_countDigits_66 : decode c_W_countDigits 66 = .ok (.iconst 0, 1) := by decide +kernel
theorem d_W_countDigits_67 : decode c_W_countDigits 67 = .ok (.iadd, 1) := by decide +kernel
theorem d_W_countDigits_68 : decode c_W_countDigits 68 = .ok (.istore_n 2, 1) := by decide +kernel
theorem d_W_countDigits_69 : decode c_W_countDigits 69 = .ok (.iinc 5 1, 3) := by decide +kernel
theorem d_W_countDigits_72 : decode c_W_countDigits 72 = .ok (.goto (-30), 3) := by decide +kernel
theorem d_W_countDigits_75 : decode c_W_countDigits 75 = .ok (.iload_n 2, 1) := by decide +kernel
theorem d_W_countDigits_76 : decode c_W_countDigits 76 = .ok (.ireturn, 1) := by decide +kernel
theorem d_W_becomeProduct_0 : decode c_W_becomeProduct 0 = .ok (.aload_n 0, 1) := by decide +kernel
theorem d_W_becomeProduct_1 : decode c_W_becomeProduct 1 = .ok (.invokevirtual 30, 3) := by decide +kernel
theorem d_W_becomeProduct_4 : decode c_W_becomeProduct 4 = .ok (.iconst 0, 1) := by decide +kernel
theorem d_W_becomeProduct_5 : decode c_W_becomeProduct 5 = .ok (.istore_n 3, 1) := by decide +kernel
theorem d_W_becomeProduct_6 : decode c_W_becomeProduct 6 = .ok (.iload_n 3, 1) := by decide +kernel
theorem d_W_becomeProduct_7 : decode c_W_becomeProduct 7 = .ok (.aload_n 1, 1) := by decide +kernel
theorem d_W_becomeProduct_8 : decode c_W_becomeProduct 8 = .ok (.getfield 15, 3) := by decide +kernel
theorem d_W_becomeProduct_11 : decode c_W_becomeProduct 11 = .ok (.if_icmp .ge 98, 3) := by decide +kernel
theorem d_W_becomeProduct_14 : decode c_W_becomeProduct 14 = .ok (.lconst 0, 1) := by decide +kernel
theorem d_W_becomeProduct_15 : decode c_W_becomeProduct 15 = .ok (.lstore 4, 2) := by decide +kernel
theorem d_W_becomeProduct_17 : decode c_W_becomeProduct 17 = .ok (.iconst 0, 1) := by decide +kernel
theorem d_W_becomeProduct_18 : decode c_W_becomeProduct 18 = .ok (.istore 6, 2) := by decide +kernel
theorem d_W_becomeProduct_20 : decode c_W_becomeProduct 20 = .ok (.iload_n 3, 1) := by decide +kernel
theorem d_W_becomeProduct_21 : decode c_W_becomeProduct 21 = .ok (.iload 6, 2) := by decide +kernel
theorem d_W_becomeProduct_23 : decode c_W_becomeProduct 23 = .ok (.iadd, 1) := by decide +kernel
theorem d_W_becomeProduct_24 : decode c_W_becomeProduct 24 = .ok (.bipush 12, 2) := by decide +kernel
theorem d_W_becomeProduct_26 : decode c_W_becomeProduct 26 = .ok (.if_icmp .ge 77, 3) := by decide +kernel
theorem d_W_becomeProduct_29 : decode c_W_becomeProduct 29 = .ok (.iload 6, 2) := by decide +kernel
theorem d_W_becomeProduct_31 : decode c_W_becomeProduct 31 = .ok (.aload_n 2, 1) := by decide +kernel
theorem d_W_becomeProduct_32 : decode c_W_becomeProduct 32 = .ok (.getfield 15, 3) := by decide +kernel
theorem d_W_becomeProduct_35 : decode c_W_becomeProduct 35 = .ok (.if_icmp .lt 10, 3) := by decide +kernel
theorem d_W_becomeProduct_38 : decode c_W_becomeProduct 38 = .ok (.lload 4, 2) := by decide +kernel
theorem d_W_becomeProduct_40 : decode c_W_becomeProduct 40 = .ok (.lconst 0, 1) := by decide +kernel
theorem d_W_becomeProduct_41 : decode c_W_becomeProduct 41 = .ok (.lcmp, 1) := by decide +kernel
theorem d_W_becomeProduct_42 : decode c_W_becomeProduct 42 = .ok (.ifCond .eq 61, 3) := by decide +kernel
theorem d_W_becomeProduct_45 : decode c_W_becomeProduct 45 = .ok (.lload 4, 2) := by decide +kernel
theorem d_W_becomeProduct_47 : decode c_W_becomeProduct 47 = .ok (.aload_n 0, 1) := by decide +kernel
theorem d_W_becomeProduct_48 : decode c_W_becomeProduct 48 = .ok (.getfield 9, 3) := by decide +kernel
theorem d_W_becomeProduct_51 : decode c_W_becomeProduct 51 = .ok (.iload_n 3, 1) := by decide +kernel
theorem d_W_becomeProduct_52 : decode c_W_becomeProduct 52 = .ok (.iload 6, 2) := by decide +kernel
theorem d_W_becomeProduct_54 : decode c_W_becomeProduct 54 = .ok (.iadd, 1) := by decide +kernel
theorem d_W_becomeProduct_55 : decode c_W_becomeProduct 55 = .ok (.iaload, 1) := by decide +kernel
theorem d_W_becomeProduct_56 : decode c_W_becomeProduct 56 = .ok (.i2l, 1) := by decide +kernel
theorem d_W_becomeProduct_57 : decode c_W_becomeProduct 57 = .ok (.aload_n 1, 1) := by decide +kernel
theorem d_W_becomeProduct_58 : decode c_W_becomeProduct 58 = .ok (.iload_n 3, 1) := by decide +kernel
theorem d_W_becomeProduct_59 : decode c_W_becomeProduct 59 = .ok (.invokevirtual 19, 3) := by decide +kernel
theorem d_W_becomeProduct_62 : decode c_W_becomeProduct 62 = .ok (.aload_n 2, 1) := by decide +kernel
theorem d_W_becomeProduct_63 : decode c_W_becomeProduct 63 = .ok (.iload 6, 2) := by decide +kernel
theorem d_W_becomeProduct_65 : decode c_W_becomeProduct 65 = .ok (.invokevirtual 19, 3) := by decide +kernel
theorem d_W_becomeProduct_68 : decode c_W_becomeProduct 68 = .ok (.lmul, 1) := by decide +kernel
theorem d_W_becomeProduct_69 : decode c_W_becomeProduct 69 = .ok (.ladd, 1) := by decide +kernel
theorem d_W_becomeProduct_70 : decode c_W_becomeProduct 70 = .ok (.ladd, 1) := by decide +kernel
theorem d_W_becomeProduct_71 : decode c_W_becomeProduct 71 = .ok (.lstore 4, 2) := by decide +kernel
theorem d_W_becomeProduct_73 : decode c_W_becomeProduct 73 = .ok (.aload_n 0, 1) := by decide +kernel
theorem d_W_becomeProduct_74 : decode c_W_becomeProduct 74 = .ok (.getfield 9, 3) := by decide +kernel
theorem d_W_becomeProduct_77 : decode c_W_becomeProduct 77 = .ok (.iload_n 3, 1) := by decide +kernel
theorem d_W_becomeProduct_78 : decode c_W_becomeProduct 78 = .ok (.iload 6, 2) := by decide +kernel
theorem d_W_becomeProduct_80 : decode c_W_becomeProduct 80 = .ok (.iadd, 1) := by decide +kernel
theorem d_W_becomeProduct_81 : decode c_W_becomeProduct 81 = .ok (.lload 4, 2) := by decide +kernel
theorem d_W_becomeProduct_83 : decode c_W_becomeProduct 83 = .ok (.ldc2_w 23, 3) := by decide +kernel
theorem d_W_becomeProduct_86 : decode c_W_becomeProduct 86 = .ok (.lrem, 1) := by decide +kernel
theorem d_W_becomeProduct_87 : decode c_W_becomeProduct 87 = .ok (.l2i, 1) := by decide +kernel
theorem d_W_becomeProduct_88 : decode c_W_becomeProduct 88 = .ok (.iastore, 1) := by decide +kernel
theorem d_W_becomeProduct_89 : decode c_W_becomeProduct 89 = .ok (.lload 4, 2) := by decide +kernel
theorem d_W_becomeProduct_91 : decode c_W_becomeProduct 91 = .ok (.ldc2_w 23, 3) := by decide +kernel
theorem d_W_becomeProduct_94 : decode c_W_becomeProduct 94 = .ok (.ldiv, 1) := by decide +kernel
theorem d_W_becomeProduct_95 : decode c_W_becomeProduct 95 = .ok (.lstore 4, 2) := by decide +kernel
theorem d_W_becomeProduct_97 : decode c_W_becomeProduct 97 = .ok (.iinc 6 1, 3) := by decide +kernel
theorem d_W_becomeProduct_100 : decode c_W_becomeProduct 100 = .ok (.goto (-80), 3) := by decide +kernel
theorem d_W_becomeProduct_103 : decode c_W_becomeProduct 103 = .ok (.iinc 3 1, 3) := by decide +kernel
theorem d_W_becomeProduct_106 : decode c_W_becomeProduct 106 = .ok (.goto (-100), 3) := by decide +kernel
theorem d_W_becomeProduct_109 : decode c_W_becomeProduct 109 = .ok (.aload_n 0, 1) := by decide +kernel
theorem d_W_becomeProduct_110 : decode c_W_becomeProduct 110 = .ok (.bipush 12, 2) := by decide +kernel
theorem d_W_becomeProduct_112 : decode c_W_becomeProduct 112 = .ok (.invokevirtual 33, 3) := by decide +kernel
theorem d_W_becomeProduct_115 : decode c_W_becomeProduct 115 = .ok (.return_, 1) := by decide +kernel
theorem d_W_increaseBy_0 : decode c_W_increaseBy 0 = .ok (.iconst 0, 1) := by decide +kernel
theorem d_W_increaseBy_1 : decode c_W_increaseBy 1 = .ok (.istore_n 2, 1) := by decide +kernel
theorem d_W_increaseBy_2 : decode c_W_increaseBy 2 = .ok (.iconst 0, 1) := by decide +kernel
theorem d_W_increaseBy_3 : decode c_W_increaseBy 3 = .ok (.istore_n 3, 1) := by decide +kernel
theorem d_W_increaseBy_4 : decode c_W_increaseBy 4 = .ok (.iload_n 3, 1) := by decide +kernel
theorem d_W_increaseBy_5 : decode c_W_increaseBy 5 = .ok (.bipush 12, 2) := by decide +kernel
theorem d_W_increaseBy_7 : decode c_W_increaseBy 7 = .ok (.if_icmp .ge 60, 3) := by decide +kernel
theorem d_W_increaseBy_10 : decode c_W_increaseBy 10 = .ok (.aload_n 0, 1) := by decide +kernel
theorem d_W_increaseBy_11 : decode c_W_increaseBy 11 = .ok (.getfield 9, 3) := by decide +kernel
theorem d_W_increaseBy_14 : decode c_W_increaseBy 14 = .ok (.iload_n 3, 1) := by decide +kernel
theorem d_W_increaseBy_15 : decode c_W_increaseBy 15 = .ok (.iaload, 1) := by decide +kernel
theorem d_W_increaseBy_16 : decode c_W_increaseBy 16 = .ok (.aload_n 1, 1) := by decide +kernel
theorem d_W_increaseBy_17 : decode c_W_increaseBy 17 = .ok (.getfield 9, 3) := by decide +kernel
theorem d_W_increaseBy_20 : decode c_W_increaseBy 20 = .ok (.iload_n 3, 1) := by decide +kernel
theorem d_W_increaseBy_21 : decode c_W_increaseBy 21 = .ok (.iaload, 1) := by decide +kernel
theorem d_W_increaseBy_22 : decode c_W_increaseBy 22 = .ok (.iadd, 1) := by decide +kernel
theorem d_W_increaseBy_23 : decode c_W_increaseBy 23 = .ok (.iload_n 2, 1) := by decide +kernel
theorem d_W_increaseBy_24 : decode c_W_increaseBy 24 = .ok (.iadd, 1) := by decide +kernel
theorem d_W_increaseBy_25 : decode c_W_increaseBy 25 = .ok (.istore 4, 2) := by decide +kernel
theorem d_W_increaseBy_27 : decode c_W_increaseBy 27 = .ok (.iload 4, 2) := by decide +kernel
theorem d_W_increaseBy_29 : decode c_W_increaseBy 29 = .ok (.ldc 37, 2) := by decide +kernel
theorem d_W_increaseBy_31 : decode c_W_increaseBy 31 = .ok (.if_icmp .lt 7, 3) := by decide +kernel
theorem d_W_increaseBy_34 : decode c_W_increaseBy 34 = .ok (.iconst 1, 1) := by decide +kernel
theorem d_W_increaseBy_35 : decode c_W_increaseBy 35 = .ok (.goto 4, 3) := by decide +kernel
theorem d_W_increaseBy_38 : decode c_W_increaseBy 38 = .ok (.iconst 0, 1) := by decide +kernel
theorem d_W_increaseBy_39 : decode c_W_increaseBy 39 = .ok (.istore_n 2, 1) := by decide +kernel
theorem d_W_increaseBy_40 : decode c_W_increaseBy 40 = .ok (.aload_n 0, 1) := by decide +kernel
theorem d_W_increaseBy_41 : decode c_W_increaseBy 41 = .ok (.getfield 9, 3) := by decide +kernel
theorem d_W_increaseBy_44 : decode c_W_increaseBy 44 = .ok (.iload_n 3, 1) := by decide +kernel
theorem d_W_increaseBy_45 : decode c_W_increaseBy 45 = .ok (.iload_n 2, 1) := by decide +kernel
theorem d_W_increaseBy_46 : decode c_W_increaseBy 46 = .ok (.iconst 1, 1) := by decide +kernel
theorem d_W_increaseBy_47 : decode c_W_increaseBy 47 = .ok (.if_icmp .ne 11, 3) := by decide +kernel
theorem d_W_increaseBy_50 : decode c_W_increaseBy 50 = .ok (.iload 4, 2) := by decide +kernel
theorem d_W_increaseBy_52 : decode c_W_increaseBy 52 = .ok (.ldc 37, 2) := by decide +kernel
theorem d_W_increaseBy_54 : decode c_W_increaseBy 54 = .ok (.isub, 1) := by decide +kernel
theorem d_W_increaseBy_55 : decode c_W_increaseBy 55 = .ok (.goto 5, 3) := by decide +kernel
theorem d_W_increaseBy_58 : decode c_W_increaseBy 58 = .ok (.iload 4, 2) := by decide +kernel
theorem d_W_increaseBy_60 : decode c_W_increaseBy 60 = .ok (.iastore, 1) := by decide +kernel
theorem d_W_increaseBy_61 : decode c_W_increaseBy 61 = .ok (.iinc 3 1, 3) := by decide +kernel
theorem d_W_increaseBy_64 : decode c_W_increaseBy 64 = .ok (.goto (-60), 3) := by decide +kernel
theorem d_W_increaseBy_67 : decode c_W_increaseBy 67 = .ok (.aload_n 0, 1) := by decide +kernel
theorem d_W_increaseBy_68 : decode c_W_increaseBy 68 = .ok (.bipush 12, 2) := by decide +kernel
theorem d_W_increaseBy_70 : decode c_W_increaseBy 70 = .ok (.invokevirtual 33, 3) := by decide +kernel
theorem d_W_increaseBy_73 : decode c_W_increaseBy 73 = .ok (.return_, 1) := by decide +kernel
theorem d_W_isOdd_0 : decode c_W_isOdd 0 = .ok (.aload_n 0, 1) := by decide +kernel
theorem d_W_isOdd_1 : decode c_W_isOdd 1 = .ok (.getfield 9, 3) := by decide +kernel
theorem d_W_isOdd_4 : decode c_W_isOdd 4 = .ok (.iconst 0, 1) := by decide +kernel
theorem d_W_isOdd_5 : decode c_W_isOdd 5 = .ok (.iaload, 1) := by decide +kernel
theorem d_W_isOdd_6 : decode c_W_isOdd 6 = .ok (.iconst 2, 1) := by decide +kernel
theorem d_W_isOdd_7 : decode c_W_isOdd 7 = .ok (.irem, 1) := by decide +kernel
theorem d_W_isOdd_8 : decode c_W_isOdd 8 = .ok (.ifCond .eq 7, 3) := by decide +kernel
theorem d_W_isOdd_11 : decode c_W_isOdd 11 = .ok (.iconst 1, 1) := by decide +kernel
theorem d_W_isOdd_12 : decode c_W_isOdd 12 = .ok (.goto 4, 3) := by decide +kernel
theorem d_W_isOdd_15 : decode c_W_isOdd 15 = .ok (.iconst 0, 1) := by decide +kernel
theorem d_W_isOdd_16 : decode c_W_isOdd 16 = .ok (.ireturn, 1) := by decide +kernel
theorem d_W_digitAt_0 : decode c_W_digitAt 0 = .ok (.aload_n 0, 1) := by decide +kernel
theorem d_W_digitAt_1 : decode c_W_digitAt 1 = .ok (.iload_n 1, 1) := by decide +kernel
theorem d_W_digitAt_2 : decode c_W_digitAt 2 = .ok (.bipush 9, 2) := by decide +kernel
theorem d_W_digitAt_4 : decode c_W_digitAt 4 = .ok (.idiv, 1) := by decide +kernel
theorem d_W_digitAt_5 : decode c_W_digitAt 5 = .ok (.invokevirtual 19, 3) := by decide +kernel
theorem d_W_digitAt_8 : decode c_W_digitAt 8 = .ok (.lstore_n 2, 1) := by decide +kernel
theorem d_W_digitAt_9 : decode c_W_digitAt 9 = .ok (.iload_n 1, 1) := by decide +kernel
theorem d_W_digitAt_10 : decode c_W_digitAt 10 = .ok (.bipush 9, 2) := by decide +kernel
theorem d_W_digitAt_12 : decode c_W_digitAt 12 = .ok (.irem, 1) := by decide +kernel
theorem d_W_digitAt_13 : decode c_W_digitAt 13 = .ok (.istore 4, 2) := by decide +kernel
theorem d_W_digitAt_15 : decode c_W_digitAt 15 = .ok (.iload 4, 2) := by decide +kernel
theorem d_W_digitAt_17 : decode c_W_digitAt 17 = .ok (.ifCond .le 15, 3) := by decide +kernel
theorem d_W_digitAt_20 : decode c_W_digitAt 20 = .ok (.lload_n 2, 1) := by decide +kernel
theorem d_W_digitAt_21 : decode c_W_digitAt 21 = .ok (.ldc2_w 28, 3) := by decide +kernel
theorem d_W_digitAt_24 : decode c_W_digitAt 24 = .ok (.ldiv, 1) := by decide +kernel
theorem d_W_digitAt_25 : decode c_W_digitAt 25 = .ok (.lstore_n 2, 1) := by decide +kernel
theorem d_W_digitAt_26 : decode c_W_digitAt 26 = .ok (.iinc 4 (-1), 3) := by decide +kernel
theorem d_W_digitAt_29 : decode c_W_digitAt 29 = .ok (.goto (-14), 3) := by decide +kernel
theorem d_W_digitAt_32 : decode c_W_digitAt 32 = .ok (.lload_n 2, 1) := by decide +kernel
theorem d_W_digitAt_33 : decode c_W_digitAt 33 = .ok (.ldc2_w 28, 3) := by decide +kernel
theorem d_W_digitAt_36 : decode c_W_digitAt 36 = .ok (.lrem, 1) := by decide +kernel
theorem d_W_digitAt_37 : decode c_W_digitAt 37 = .ok (.l2i, 1) := by decide +kernel
theorem d_W_digitAt_38 : decode c_W_digitAt 38 = .ok (.ireturn, 1) := by decide +kernel
