theorem d_F_init_0 : decode c_F_init 0 = .ok (.aload_n 0, 1) := by decide +kernel
theorem d_F_init_1 : decode c_F_init 1 = .ok (.invokespecial 3, 3) := by decide +kernel
theorem d_F_init_4 : decode c_F_init 4 = .ok (.aload_n 0, 1) := by decide +kernel
theorem d_F_init_5 : decode c_F_init 5 = .ok (.iconst 0, 1) := by decide +kernel
theorem d_F_init_6 : decode c_F_init 6 = .ok (.putfield 9, 3) := by decide +kernel
theorem d_F_init_9 : decode c_F_init 9 = .ok (.aload_n 0, 1) := by decide +kernel
theorem d_F_init_10 : decode c_F_init 10 = .ok (.new 15, 3) := by decide +kernel
theorem d_F_init_13 : decode c_F_init 13 = .ok (.dup, 1) := by decide +kernel
theorem d_F_init_14 : decode c_F_init 14 = .ok (.invokespecial 17, 3) := by decide +kernel
theorem d_F_init_17 : decode c_F_init 17 = .ok (.putfield 18, 3) := by decide +kernel
theorem d_F_init_20 : decode c_F_init 20 = .ok (.aload_n 0, 1) := by decide +kernel
theorem d_F_init_21 : decode c_F_init 21 = .ok (.new 15, 3) := by decide +kernel
theorem d_F_init_24 : decode c_F_init 24 = .ok (.dup, 1) := by decide +kernel
theorem d_F_init_25 : decode c_F_init 25 = .ok (.invokespecial 17, 3) := by decide +kernel
theorem d_F_init_28 : decode c_F_init 28 = .ok (.putfield 22, 3) := by decide +kernel
theorem d_F_init_31 : decode c_F_init 31 = .ok (.aload_n 0, 1) := by decide +kernel
theorem d_F_init_32 : decode c_F_init 32 = .ok (.getfield 22, 3) := by decide +kernel
theorem d_F_init_35 : decode c_F_init 35 = .ok (.lconst 1, 1) := by decide +kernel
theorem d_F_init_36 : decode c_F_init 36 = .ok (.invokevirtual 25, 3) := by decide +kernel
theorem d_F_init_39 : decode c_F_init 39 = .ok (.return_, 1) := by decide +kernel
theorem d_F_become_0 : decode c_F_become 0 = .ok (.aload_n 0, 1) := by decide +kernel
theorem d_F_become_1 : decode c_F_become 1 = .ok (.lload_n 1, 1) := by decide +kernel
theorem d_F_become_2 : decode c_F_become 2 = .ok (.lconst 0, 1) := by decide +kernel
theorem d_F_become_3 : decode c_F_become 3 = .ok (.invokestatic 33, 3) := by decide +kernel
theorem d_F_become_6 : decode c_F_become 6 = .ok (.lload_n 3, 1) := by decide +kernel
theorem d_F_become_7 : decode c_F_become 7 = .ok (.lconst 0, 1) := by decide +kernel
theorem d_F_become_8 : decode c_F_become 8 = .ok (.invokestatic 33, 3) := by decide +kernel
theorem d_F_become_11 : decode c_F_become 11 = .ok (.imul, 1) := by decide +kernel
theorem d_F_become_12 : decode c_F_become 12 = .ok (.putfield 9, 3) := by decide +kernel
theorem d_F_become_15 : decode c_F_become 15 = .ok (.aload_n 0, 1) := by decide +kernel
theorem d_F_become_16 : decode c_F_become 16 = .ok (.getfield 18, 3) := by decide +kernel
theorem d_F_become_19 : decode c_F_become 19 = .ok (.lload_n 1, 1) := by decide +kernel
theorem d_F_become_20 : decode c_F_become 20 = .ok (.invokevirtual 25, 3) := by decide +kernel
theorem d_F_become_23 : decode c_F_become 23 = .ok (.aload_n 0, 1) := by decide +kernel
theorem d_F_become_24 : decode c_F_become 24 = .ok (.getfield 22, 3) := by decide +kernel
theorem d_F_become_27 : decode c_F_become 27 = .ok (.lload_n 3, 1) := by decide +kernel
theorem d_F_become_28 : decode c_F_become 28 = .ok (.invokevirtual 25, 3) := by decide +kernel
theorem d_F_become_31 : decode c_F_become 31 = .ok (.return_, 1) := by decide +kernel
theorem d_F_isTooLong_0 : decode c_F_isTooLong 0 = .ok (.aload_n 0, 1) := by decide +kernel
theorem d_F_isTooLong_1 : decode c_F_isTooLong 1 = .ok (.getfield 18, 3) := by decide +kernel
theorem d_F_isTooLong_4 : decode c_F_isTooLong 4 = .ok (.invokevirtual 29, 3) := by decide +kernel
theorem d_F_isTooLong_7 : decode c_F_isTooLong 7 = .ok (.bipush 48, 2) := by decide +kernel
theorem d_F_isTooLong_9 : decode c_F_isTooLong 9 = .ok (.if_icmp .gt 15, 3) := by decide +kernel
theorem d_F_isTooLong_12 : decode c_F_isTooLong 12 = .ok (.aload_n 0, 1) := by decide +kernel
theorem d_F_isTooLong_13 : decode c_F_isTooLong 13 = .ok (.getfield 22, 3) := by decide +kernel
theorem d_F_isTooLong_16 : decode c_F_isTooLong 16 = .ok (.invokevirtual 29, 3) := by decide +kernel
theorem d_F_isTooLong_19 : decode c_F_isTooLong 19 = .ok (.bipush 48, 2) := by decide +kernel
theorem d_F_isTooLong_21 : decode c_F_isTooLong 21 = .ok (.if_icmp .le 7, 3) := by decide +kernel
theorem d_F_isTooLong_24 : decode c_F_isTooLong 24 = .ok (.iconst 1, 1) := by decide +kernel
theorem d_F_isTooLong_25 : decode c_F_isTooLong 25 = .ok (.goto 4, 3) := by decide +kernel
theorem d_F_isTooLong_28 : decode c_F_isTooLong 28 = .ok (.iconst 0, 1) := by decide +kernel
theorem d_F_isTooLong_29 : decode c_F_isTooLong 29 = .ok (.ireturn, 1) := by decide +kernel
theorem d_F_becomeProduct_0 : decode c_F_becomeProduct 0 = .ok (.aload_n 0, 1) := by decide +kernel
theorem d_F_becomeProduct_1 : decode c_F_becomeProduct 1 = .ok (.aload_n 1, 1) := by decide +kernel
theorem d_F_becomeProduct_2 : decode c_F_becomeProduct 2 = .ok (.getfield 9, 3) := by decide +kernel
theorem d_F_becomeProduct_5 : decode c_F_becomeProduct 5 = .ok (.aload_n 2, 1) := by decide +kernel
theorem d_F_becomeProduct_6 : decode c_F_becomeProduct 6 = .ok (.getfield 9, 3) := by decide +kernel
theorem d_F_becomeProduct_9 : decode c_F_becomeProduct 9 = .ok (.imul, 1) := by decide +kernel
theorem d_F_becomeProduct_10 : decode c_F_becomeProduct 10 = .ok (.putfield 9, 3) := by decide +kernel
theorem d_F_becomeProduct_13 : decode c_F_becomeProduct 13 = .ok (.aload_n 0, 1) := by decide +kernel
theorem d_F_becomeProduct_14 : decode c_F_becomeProduct 14 = .ok (.getfield 18, 3) := by decide +kernel
theorem d_F_becomeProduct_17 : decode c_F_becomeProduct 17 = .ok (.aload_n 1, 1) := by decide +kernel
theorem d_F_becomeProduct_18 : decode c_F_becomeProduct 18 = .ok (.getfield 18, 3) := by decide +kernel
theorem d_F_becomeProduct_21 : decode c_F_becomeProduct 21 = .ok (.aload_n 2, 1) := by decide +kernel
theorem d_F_becomeProduct_22 : decode c_F_becomeProduct 22 = .ok (.getfield 18, 3) := by decide +kernel
theorem d_F_becomeProduct_25 : decode c_F_becomeProduct 25 = .ok (.invokevirtual 43, 3) := by decide +kernel
theorem d_F_becomeProduct_28 : decode c_F_becomeProduct 28 = .ok (.aload_n 0, 1) := by decide +kernel
theorem d_F_becomeProduct_29 : decode c_F_becomeProduct 29 = .ok (.getfield 22, 3) := by decide +kernel
theorem d_F_becomeProduct_32 : decode c_F_becomeProduct 32 = .ok (.aload_n 1, 1) := by decide +kernel
theorem d_F_becomeProduct_33 : decode c_F_becomeProduct 33 = .ok (.getfield 22, 3) := by decide +kernel
theorem d_F_becomeProduct_36 : decode c_F_becomeProduct 36 = .ok (.aload_n 2, 1) := by decide +kernel
theorem d_F_becomeProduct_37 : decode c_F_becomeProduct 37 = .ok (.getfield 22, 3) := by decide +kernel
theorem d_F_becomeProduct_40 : decode c_F_becomeProduct 40 = .ok (.invokevirtual 43, 3) := by decide +kernel
theorem d_F_becomeProduct_43 : decode c_F_becomeProduct 43 = .ok (.return_, 1) := by decide +kernel
theorem d_F_becomeQuotient_0 : decode c_F_becomeQuotient 0 = .ok (.aload_n 0, 1) := by decide +kernel
theorem d_F_becomeQuotient_1 : decode c_F_becomeQuotient 1 = .ok (.aload_n 1, 1) := by decide +kernel
theorem d_F_becomeQuotient_2 : decode c_F_becomeQuotient 2 = .ok (.getfield 9, 3) := by decide +kernel
theorem d_F_becomeQuotient_5 : decode c_F_becomeQuotient 5 = .ok (.aload_n 2, 1) := by decide +kernel
theorem d_F_becomeQuotient_6 : decode c_F_becomeQuotient 6 = .ok (.getfield 9, 3) := by decide +kernel
theorem d_F_becomeQuotient_9 : decode c_F_becomeQuotient 9 = .ok (.imul, 1) := by decide +kernel
theorem d_F_becomeQuotient_10 : decode c_F_becomeQuotient 10 = .ok (.putfield 9, 3) := by decide +kernel
theorem d_F_becomeQuotient_13 : decode c_F_becomeQuotient 13 = .ok (.aload_n 0, 1) := by decide +kernel
theorem d_F_becomeQuotient_14 : decode c_F_becomeQuotient 14 = .ok (.getfield 18, 3) := by decide +kernel
theorem d_F_becomeQuotient_17 : decode c_F_becomeQuotient 17 = .ok (.aload_n 1, 1) := by decide +kernel
theorem d_F_becomeQuotient_18 : decode c_F_becomeQuotient 18 = .ok (.getfield 18, 3) := by decide +kernel
theorem d_F_becomeQuotient_21 : decode c_F_becomeQuotient 21 = .ok (.aload_n 2, 1) := by decide +kernel
theorem d_F_becomeQuotient_22 : decode c_F_becomeQuotient 22 = .ok (.getfield 22, 3) := by decide +kernel
theorem d_F_becomeQuotient_25 : decode c_F_becomeQuotient 25 = .ok (.invokevirtual 43, 3) := by decide +kernel
theorem d_F_becomeQuotient_28 : decode c_F_becomeQuotient 28 = .ok (.aload_n 0, 1) := by decide +kernel
theorem d_F_becomeQuotient_29 : decode c_F_becomeQuotient 29 = .ok (.getfield 22, 3) := by decide +kernel
theorem d_F_becomeQuotient_32 : decode c_F_becomeQuotient 32 = .ok (.aload_n 1, 1) := by decide +kernel
theorem d_F_becomeQuotient_33 : decode c_F_becomeQuotient 33 = .ok (.getfield 22, 3) := by decide +kernel
theorem d_F_becomeQuotient_36 : decode c_F_becomeQuotient 36 = .ok (.aload_n 2, 1) := by decide +kernel
theorem d_F_becomeQuotient_37 : decode c_F_becomeQuotient 37 = .ok (.getfield 18, 3) := by decide +kernel
theorem d_F_becomeQuotient_40 : decode c_F_becomeQuotient 40 = .ok (.invokevirtual 43, 3) := by decide +kernel
theorem d_F_becomeQuotient_43 : decode c_F_becomeQuotient 43 = .ok (.return_, 1) := by decide +kernel
theorem d_F_becomeCopy_0 : decode c_F_becomeCopy 0 = .ok (.aload_n 0, 1) := by decide +kernel
theorem d_F_becomeCopy_1 : decode c_F_becomeCopy 1 = .ok (.aload_n 1, 1) := by decide +kernel
theorem d_F_becomeCopy_2 : decode c_F_becomeCopy 2 = .ok (.getfield 9, 3) := by decide +kernel
theorem d_F_becomeCopy_5 : decode c_F_becomeCopy 5 = .ok (.putfield 9, 3) := by decide +kernel
theorem d_F_becomeCopy_8 : decode c_F_becomeCopy 8 = .ok (.aload_n 0, 1) := by decide +kernel
theorem d_F_becomeCopy_9 : decode c_F_becomeCopy 9 = .ok (.getfield 18, 3) := by decide +kernel
theorem d_F_becomeCopy_12 : decode c_F_becomeCopy 12 = .ok (.aload_n 1, 1) := by decide +kernel
theorem d_F_becomeCopy_13 : decode c_F_becomeCopy 13 = .ok (.getfield 18, 3) := by decide +kernel
theorem d_F_becomeCopy_16 : decode c_F_becomeCopy 16 = .ok (.invokevirtual 39, 3) := by decide +kernel
theorem d_F_becomeCopy_19 : decode c_F_becomeCopy 19 = .ok (.aload_n 0, 1) := by decide +kernel
theorem d_F_becomeCopy_20 : decode c_F_becomeCopy 20 = .ok (.getfield 22, 3) := by decide +kernel
theorem d_F_becomeCopy_23 : decode c_F_becomeCopy 23 = .ok (.aload_n 1, 1) := by decide +kernel
theorem d_F_becomeCopy_24 : decode c_F_becomeCopy 24 = .ok (.getfield 22, 3) := by decide +kernel
theorem d_F_becomeCopy_27 : decode c_F_becomeCopy 27 = .ok (.invokevirtual 39, 3) := by decide +kernel
theorem d_F_becomeCopy_30 : decode c_F_becomeCopy 30 = .ok (.return_, 1) := by decide +kernel
