theorem d_H_init_0 : decode c_H_init 0 = .ok (.aload_n 0, 1) := by decide +kernel
theorem d_H_init_1 : decode c_H_init 1 = .ok (.invokespecial 3, 3) := by decide +kernel
theorem d_H_init_4 : decode c_H_init 4 = .ok (.aload_n 0, 1) := by decide +kernel
theorem d_H_init_5 : decode c_H_init 5 = .ok (.sipush 1200, 3) := by decide +kernel
theorem d_H_init_8 : decode c_H_init 8 = .ok (.newarray .int, 2) := by decide +kernel
theorem d_H_init_10 : decode c_H_init 10 = .ok (.putfield 9, 3) := by decide +kernel
theorem d_H_init_13 : decode c_H_init 13 = .ok (.aload_n 0, 1) := by decide +kernel
theorem d_H_init_14 : decode c_H_init 14 = .ok (.bipush 100, 2) := by decide +kernel
theorem d_H_init_16 : decode c_H_init 16 = .ok (.newarray .int, 2) := by decide +kernel
theorem d_H_init_18 : decode c_H_init 18 = .ok (.putfield 15, 3) := by decide +kernel
theorem d_H_init_21 : decode c_H_init 21 = .ok (.aload_n 0, 1) := by decide +kernel
theorem d_H_init_22 : decode c_H_init 22 = .ok (.iconst 0, 1) := by decide +kernel
theorem d_H_init_23 : decode c_H_init 23 = .ok (.putfield 18, 3) := by decide +kernel
theorem d_H_init_26 : decode c_H_init 26 = .ok (.return_, 1) := by decide +kernel
theorem d_H_hasRoomFor_0 : decode c_H_hasRoomFor 0 = .ok (.aload_n 0, 1) := by decide +kernel
theorem d_H_hasRoomFor_1 : decode c_H_hasRoomFor 1 = .ok (.getfield 18, 3) := by decide +kernel
theorem d_H_hasRoomFor_4 : decode c_H_hasRoomFor 4 = .ok (.iload_n 1, 1) := by decide +kernel
theorem d_H_hasRoomFor_5 : decode c_H_hasRoomFor 5 = .ok (.iadd, 1) := by decide +kernel
theorem d_H_hasRoomFor_6 : decode c_H_hasRoomFor 6 = .ok (.bipush 100, 2) := by decide +kernel
theorem d_H_hasRoomFor_8 : decode c_H_hasRoomFor 8 = .ok (.if_icmp .gt 7, 3) := by decide +kernel
theorem d_H_hasRoomFor_11 : decode c_H_hasRoomFor 11 = .ok (.iconst 1, 1) := by decide +kernel
theorem d_H_hasRoomFor_12 : decode c_H_hasRoomFor 12 = .ok (.goto 4, 3) := by decide +kernel
theorem d_H_hasRoomFor_15 : decode c_H_hasRoomFor 15 = .ok (.iconst 0, 1) := by decide +kernel
theorem d_H_hasRoomFor_16 : decode c_H_hasRoomFor 16 = .ok (.ireturn, 1) := by decide +kernel
theorem d_H_keep_0 : decode c_H_keep 0 = .ok (.aload_n 0, 1) := by decide +kernel
theorem d_H_keep_1 : decode c_H_keep 1 = .ok (.getfield 18, 3) := by decide +kernel
theorem d_H_keep_4 : decode c_H_keep 4 = .ok (.istore_n 2, 1) := by decide +kernel
theorem d_H_keep_5 : decode c_H_keep 5 = .ok (.aload_n 0, 1) := by decide +kernel
theorem d_H_keep_6 : decode c_H_keep 6 = .ok (.getfield 15, 3) := by decide +kernel
theorem d_H_keep_9 : decode c_H_keep 9 = .ok (.iload_n 2, 1) := by decide +kernel
theorem d_H_keep_10 : decode c_H_keep 10 = .ok (.aload_n 1, 1) := by decide +kernel
theorem d_H_keep_11 : decode c_H_keep 11 = .ok (.getfield 22, 3) := by decide +kernel
theorem d_H_keep_14 : decode c_H_keep 14 = .ok (.iastore, 1) := by decide +kernel
theorem d_H_keep_15 : decode c_H_keep 15 = .ok (.aload_n 0, 1) := by decide +kernel
theorem d_H_keep_16 : decode c_H_keep 16 = .ok (.aload_n 1, 1) := by decide +kernel
theorem d_H_keep_17 : decode c_H_keep 17 = .ok (.getfield 27, 3) := by decide +kernel
theorem d_H_keep_20 : decode c_H_keep 20 = .ok (.iconst 2, 1) := by decide +kernel
theorem d_H_keep_21 : decode c_H_keep 21 = .ok (.iload_n 2, 1) := by decide +kernel
theorem d_H_keep_22 : decode c_H_keep 22 = .ok (.imul, 1) := by decide +kernel
theorem d_H_keep_23 : decode c_H_keep 23 = .ok (.bipush 6, 2) := by decide +kernel
theorem d_H_keep_25 : decode c_H_keep 25 = .ok (.imul, 1) := by decide +kernel
theorem d_H_keep_26 : decode c_H_keep 26 = .ok (.invokevirtual 38, 3) := by decide +kernel
theorem d_H_keep_29 : decode c_H_keep 29 = .ok (.aload_n 0, 1) := by decide +kernel
theorem d_H_keep_30 : decode c_H_keep 30 = .ok (.aload_n 1, 1) := by decide +kernel
theorem d_H_keep_31 : decode c_H_keep 31 = .ok (.getfield 35, 3) := by decide +kernel
theorem d_H_keep_34 : decode c_H_keep 34 = .ok (.iconst 2, 1) := by decide +kernel
theorem d_H_keep_35 : decode c_H_keep 35 = .ok (.iload_n 2, 1) := by decide +kernel
theorem d_H_keep_36 : decode c_H_keep 36 = .ok (.imul, 1) := by decide +kernel
theorem d_H_keep_37 : decode c_H_keep 37 = .ok (.iconst 1, 1) := by decide +kernel
theorem d_H_keep_38 : decode c_H_keep 38 = .ok (.iadd, 1) := by decide +kernel
theorem d_H_keep_39 : decode c_H_keep 39 = .ok (.bipush 6, 2) := by decide +kernel
theorem d_H_keep_41 : decode c_H_keep 41 = .ok (.imul, 1) := by decide +kernel
theorem d_H_keep_42 : decode c_H_keep 42 = .ok (.invokevirtual 38, 3) := by decide +kernel
theorem d_H_keep_45 : decode c_H_keep 45 = .ok (.aload_n 0, 1) := by decide +kernel
theorem d_H_keep_46 : decode c_H_keep 46 = .ok (.dup, 1) := by decide +kernel
theorem d_H_keep_47 : decode c_H_keep 47 = .ok (.getfield 18, 3) := by decide +kernel
theorem d_H_keep_50 : decode c_H_keep 50 = .ok (.iconst 1, 1) := by decide +kernel
theorem d_H_keep_51 : decode c_H_keep 51 = .ok (.iadd, 1) := by decide +kernel
theorem d_H_keep_52 : decode c_H_keep 52 = .ok (.putfield 18, 3) := by decide +kernel
theorem d_H_keep_55 : decode c_H_keep 55 = .ok (.iload_n 2, 1) := by decide +kernel
theorem d_H_keep_56 : decode c_H_keep 56 = .ok (.ireturn, 1) := by decide +kernel
theorem d_H_keepNumber_0 : decode c_H_keepNumber 0 = .ok (.iconst 0, 1) := by decide +kernel
theorem d_H_keepNumber_1 : decode c_H_keepNumber 1 = .ok (.istore_n 3, 1) := by decide +kernel
theorem d_H_keepNumber_2 : decode c_H_keepNumber 2 = .ok (.iload_n 3, 1) := by decide +kernel
theorem d_H_keepNumber_3 : decode c_H_keepNumber 3 = .ok (.bipush 6, 2) := by decide +kernel
theorem d_H_keepNumber_5 : decode c_H_keepNumber 5 = .ok (.if_icmp .ge 23, 3) := by decide +kernel
theorem d_H_keepNumber_8 : decode c_H_keepNumber 8 = .ok (.aload_n 0, 1) := by decide +kernel
theorem d_H_keepNumber_9 : decode c_H_keepNumber 9 = .ok (.getfield 9, 3) := by decide +kernel
theorem d_H_keepNumber_12 : decode c_H_keepNumber 12 = .ok (.iload_n 2, 1) := by decide +kernel
theorem d_H_keepNumber_13 : decode c_H_keepNumber 13 = .ok (.iload_n 3, 1) := by decide +kernel
theorem d_H_keepNumber_14 : decode c_H_keepNumber 14 = .ok (.iadd, 1) := by decide +kernel
theorem d_H_keepNumber_15 : decode c_H_keepNumber 15 = .ok (.aload_n 1, 1) := by decide +kernel
theorem d_H_keepNumber_16 : decode c_H_keepNumber 16 = .ok (.getfield 47, 3) := by decide +kernel
theorem d_H_keepNumber_19 : decode c_H_keepNumber 19 = .ok (.iload_n 3, 1) := by decide +kernel
theorem d_H_keepNumber_20 : decode c_H_keepNumber 20 = .ok (.iaload, 1) := by decide +kernel
theorem d_H_keepNumber_21 : decode c_H_keepNumber 21 = .ok (.iastore, 1) := by decide +kernel
theorem d_H_keepNumber_22 : decode c_H_keepNumber 22 = .ok (.iinc 3 1, 3) := by decide +kernel
theorem d_H_keepNumber_25 : decode c_H_keepNumber 25 = .ok (.goto (-23), 3) := by decide +kernel
theorem d_H_keepNumber_28 : decode c_H_keepNumber 28 = .ok (.return_, 1) := by decide +kernel
theorem d_H_has_0 : decode c_H_has 0 = .ok (.iload_n 1, 1) := by decide +kernel
theorem d_H_has_1 : decode c_H_has 1 = .ok (.ifCond .lt 15, 3) := by decide +kernel
theorem d_H_has_4 : decode c_H_has 4 = .ok (.iload_n 1, 1) := by decide +kernel
theorem d_H_has_5 : decode c_H_has 5 = .ok (.aload_n 0, 1) := by decide +kernel
theorem d_H_has_6 : decode c_H_has 6 = .ok (.getfield 18, 3) := by decide +kernel
theorem d_H_has_9 : decode c_H_has 9 = .ok (.if_icmp .ge 7, 3) := by decide +kernel
theorem d_H_has_12 : decode c_H_has 12 = .ok (.iconst 1, 1) := by decide +kernel
theorem d_H_has_13 : decode c_H_has 13 = .ok (.goto 4, 3) := by decide +kernel
theorem d_H_has_16 : decode c_H_has 16 = .ok (.iconst 0, 1) := by decide +kernel
theorem d_H_has_17 : decode c_H_has 17 = .ok (.ireturn, 1) := by decide +kernel
theorem d_H_fetch_0 : decode c_H_fetch 0 = .ok (.aload_n 2, 1) := by decide +kernel
theorem d_H_fetch_1 : decode c_H_fetch 1 = .ok (.aload_n 0, 1) := by decide +kernel
theorem d_H_fetch_2 : decode c_H_fetch 2 = .ok (.getfield 15, 3) := by decide +kernel
theorem d_H_fetch_5 : decode c_H_fetch 5 = .ok (.iload_n 1, 1) := by decide +kernel
theorem d_H_fetch_6 : decode c_H_fetch 6 = .ok (.iaload, 1) := by decide +kernel
theorem d_H_fetch_7 : decode c_H_fetch 7 = .ok (.putfield 22, 3) := by decide +kernel
theorem d_H_fetch_10 : decode c_H_fetch 10 = .ok (.aload_n 0, 1) := by decide +kernel
theorem d_H_fetch_11 : decode c_H_fetch 11 = .ok (.iconst 2, 1) := by decide +kernel
theorem d_H_fetch_12 : decode c_H_fetch 12 = .ok (.iload_n 1, 1) := by decide +kernel
theorem d_H_fetch_13 : decode c_H_fetch 13 = .ok (.imul, 1) := by decide +kernel
theorem d_H_fetch_14 : decode c_H_fetch 14 = .ok (.bipush 6, 2) := by decide +kernel
theorem d_H_fetch_16 : decode c_H_fetch 16 = .ok (.imul, 1) := by decide +kernel
theorem d_H_fetch_17 : decode c_H_fetch 17 = .ok (.aload_n 2, 1) := by decide +kernel
theorem d_H_fetch_18 : decode c_H_fetch 18 = .ok (.getfield 27, 3) := by decide +kernel
theorem d_H_fetch_21 : decode c_H_fetch 21 = .ok (.invokevirtual 31, 3) := by decide +kernel
theorem d_H_fetch_24 : decode c_H_fetch 24 = .ok (.aload_n 0, 1) := by decide +kernel
theorem d_H_fetch_25 : decode c_H_fetch 25 = .ok (.iconst 2, 1) := by decide +kernel
theorem d_H_fetch_26 : decode c_H_fetch 26 = .ok (.iload_n 1, 1) := by decide +kernel
theorem d_H_fetch_27 : decode c_H_fetch 27 = .ok (.imul, 1) := by decide +kernel
theorem d_H_fetch_28 : decode c_H_fetch 28 = .ok (.iconst 1, 1) := by decide +kernel
theorem d_H_fetch_29 : decode c_H_fetch 29 = .ok (.iadd, 1) := by decide +kernel
theorem d_H_fetch_30 : decode c_H_fetch 30 = .ok (.bipush 6, 2) := by decide +kernel
theorem d_H_fetch_32 : decode c_H_fetch 32 = .ok (.imul, 1) := by decide +kernel
theorem d_H_fetch_33 : decode c_H_fetch 33 = .ok (.aload_n 2, 1) := by decide +kernel
theorem d_H_fetch_34 : decode c_H_fetch 34 = .ok (.getfield 35, 3) := by decide +kernel
theorem d_H_fetch_37 : decode c_H_fetch 37 = .ok (.invokevirtual 31, 3) := by decide +kernel
theorem d_H_fetch_40 : decode c_H_fetch 40 = .ok (.return_, 1) := by decide +kernel
theorem d_H_fetchNumber_0 : decode c_H_fetchNumber 0 = .ok (.aload_n 2, 1) := by decide +kernel
theorem d_H_fetchNumber_1 : decode c_H_fetchNumber 1 = .ok (.invokevirtual 42, 3) := by decide +kernel
theorem d_H_fetchNumber_4 : decode c_H_fetchNumber 4 = .ok (.iconst 0, 1) := by decide +kernel
theorem d_H_fetchNumber_5 : decode c_H_fetchNumber 5 = .ok (.istore_n 3, 1) := by decide +kernel
theorem d_H_fetchNumber_6 : decode c_H_fetchNumber 6 = .ok (.iload_n 3, 1) := by decide +kernel
theorem d_H_fetchNumber_7 : decode c_H_fetchNumber 7 = .ok (.bipush 6, 2) := by decide +kernel
theorem d_H_fetchNumber_9 : decode c_H_fetchNumber 9 = .ok (.if_icmp .ge 23, 3) := by decide +kernel
theorem d_H_fetchNumber_12 : decode c_H_fetchNumber 12 = .ok (.aload_n 2, 1) := by decide +kernel
theorem d_H_fetchNumber_13 : decode c_H_fetchNumber 13 = .ok (.getfield 47, 3) := by decide +kernel
theorem d_H_fetchNumber_16 : decode c_H_fetchNumber 16 = .ok (.iload_n 3, 1) := by decide +kernel
theorem d_H_fetchNumber_17 : decode c_H_fetchNumber 17 = .ok (.aload_n 0, 1) := by decide +kernel
theorem d_H_fetchNumber_18 : decode c_H_fetchNumber 18 = .ok (.getfield 9, 3) := by decide +kernel
theorem d_H_fetchNumber_21 : decode c_H_fetchNumber 21 = .ok (.iload_n 1, 1) := by decide +kernel
theorem d_H_fetchNumber_22 : decode c_H_fetchNumber 22 = .ok (.iload_n 3, 1) := by decide +kernel
theorem d_H_fetchNumber_23 : decode c_H_fetchNumber 23 = .ok (.iadd, 1) := by decide +kernel
theorem d_H_fetchNumber_24 : decode c_H_fetchNumber 24 = .ok (.iaload, 1) := by decide +kernel
theorem d_H_fetchNumber_25 : decode c_H_fetchNumber 25 = .ok (.iastore, 1) := by decide +kernel
theorem d_H_fetchNumber_26 : decode c_H_fetchNumber 26 = .ok (.iinc 3 1, 3) := by decide +kernel
theorem d_H_fetchNumber_29 : decode c_H_fetchNumber 29 = .ok (.goto (-23), 3) := by decide +kernel
theorem d_H_fetchNumber_32 : decode c_H_fetchNumber 32 = .ok (.aload_n 2, 1) := by decide +kernel
theorem d_H_fetchNumber_33 : decode c_H_fetchNumber 33 = .ok (.bipush 6, 2) := by decide +kernel
theorem d_H_fetchNumber_35 : decode c_H_fetchNumber 35 = .ok (.invokevirtual 48, 3) := by decide +kernel
theorem d_H_fetchNumber_38 : decode c_H_fetchNumber 38 = .ok (.return_, 1) := by decide +kernel
