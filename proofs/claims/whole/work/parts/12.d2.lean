theorem dX2_init_0 : decode cX2_init 0 = .ok (.aload_n 0, 1) := by decide +kernel
theorem dX2_init_1 : decode cX2_init 1 = .ok (.invokespecial 3, 3) := by decide +kernel
theorem dX2_init_4 : decode cX2_init 4 = .ok (.aload_n 0, 1) := by decide +kernel
theorem dX2_init_5 : decode cX2_init 5 = .ok (.bipush 20, 2) := by decide +kernel
theorem dX2_init_7 : decode cX2_init 7 = .ok (.newarray .int, 2) := by decide +kernel
theorem dX2_init_9 : decode cX2_init 9 = .ok (.putfield 9, 3) := by decide +kernel
theorem dX2_init_12 : decode cX2_init 12 = .ok (.aload_n 0, 1) := by decide +kernel
theorem dX2_init_13 : decode cX2_init 13 = .ok (.bipush 6, 2) := by decide +kernel
theorem dX2_init_15 : decode cX2_init 15 = .ok (.newarray .int, 2) := by decide +kernel
theorem dX2_init_17 : decode cX2_init 17 = .ok (.putfield 15, 3) := by decide +kernel
theorem dX2_init_20 : decode cX2_init 20 = .ok (.return_, 1) := by decide +kernel
theorem dX2_clear_0 : decode cX2_clear 0 = .ok (.aload_n 0, 1) := by decide +kernel
theorem dX2_clear_1 : decode cX2_clear 1 = .ok (.iconst 0, 1) := by decide +kernel
theorem dX2_clear_2 : decode cX2_clear 2 = .ok (.putfield 18, 3) := by decide +kernel
theorem dX2_clear_5 : decode cX2_clear 5 = .ok (.aload_n 0, 1) := by decide +kernel
theorem dX2_clear_6 : decode cX2_clear 6 = .ok (.getfield 15, 3) := by decide +kernel
theorem dX2_clear_9 : decode cX2_clear 9 = .ok (.iconst 0, 1) := by decide +kernel
theorem dX2_clear_10 : decode cX2_clear 10 = .ok (.invokestatic 22, 3) := by decide +kernel
theorem dX2_clear_13 : decode cX2_clear 13 = .ok (.return_, 1) := by decide +kernel
theorem dX2_copyFrom_0 : decode cX2_copyFrom 0 = .ok (.aload_n 0, 1) := by decide +kernel
theorem dX2_copyFrom_1 : decode cX2_copyFrom 1 = .ok (.aload_n 1, 1) := by decide +kernel
theorem dX2_copyFrom_2 : decode cX2_copyFrom 2 = .ok (.getfield 18, 3) := by decide +kernel
theorem dX2_copyFrom_5 : decode cX2_copyFrom 5 = .ok (.putfield 18, 3) := by decide +kernel
theorem dX2_copyFrom_8 : decode cX2_copyFrom 8 = .ok (.aload_n 1, 1) := by decide +kernel
theorem dX2_copyFrom_9 : decode cX2_copyFrom 9 = .ok (.getfield 9, 3) := by decide +kernel
theorem dX2_copyFrom_12 : decode cX2_copyFrom 12 = .ok (.iconst 0, 1) := by decide +kernel
theorem dX2_copyFrom_13 : decode cX2_copyFrom 13 = .ok (.aload_n 0, 1) := by decide +kernel
theorem dX2_copyFrom_14 : decode cX2_copyFrom 14 = .ok (.getfield 9, 3) := by decide +kernel
theorem dX2_copyFrom_17 : decode cX2_copyFrom 17 = .ok (.iconst 0, 1) := by decide +kernel
theorem dX2_copyFrom_18 : decode cX2_copyFrom 18 = .ok (.bipush 20, 2) := by decide +kernel
theorem dX2_copyFrom_20 : decode cX2_copyFrom 20 = .ok (.invokestatic 28, 3) := by decide +kernel
theorem dX2_copyFrom_23 : decode cX2_copyFrom 23 = .ok (.aload_n 1, 1) := by decide +kernel
theorem dX2_copyFrom_24 : decode cX2_copyFrom 24 = .ok (.getfield 15, 3) := by decide +kernel
theorem dX2_copyFrom_27 : decode cX2_copyFrom 27 = .ok (.iconst 0, 1) := by decide +kernel
theorem dX2_copyFrom_28 : decode cX2_copyFrom 28 = .ok (.aload_n 0, 1) := by decide +kernel
theorem dX2_copyFrom_29 : decode cX2_copyFrom 29 = .ok (.getfield 15, 3) := by decide +kernel
theorem dX2_copyFrom_32 : decode cX2_copyFrom 32 = .ok (.iconst 0, 1) := by decide +kernel
theorem dX2_copyFrom_33 : decode cX2_copyFrom 33 = .ok (.bipush 6, 2) := by decide +kernel
theorem dX2_copyFrom_35 : decode cX2_copyFrom 35 = .ok (.invokestatic 28, 3) := by decide +kernel
theorem dX2_copyFrom_38 : decode cX2_copyFrom 38 = .ok (.return_, 1) := by decide +kernel
theorem dX2_isFull_0 : decode cX2_isFull 0 = .ok (.aload_n 0, 1) := by decide +kernel
theorem dX2_isFull_1 : decode cX2_isFull 1 = .ok (.getfield 18, 3) := by decide +kernel
theorem dX2_isFull_4 : decode cX2_isFull 4 = .ok (.bipush 20, 2) := by decide +kernel
theorem dX2_isFull_6 : decode cX2_isFull 6 = .ok (.if_icmp .lt 7, 3) := by decide +kernel
theorem dX2_isFull_9 : decode cX2_isFull 9 = .ok (.iconst 1, 1) := by decide +kernel
theorem dX2_isFull_10 : decode cX2_isFull 10 = .ok (.goto 4, 3) := by decide +kernel
theorem dX2_isFull_13 : decode cX2_isFull 13 = .ok (.iconst 0, 1) := by decide +kernel
theorem dX2_isFull_14 : decode cX2_isFull 14 = .ok (.ireturn, 1) := by decide +kernel
theorem dX2_maskAt_0 : decode cX2_maskAt 0 = .ok (.aload_n 0, 1) := by decide +kernel
theorem dX2_maskAt_1 : decode cX2_maskAt 1 = .ok (.getfield 9, 3) := by decide +kernel
theorem dX2_maskAt_4 : decode cX2_maskAt 4 = .ok (.iload_n 1, 1) := by decide +kernel
theorem dX2_maskAt_5 : decode cX2_maskAt 5 = .ok (.iaload, 1) := by decide +kernel
theorem dX2_maskAt_6 : decode cX2_maskAt 6 = .ok (.bipush 15, 2) := by decide +kernel
theorem dX2_maskAt_8 : decode cX2_maskAt 8 = .ok (.ishr, 1) := by decide +kernel
theorem dX2_maskAt_9 : decode cX2_maskAt 9 = .ok (.ireturn, 1) := by decide +kernel
theorem dX2_firstDay_0 : decode cX2_firstDay 0 = .ok (.aload_n 0, 1) := by decide +kernel
theorem dX2_firstDay_1 : decode cX2_firstDay 1 = .ok (.getfield 9, 3) := by decide +kernel
theorem dX2_firstDay_4 : decode cX2_firstDay 4 = .ok (.iload_n 1, 1) := by decide +kernel
theorem dX2_firstDay_5 : decode cX2_firstDay 5 = .ok (.iaload, 1) := by decide +kernel
theorem dX2_firstDay_6 : decode cX2_firstDay 6 = .ok (.bipush 10, 2) := by decide +kernel
theorem dX2_firstDay_8 : decode cX2_firstDay 8 = .ok (.ishr, 1) := by decide +kernel
theorem dX2_firstDay_9 : decode cX2_firstDay 9 = .ok (.bipush 31, 2) := by decide +kernel
theorem dX2_firstDay_11 : decode cX2_firstDay 11 = .ok (.iand, 1) := by decide +kernel
theorem dX2_firstDay_12 : decode cX2_firstDay 12 = .ok (.ireturn, 1) := by decide +kernel
theorem dX2_lastDay_0 : decode cX2_lastDay 0 = .ok (.aload_n 0, 1) := by decide +kernel
theorem dX2_lastDay_1 : decode cX2_lastDay 1 = .ok (.getfield 9, 3) := by decide +kernel
theorem dX2_lastDay_4 : decode cX2_lastDay 4 = .ok (.iload_n 1, 1) := by decide +kernel
theorem dX2_lastDay_5 : decode cX2_lastDay 5 = .ok (.iaload, 1) := by decide +kernel
theorem dX2_lastDay_6 : decode cX2_lastDay 6 = .ok (.iconst 5, 1) := by decide +kernel
theorem dX2_lastDay_7 : decode cX2_lastDay 7 = .ok (.ishr, 1) := by decide +kernel
theorem dX2_lastDay_8 : decode cX2_lastDay 8 = .ok (.bipush 31, 2) := by decide +kernel
theorem dX2_lastDay_10 : decode cX2_lastDay 10 = .ok (.iand, 1) := by decide +kernel
theorem dX2_lastDay_11 : decode cX2_lastDay 11 = .ok (.ireturn, 1) := by decide +kernel
theorem dX2_personAt_0 : decode cX2_personAt 0 = .ok (.aload_n 0, 1) := by decide +kernel
theorem dX2_personAt_1 : decode cX2_personAt 1 = .ok (.getfield 9, 3) := by decide +kernel
theorem dX2_personAt_4 : decode cX2_personAt 4 = .ok (.iload_n 1, 1) := by decide +kernel
theorem dX2_personAt_5 : decode cX2_personAt 5 = .ok (.iaload, 1) := by decide +kernel
theorem dX2_personAt_6 : decode cX2_personAt 6 = .ok (.bipush 31, 2) := by decide +kernel
theorem dX2_personAt_8 : decode cX2_personAt 8 = .ok (.iand, 1) := by decide +kernel
theorem dX2_personAt_9 : decode cX2_personAt 9 = .ok (.ireturn, 1) := by decide +kernel
theorem dX2_touches_0 : decode cX2_touches 0 = .ok (.aload_n 0, 1) := by decide +kernel
theorem dX2_touches_1 : decode cX2_touches 1 = .ok (.iload_n 1, 1) := by decide +kernel
theorem dX2_touches_2 : decode cX2_touches 2 = .ok (.invokevirtual 34, 3) := by decide +kernel
theorem dX2_touches_5 : decode cX2_touches 5 = .ok (.iload_n 3, 1) := by decide +kernel
theorem dX2_touches_6 : decode cX2_touches 6 = .ok (.if_icmp .gt 16, 3) := by decide +kernel
theorem dX2_touches_9 : decode cX2_touches 9 = .ok (.aload_n 0, 1) := by decide +kernel
theorem dX2_touches_10 : decode cX2_touches 10 = .ok (.iload_n 1, 1) := by decide +kernel
theorem dX2_touches_11 : decode cX2_touches 11 = .ok (.invokevirtual 38, 3) := by decide +kernel
theorem dX2_touches_14 : decode cX2_touches 14 = .ok (.iload_n 2, 1) := by decide +kernel
theorem dX2_touches_15 : decode cX2_touches 15 = .ok (.if_icmp .lt 7, 3) := by decide +kernel
theorem dX2_touches_18 : decode cX2_touches 18 = .ok (.iconst 1, 1) := by decide +kernel
theorem dX2_touches_19 : decode cX2_touches 19 = .ok (.goto 4, 3) := by decide +kernel
theorem dX2_touches_22 : decode cX2_touches 22 = .ok (.iconst 0, 1) := by decide +kernel
theorem dX2_touches_23 : decode cX2_touches 23 = .ok (.ireturn, 1) := by decide +kernel
theorem dX2_find_0 : decode cX2_find 0 = .ok (.iconst 0, 1) := by decide +kernel
theorem dX2_find_1 : decode cX2_find 1 = .ok (.istore_n 3, 1) := by decide +kernel
theorem dX2_find_2 : decode cX2_find 2 = .ok (.iload_n 3, 1) := by decide +kernel
theorem dX2_find_3 : decode cX2_find 3 = .ok (.aload_n 0, 1) := by decide +kernel
theorem dX2_find_4 : decode cX2_find 4 = .ok (.getfield 18, 3) := by decide +kernel
theorem dX2_find_7 : decode cX2_find 7 = .ok (.if_icmp .ge 30, 3) := by decide +kernel
theorem dX2_find_10 : decode cX2_find 10 = .ok (.aload_n 0, 1) := by decide +kernel
theorem dX2_find_11 : decode cX2_find 11 = .ok (.iload_n 3, 1) := by decide +kernel
theorem dX2_find_12 : decode cX2_find 12 = .ok (.invokevirtual 41, 3) := by decide +kernel
theorem dX2_find_15 : decode cX2_find 15 = .ok (.iload_n 1, 1) := by decide +kernel
theorem dX2_find_16 : decode cX2_find 16 = .ok (.if_icmp .ne 15, 3) := by decide +kernel
theorem dX2_find_19 : decode cX2_find 19 = .ok (.aload_n 0, 1) := by decide +kernel
theorem dX2_find_20 : decode cX2_find 20 = .ok (.iload_n 3, 1) := by decide +kernel
theorem dX2_find_21 : decode cX2_find 21 = .ok (.iload_n 2, 1) := by decide +kernel
theorem dX2_find_22 : decode cX2_find 22 = .ok (.iload_n 2, 1) := by decide +kernel
theorem dX2_find_23 : decode cX2_find 23 = .ok (.invokevirtual 44, 3) := by decide +kernel
theorem dX2_find_26 : decode cX2_find 26 = .ok (.ifCond .eq 5, 3) := by decide +kernel
theorem dX2_find_29 : decode cX2_find 29 = .ok (.iload_n 3, 1) := by decide +kernel
theorem dX2_find_30 : decode cX2_find 30 = .ok (.ireturn, 1) := by decide +kernel
theorem dX2_find_31 : decode cX2_find 31 = .ok (.iinc 3 1, 3) := by decide +kernel
theorem dX2_find_34 : decode cX2_find 34 = .ok (.goto (-32), 3) := by decide +kernel
theorem dX2_find_37 : decode cX2_find 37 = .ok (.iconst (-1), 1) := by decide +kernel
theorem dX2_find_38 : decode cX2_find 38 = .ok (.ireturn, 1) := by decide +kernel
theorem dX2_personIn_0 : decode cX2_personIn 0 = .ok (.aload_n 0, 1) := by decide +kernel
theorem dX2_personIn_1 : decode cX2_personIn 1 = .ok (.iload_n 1, 1) := by decide +kernel
theorem dX2_personIn_2 : decode cX2_personIn 2 = .ok (.iload_n 2, 1) := by decide +kernel
theorem dX2_personIn_3 : decode cX2_personIn 3 = .ok (.invokevirtual 48, 3) := by decide +kernel
theorem dX2_personIn_6 : decode cX2_personIn 6 = .ok (.istore_n 3, 1) := by decide +kernel
theorem dX2_personIn_7 : decode cX2_personIn 7 = .ok (.iload_n 3, 1) := by decide +kernel
theorem dX2_personIn_8 : decode cX2_personIn 8 = .ok (.ifCond .ge 8, 3) := by decide +kernel
theorem dX2_personIn_11 : decode cX2_personIn 11 = .ok (.bipush (-2), 2) := by decide +kernel
theorem dX2_personIn_13 : decode cX2_personIn 13 = .ok (.goto 8, 3) := by decide +kernel
theorem dX2_personIn_16 : decode cX2_personIn 16 = .ok (.aload_n 0, 1) := by decide +kernel
theorem dX2_personIn_17 : decode cX2_personIn 17 = .ok (.iload_n 3, 1) := by decide +kernel
theorem dX2_personIn_18 : decode cX2_personIn 18 = .ok (.invokevirtual 52, 3) := by decide +kernel
theorem dX2_personIn_21 : decode cX2_personIn 21 = .ok (.ireturn, 1) := by decide +kernel
theorem dX2_maskOf_0 : decode cX2_maskOf 0 = .ok (.iconst 0, 1) := by decide +kernel
theorem dX2_maskOf_1 : decode cX2_maskOf 1 = .ok (.istore_n 3, 1) := by decide +kernel
theorem dX2_maskOf_2 : decode cX2_maskOf 2 = .ok (.iload_n 3, 1) := by decide +kernel
theorem dX2_maskOf_3 : decode cX2_maskOf 3 = .ok (.aload_n 0, 1) := by decide +kernel
theorem dX2_maskOf_4 : decode cX2_maskOf 4 = .ok (.getfield 18, 3) := by decide +kernel
theorem dX2_maskOf_7 : decode cX2_maskOf 7 = .ok (.if_icmp .ge 34, 3) := by decide +kernel
theorem dX2_maskOf_10 : decode cX2_maskOf 10 = .ok (.aload_n 0, 1) := by decide +kernel
theorem dX2_maskOf_11 : decode cX2_maskOf 11 = .ok (.iload_n 3, 1) := by decide +kernel
theorem dX2_maskOf_12 : decode cX2_maskOf 12 = .ok (.invokevirtual 52, 3) := by decide +kernel
theorem dX2_maskOf_15 : decode cX2_maskOf 15 = .ok (.iload_n 1, 1) := by decide +kernel
theorem dX2_maskOf_16 : decode cX2_maskOf 16 = .ok (.if_icmp .ne 19, 3) := by decide +kernel
theorem dX2_maskOf_19 : decode cX2_maskOf 19 = .ok (.aload_n 0, 1) := by decide +kernel
theorem dX2_maskOf_20 : decode cX2_maskOf 20 = .ok (.iload_n 3, 1) := by decide +kernel
theorem dX2_maskOf_21 : decode cX2_maskOf 21 = .ok (.iload_n 2, 1) := by decide +kernel
theorem dX2_maskOf_22 : decode cX2_maskOf 22 = .ok (.iload_n 2, 1) := by decide +kernel
theorem dX2_maskOf_23 : decode cX2_maskOf 23 = .ok (.invokevirtual 44, 3) := by decide +kernel
theorem dX2_maskOf_26 : decode cX2_maskOf 26 = .ok (.ifCond .eq 9, 3) := by decide +kernel
theorem dX2_maskOf_29 : decode cX2_maskOf 29 = .ok (.aload_n 0, 1) := by decide +kernel
theorem dX2_maskOf_30 : decode cX2_maskOf 30 = .ok (.iload_n 3, 1) := by decide +kernel
theorem dX2_maskOf_31 : decode cX2_maskOf 31 = .ok (.invokevirtual 41, 3) := by decide +kernel
theorem dX2_maskOf_34 : decode cX2_maskOf 34 = .ok (.ireturn, 1) := by decide +kernel
theorem dX2_maskOf_35 : decode cX2_maskOf 35 = .ok (.iinc 3 1, 3) := by decide +kernel
theorem dX2_maskOf_38 : decode cX2_maskOf 38 = .ok (.goto (-36), 3) := by decide +kernel
theorem dX2_maskOf_41 : decode cX2_maskOf 41 = .ok (.bipush (-2), 2) := by decide +kernel
theorem dX2_maskOf_43 : decode cX2_maskOf 43 = .ok (.ireturn, 1) := by decide +kernel
theorem dX2_isOnPeg_0 : decode cX2_isOnPeg 0 = .ok (.iconst 0, 1) := by decide +kernel
theorem dX2_isOnPeg_1 : decode cX2_isOnPeg 1 = .ok (.istore 4, 2) := by decide +kernel
theorem dX2_isOnPeg_3 : decode cX2_isOnPeg 3 = .ok (.iload 4, 2) := by decide +kernel
theorem dX2_isOnPeg_5 : decode cX2_isOnPeg 5 = .ok (.aload_n 0, 1) := by decide +kernel
theorem dX2_isOnPeg_6 : decode cX2_isOnPeg 6 = .ok (.getfield 18, 3) := by decide +kernel
theorem dX2_isOnPeg_9 : decode cX2_isOnPeg 9 = .ok (.if_icmp .ge 32, 3) := by decide +kernel
theorem dX2_isOnPeg_12 : decode cX2_isOnPeg 12 = .ok (.aload_n 0, 1) := by decide +kernel
theorem dX2_isOnPeg_13 : decode cX2_isOnPeg 13 = .ok (.iload 4, 2) := by decide +kernel
theorem dX2_isOnPeg_15 : decode cX2_isOnPeg 15 = .ok (.invokevirtual 41, 3) := by decide +kernel
theorem dX2_isOnPeg_18 : decode cX2_isOnPeg 18 = .ok (.iload_n 1, 1) := by decide +kernel
theorem dX2_isOnPeg_19 : decode cX2_isOnPeg 19 = .ok (.if_icmp .ne 16, 3) := by decide +kernel
theorem dX2_isOnPeg_22 : decode cX2_isOnPeg 22 = .ok (.aload_n 0, 1) := by decide +kernel
theorem dX2_isOnPeg_23 : decode cX2_isOnPeg 23 = .ok (.iload 4, 2) := by decide +kernel
theorem dX2_isOnPeg_25 : decode cX2_isOnPeg 25 = .ok (.iload_n 2, 1) := by decide +kernel
theorem dX2_isOnPeg_26 : decode cX2_isOnPeg 26 = .ok (.iload_n 3, 1) := by decide +kernel
theorem dX2_isOnPeg_27 : decode cX2_isOnPeg 27 = .ok (.invokevirtual 44, 3) := by decide +kernel
theorem dX2_isOnPeg_30 : decode cX2_isOnPeg 30 = .ok (.ifCond .eq 5, 3) := by decide +kernel
theorem dX2_isOnPeg_33 : decode cX2_isOnPeg 33 = .ok (.iconst 0, 1) := by decide +kernel
theorem dX2_isOnPeg_34 : decode cX2_isOnPeg 34 = .ok (.ireturn, 1) := by decide +kernel
theorem dX2_isOnPeg_35 : decode cX2_isOnPeg 35 = .ok (.iinc 4 1, 3) := by decide +kernel
theorem dX2_isOnPeg_38 : decode cX2_isOnPeg 38 = .ok (.goto (-35), 3) := by decide +kernel
theorem dX2_isOnPeg_41 : decode cX2_isOnPeg 41 = .ok (.iconst 1, 1) := by decide +kernel
theorem dX2_isOnPeg_42 : decode cX2_isOnPeg 42 = .ok (.ireturn, 1) := by decide +kernel
theorem dX2_isBare_0 : decode cX2_isBare 0 = .ok (.iconst 0, 1) := by decide +kernel
theorem dX2_isBare_1 : decode cX2_isBare 1 = .ok (.istore 4, 2) := by decide +kernel
theorem dX2_isBare_3 : decode cX2_isBare 3 = .ok (.iload 4, 2) := by decide +kernel
theorem dX2_isBare_5 : decode cX2_isBare 5 = .ok (.aload_n 0, 1) := by decide +kernel
theorem dX2_isBare_6 : decode cX2_isBare 6 = .ok (.getfield 18, 3) := by decide +kernel
theorem dX2_isBare_9 : decode cX2_isBare 9 = .ok (.if_icmp .ge 32, 3) := by decide +kernel
theorem dX2_isBare_12 : decode cX2_isBare 12 = .ok (.aload_n 0, 1) := by decide +kernel
theorem dX2_isBare_13 : decode cX2_isBare 13 = .ok (.iload 4, 2) := by decide +kernel
theorem dX2_isBare_15 : decode cX2_isBare 15 = .ok (.invokevirtual 52, 3) := by decide +kernel
theorem dX2_isBare_18 : decode cX2_isBare 18 = .ok (.iload_n 1, 1) := by decide +kernel
theorem dX2_isBare_19 : decode cX2_isBare 19 = .ok (.if_icmp .ne 16, 3) := by decide +kernel
theorem dX2_isBare_22 : decode cX2_isBare 22 = .ok (.aload_n 0, 1) := by decide +kernel
theorem dX2_isBare_23 : decode cX2_isBare 23 = .ok (.iload 4, 2) := by decide +kernel
theorem dX2_isBare_25 : decode cX2_isBare 25 = .ok (.iload_n 2, 1) := by decide +kernel
theorem dX2_isBare_26 : decode cX2_isBare 26 = .ok (.iload_n 3, 1) := by decide +kernel
theorem dX2_isBare_27 : decode cX2_isBare 27 = .ok (.invokevirtual 44, 3) := by decide +kernel
theorem dX2_isBare_30 : decode cX2_isBare 30 = .ok (.ifCond .eq 5, 3) := by decide +kernel
theorem dX2_isBare_33 : decode cX2_isBare 33 = .ok (.iconst 0, 1) := by decide +kernel
theorem dX2_isBare_34 : decode cX2_isBare 34 = .ok (.ireturn, 1) := by decide +kernel
theorem dX2_isBare_35 : decode cX2_isBare 35 = .ok (.iinc 4 1, 3) := by decide +kernel
theorem dX2_isBare_38 : decode cX2_isBare 38 = .ok (.goto (-35), 3) := by decide +kernel
theorem dX2_isBare_41 : decode cX2_isBare 41 = .ok (.iconst 1, 1) := by decide +kernel
theorem dX2_isBare_42 : decode cX2_isBare 42 = .ok (.ireturn, 1) := by decide +kernel
theorem dX2_add_0 : decode cX2_add 0 = .ok (.aload_n 0, 1) := by decide +kernel
theorem dX2_add_1 : decode cX2_add 1 = .ok (.invokevirtual 55, 3) := by decide +kernel
theorem dX2_add_4 : decode cX2_add 4 = .ok (.ifCond .eq 4, 3) := by decide +kernel
theorem dX2_add_7 : decode cX2_add 7 = .ok (.return_, 1) := by decide +kernel
theorem dX2_add_8 : decode cX2_add 8 = .ok (.iload_n 1, 1) := by decide +kernel
theorem dX2_add_9 : decode cX2_add 9 = .ok (.bipush 15, 2) := by decide +kernel
theorem dX2_add_11 : decode cX2_add 11 = .ok (.ishl, 1) := by decide +kernel
theorem dX2_add_12 : decode cX2_add 12 = .ok (.iload_n 3, 1) := by decide +kernel
theorem dX2_add_13 : decode cX2_add 13 = .ok (.bipush 10, 2) := by decide +kernel
theorem dX2_add_15 : decode cX2_add 15 = .ok (.ishl, 1) := by decide +kernel
theorem dX2_add_16 : decode cX2_add 16 = .ok (.ior, 1) := by decide +kernel
theorem dX2_add_17 : decode cX2_add 17 = .ok (.iload 4, 2) := by decide +kernel
theorem dX2_add_19 : decode cX2_add 19 = .ok (.iconst 5, 1) := by decide +kernel
theorem dX2_add_20 : decode cX2_add 20 = .ok (.ishl, 1) := by decide +kernel
theorem dX2_add_21 : decode cX2_add 21 = .ok (.ior, 1) := by decide +kernel
theorem dX2_add_22 : decode cX2_add 22 = .ok (.iload_n 2, 1) := by decide +kernel
theorem dX2_add_23 : decode cX2_add 23 = .ok (.ior, 1) := by decide +kernel
theorem dX2_add_24 : decode cX2_add 24 = .ok (.istore 5, 2) := by decide +kernel
theorem dX2_add_26 : decode cX2_add 26 = .ok (.aload_n 0, 1) := by decide +kernel
theorem dX2_add_27 : decode cX2_add 27 = .ok (.getfield 18, 3) := by decide +kernel
theorem dX2_add_30 : decode cX2_add 30 = .ok (.istore 6, 2) := by decide +kernel
theorem dX2_add_32 : decode cX2_add 32 = .ok (.iload 6, 2) := by decide +kernel
theorem dX2_add_34 : decode cX2_add 34 = .ok (.ifCond .le 39, 3) := by decide +kernel
theorem dX2_add_37 : decode cX2_add 37 = .ok (.aload_n 0, 1) := by decide +kernel
theorem dX2_add_38 : decode cX2_add 38 = .ok (.getfield 9, 3) := by decide +kernel
theorem dX2_add_41 : decode cX2_add 41 = .ok (.iload 6, 2) := by decide +kernel
theorem dX2_add_43 : decode cX2_add 43 = .ok (.iconst 1, 1) := by decide +kernel
theorem dX2_add_44 : decode cX2_add 44 = .ok (.isub, 1) := by decide +kernel
theorem dX2_add_45 : decode cX2_add 45 = .ok (.iaload, 1) := by decide +kernel
theorem dX2_add_46 : decode cX2_add 46 = .ok (.iload 5, 2) := by decide +kernel
theorem dX2_add_48 : decode cX2_add 48 = .ok (.if_icmp .le 25, 3) := by decide +kernel
theorem dX2_add_51 : decode cX2_add 51 = .ok (.aload_n 0, 1) := by decide +kernel
theorem dX2_add_52 : decode cX2_add 52 = .ok (.getfield 9, 3) := by decide +kernel
theorem dX2_add_55 : decode cX2_add 55 = .ok (.iload 6, 2) := by decide +kernel
theorem dX2_add_57 : decode cX2_add 57 = .ok (.aload_n 0, 1) := by decide +kernel
theorem dX2_add_58 : decode cX2_add 58 = .ok (.getfield 9, 3) := by decide +kernel
theorem dX2_add_61 : decode cX2_add 61 = .ok (.iload 6, 2) := by decide +kernel
theorem dX2_add_63 : decode cX2_add 63 = .ok (.iconst 1, 1) := by decide +kernel
theorem dX2_add_64 : decode cX2_add 64 = .ok (.isub, 1) := by decide +kernel
theorem dX2_add_65 : decode cX2_add 65 = .ok (.iaload, 1) := by decide +kernel
theorem dX2_add_66 : decode cX2_add 66 = .ok (.iastore, 1) := by decide +kernel
theorem dX2_add_67 : decode cX2_add 67 = .ok (.iinc 6 (-1), 3) := by decide +kernel
theorem dX2_add_70 : decode cX2_add 70 = .ok (.goto (-38), 3) := by decide +kernel
theorem dX2_add_73 : decode cX2_add 73 = .ok (.aload_n 0, 1) := by decide +kernel
theorem dX2_add_74 : decode cX2_add 74 = .ok (.getfield 9, 3) := by decide +kernel
theorem dX2_add_77 : decode cX2_add 77 = .ok (.iload 6, 2) := by decide +kernel
theorem dX2_add_79 : decode cX2_add 79 = .ok (.iload 5, 2) := by decide +kernel
theorem dX2_add_81 : decode cX2_add 81 = .ok (.iastore, 1) := by decide +kernel
theorem dX2_add_82 : decode cX2_add 82 = .ok (.aload_n 0, 1) := by decide +kernel
theorem dX2_add_83 : decode cX2_add 83 = .ok (.dup, 1) := by decide +kernel
theorem dX2_add_84 : decode cX2_add 84 = .ok (.getfield 18, 3) := by decide +kernel
theorem dX2_add_87 : decode cX2_add 87 = .ok (.iconst 1, 1) := by decide +kernel
theorem dX2_add_88 : decode cX2_add 88 = .ok (.iadd, 1) := by decide +kernel
theorem dX2_add_89 : decode cX2_add 89 = .ok (.putfield 18, 3) := by decide +kernel
theorem dX2_add_92 : decode cX2_add 92 = .ok (.return_, 1) := by decide +kernel
theorem dX2_endAhead_0 : decode cX2_endAhead 0 = .ok (.aload_n 0, 1) := by decide +kernel
theorem dX2_endAhead_1 : decode cX2_endAhead 1 = .ok (.iload_n 1, 1) := by decide +kernel
theorem dX2_endAhead_2 : decode cX2_endAhead 2 = .ok (.invokevirtual 34, 3) := by decide +kernel
theorem dX2_endAhead_5 : decode cX2_endAhead 5 = .ok (.iload_n 2, 1) := by decide +kernel
theorem dX2_endAhead_6 : decode cX2_endAhead 6 = .ok (.if_icmp .ge 26, 3) := by decide +kernel
theorem dX2_endAhead_9 : decode cX2_endAhead 9 = .ok (.aload_n 0, 1) := by decide +kernel
theorem dX2_endAhead_10 : decode cX2_endAhead 10 = .ok (.getfield 9, 3) := by decide +kernel
theorem dX2_endAhead_13 : decode cX2_endAhead 13 = .ok (.iload_n 1, 1) := by decide +kernel
theorem dX2_endAhead_14 : decode cX2_endAhead 14 = .ok (.aload_n 0, 1) := by decide +kernel
theorem dX2_endAhead_15 : decode cX2_endAhead 15 = .ok (.getfield 9, 3) := by decide +kernel
theorem dX2_endAhead_18 : decode cX2_endAhead 18 = .ok (.iload_n 1, 1) := by decide +kernel
theorem dX2_endAhead_19 : decode cX2_endAhead 19 = .ok (.iaload, 1) := by decide +kernel
theorem dX2_endAhead_20 : decode cX2_endAhead 20 = .ok (.sipush (-993), 3) := by decide +kernel
theorem dX2_endAhead_23 : decode cX2_endAhead 23 = .ok (.iand, 1) := by decide +kernel
theorem dX2_endAhead_24 : decode cX2_endAhead 24 = .ok (.iload_n 2, 1) := by decide +kernel
theorem dX2_endAhead_25 : decode cX2_endAhead 25 = .ok (.iconst 1, 1) := by decide +kernel
theorem dX2_endAhead_26 : decode cX2_endAhead 26 = .ok (.isub, 1) := by decide +kernel
theorem dX2_endAhead_27 : decode cX2_endAhead 27 = .ok (.iconst 5, 1) := by decide +kernel
theorem dX2_endAhead_28 : decode cX2_endAhead 28 = .ok (.ishl, 1) := by decide +kernel
theorem dX2_endAhead_29 : decode cX2_endAhead 29 = .ok (.ior, 1) := by decide +kernel
theorem dX2_endAhead_30 : decode cX2_endAhead 30 = .ok (.iastore, 1) := by decide +kernel
theorem dX2_endAhead_31 : decode cX2_endAhead 31 = .ok (.return_, 1) := by decide +kernel
theorem dX2_endAhead_32 : decode cX2_endAhead 32 = .ok (.iload_n 1, 1) := by decide +kernel
theorem dX2_endAhead_33 : decode cX2_endAhead 33 = .ok (.iconst 1, 1) := by decide +kernel
theorem dX2_endAhead_34 : decode cX2_endAhead 34 = .ok (.iadd, 1) := by decide +kernel
theorem dX2_endAhead_35 : decode cX2_endAhead 35 = .ok (.istore_n 3, 1) := by decide +kernel
theorem dX2_endAhead_36 : decode cX2_endAhead 36 = .ok (.iload_n 3, 1) := by decide +kernel
theorem dX2_endAhead_37 : decode cX2_endAhead 37 = .ok (.aload_n 0, 1) := by decide +kernel
theorem dX2_endAhead_38 : decode cX2_endAhead 38 = .ok (.getfield 18, 3) := by decide +kernel
theorem dX2_endAhead_41 : decode cX2_endAhead 41 = .ok (.if_icmp .ge 23, 3) := by decide +kernel
theorem dX2_endAhead_44 : decode cX2_endAhead 44 = .ok (.aload_n 0, 1) := by decide +kernel
theorem dX2_endAhead_45 : decode cX2_endAhead 45 = .ok (.getfield 9, 3) := by decide +kernel
theorem dX2_endAhead_48 : decode cX2_endAhead 48 = .ok (.iload_n 3, 1) := by decide +kernel
theorem dX2_endAhead_49 : decode cX2_endAhead 49 = .ok (.iconst 1, 1) := by decide +kernel
theorem dX2_endAhead_50 : decode cX2_endAhead 50 = .ok (.isub, 1) := by decide +kernel
theorem dX2_endAhead_51 : decode cX2_endAhead 51 = .ok (.aload_n 0, 1) := by decide +kernel
theorem dX2_endAhead_52 : decode cX2_endAhead 52 = .ok (.getfield 9, 3) := by decide +kernel
theorem dX2_endAhead_55 : decode cX2_endAhead 55 = .ok (.iload_n 3, 1) := by decide +kernel
theorem dX2_endAhead_56 : decode cX2_endAhead 56 = .ok (.iaload, 1) := by decide +kernel
theorem dX2_endAhead_57 : decode cX2_endAhead 57 = .ok (.iastore, 1) := by decide +kernel
theorem dX2_endAhead_58 : decode cX2_endAhead 58 = .ok (.iinc 3 1, 3) := by decide +kernel
theorem dX2_endAhead_61 : decode cX2_endAhead 61 = .ok (.goto (-25), 3) := by decide +kernel
theorem dX2_endAhead_64 : decode cX2_endAhead 64 = .ok (.aload_n 0, 1) := by decide +kernel
theorem dX2_endAhead_65 : decode cX2_endAhead 65 = .ok (.dup, 1) := by decide +kernel
theorem dX2_endAhead_66 : decode cX2_endAhead 66 = .ok (.getfield 18, 3) := by decide +kernel
theorem dX2_endAhead_69 : decode cX2_endAhead 69 = .ok (.iconst 1, 1) := by decide +kernel
theorem dX2_endAhead_70 : decode cX2_endAhead 70 = .ok (.isub, 1) := by decide +kernel
theorem dX2_endAhead_71 : decode cX2_endAhead 71 = .ok (.putfield 18, 3) := by decide +kernel
theorem dX2_endAhead_74 : decode cX2_endAhead 74 = .ok (.return_, 1) := by decide +kernel
theorem dX2_isBreaking_0 : decode cX2_isBreaking 0 = .ok (.aload_n 0, 1) := by decide +kernel
theorem dX2_isBreaking_1 : decode cX2_isBreaking 1 = .ok (.getfield 15, 3) := by decide +kernel
theorem dX2_isBreaking_4 : decode cX2_isBreaking 4 = .ok (.iload_n 1, 1) := by decide +kernel
theorem dX2_isBreaking_5 : decode cX2_isBreaking 5 = .ok (.iaload, 1) := by decide +kernel
theorem dX2_isBreaking_6 : decode cX2_isBreaking 6 = .ok (.iload_n 2, 1) := by decide +kernel
theorem dX2_isBreaking_7 : decode cX2_isBreaking 7 = .ok (.ishr, 1) := by decide +kernel
theorem dX2_isBreaking_8 : decode cX2_isBreaking 8 = .ok (.iconst 1, 1) := by decide +kernel
theorem dX2_isBreaking_9 : decode cX2_isBreaking 9 = .ok (.iand, 1) := by decide +kernel
theorem dX2_isBreaking_10 : decode cX2_isBreaking 10 = .ok (.ifCond .eq 7, 3) := by decide +kernel
theorem dX2_isBreaking_13 : decode cX2_isBreaking 13 = .ok (.iconst 1, 1) := by decide +kernel
theorem dX2_isBreaking_14 : decode cX2_isBreaking 14 = .ok (.goto 4, 3) := by decide +kernel
theorem dX2_isBreaking_17 : decode cX2_isBreaking 17 = .ok (.iconst 0, 1) := by decide +kernel
theorem dX2_isBreaking_18 : decode cX2_isBreaking 18 = .ok (.ireturn, 1) := by decide +kernel
theorem dX2_flipBreaking_0 : decode cX2_flipBreaking 0 = .ok (.aload_n 0, 1) := by decide +kernel
theorem dX2_flipBreaking_1 : decode cX2_flipBreaking 1 = .ok (.getfield 15, 3) := by decide +kernel
theorem dX2_flipBreaking_4 : decode cX2_flipBreaking 4 = .ok (.iload_n 1, 1) := by decide +kernel
theorem dX2_flipBreaking_5 : decode cX2_flipBreaking 5 = .ok (.dup2, 1) := by decide +kernel
theorem dX2_flipBreaking_6 : decode cX2_flipBreaking 6 = .ok (.iaload, 1) := by decide +kernel
theorem dX2_flipBreaking_7 : decode cX2_flipBreaking 7 = .ok (.iconst 1, 1) := by decide +kernel
theorem dX2_flipBreaking_8 : decode cX2_flipBreaking 8 = .ok (.iload_n 2, 1) := by decide +kernel
theorem dX2_flipBreaking_9 : decode cX2_flipBreaking 9 = .ok (.ishl, 1) := by decide +kernel
theorem dX2_flipBreaking_10 : decode cX2_flipBreaking 10 = .ok (.ixor, 1) := by decide +kernel
theorem dX2_flipBreaking_11 : decode cX2_flipBreaking 11 = .ok (.iastore, 1) := by decide +kernel
theorem dX2_flipBreaking_12 : decode cX2_flipBreaking 12 = .ok (.return_, 1) := by decide +kernel
theorem dX3_init_0 : decode cX3_init 0 = .ok (.aload_n 0, 1) := by decide +kernel
theorem dX3_init_1 : decode cX3_init 1 = .ok (.invokespecial 3, 3) := by decide +kernel
theorem dX3_init_4 : decode cX3_init 4 = .ok (.return_, 1) := by decide +kernel
theorem dX3_suits_0 : decode cX3_suits 0 = .ok (.aload_n 0, 1) := by decide +kernel
theorem dX3_suits_1 : decode cX3_suits 1 = .ok (.getfield 9, 3) := by decide +kernel
theorem dX3_suits_4 : decode cX3_suits 4 = .ok (.aload_n 1, 1) := by decide +kernel
theorem dX3_suits_5 : decode cX3_suits 5 = .ok (.getfield 15, 3) := by decide +kernel
theorem dX3_suits_8 : decode cX3_suits 8 = .ok (.isub, 1) := by decide +kernel
theorem dX3_suits_9 : decode cX3_suits 9 = .ok (.invokestatic 18, 3) := by decide +kernel
theorem dX3_suits_12 : decode cX3_suits 12 = .ok (.istore_n 2, 1) := by decide +kernel
theorem dX3_suits_13 : decode cX3_suits 13 = .ok (.aload_n 0, 1) := by decide +kernel
theorem dX3_suits_14 : decode cX3_suits 14 = .ok (.getfield 24, 3) := by decide +kernel
theorem dX3_suits_17 : decode cX3_suits 17 = .ok (.tableswitch 72 0 3 #[31, 42, 60, 62], 31) := by decide +kernel
theorem dX3_suits_48 : decode cX3_suits 48 = .ok (.iload_n 2, 1) := by decide +kernel
theorem dX3_suits_49 : decode cX3_suits 49 = .ok (.iconst 1, 1) := by decide +kernel
theorem dX3_suits_50 : decode cX3_suits 50 = .ok (.if_icmp .gt 7, 3) := by decide +kernel
theorem dX3_suits_53 : decode cX3_suits 53 = .ok (.iconst 1, 1) := by decide +kernel
theorem dX3_suits_54 : decode cX3_suits 54 = .ok (.goto 4, 3) := by decide +kernel
theorem dX3_suits_57 : decode cX3_suits 57 = .ok (.iconst 0, 1) := by decide +kernel
theorem dX3_suits_58 : decode cX3_suits 58 = .ok (.ireturn, 1) := by decide +kernel
theorem dX3_suits_59 : decode cX3_suits 59 = .ok (.iload_n 2, 1) := by decide +kernel
theorem dX3_suits_60 : decode cX3_suits 60 = .ok (.iconst 1, 1) := by decide +kernel
theorem dX3_suits_61 : decode cX3_suits 61 = .ok (.if_icmp .gt 14, 3) := by decide +kernel
theorem dX3_suits_64 : decode cX3_suits 64 = .ok (.aload_n 1, 1) := by decide +kernel
theorem dX3_suits_65 : decode cX3_suits 65 = .ok (.getfield 27, 3) := by decide +kernel
theorem dX3_suits_68 : decode cX3_suits 68 = .ok (.ifCond .eq 7, 3) := by decide +kernel
theorem dX3_suits_71 : decode cX3_suits 71 = .ok (.iconst 1, 1) := by decide +kernel
theorem dX3_suits_72 : decode cX3_suits 72 = .ok (.goto 4, 3) := by decide +kernel
theorem dX3_suits_75 : decode cX3_suits 75 = .ok (.iconst 0, 1) := by decide +kernel
theorem dX3_suits_76 : decode cX3_suits 76 = .ok (.ireturn, 1) := by decide +kernel
theorem dX3_suits_77 : decode cX3_suits 77 = .ok (.iconst 1, 1) := by decide +kernel
theorem dX3_suits_78 : decode cX3_suits 78 = .ok (.ireturn, 1) := by decide +kernel
theorem dX3_suits_79 : decode cX3_suits 79 = .ok (.iload_n 2, 1) := by decide +kernel
theorem dX3_suits_80 : decode cX3_suits 80 = .ok (.ifCond .ne 7, 3) := by decide +kernel
theorem dX3_suits_83 : decode cX3_suits 83 = .ok (.iconst 1, 1) := by decide +kernel
theorem dX3_suits_84 : decode cX3_suits 84 = .ok (.goto 4, 3) := by decide +kernel
theorem dX3_suits_87 : decode cX3_suits 87 = .ok (.iconst 0, 1) := by decide +kernel
theorem dX3_suits_88 : decode cX3_suits 88 = .ok (.ireturn, 1) := by decide +kernel
theorem dX3_suits_89 : decode cX3_suits 89 = .ok (.iload_n 2, 1) := by decide +kernel
theorem dX3_suits_90 : decode cX3_suits 90 = .ok (.iconst 1, 1) := by decide +kernel
theorem dX3_suits_91 : decode cX3_suits 91 = .ok (.if_icmp .gt 16, 3) := by decide +kernel
theorem dX3_suits_94 : decode cX3_suits 94 = .ok (.aload_n 1, 1) := by decide +kernel
theorem dX3_suits_95 : decode cX3_suits 95 = .ok (.getfield 31, 3) := by decide +kernel
theorem dX3_suits_98 : decode cX3_suits 98 = .ok (.bipush 60, 2) := by decide +kernel
theorem dX3_suits_100 : decode cX3_suits 100 = .ok (.if_icmp .lt 7, 3) := by decide +kernel
theorem dX3_suits_103 : decode cX3_suits 103 = .ok (.iconst 1, 1) := by decide +kernel
theorem dX3_suits_104 : decode cX3_suits 104 = .ok (.goto 4, 3) := by decide +kernel
theorem dX3_suits_107 : decode cX3_suits 107 = .ok (.iconst 0, 1) := by decide +kernel
theorem dX3_suits_108 : decode cX3_suits 108 = .ok (.ireturn, 1) := by decide +kernel
theorem dX3_hands_0 : decode cX3_hands 0 = .ok (.aload_n 0, 1) := by decide +kernel
theorem dX3_hands_1 : decode cX3_hands 1 = .ok (.getfield 24, 3) := by decide +kernel
theorem dX3_hands_4 : decode cX3_hands 4 = .ok (.iconst 3, 1) := by decide +kernel
theorem dX3_hands_5 : decode cX3_hands 5 = .ok (.if_icmp .ne 7, 3) := by decide +kernel
theorem dX3_hands_8 : decode cX3_hands 8 = .ok (.iconst 2, 1) := by decide +kernel
theorem dX3_hands_9 : decode cX3_hands 9 = .ok (.goto 4, 3) := by decide +kernel
theorem dX3_hands_12 : decode cX3_hands 12 = .ok (.iconst 1, 1) := by decide +kernel
theorem dX3_hands_13 : decode cX3_hands 13 = .ok (.ireturn, 1) := by decide +kernel
theorem dX4_init_0 : decode cX4_init 0 = .ok (.aload_n 0, 1) := by decide +kernel
theorem dX4_init_1 : decode cX4_init 1 = .ok (.invokespecial 1, 3) := by decide +kernel
theorem dX4_init_4 : decode cX4_init 4 = .ok (.return_, 1) := by decide +kernel
theorem dX4_knows_0 : decode cX4_knows 0 = .ok (.aload_n 0, 1) := by decide +kernel
theorem dX4_knows_1 : decode cX4_knows 1 = .ok (.getfield 7, 3) := by decide +kernel
theorem dX4_knows_4 : decode cX4_knows 4 = .ok (.iload_n 1, 1) := by decide +kernel
theorem dX4_knows_5 : decode cX4_knows 5 = .ok (.ishr, 1) := by decide +kernel
theorem dX4_knows_6 : decode cX4_knows 6 = .ok (.iconst 1, 1) := by decide +kernel
theorem dX4_knows_7 : decode cX4_knows 7 = .ok (.iand, 1) := by decide +kernel
theorem dX4_knows_8 : decode cX4_knows 8 = .ok (.ifCond .eq 7, 3) := by decide +kernel
theorem dX4_knows_11 : decode cX4_knows 11 = .ok (.iconst 1, 1) := by decide +kernel
theorem dX4_knows_12 : decode cX4_knows 12 = .ok (.goto 4, 3) := by decide +kernel
theorem dX4_knows_15 : decode cX4_knows 15 = .ok (.iconst 0, 1) := by decide +kernel
theorem dX4_knows_16 : decode cX4_knows 16 = .ok (.ireturn, 1) := by decide +kernel
theorem dX6_init_0 : decode cX6_init 0 = .ok (.aload_n 0, 1) := by decide +kernel
theorem dX6_init_1 : decode cX6_init 1 = .ok (.invokespecial 1, 3) := by decide +kernel
theorem dX6_init_4 : decode cX6_init 4 = .ok (.return_, 1) := by decide +kernel
theorem dX6_isOf_0 : decode cX6_isOf 0 = .ok (.aload_n 0, 1) := by decide +kernel
theorem dX6_isOf_1 : decode cX6_isOf 1 = .ok (.getfield 7, 3) := by decide +kernel
theorem dX6_isOf_4 : decode cX6_isOf 4 = .ok (.iload_n 1, 1) := by decide +kernel
theorem dX6_isOf_5 : decode cX6_isOf 5 = .ok (.if_icmp .ne 15, 3) := by decide +kernel
theorem dX6_isOf_8 : decode cX6_isOf 8 = .ok (.aload_n 0, 1) := by decide +kernel
theorem dX6_isOf_9 : decode cX6_isOf 9 = .ok (.getfield 13, 3) := by decide +kernel
theorem dX6_isOf_12 : decode cX6_isOf 12 = .ok (.iload_n 2, 1) := by decide +kernel
theorem dX6_isOf_13 : decode cX6_isOf 13 = .ok (.if_icmp .ne 7, 3) := by decide +kernel
theorem dX6_isOf_16 : decode cX6_isOf 16 = .ok (.iconst 1, 1) := by decide +kernel
theorem dX6_isOf_17 : decode cX6_isOf 17 = .ok (.goto 4, 3) := by decide +kernel
theorem dX6_isOf_20 : decode cX6_isOf 20 = .ok (.iconst 0, 1) := by decide +kernel
theorem dX6_isOf_21 : decode cX6_isOf 21 = .ok (.ireturn, 1) := by decide +kernel
theorem dX6_yields_0 : decode cX6_yields 0 = .ok (.iload_n 1, 1) := by decide +kernel
theorem dX6_yields_1 : decode cX6_yields 1 = .ok (.ifCond .eq 10, 3) := by decide +kernel
theorem dX6_yields_4 : decode cX6_yields 4 = .ok (.aload_n 0, 1) := by decide +kernel
theorem dX6_yields_5 : decode cX6_yields 5 = .ok (.getfield 16, 3) := by decide +kernel
theorem dX6_yields_8 : decode cX6_yields 8 = .ok (.goto 8, 3) := by decide +kernel
theorem dX6_yields_11 : decode cX6_yields 11 = .ok (.aload_n 0, 1) := by decide +kernel
theorem dX6_yields_12 : decode cX6_yields 12 = .ok (.getfield 19, 3) := by decide +kernel
theorem dX6_yields_15 : decode cX6_yields 15 = .ok (.ineg, 1) := by decide +kernel
theorem dX6_yields_16 : decode cX6_yields 16 = .ok (.ireturn, 1) := by decide +kernel
theorem dX8_init_0 : decode cX8_init 0 = .ok (.aload_n 0, 1) := by decide +kernel
theorem dX8_init_1 : decode cX8_init 1 = .ok (.invokespecial 1, 3) := by decide +kernel
theorem dX8_init_4 : decode cX8_init 4 = .ok (.return_, 1) := by decide +kernel
theorem dX8_resembles_0 : decode cX8_resembles 0 = .ok (.aload_n 0, 1) := by decide +kernel
theorem dX8_resembles_1 : decode cX8_resembles 1 = .ok (.getfield 7, 3) := by decide +kernel
theorem dX8_resembles_4 : decode cX8_resembles 4 = .ok (.aload_n 1, 1) := by decide +kernel
theorem dX8_resembles_5 : decode cX8_resembles 5 = .ok (.getfield 13, 3) := by decide +kernel
theorem dX8_resembles_8 : decode cX8_resembles 8 = .ok (.isub, 1) := by decide +kernel
theorem dX8_resembles_9 : decode cX8_resembles 9 = .ok (.invokestatic 16, 3) := by decide +kernel
theorem dX8_resembles_12 : decode cX8_resembles 12 = .ok (.iconst 1, 1) := by decide +kernel
theorem dX8_resembles_13 : decode cX8_resembles 13 = .ok (.if_icmp .gt 25, 3) := by decide +kernel
theorem dX8_resembles_16 : decode cX8_resembles 16 = .ok (.aload_n 0, 1) := by decide +kernel
theorem dX8_resembles_17 : decode cX8_resembles 17 = .ok (.getfield 22, 3) := by decide +kernel
theorem dX8_resembles_20 : decode cX8_resembles 20 = .ok (.ifCond .eq 14, 3) := by decide +kernel
theorem dX8_resembles_23 : decode cX8_resembles 23 = .ok (.aload_n 0, 1) := by decide +kernel
theorem dX8_resembles_24 : decode cX8_resembles 24 = .ok (.getfield 22, 3) := by decide +kernel
theorem dX8_resembles_27 : decode cX8_resembles 27 = .ok (.aload_n 1, 1) := by decide +kernel
theorem dX8_resembles_28 : decode cX8_resembles 28 = .ok (.getfield 25, 3) := by decide +kernel
theorem dX8_resembles_31 : decode cX8_resembles 31 = .ok (.if_icmp .ne 7, 3) := by decide +kernel
theorem dX8_resembles_34 : decode cX8_resembles 34 = .ok (.iconst 1, 1) := by decide +kernel
theorem dX8_resembles_35 : decode cX8_resembles 35 = .ok (.goto 4, 3) := by decide +kernel
theorem dX8_resembles_38 : decode cX8_resembles 38 = .ok (.iconst 0, 1) := by decide +kernel
theorem dX8_resembles_39 : decode cX8_resembles 39 = .ok (.ireturn, 1) := by decide +kernel
theorem dX8_clashesWith_0 : decode cX8_clashesWith 0 = .ok (.aload_n 0, 1) := by decide +kernel
theorem dX8_clashesWith_1 : decode cX8_clashesWith 1 = .ok (.getfield 26, 3) := by decide +kernel
theorem dX8_clashesWith_4 : decode cX8_clashesWith 4 = .ok (.aload_n 1, 1) := by decide +kernel
theorem dX8_clashesWith_5 : decode cX8_clashesWith 5 = .ok (.getfield 26, 3) := by decide +kernel
theorem dX8_clashesWith_8 : decode cX8_clashesWith 8 = .ok (.if_icmp .ne 29, 3) := by decide +kernel
theorem dX8_clashesWith_11 : decode cX8_clashesWith 11 = .ok (.aload_n 0, 1) := by decide +kernel
theorem dX8_clashesWith_12 : decode cX8_clashesWith 12 = .ok (.getfield 29, 3) := by decide +kernel
theorem dX8_clashesWith_15 : decode cX8_clashesWith 15 = .ok (.aload_n 1, 1) := by decide +kernel
theorem dX8_clashesWith_16 : decode cX8_clashesWith 16 = .ok (.getfield 29, 3) := by decide +kernel
theorem dX8_clashesWith_19 : decode cX8_clashesWith 19 = .ok (.if_icmp .ne 18, 3) := by decide +kernel
theorem dX8_clashesWith_22 : decode cX8_clashesWith 22 = .ok (.aload_n 0, 1) := by decide +kernel
theorem dX8_clashesWith_23 : decode cX8_clashesWith 23 = .ok (.getfield 32, 3) := by decide +kernel
theorem dX8_clashesWith_26 : decode cX8_clashesWith 26 = .ok (.aload_n 1, 1) := by decide +kernel
theorem dX8_clashesWith_27 : decode cX8_clashesWith 27 = .ok (.getfield 32, 3) := by decide +kernel
theorem dX8_clashesWith_30 : decode cX8_clashesWith 30 = .ok (.if_icmp .ne 7, 3) := by decide +kernel
theorem dX8_clashesWith_33 : decode cX8_clashesWith 33 = .ok (.iconst 1, 1) := by decide +kernel
theorem dX8_clashesWith_34 : decode cX8_clashesWith 34 = .ok (.goto 4, 3) := by decide +kernel
theorem dX8_clashesWith_37 : decode cX8_clashesWith 37 = .ok (.iconst 0, 1) := by decide +kernel
theorem dX8_clashesWith_38 : decode cX8_clashesWith 38 = .ok (.ireturn, 1) := by decide +kernel
theorem dJ9_abs_0f7a4_0 : decode cJ9_abs_0f7a4 0 = .ok (.iload_n 0, 1) := by decide +kernel
theorem dJ9_abs_0f7a4_1 : decode cJ9_abs_0f7a4 1 = .ok (.ifCond .ge 8, 3) := by decide +kernel
theorem dJ9_abs_0f7a4_4 : decode cJ9_abs_0f7a4 4 = .ok (.iload_n 0, 1) := by decide +kernel
theorem dJ9_abs_0f7a4_5 : decode cJ9_abs_0f7a4 5 = .ok (.ineg, 1) := by decide +kernel
theorem dJ9_abs_0f7a4_6 : decode cJ9_abs_0f7a4 6 = .ok (.goto 4, 3) := by decide +kernel
theorem dJ9_abs_0f7a4_9 : decode cJ9_abs_0f7a4 9 = .ok (.iload_n 0, 1) := by decide +kernel
theorem dJ9_abs_0f7a4_10 : decode cJ9_abs_0f7a4 10 = .ok (.ireturn, 1) := by decide +kernel
theorem dJ9_max_7cf53_0 : decode cJ9_max_7cf53 0 = .ok (.iload_n 0, 1) := by decide +kernel
theorem dJ9_max_7cf53_1 : decode cJ9_max_7cf53 1 = .ok (.iload_n 1, 1) := by decide +kernel
theorem dJ9_max_7cf53_2 : decode cJ9_max_7cf53 2 = .ok (.if_icmp .lt 7, 3) := by decide +kernel
theorem dJ9_max_7cf53_5 : decode cJ9_max_7cf53 5 = .ok (.iload_n 0, 1) := by decide +kernel
theorem dJ9_max_7cf53_6 : decode cJ9_max_7cf53 6 = .ok (.goto 4, 3) := by decide +kernel
theorem dJ9_max_7cf53_9 : decode cJ9_max_7cf53 9 = .ok (.iload_n 1, 1) := by decide +kernel
theorem dJ9_max_7cf53_10 : decode cJ9_max_7cf53 10 = .ok (.ireturn, 1) := by decide +kernel
theorem dJ9_min_7cf53_0 : decode cJ9_min_7cf53 0 = .ok (.iload_n 0, 1) := by decide +kernel
theorem dJ9_min_7cf53_1 : decode cJ9_min_7cf53 1 = .ok (.iload_n 1, 1) := by decide +kernel
theorem dJ9_min_7cf53_2 : decode cJ9_min_7cf53 2 = .ok (.if_icmp .gt 7, 3) := by decide +kernel
theorem dJ9_min_7cf53_5 : decode cJ9_min_7cf53 5 = .ok (.iload_n 0, 1) := by decide +kernel
theorem dJ9_min_7cf53_6 : decode cJ9_min_7cf53 6 = .ok (.goto 4, 3) := by decide +kernel
theorem dJ9_min_7cf53_9 : decode cJ9_min_7cf53 9 = .ok (.iload_n 1, 1) := by decide +kernel
theorem dJ9_min_7cf53_10 : decode cJ9_min_7cf53 10 = .ok (.ireturn, 1) := by decide +kernel
