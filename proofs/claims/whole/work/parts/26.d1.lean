theorem dX1_now_0 : decode cX1_now 0 = .ok (.aload_n 0, 1) := by decide +kernel
theorem dX1_now_1 : decode cX1_now 1 = .ok (.getfield 13, 3) := by decide +kernel
theorem dX1_now_4 : decode cX1_now 4 = .ok (.aload_n 0, 1) := by decide +kernel
theorem dX1_now_5 : decode cX1_now 5 = .ok (.getfield 21, 3) := by decide +kernel
theorem dX1_now_8 : decode cX1_now 8 = .ok (.aaload, 1) := by decide +kernel
theorem dX1_now_9 : decode cX1_now 9 = .ok (.areturn, 1) := by decide +kernel
theorem dX1_begin_0 : decode cX1_begin 0 = .ok (.aload_n 0, 1) := by decide +kernel
theorem dX1_begin_1 : decode cX1_begin 1 = .ok (.getfield 13, 3) := by decide +kernel
theorem dX1_begin_4 : decode cX1_begin 4 = .ok (.aload_n 0, 1) := by decide +kernel
theorem dX1_begin_5 : decode cX1_begin 5 = .ok (.getfield 21, 3) := by decide +kernel
theorem dX1_begin_8 : decode cX1_begin 8 = .ok (.aaload, 1) := by decide +kernel
theorem dX1_begin_9 : decode cX1_begin 9 = .ok (.aload_n 1, 1) := by decide +kernel
theorem dX1_begin_10 : decode cX1_begin 10 = .ok (.invokevirtual 25, 3) := by decide +kernel
theorem dX1_begin_13 : decode cX1_begin 13 = .ok (.aload_n 0, 1) := by decide +kernel
theorem dX1_begin_14 : decode cX1_begin 14 = .ok (.iconst 0, 1) := by decide +kernel
theorem dX1_begin_15 : decode cX1_begin 15 = .ok (.putfield 29, 3) := by decide +kernel
theorem dX1_begin_18 : decode cX1_begin 18 = .ok (.aload_n 0, 1) := by decide +kernel
theorem dX1_begin_19 : decode cX1_begin 19 = .ok (.iconst 0, 1) := by decide +kernel
theorem dX1_begin_20 : decode cX1_begin 20 = .ok (.putfield 32, 3) := by decide +kernel
theorem dX1_begin_23 : decode cX1_begin 23 = .ok (.return_, 1) := by decide +kernel
theorem dX1_dropImages_0 : decode cX1_dropImages 0 = .ok (.aload_n 0, 1) := by decide +kernel
theorem dX1_dropImages_1 : decode cX1_dropImages 1 = .ok (.iconst 0, 1) := by decide +kernel
theorem dX1_dropImages_2 : decode cX1_dropImages 2 = .ok (.putfield 35, 3) := by decide +kernel
theorem dX1_dropImages_5 : decode cX1_dropImages 5 = .ok (.return_, 1) := by decide +kernel
theorem dX1_step_0 : decode cX1_step 0 = .ok (.aload_n 0, 1) := by decide +kernel
theorem dX1_step_1 : decode cX1_step 1 = .ok (.getfield 13, 3) := by decide +kernel
theorem dX1_step_4 : decode cX1_step 4 = .ok (.aload_n 0, 1) := by decide +kernel
theorem dX1_step_5 : decode cX1_step 5 = .ok (.getfield 21, 3) := by decide +kernel
theorem dX1_step_8 : decode cX1_step 8 = .ok (.aaload, 1) := by decide +kernel
theorem dX1_step_9 : decode cX1_step 9 = .ok (.astore_n 1, 1) := by decide +kernel
theorem dX1_step_10 : decode cX1_step 10 = .ok (.aload_n 0, 1) := by decide +kernel
theorem dX1_step_11 : decode cX1_step 11 = .ok (.aload_n 0, 1) := by decide +kernel
theorem dX1_step_12 : decode cX1_step 12 = .ok (.getfield 21, 3) := by decide +kernel
theorem dX1_step_15 : decode cX1_step 15 = .ok (.iconst 1, 1) := by decide +kernel
theorem dX1_step_16 : decode cX1_step 16 = .ok (.iadd, 1) := by decide +kernel
theorem dX1_step_17 : decode cX1_step 17 = .ok (.bipush 13, 2) := by decide +kernel
theorem dX1_step_19 : decode cX1_step 19 = .ok (.irem, 1) := by decide +kernel
theorem dX1_step_20 : decode cX1_step 20 = .ok (.putfield 21, 3) := by decide +kernel
theorem dX1_step_23 : decode cX1_step 23 = .ok (.aload_n 0, 1) := by decide +kernel
theorem dX1_step_24 : decode cX1_step 24 = .ok (.getfield 13, 3) := by decide +kernel
theorem dX1_step_27 : decode cX1_step 27 = .ok (.aload_n 0, 1) := by decide +kernel
theorem dX1_step_28 : decode cX1_step 28 = .ok (.getfield 21, 3) := by decide +kernel
theorem dX1_step_31 : decode cX1_step 31 = .ok (.aaload, 1) := by decide +kernel
theorem dX1_step_32 : decode cX1_step 32 = .ok (.aload_n 1, 1) := by decide +kernel
theorem dX1_step_33 : decode cX1_step 33 = .ok (.invokevirtual 25, 3) := by decide +kernel
theorem dX1_step_36 : decode cX1_step 36 = .ok (.aload_n 0, 1) := by decide +kernel
theorem dX1_step_37 : decode cX1_step 37 = .ok (.bipush 12, 2) := by decide +kernel
theorem dX1_step_39 : decode cX1_step 39 = .ok (.aload_n 0, 1) := by decide +kernel
theorem dX1_step_40 : decode cX1_step 40 = .ok (.getfield 29, 3) := by decide +kernel
theorem dX1_step_43 : decode cX1_step 43 = .ok (.iconst 1, 1) := by decide +kernel
theorem dX1_step_44 : decode cX1_step 44 = .ok (.iadd, 1) := by decide +kernel
theorem dX1_step_45 : decode cX1_step 45 = .ok (.invokestatic 38, 3) := by decide +kernel
theorem dX1_step_48 : decode cX1_step 48 = .ok (.putfield 29, 3) := by decide +kernel
theorem dX1_step_51 : decode cX1_step 51 = .ok (.aload_n 0, 1) := by decide +kernel
theorem dX1_step_52 : decode cX1_step 52 = .ok (.iconst 0, 1) := by decide +kernel
theorem dX1_step_53 : decode cX1_step 53 = .ok (.putfield 32, 3) := by decide +kernel
theorem dX1_step_56 : decode cX1_step 56 = .ok (.aload_n 0, 1) := by decide +kernel
theorem dX1_step_57 : decode cX1_step 57 = .ok (.getfield 13, 3) := by decide +kernel
theorem dX1_step_60 : decode cX1_step 60 = .ok (.aload_n 0, 1) := by decide +kernel
theorem dX1_step_61 : decode cX1_step 61 = .ok (.getfield 21, 3) := by decide +kernel
theorem dX1_step_64 : decode cX1_step 64 = .ok (.aaload, 1) := by decide +kernel
theorem dX1_step_65 : decode cX1_step 65 = .ok (.areturn, 1) := by decide +kernel
theorem dX1_stepBack_0 : decode cX1_stepBack 0 = .ok (.aload_n 0, 1) := by decide +kernel
theorem dX1_stepBack_1 : decode cX1_stepBack 1 = .ok (.getfield 29, 3) := by decide +kernel
theorem dX1_stepBack_4 : decode cX1_stepBack 4 = .ok (.ifCond .ne 5, 3) := by decide +kernel
theorem dX1_stepBack_7 : decode cX1_stepBack 7 = .ok (.iconst 0, 1) := by decide +kernel
theorem dX1_stepBack_8 : decode cX1_stepBack 8 = .ok (.ireturn, 1) := by decide +kernel
theorem dX1_stepBack_9 : decode cX1_stepBack 9 = .ok (.aload_n 0, 1) := by decide +kernel
theorem dX1_stepBack_10 : decode cX1_stepBack 10 = .ok (.aload_n 0, 1) := by decide +kernel
theorem dX1_stepBack_11 : decode cX1_stepBack 11 = .ok (.getfield 21, 3) := by decide +kernel
theorem dX1_stepBack_14 : decode cX1_stepBack 14 = .ok (.bipush 13, 2) := by decide +kernel
theorem dX1_stepBack_16 : decode cX1_stepBack 16 = .ok (.iadd, 1) := by decide +kernel
theorem dX1_stepBack_17 : decode cX1_stepBack 17 = .ok (.iconst 1, 1) := by decide +kernel
theorem dX1_stepBack_18 : decode cX1_stepBack 18 = .ok (.isub, 1) := by decide +kernel
theorem dX1_stepBack_19 : decode cX1_stepBack 19 = .ok (.bipush 13, 2) := by decide +kernel
theorem dX1_stepBack_21 : decode cX1_stepBack 21 = .ok (.irem, 1) := by decide +kernel
theorem dX1_stepBack_22 : decode cX1_stepBack 22 = .ok (.putfield 21, 3) := by decide +kernel
theorem dX1_stepBack_25 : decode cX1_stepBack 25 = .ok (.aload_n 0, 1) := by decide +kernel
theorem dX1_stepBack_26 : decode cX1_stepBack 26 = .ok (.dup, 1) := by decide +kernel
theorem dX1_stepBack_27 : decode cX1_stepBack 27 = .ok (.getfield 29, 3) := by decide +kernel
theorem dX1_stepBack_30 : decode cX1_stepBack 30 = .ok (.iconst 1, 1) := by decide +kernel
theorem dX1_stepBack_31 : decode cX1_stepBack 31 = .ok (.isub, 1) := by decide +kernel
theorem dX1_stepBack_32 : decode cX1_stepBack 32 = .ok (.putfield 29, 3) := by decide +kernel
theorem dX1_stepBack_35 : decode cX1_stepBack 35 = .ok (.aload_n 0, 1) := by decide +kernel
theorem dX1_stepBack_36 : decode cX1_stepBack 36 = .ok (.dup, 1) := by decide +kernel
theorem dX1_stepBack_37 : decode cX1_stepBack 37 = .ok (.getfield 32, 3) := by decide +kernel
theorem dX1_stepBack_40 : decode cX1_stepBack 40 = .ok (.iconst 1, 1) := by decide +kernel
theorem dX1_stepBack_41 : decode cX1_stepBack 41 = .ok (.iadd, 1) := by decide +kernel
theorem dX1_stepBack_42 : decode cX1_stepBack 42 = .ok (.putfield 32, 3) := by decide +kernel
theorem dX1_stepBack_45 : decode cX1_stepBack 45 = .ok (.iconst 1, 1) := by decide +kernel
theorem dX1_stepBack_46 : decode cX1_stepBack 46 = .ok (.ireturn, 1) := by decide +kernel
theorem dX1_stepForth_0 : decode cX1_stepForth 0 = .ok (.aload_n 0, 1) := by decide +kernel
theorem dX1_stepForth_1 : decode cX1_stepForth 1 = .ok (.getfield 32, 3) := by decide +kernel
theorem dX1_stepForth_4 : decode cX1_stepForth 4 = .ok (.ifCond .ne 5, 3) := by decide +kernel
theorem dX1_stepForth_7 : decode cX1_stepForth 7 = .ok (.iconst 0, 1) := by decide +kernel
theorem dX1_stepForth_8 : decode cX1_stepForth 8 = .ok (.ireturn, 1) := by decide +kernel
theorem dX1_stepForth_9 : decode cX1_stepForth 9 = .ok (.aload_n 0, 1) := by decide +kernel
theorem dX1_stepForth_10 : decode cX1_stepForth 10 = .ok (.aload_n 0, 1) := by decide +kernel
theorem dX1_stepForth_11 : decode cX1_stepForth 11 = .ok (.getfield 21, 3) := by decide +kernel
theorem dX1_stepForth_14 : decode cX1_stepForth 14 = .ok (.iconst 1, 1) := by decide +kernel
theorem dX1_stepForth_15 : decode cX1_stepForth 15 = .ok (.iadd, 1) := by decide +kernel
theorem dX1_stepForth_16 : decode cX1_stepForth 16 = .ok (.bipush 13, 2) := by decide +kernel
theorem dX1_stepForth_18 : decode cX1_stepForth 18 = .ok (.irem, 1) := by decide +kernel
theorem dX1_stepForth_19 : decode cX1_stepForth 19 = .ok (.putfield 21, 3) := by decide +kernel
theorem dX1_stepForth_22 : decode cX1_stepForth 22 = .ok (.aload_n 0, 1) := by decide +kernel
theorem dX1_stepForth_23 : decode cX1_stepForth 23 = .ok (.dup, 1) := by decide +kernel
theorem dX1_stepForth_24 : decode cX1_stepForth 24 = .ok (.getfield 29, 3) := by decide +kernel
theorem dX1_stepForth_27 : decode cX1_stepForth 27 = .ok (.iconst 1, 1) := by decide +kernel
theorem dX1_stepForth_28 : decode cX1_stepForth 28 = .ok (.iadd, 1) := by decide +kernel
theorem dX1_stepForth_29 : decode cX1_stepForth 29 = .ok (.putfield 29, 3) := by decide +kernel
theorem dX1_stepForth_32 : decode cX1_stepForth 32 = .ok (.aload_n 0, 1) := by decide +kernel
theorem dX1_stepForth_33 : decode cX1_stepForth 33 = .ok (.dup, 1) := by decide +kernel
theorem dX1_stepForth_34 : decode cX1_stepForth 34 = .ok (.getfield 32, 3) := by decide +kernel
theorem dX1_stepForth_37 : decode cX1_stepForth 37 = .ok (.iconst 1, 1) := by decide +kernel
theorem dX1_stepForth_38 : decode cX1_stepForth 38 = .ok (.isub, 1) := by decide +kernel
theorem dX1_stepForth_39 : decode cX1_stepForth 39 = .ok (.putfield 32, 3) := by decide +kernel
theorem dX1_stepForth_42 : decode cX1_stepForth 42 = .ok (.iconst 1, 1) := by decide +kernel
theorem dX1_stepForth_43 : decode cX1_stepForth 43 = .ok (.ireturn, 1) := by decide +kernel
theorem dX1_keepImage_0 : decode cX1_keepImage 0 = .ok (.aload_n 0, 1) := by decide +kernel
theorem dX1_keepImage_1 : decode cX1_keepImage 1 = .ok (.getfield 35, 3) := by decide +kernel
theorem dX1_keepImage_4 : decode cX1_keepImage 4 = .ok (.iconst 3, 1) := by decide +kernel
theorem dX1_keepImage_5 : decode cX1_keepImage 5 = .ok (.if_icmp .lt 5, 3) := by decide +kernel
theorem dX1_keepImage_8 : decode cX1_keepImage 8 = .ok (.iconst (-1), 1) := by decide +kernel
theorem dX1_keepImage_9 : decode cX1_keepImage 9 = .ok (.ireturn, 1) := by decide +kernel
theorem dX1_keepImage_10 : decode cX1_keepImage 10 = .ok (.aload_n 0, 1) := by decide +kernel
theorem dX1_keepImage_11 : decode cX1_keepImage 11 = .ok (.getfield 17, 3) := by decide +kernel
theorem dX1_keepImage_14 : decode cX1_keepImage 14 = .ok (.aload_n 0, 1) := by decide +kernel
theorem dX1_keepImage_15 : decode cX1_keepImage 15 = .ok (.getfield 35, 3) := by decide +kernel
theorem dX1_keepImage_18 : decode cX1_keepImage 18 = .ok (.aaload, 1) := by decide +kernel
theorem dX1_keepImage_19 : decode cX1_keepImage 19 = .ok (.aload_n 0, 1) := by decide +kernel
theorem dX1_keepImage_20 : decode cX1_keepImage 20 = .ok (.getfield 13, 3) := by decide +kernel
theorem dX1_keepImage_23 : decode cX1_keepImage 23 = .ok (.aload_n 0, 1) := by decide +kernel
theorem dX1_keepImage_24 : decode cX1_keepImage 24 = .ok (.getfield 21, 3) := by decide +kernel
theorem dX1_keepImage_27 : decode cX1_keepImage 27 = .ok (.aaload, 1) := by decide +kernel
theorem dX1_keepImage_28 : decode cX1_keepImage 28 = .ok (.invokevirtual 25, 3) := by decide +kernel
theorem dX1_keepImage_31 : decode cX1_keepImage 31 = .ok (.aload_n 0, 1) := by decide +kernel
theorem dX1_keepImage_32 : decode cX1_keepImage 32 = .ok (.dup, 1) := by decide +kernel
theorem dX1_keepImage_33 : decode cX1_keepImage 33 = .ok (.getfield 35, 3) := by decide +kernel
theorem dX1_keepImage_36 : decode cX1_keepImage 36 = .ok (.iconst 1, 1) := by decide +kernel
theorem dX1_keepImage_37 : decode cX1_keepImage 37 = .ok (.iadd, 1) := by decide +kernel
theorem dX1_keepImage_38 : decode cX1_keepImage 38 = .ok (.putfield 35, 3) := by decide +kernel
theorem dX1_keepImage_41 : decode cX1_keepImage 41 = .ok (.aload_n 0, 1) := by decide +kernel
theorem dX1_keepImage_42 : decode cX1_keepImage 42 = .ok (.getfield 35, 3) := by decide +kernel
theorem dX1_keepImage_45 : decode cX1_keepImage 45 = .ok (.iconst 1, 1) := by decide +kernel
theorem dX1_keepImage_46 : decode cX1_keepImage 46 = .ok (.isub, 1) := by decide +kernel
theorem dX1_keepImage_47 : decode cX1_keepImage 47 = .ok (.ireturn, 1) := by decide +kernel
theorem dX5_weigh_0 : decode cX5_weigh 0 = .ok (.aload_n 0, 1) := by decide +kernel
theorem dX5_weigh_1 : decode cX5_weigh 1 = .ok (.aload_n 1, 1) := by decide +kernel
theorem dX5_weigh_2 : decode cX5_weigh 2 = .ok (.putfield 24, 3) := by decide +kernel
theorem dX5_weigh_5 : decode cX5_weigh 5 = .ok (.iconst 0, 1) := by decide +kernel
theorem dX5_weigh_6 : decode cX5_weigh 6 = .ok (.istore_n 3, 1) := by decide +kernel
theorem dX5_weigh_7 : decode cX5_weigh 7 = .ok (.iload_n 3, 1) := by decide +kernel
theorem dX5_weigh_8 : decode cX5_weigh 8 = .ok (.aload_n 0, 1) := by decide +kernel
theorem dX5_weigh_9 : decode cX5_weigh 9 = .ok (.getfield 24, 3) := by decide +kernel
theorem dX5_weigh_12 : decode cX5_weigh 12 = .ok (.getfield 28, 3) := by decide +kernel
theorem dX5_weigh_15 : decode cX5_weigh 15 = .ok (.if_icmp .ge 15, 3) := by decide +kernel
theorem dX5_weigh_18 : decode cX5_weigh 18 = .ok (.aload_n 0, 1) := by decide +kernel
theorem dX5_weigh_19 : decode cX5_weigh 19 = .ok (.iload_n 3, 1) := by decide +kernel
theorem dX5_weigh_20 : decode cX5_weigh 20 = .ok (.iload_n 2, 1) := by decide +kernel
theorem dX5_weigh_21 : decode cX5_weigh 21 = .ok (.invokevirtual 34, 3) := by decide +kernel
theorem dX5_weigh_24 : decode cX5_weigh 24 = .ok (.iinc 3 1, 3) := by decide +kernel
theorem dX5_weigh_27 : decode cX5_weigh 27 = .ok (.goto (-20), 3) := by decide +kernel
theorem dX5_weigh_30 : decode cX5_weigh 30 = .ok (.aload_n 0, 1) := by decide +kernel
theorem dX5_weigh_31 : decode cX5_weigh 31 = .ok (.getfield 21, 3) := by decide +kernel
theorem dX5_weigh_34 : decode cX5_weigh 34 = .ok (.aload_n 0, 1) := by decide +kernel
theorem dX5_weigh_35 : decode cX5_weigh 35 = .ok (.getfield 24, 3) := by decide +kernel
theorem dX5_weigh_38 : decode cX5_weigh 38 = .ok (.getfield 28, 3) := by decide +kernel
theorem dX5_weigh_41 : decode cX5_weigh 41 = .ok (.bipush 64, 2) := by decide +kernel
theorem dX5_weigh_43 : decode cX5_weigh 43 = .ok (.imul, 1) := by decide +kernel
theorem dX5_weigh_44 : decode cX5_weigh 44 = .ok (.aload_n 0, 1) := by decide +kernel
theorem dX5_weigh_45 : decode cX5_weigh 45 = .ok (.getfield 24, 3) := by decide +kernel
theorem dX5_weigh_48 : decode cX5_weigh 48 = .ok (.getfield 28, 3) := by decide +kernel
theorem dX5_weigh_51 : decode cX5_weigh 51 = .ok (.iconst 1, 1) := by decide +kernel
theorem dX5_weigh_52 : decode cX5_weigh 52 = .ok (.iadd, 1) := by decide +kernel
theorem dX5_weigh_53 : decode cX5_weigh 53 = .ok (.bipush 64, 2) := by decide +kernel
theorem dX5_weigh_55 : decode cX5_weigh 55 = .ok (.imul, 1) := by decide +kernel
theorem dX5_weigh_56 : decode cX5_weigh 56 = .ok (.iconst 0, 1) := by decide +kernel
theorem dX5_weigh_57 : decode cX5_weigh 57 = .ok (.invokestatic 38, 3) := by decide +kernel
theorem dX5_weigh_60 : decode cX5_weigh 60 = .ok (.aload_n 0, 1) := by decide +kernel
theorem dX5_weigh_61 : decode cX5_weigh 61 = .ok (.getfield 24, 3) := by decide +kernel
theorem dX5_weigh_64 : decode cX5_weigh 64 = .ok (.getfield 28, 3) := by decide +kernel
theorem dX5_weigh_67 : decode cX5_weigh 67 = .ok (.iconst 1, 1) := by decide +kernel
theorem dX5_weigh_68 : decode cX5_weigh 68 = .ok (.isub, 1) := by decide +kernel
theorem dX5_weigh_69 : decode cX5_weigh 69 = .ok (.istore_n 3, 1) := by decide +kernel
theorem dX5_weigh_70 : decode cX5_weigh 70 = .ok (.iload_n 3, 1) := by decide +kernel
theorem dX5_weigh_71 : decode cX5_weigh 71 = .ok (.ifCond .lt 44, 3) := by decide +kernel
theorem dX5_weigh_74 : decode cX5_weigh 74 = .ok (.iconst 0, 1) := by decide +kernel
theorem dX5_weigh_75 : decode cX5_weigh 75 = .ok (.istore 4, 2) := by decide +kernel
theorem dX5_weigh_77 : decode cX5_weigh 77 = .ok (.iload 4, 2) := by decide +kernel
theorem dX5_weigh_79 : decode cX5_weigh 79 = .ok (.bipush 64, 2) := by decide +kernel
theorem dX5_weigh_81 : decode cX5_weigh 81 = .ok (.if_icmp .ge 28, 3) := by decide +kernel
theorem dX5_weigh_84 : decode cX5_weigh 84 = .ok (.aload_n 0, 1) := by decide +kernel
theorem dX5_weigh_85 : decode cX5_weigh 85 = .ok (.getfield 21, 3) := by decide +kernel
theorem dX5_weigh_88 : decode cX5_weigh 88 = .ok (.iload_n 3, 1) := by decide +kernel
theorem dX5_weigh_89 : decode cX5_weigh 89 = .ok (.bipush 64, 2) := by decide +kernel
theorem dX5_weigh_91 : decode cX5_weigh 91 = .ok (.imul, 1) := by decide +kernel
theorem dX5_weigh_92 : decode cX5_weigh 92 = .ok (.iload 4, 2) := by decide +kernel
theorem dX5_weigh_94 : decode cX5_weigh 94 = .ok (.iadd, 1) := by decide +kernel
theorem dX5_weigh_95 : decode cX5_weigh 95 = .ok (.aload_n 0, 1) := by decide +kernel
theorem dX5_weigh_96 : decode cX5_weigh 96 = .ok (.iload_n 3, 1) := by decide +kernel
theorem dX5_weigh_97 : decode cX5_weigh 97 = .ok (.iload 4, 2) := by decide +kernel
theorem dX5_weigh_99 : decode cX5_weigh 99 = .ok (.invokevirtual 44, 3) := by decide +kernel
theorem dX5_weigh_102 : decode cX5_weigh 102 = .ok (.iastore, 1) := by decide +kernel
theorem dX5_weigh_103 : decode cX5_weigh 103 = .ok (.iinc 4 1, 3) := by decide +kernel
theorem dX5_weigh_106 : decode cX5_weigh 106 = .ok (.goto (-29), 3) := by decide +kernel
theorem dX5_weigh_109 : decode cX5_weigh 109 = .ok (.iinc 3 (-1), 3) := by decide +kernel
theorem dX5_weigh_112 : decode cX5_weigh 112 = .ok (.goto (-42), 3) := by decide +kernel
theorem dX5_weigh_115 : decode cX5_weigh 115 = .ok (.return_, 1) := by decide +kernel
theorem dX5_weighMask_0 : decode cX5_weighMask 0 = .ok (.aload_n 0, 1) := by decide +kernel
theorem dX5_weighMask_1 : decode cX5_weighMask 1 = .ok (.getfield 9, 3) := by decide +kernel
theorem dX5_weighMask_4 : decode cX5_weighMask 4 = .ok (.iload_n 1, 1) := by decide +kernel
theorem dX5_weighMask_5 : decode cX5_weighMask 5 = .ok (.aload_n 0, 1) := by decide +kernel
theorem dX5_weighMask_6 : decode cX5_weighMask 6 = .ok (.getfield 24, 3) := by decide +kernel
theorem dX5_weighMask_9 : decode cX5_weighMask 9 = .ok (.iload_n 1, 1) := by decide +kernel
theorem dX5_weighMask_10 : decode cX5_weighMask 10 = .ok (.bipush (-2), 2) := by decide +kernel
theorem dX5_weighMask_12 : decode cX5_weighMask 12 = .ok (.iload_n 2, 1) := by decide +kernel
theorem dX5_weighMask_13 : decode cX5_weighMask 13 = .ok (.invokevirtual 48, 3) := by decide +kernel
theorem dX5_weighMask_16 : decode cX5_weighMask 16 = .ok (.iastore, 1) := by decide +kernel
theorem dX5_weighMask_17 : decode cX5_weighMask 17 = .ok (.aload_n 0, 1) := by decide +kernel
theorem dX5_weighMask_18 : decode cX5_weighMask 18 = .ok (.getfield 18, 3) := by decide +kernel
theorem dX5_weighMask_21 : decode cX5_weighMask 21 = .ok (.iload_n 1, 1) := by decide +kernel
theorem dX5_weighMask_22 : decode cX5_weighMask 22 = .ok (.iconst 0, 1) := by decide +kernel
theorem dX5_weighMask_23 : decode cX5_weighMask 23 = .ok (.iastore, 1) := by decide +kernel
theorem dX5_weighMask_24 : decode cX5_weighMask 24 = .ok (.iconst 0, 1) := by decide +kernel
theorem dX5_weighMask_25 : decode cX5_weighMask 25 = .ok (.istore_n 3, 1) := by decide +kernel
theorem dX5_weighMask_26 : decode cX5_weighMask 26 = .ok (.iload_n 3, 1) := by decide +kernel
theorem dX5_weighMask_27 : decode cX5_weighMask 27 = .ok (.aload_n 0, 1) := by decide +kernel
theorem dX5_weighMask_28 : decode cX5_weighMask 28 = .ok (.getfield 24, 3) := by decide +kernel
theorem dX5_weighMask_31 : decode cX5_weighMask 31 = .ok (.getfield 52, 3) := by decide +kernel
theorem dX5_weighMask_34 : decode cX5_weighMask 34 = .ok (.if_icmp .ge 73, 3) := by decide +kernel
theorem dX5_weighMask_37 : decode cX5_weighMask 37 = .ok (.aload_n 0, 1) := by decide +kernel
theorem dX5_weighMask_38 : decode cX5_weighMask 38 = .ok (.getfield 24, 3) := by decide +kernel
theorem dX5_weighMask_41 : decode cX5_weighMask 41 = .ok (.iload_n 1, 1) := by decide +kernel
theorem dX5_weighMask_42 : decode cX5_weighMask 42 = .ok (.iload_n 3, 1) := by decide +kernel
theorem dX5_weighMask_43 : decode cX5_weighMask 43 = .ok (.invokevirtual 55, 3) := by decide +kernel
theorem dX5_weighMask_46 : decode cX5_weighMask 46 = .ok (.ifCond .eq 55, 3) := by decide +kernel
theorem dX5_weighMask_49 : decode cX5_weighMask 49 = .ok (.aload_n 0, 1) := by decide +kernel
theorem dX5_weighMask_50 : decode cX5_weighMask 50 = .ok (.getfield 24, 3) := by decide +kernel
theorem dX5_weighMask_53 : decode cX5_weighMask 53 = .ok (.iload_n 1, 1) := by decide +kernel
theorem dX5_weighMask_54 : decode cX5_weighMask 54 = .ok (.iload_n 3, 1) := by decide +kernel
theorem dX5_weighMask_55 : decode cX5_weighMask 55 = .ok (.iload_n 2, 1) := by decide +kernel
theorem dX5_weighMask_56 : decode cX5_weighMask 56 = .ok (.invokevirtual 48, 3) := by decide +kernel
theorem dX5_weighMask_59 : decode cX5_weighMask 59 = .ok (.istore 4, 2) := by decide +kernel
theorem dX5_weighMask_61 : decode cX5_weighMask 61 = .ok (.aload_n 0, 1) := by decide +kernel
theorem dX5_weighMask_62 : decode cX5_weighMask 62 = .ok (.getfield 15, 3) := by decide +kernel
theorem dX5_weighMask_65 : decode cX5_weighMask 65 = .ok (.iload_n 1, 1) := by decide +kernel
theorem dX5_weighMask_66 : decode cX5_weighMask 66 = .ok (.bipush 6, 2) := by decide +kernel
theorem dX5_weighMask_68 : decode cX5_weighMask 68 = .ok (.imul, 1) := by decide +kernel
theorem dX5_weighMask_69 : decode cX5_weighMask 69 = .ok (.iload_n 3, 1) := by decide +kernel
theorem dX5_weighMask_70 : decode cX5_weighMask 70 = .ok (.iadd, 1) := by decide +kernel
theorem dX5_weighMask_71 : decode cX5_weighMask 71 = .ok (.iload 4, 2) := by decide +kernel
theorem dX5_weighMask_73 : decode cX5_weighMask 73 = .ok (.iastore, 1) := by decide +kernel
theorem dX5_weighMask_74 : decode cX5_weighMask 74 = .ok (.aload_n 0, 1) := by decide +kernel
theorem dX5_weighMask_75 : decode cX5_weighMask 75 = .ok (.getfield 18, 3) := by decide +kernel
theorem dX5_weighMask_78 : decode cX5_weighMask 78 = .ok (.iload_n 1, 1) := by decide +kernel
theorem dX5_weighMask_79 : decode cX5_weighMask 79 = .ok (.dup2, 1) := by decide +kernel
theorem dX5_weighMask_80 : decode cX5_weighMask 80 = .ok (.iaload, 1) := by decide +kernel
theorem dX5_weighMask_81 : decode cX5_weighMask 81 = .ok (.iload 4, 2) := by decide +kernel
theorem dX5_weighMask_83 : decode cX5_weighMask 83 = .ok (.aload_n 0, 1) := by decide +kernel
theorem dX5_weighMask_84 : decode cX5_weighMask 84 = .ok (.getfield 9, 3) := by decide +kernel
theorem dX5_weighMask_87 : decode cX5_weighMask 87 = .ok (.iload_n 1, 1) := by decide +kernel
theorem dX5_weighMask_88 : decode cX5_weighMask 88 = .ok (.iaload, 1) := by decide +kernel
theorem dX5_weighMask_89 : decode cX5_weighMask 89 = .ok (.if_icmp .le 9, 3) := by decide +kernel
theorem dX5_weighMask_92 : decode cX5_weighMask 92 = .ok (.iconst 1, 1) := by decide +kernel
theorem dX5_weighMask_93 : decode cX5_weighMask 93 = .ok (.iload_n 3, 1) := by decide +kernel
theorem dX5_weighMask_94 : decode cX5_weighMask 94 = .ok (.ishl, 1) := by decide +kernel
theorem dX5_weighMask_95 : decode cX5_weighMask 95 = .ok (.goto 4, 3) := by decide +kernel
theorem dX5_weighMask_98 : decode cX5_weighMask 98 = .ok (.iconst 0, 1) := by decide +kernel
theorem dX5_weighMask_99 : decode cX5_weighMask 99 = .ok (.ior, 1) := by decide +kernel
theorem dX5_weighMask_100 : decode cX5_weighMask 100 = .ok (.iastore, 1) := by decide +kernel
theorem dX5_weighMask_101 : decode cX5_weighMask 101 = .ok (.iinc 3 1, 3) := by decide +kernel
theorem dX5_weighMask_104 : decode cX5_weighMask 104 = .ok (.goto (-78), 3) := by decide +kernel
theorem dX5_weighMask_107 : decode cX5_weighMask 107 = .ok (.return_, 1) := by decide +kernel
theorem dX5_mostFrom_0 : decode cX5_mostFrom 0 = .ok (.aload_n 0, 1) := by decide +kernel
theorem dX5_mostFrom_1 : decode cX5_mostFrom 1 = .ok (.iload_n 1, 1) := by decide +kernel
theorem dX5_mostFrom_2 : decode cX5_mostFrom 2 = .ok (.iload_n 2, 1) := by decide +kernel
theorem dX5_mostFrom_3 : decode cX5_mostFrom 3 = .ok (.invokevirtual 59, 3) := by decide +kernel
theorem dX5_mostFrom_6 : decode cX5_mostFrom 6 = .ok (.istore_n 3, 1) := by decide +kernel
theorem dX5_mostFrom_7 : decode cX5_mostFrom 7 = .ok (.aload_n 0, 1) := by decide +kernel
theorem dX5_mostFrom_8 : decode cX5_mostFrom 8 = .ok (.getfield 18, 3) := by decide +kernel
theorem dX5_mostFrom_11 : decode cX5_mostFrom 11 = .ok (.iload_n 1, 1) := by decide +kernel
theorem dX5_mostFrom_12 : decode cX5_mostFrom 12 = .ok (.iaload, 1) := by decide +kernel
theorem dX5_mostFrom_13 : decode cX5_mostFrom 13 = .ok (.iload_n 2, 1) := by decide +kernel
theorem dX5_mostFrom_14 : decode cX5_mostFrom 14 = .ok (.iconst (-1), 1) := by decide +kernel
theorem dX5_mostFrom_15 : decode cX5_mostFrom 15 = .ok (.ixor, 1) := by decide +kernel
theorem dX5_mostFrom_16 : decode cX5_mostFrom 16 = .ok (.iand, 1) := by decide +kernel
theorem dX5_mostFrom_17 : decode cX5_mostFrom 17 = .ok (.istore 4, 2) := by decide +kernel
theorem dX5_mostFrom_19 : decode cX5_mostFrom 19 = .ok (.iconst 0, 1) := by decide +kernel
theorem dX5_mostFrom_20 : decode cX5_mostFrom 20 = .ok (.istore 5, 2) := by decide +kernel
theorem dX5_mostFrom_22 : decode cX5_mostFrom 22 = .ok (.iload 5, 2) := by decide +kernel
theorem dX5_mostFrom_24 : decode cX5_mostFrom 24 = .ok (.aload_n 0, 1) := by decide +kernel
theorem dX5_mostFrom_25 : decode cX5_mostFrom 25 = .ok (.getfield 24, 3) := by decide +kernel
theorem dX5_mostFrom_28 : decode cX5_mostFrom 28 = .ok (.getfield 52, 3) := by decide +kernel
theorem dX5_mostFrom_31 : decode cX5_mostFrom 31 = .ok (.if_icmp .ge 32, 3) := by decide +kernel
theorem dX5_mostFrom_34 : decode cX5_mostFrom 34 = .ok (.iload 4, 2) := by decide +kernel
theorem dX5_mostFrom_36 : decode cX5_mostFrom 36 = .ok (.iload 5, 2) := by decide +kernel
theorem dX5_mostFrom_38 : decode cX5_mostFrom 38 = .ok (.ishr, 1) := by decide +kernel
theorem dX5_mostFrom_39 : decode cX5_mostFrom 39 = .ok (.iconst 1, 1) := by decide +kernel
theorem dX5_mostFrom_40 : decode cX5_mostFrom 40 = .ok (.iand, 1) := by decide +kernel
theorem dX5_mostFrom_41 : decode cX5_mostFrom 41 = .ok (.ifCond .eq 16, 3) := by decide +kernel
theorem dX5_mostFrom_44 : decode cX5_mostFrom 44 = .ok (.iload_n 3, 1) := by decide +kernel
theorem dX5_mostFrom_45 : decode cX5_mostFrom 45 = .ok (.aload_n 0, 1) := by decide +kernel
theorem dX5_mostFrom_46 : decode cX5_mostFrom 46 = .ok (.iload_n 1, 1) := by decide +kernel
theorem dX5_mostFrom_47 : decode cX5_mostFrom 47 = .ok (.iload_n 2, 1) := by decide +kernel
theorem dX5_mostFrom_48 : decode cX5_mostFrom 48 = .ok (.iload 5, 2) := by decide +kernel
theorem dX5_mostFrom_50 : decode cX5_mostFrom 50 = .ok (.invokevirtual 62, 3) := by decide +kernel
theorem dX5_mostFrom_53 : decode cX5_mostFrom 53 = .ok (.invokestatic 65, 3) := by decide +kernel
theorem dX5_mostFrom_56 : decode cX5_mostFrom 56 = .ok (.istore_n 3, 1) := by decide +kernel
theorem dX5_mostFrom_57 : decode cX5_mostFrom 57 = .ok (.iinc 5 1, 3) := by decide +kernel
theorem dX5_mostFrom_60 : decode cX5_mostFrom 60 = .ok (.goto (-38), 3) := by decide +kernel
theorem dX5_mostFrom_63 : decode cX5_mostFrom 63 = .ok (.iload_n 3, 1) := by decide +kernel
theorem dX5_mostFrom_64 : decode cX5_mostFrom 64 = .ok (.ireturn, 1) := by decide +kernel
theorem dX5_withPeg_0 : decode cX5_withPeg 0 = .ok (.aload_n 0, 1) := by decide +kernel
theorem dX5_withPeg_1 : decode cX5_withPeg 1 = .ok (.getfield 9, 3) := by decide +kernel
theorem dX5_withPeg_4 : decode cX5_withPeg 4 = .ok (.iload_n 1, 1) := by decide +kernel
theorem dX5_withPeg_5 : decode cX5_withPeg 5 = .ok (.iaload, 1) := by decide +kernel
theorem dX5_withPeg_6 : decode cX5_withPeg 6 = .ok (.aload_n 0, 1) := by decide +kernel
theorem dX5_withPeg_7 : decode cX5_withPeg 7 = .ok (.getfield 21, 3) := by decide +kernel
theorem dX5_withPeg_10 : decode cX5_withPeg 10 = .ok (.iload_n 1, 1) := by decide +kernel
theorem dX5_withPeg_11 : decode cX5_withPeg 11 = .ok (.iconst 1, 1) := by decide +kernel
theorem dX5_withPeg_12 : decode cX5_withPeg 12 = .ok (.iadd, 1) := by decide +kernel
theorem dX5_withPeg_13 : decode cX5_withPeg 13 = .ok (.bipush 64, 2) := by decide +kernel
theorem dX5_withPeg_15 : decode cX5_withPeg 15 = .ok (.imul, 1) := by decide +kernel
theorem dX5_withPeg_16 : decode cX5_withPeg 16 = .ok (.iload_n 2, 1) := by decide +kernel
theorem dX5_withPeg_17 : decode cX5_withPeg 17 = .ok (.iadd, 1) := by decide +kernel
theorem dX5_withPeg_18 : decode cX5_withPeg 18 = .ok (.iaload, 1) := by decide +kernel
theorem dX5_withPeg_19 : decode cX5_withPeg 19 = .ok (.iadd, 1) := by decide +kernel
theorem dX5_withPeg_20 : decode cX5_withPeg 20 = .ok (.ireturn, 1) := by decide +kernel
theorem dX5_withPerson_0 : decode cX5_withPerson 0 = .ok (.aload_n 0, 1) := by decide +kernel
theorem dX5_withPerson_1 : decode cX5_withPerson 1 = .ok (.getfield 15, 3) := by decide +kernel
theorem dX5_withPerson_4 : decode cX5_withPerson 4 = .ok (.iload_n 1, 1) := by decide +kernel
theorem dX5_withPerson_5 : decode cX5_withPerson 5 = .ok (.bipush 6, 2) := by decide +kernel
theorem dX5_withPerson_7 : decode cX5_withPerson 7 = .ok (.imul, 1) := by decide +kernel
theorem dX5_withPerson_8 : decode cX5_withPerson 8 = .ok (.iload_n 3, 1) := by decide +kernel
theorem dX5_withPerson_9 : decode cX5_withPerson 9 = .ok (.iadd, 1) := by decide +kernel
theorem dX5_withPerson_10 : decode cX5_withPerson 10 = .ok (.iaload, 1) := by decide +kernel
theorem dX5_withPerson_11 : decode cX5_withPerson 11 = .ok (.aload_n 0, 1) := by decide +kernel
theorem dX5_withPerson_12 : decode cX5_withPerson 12 = .ok (.getfield 21, 3) := by decide +kernel
theorem dX5_withPerson_15 : decode cX5_withPerson 15 = .ok (.iload_n 1, 1) := by decide +kernel
theorem dX5_withPerson_16 : decode cX5_withPerson 16 = .ok (.iconst 1, 1) := by decide +kernel
theorem dX5_withPerson_17 : decode cX5_withPerson 17 = .ok (.iadd, 1) := by decide +kernel
theorem dX5_withPerson_18 : decode cX5_withPerson 18 = .ok (.bipush 64, 2) := by decide +kernel
theorem dX5_withPerson_20 : decode cX5_withPerson 20 = .ok (.imul, 1) := by decide +kernel
theorem dX5_withPerson_21 : decode cX5_withPerson 21 = .ok (.iload_n 2, 1) := by decide +kernel
theorem dX5_withPerson_22 : decode cX5_withPerson 22 = .ok (.iconst 1, 1) := by decide +kernel
theorem dX5_withPerson_23 : decode cX5_withPerson 23 = .ok (.iload_n 3, 1) := by decide +kernel
theorem dX5_withPerson_24 : decode cX5_withPerson 24 = .ok (.ishl, 1) := by decide +kernel
theorem dX5_withPerson_25 : decode cX5_withPerson 25 = .ok (.ior, 1) := by decide +kernel
theorem dX5_withPerson_26 : decode cX5_withPerson 26 = .ok (.iadd, 1) := by decide +kernel
theorem dX5_withPerson_27 : decode cX5_withPerson 27 = .ok (.iaload, 1) := by decide +kernel
theorem dX5_withPerson_28 : decode cX5_withPerson 28 = .ok (.iadd, 1) := by decide +kernel
theorem dX5_withPerson_29 : decode cX5_withPerson 29 = .ok (.ireturn, 1) := by decide +kernel
theorem dX5_most_0 : decode cX5_most 0 = .ok (.aload_n 0, 1) := by decide +kernel
theorem dX5_most_1 : decode cX5_most 1 = .ok (.getfield 21, 3) := by decide +kernel
theorem dX5_most_4 : decode cX5_most 4 = .ok (.iload_n 1, 1) := by decide +kernel
theorem dX5_most_5 : decode cX5_most 5 = .ok (.iaload, 1) := by decide +kernel
theorem dX5_most_6 : decode cX5_most 6 = .ok (.ireturn, 1) := by decide +kernel
theorem dX5_choice_0 : decode cX5_choice 0 = .ok (.iconst 0, 1) := by decide +kernel
theorem dX5_choice_1 : decode cX5_choice 1 = .ok (.istore_n 2, 1) := by decide +kernel
theorem dX5_choice_2 : decode cX5_choice 2 = .ok (.bipush (-2), 2) := by decide +kernel
theorem dX5_choice_4 : decode cX5_choice 4 = .ok (.istore_n 3, 1) := by decide +kernel
theorem dX5_choice_5 : decode cX5_choice 5 = .ok (.iconst 0, 1) := by decide +kernel
theorem dX5_choice_6 : decode cX5_choice 6 = .ok (.istore 4, 2) := by decide +kernel
theorem dX5_choice_8 : decode cX5_choice 8 = .ok (.iload 4, 2) := by decide +kernel
theorem dX5_choice_10 : decode cX5_choice 10 = .ok (.iload_n 1, 1) := by decide +kernel
theorem dX5_choice_11 : decode cX5_choice 11 = .ok (.if_icmp .gt 27, 3) := by decide +kernel
theorem dX5_choice_14 : decode cX5_choice 14 = .ok (.aload_n 0, 1) := by decide +kernel
theorem dX5_choice_15 : decode cX5_choice 15 = .ok (.iload 4, 2) := by decide +kernel
theorem dX5_choice_17 : decode cX5_choice 17 = .ok (.iload_n 2, 1) := by decide +kernel
theorem dX5_choice_18 : decode cX5_choice 18 = .ok (.invokevirtual 70, 3) := by decide +kernel
theorem dX5_choice_21 : decode cX5_choice 21 = .ok (.istore_n 3, 1) := by decide +kernel
theorem dX5_choice_22 : decode cX5_choice 22 = .ok (.iload_n 3, 1) := by decide +kernel
theorem dX5_choice_23 : decode cX5_choice 23 = .ok (.ifCond .lt 9, 3) := by decide +kernel
theorem dX5_choice_26 : decode cX5_choice 26 = .ok (.iload_n 2, 1) := by decide +kernel
theorem dX5_choice_27 : decode cX5_choice 27 = .ok (.iconst 1, 1) := by decide +kernel
theorem dX5_choice_28 : decode cX5_choice 28 = .ok (.iload_n 3, 1) := by decide +kernel
theorem dX5_choice_29 : decode cX5_choice 29 = .ok (.ishl, 1) := by decide +kernel
theorem dX5_choice_30 : decode cX5_choice 30 = .ok (.ior, 1) := by decide +kernel
theorem dX5_choice_31 : decode cX5_choice 31 = .ok (.istore_n 2, 1) := by decide +kernel
theorem dX5_choice_32 : decode cX5_choice 32 = .ok (.iinc 4 1, 3) := by decide +kernel
theorem dX5_choice_35 : decode cX5_choice 35 = .ok (.goto (-27), 3) := by decide +kernel
theorem dX5_choice_38 : decode cX5_choice 38 = .ok (.iload_n 3, 1) := by decide +kernel
theorem dX5_choice_39 : decode cX5_choice 39 = .ok (.ireturn, 1) := by decide +kernel
theorem dX5_firstBest_0 : decode cX5_firstBest 0 = .ok (.aload_n 0, 1) := by decide +kernel
theorem dX5_firstBest_1 : decode cX5_firstBest 1 = .ok (.getfield 21, 3) := by decide +kernel
theorem dX5_firstBest_4 : decode cX5_firstBest 4 = .ok (.iload_n 1, 1) := by decide +kernel
theorem dX5_firstBest_5 : decode cX5_firstBest 5 = .ok (.bipush 64, 2) := by decide +kernel
theorem dX5_firstBest_7 : decode cX5_firstBest 7 = .ok (.imul, 1) := by decide +kernel
theorem dX5_firstBest_8 : decode cX5_firstBest 8 = .ok (.iload_n 2, 1) := by decide +kernel
theorem dX5_firstBest_9 : decode cX5_firstBest 9 = .ok (.iadd, 1) := by decide +kernel
theorem dX5_firstBest_10 : decode cX5_firstBest 10 = .ok (.iaload, 1) := by decide +kernel
theorem dX5_firstBest_11 : decode cX5_firstBest 11 = .ok (.istore_n 3, 1) := by decide +kernel
theorem dX5_firstBest_12 : decode cX5_firstBest 12 = .ok (.aload_n 0, 1) := by decide +kernel
theorem dX5_firstBest_13 : decode cX5_firstBest 13 = .ok (.iload_n 1, 1) := by decide +kernel
theorem dX5_firstBest_14 : decode cX5_firstBest 14 = .ok (.iload_n 2, 1) := by decide +kernel
theorem dX5_firstBest_15 : decode cX5_firstBest 15 = .ok (.invokevirtual 59, 3) := by decide +kernel
theorem dX5_firstBest_18 : decode cX5_firstBest 18 = .ok (.iload_n 3, 1) := by decide +kernel
theorem dX5_firstBest_19 : decode cX5_firstBest 19 = .ok (.if_icmp .ne 6, 3) := by decide +kernel
theorem dX5_firstBest_22 : decode cX5_firstBest 22 = .ok (.bipush (-2), 2) := by decide +kernel
theorem dX5_firstBest_24 : decode cX5_firstBest 24 = .ok (.ireturn, 1) := by decide +kernel
theorem dX5_firstBest_25 : decode cX5_firstBest 25 = .ok (.aload_n 0, 1) := by decide +kernel
theorem dX5_firstBest_26 : decode cX5_firstBest 26 = .ok (.getfield 18, 3) := by decide +kernel
theorem dX5_firstBest_29 : decode cX5_firstBest 29 = .ok (.iload_n 1, 1) := by decide +kernel
theorem dX5_firstBest_30 : decode cX5_firstBest 30 = .ok (.iaload, 1) := by decide +kernel
theorem dX5_firstBest_31 : decode cX5_firstBest 31 = .ok (.iload_n 2, 1) := by decide +kernel
theorem dX5_firstBest_32 : decode cX5_firstBest 32 = .ok (.iconst (-1), 1) := by decide +kernel
theorem dX5_firstBest_33 : decode cX5_firstBest 33 = .ok (.ixor, 1) := by decide +kernel
theorem dX5_firstBest_34 : decode cX5_firstBest 34 = .ok (.iand, 1) := by decide +kernel
theorem dX5_firstBest_35 : decode cX5_firstBest 35 = .ok (.istore 4, 2) := by decide +kernel
theorem dX5_firstBest_37 : decode cX5_firstBest 37 = .ok (.iconst 0, 1) := by decide +kernel
theorem dX5_firstBest_38 : decode cX5_firstBest 38 = .ok (.istore 5, 2) := by decide +kernel
theorem dX5_firstBest_40 : decode cX5_firstBest 40 = .ok (.iload 5, 2) := by decide +kernel
theorem dX5_firstBest_42 : decode cX5_firstBest 42 = .ok (.aload_n 0, 1) := by decide +kernel
theorem dX5_firstBest_43 : decode cX5_firstBest 43 = .ok (.getfield 24, 3) := by decide +kernel
theorem dX5_firstBest_46 : decode cX5_firstBest 46 = .ok (.getfield 52, 3) := by decide +kernel
theorem dX5_firstBest_49 : decode cX5_firstBest 49 = .ok (.if_icmp .ge 34, 3) := by decide +kernel
theorem dX5_firstBest_52 : decode cX5_firstBest 52 = .ok (.iload 4, 2) := by decide +kernel
theorem dX5_firstBest_54 : decode cX5_firstBest 54 = .ok (.iload 5, 2) := by decide +kernel
theorem dX5_firstBest_56 : decode cX5_firstBest 56 = .ok (.ishr, 1) := by decide +kernel
theorem dX5_firstBest_57 : decode cX5_firstBest 57 = .ok (.iconst 1, 1) := by decide +kernel
theorem dX5_firstBest_58 : decode cX5_firstBest 58 = .ok (.iand, 1) := by decide +kernel
theorem dX5_firstBest_59 : decode cX5_firstBest 59 = .ok (.ifCond .eq 18, 3) := by decide +kernel
theorem dX5_firstBest_62 : decode cX5_firstBest 62 = .ok (.aload_n 0, 1) := by decide +kernel
theorem dX5_firstBest_63 : decode cX5_firstBest 63 = .ok (.iload_n 1, 1) := by decide +kernel
theorem dX5_firstBest_64 : decode cX5_firstBest 64 = .ok (.iload_n 2, 1) := by decide +kernel
theorem dX5_firstBest_65 : decode cX5_firstBest 65 = .ok (.iload 5, 2) := by decide +kernel
theorem dX5_firstBest_67 : decode cX5_firstBest 67 = .ok (.invokevirtual 62, 3) := by decide +kernel
theorem dX5_firstBest_70 : decode cX5_firstBest 70 = .ok (.iload_n 3, 1) := by decide +kernel
theorem dX5_firstBest_71 : decode cX5_firstBest 71 = .ok (.if_icmp .ne 6, 3) := by decide +kernel
theorem dX5_firstBest_74 : decode cX5_firstBest 74 = .ok (.iload 5, 2) := by decide +kernel
theorem dX5_firstBest_76 : decode cX5_firstBest 76 = .ok (.ireturn, 1) := by decide +kernel
theorem dX5_firstBest_77 : decode cX5_firstBest 77 = .ok (.iinc 5 1, 3) := by decide +kernel
theorem dX5_firstBest_80 : decode cX5_firstBest 80 = .ok (.goto (-40), 3) := by decide +kernel
theorem dX5_firstBest_83 : decode cX5_firstBest 83 = .ok (.bipush (-2), 2) := by decide +kernel
theorem dX5_firstBest_85 : decode cX5_firstBest 85 = .ok (.ireturn, 1) := by decide +kernel
