theorem dX12_fault_0 : decode cX12_fault 0 = .ok (.aload_n 0, 1) := by decide +kernel
theorem dX12_fault_1 : decode cX12_fault 1 = .ok (.iconst 0, 1) := by decide +kernel
theorem dX12_fault_2 : decode cX12_fault 2 = .ok (.putfield 54, 3) := by decide +kernel
theorem dX12_fault_5 : decode cX12_fault 5 = .ok (.aload_n 0, 1) := by decide +kernel
theorem dX12_fault_6 : decode cX12_fault 6 = .ok (.getfield 96, 3) := by decide +kernel
theorem dX12_fault_9 : decode cX12_fault 9 = .ok (.ireturn, 1) := by decide +kernel
theorem dX12_where_0 : decode cX12_where 0 = .ok (.aload_n 0, 1) := by decide +kernel
theorem dX12_where_1 : decode cX12_where 1 = .ok (.iconst 0, 1) := by decide +kernel
theorem dX12_where_2 : decode cX12_where 2 = .ok (.putfield 54, 3) := by decide +kernel
theorem dX12_where_5 : decode cX12_where 5 = .ok (.aload_n 0, 1) := by decide +kernel
theorem dX12_where_6 : decode cX12_where 6 = .ok (.getfield 57, 3) := by decide +kernel
theorem dX12_where_9 : decode cX12_where 9 = .ok (.iconst 4, 1) := by decide +kernel
theorem dX12_where_10 : decode cX12_where 10 = .ok (.if_icmp .ne 10, 3) := by decide +kernel
theorem dX12_where_13 : decode cX12_where 13 = .ok (.aload_n 0, 1) := by decide +kernel
theorem dX12_where_14 : decode cX12_where 14 = .ok (.getfield 13, 3) := by decide +kernel
theorem dX12_where_17 : decode cX12_where 17 = .ok (.goto 4, 3) := by decide +kernel
theorem dX12_where_20 : decode cX12_where 20 = .ok (.iconst (-1), 1) := by decide +kernel
theorem dX12_where_21 : decode cX12_where 21 = .ok (.ireturn, 1) := by decide +kernel
theorem dX12_fits_0 : decode cX12_fits 0 = .ok (.aload_n 0, 1) := by decide +kernel
theorem dX12_fits_1 : decode cX12_fits 1 = .ok (.invokevirtual 173, 3) := by decide +kernel
theorem dX12_fits_4 : decode cX12_fits 4 = .ok (.aload_n 0, 1) := by decide +kernel
theorem dX12_fits_5 : decode cX12_fits 5 = .ok (.iload_n 1, 1) := by decide +kernel
theorem dX12_fits_6 : decode cX12_fits 6 = .ok (.invokevirtual 307, 3) := by decide +kernel
theorem dX12_fits_9 : decode cX12_fits 9 = .ok (.ifCond .eq 31, 3) := by decide +kernel
theorem dX12_fits_12 : decode cX12_fits 12 = .ok (.aload_n 0, 1) := by decide +kernel
theorem dX12_fits_13 : decode cX12_fits 13 = .ok (.iload_n 2, 1) := by decide +kernel
theorem dX12_fits_14 : decode cX12_fits 14 = .ok (.invokevirtual 310, 3) := by decide +kernel
theorem dX12_fits_17 : decode cX12_fits 17 = .ok (.ifCond .eq 23, 3) := by decide +kernel
theorem dX12_fits_20 : decode cX12_fits 20 = .ok (.aload_n 0, 1) := by decide +kernel
theorem dX12_fits_21 : decode cX12_fits 21 = .ok (.getfield 20, 3) := by decide +kernel
theorem dX12_fits_24 : decode cX12_fits 24 = .ok (.iload_n 1, 1) := by decide +kernel
theorem dX12_fits_25 : decode cX12_fits 25 = .ok (.iload_n 2, 1) := by decide +kernel
theorem dX12_fits_26 : decode cX12_fits 26 = .ok (.invokestatic 296, 3) := by decide +kernel
theorem dX12_fits_29 : decode cX12_fits 29 = .ok (.ifCond .eq 7, 3) := by decide +kernel
theorem dX12_fits_32 : decode cX12_fits 32 = .ok (.iconst 1, 1) := by decide +kernel
theorem dX12_fits_33 : decode cX12_fits 33 = .ok (.goto 12, 3) := by decide +kernel
theorem dX12_fits_36 : decode cX12_fits 36 = .ok (.iconst 0, 1) := by decide +kernel
theorem dX12_fits_37 : decode cX12_fits 37 = .ok (.goto 8, 3) := by decide +kernel
theorem dX12_fits_40 : decode cX12_fits 40 = .ok (.aload_n 0, 1) := by decide +kernel
theorem dX12_fits_41 : decode cX12_fits 41 = .ok (.iconst 1, 1) := by decide +kernel
theorem dX12_fits_42 : decode cX12_fits 42 = .ok (.invokevirtual 176, 3) := by decide +kernel
theorem dX12_fits_45 : decode cX12_fits 45 = .ok (.ireturn, 1) := by decide +kernel
theorem dX12_wearer_0 : decode cX12_wearer 0 = .ok (.aload_n 0, 1) := by decide +kernel
theorem dX12_wearer_1 : decode cX12_wearer 1 = .ok (.invokevirtual 173, 3) := by decide +kernel
theorem dX12_wearer_4 : decode cX12_wearer 4 = .ok (.aload_n 0, 1) := by decide +kernel
theorem dX12_wearer_5 : decode cX12_wearer 5 = .ok (.iload_n 1, 1) := by decide +kernel
theorem dX12_wearer_6 : decode cX12_wearer 6 = .ok (.invokevirtual 307, 3) := by decide +kernel
theorem dX12_wearer_9 : decode cX12_wearer 9 = .ok (.ifCond .ne 9, 3) := by decide +kernel
theorem dX12_wearer_12 : decode cX12_wearer 12 = .ok (.aload_n 0, 1) := by decide +kernel
theorem dX12_wearer_13 : decode cX12_wearer 13 = .ok (.iconst 1, 1) := by decide +kernel
theorem dX12_wearer_14 : decode cX12_wearer 14 = .ok (.invokevirtual 176, 3) := by decide +kernel
theorem dX12_wearer_17 : decode cX12_wearer 17 = .ok (.ireturn, 1) := by decide +kernel
theorem dX12_wearer_18 : decode cX12_wearer 18 = .ok (.aload_n 0, 1) := by decide +kernel
theorem dX12_wearer_19 : decode cX12_wearer 19 = .ok (.iload_n 2, 1) := by decide +kernel
theorem dX12_wearer_20 : decode cX12_wearer 20 = .ok (.invokevirtual 313, 3) := by decide +kernel
theorem dX12_wearer_23 : decode cX12_wearer 23 = .ok (.ifCond .eq 12, 3) := by decide +kernel
theorem dX12_wearer_26 : decode cX12_wearer 26 = .ok (.aload_n 0, 1) := by decide +kernel
theorem dX12_wearer_27 : decode cX12_wearer 27 = .ok (.iload_n 1, 1) := by decide +kernel
theorem dX12_wearer_28 : decode cX12_wearer 28 = .ok (.iload_n 2, 1) := by decide +kernel
theorem dX12_wearer_29 : decode cX12_wearer 29 = .ok (.invokevirtual 316, 3) := by decide +kernel
theorem dX12_wearer_32 : decode cX12_wearer 32 = .ok (.goto 8, 3) := by decide +kernel
theorem dX12_wearer_35 : decode cX12_wearer 35 = .ok (.aload_n 0, 1) := by decide +kernel
theorem dX12_wearer_36 : decode cX12_wearer 36 = .ok (.iconst 2, 1) := by decide +kernel
theorem dX12_wearer_37 : decode cX12_wearer 37 = .ok (.invokevirtual 176, 3) := by decide +kernel
theorem dX12_wearer_40 : decode cX12_wearer 40 = .ok (.ireturn, 1) := by decide +kernel
theorem dX12_worn_0 : decode cX12_worn 0 = .ok (.aload_n 0, 1) := by decide +kernel
theorem dX12_worn_1 : decode cX12_worn 1 = .ok (.invokevirtual 173, 3) := by decide +kernel
theorem dX12_worn_4 : decode cX12_worn 4 = .ok (.aload_n 0, 1) := by decide +kernel
theorem dX12_worn_5 : decode cX12_worn 5 = .ok (.iload_n 1, 1) := by decide +kernel
theorem dX12_worn_6 : decode cX12_worn 6 = .ok (.invokevirtual 310, 3) := by decide +kernel
theorem dX12_worn_9 : decode cX12_worn 9 = .ok (.ifCond .ne 9, 3) := by decide +kernel
theorem dX12_worn_12 : decode cX12_worn 12 = .ok (.aload_n 0, 1) := by decide +kernel
theorem dX12_worn_13 : decode cX12_worn 13 = .ok (.iconst 1, 1) := by decide +kernel
theorem dX12_worn_14 : decode cX12_worn 14 = .ok (.invokevirtual 176, 3) := by decide +kernel
theorem dX12_worn_17 : decode cX12_worn 17 = .ok (.ireturn, 1) := by decide +kernel
theorem dX12_worn_18 : decode cX12_worn 18 = .ok (.aload_n 0, 1) := by decide +kernel
theorem dX12_worn_19 : decode cX12_worn 19 = .ok (.iload_n 2, 1) := by decide +kernel
theorem dX12_worn_20 : decode cX12_worn 20 = .ok (.invokevirtual 313, 3) := by decide +kernel
theorem dX12_worn_23 : decode cX12_worn 23 = .ok (.ifCond .ne 9, 3) := by decide +kernel
theorem dX12_worn_26 : decode cX12_worn 26 = .ok (.aload_n 0, 1) := by decide +kernel
theorem dX12_worn_27 : decode cX12_worn 27 = .ok (.iconst 2, 1) := by decide +kernel
theorem dX12_worn_28 : decode cX12_worn 28 = .ok (.invokevirtual 176, 3) := by decide +kernel
theorem dX12_worn_31 : decode cX12_worn 31 = .ok (.ireturn, 1) := by decide +kernel
theorem dX12_worn_32 : decode cX12_worn 32 = .ok (.aload_n 0, 1) := by decide +kernel
theorem dX12_worn_33 : decode cX12_worn 33 = .ok (.getfield 26, 3) := by decide +kernel
theorem dX12_worn_36 : decode cX12_worn 36 = .ok (.iload_n 1, 1) := by decide +kernel
theorem dX12_worn_37 : decode cX12_worn 37 = .ok (.iload_n 2, 1) := by decide +kernel
theorem dX12_worn_38 : decode cX12_worn 38 = .ok (.invokestatic 300, 3) := by decide +kernel
theorem dX12_worn_41 : decode cX12_worn 41 = .ok (.istore_n 3, 1) := by decide +kernel
theorem dX12_worn_42 : decode cX12_worn 42 = .ok (.iload_n 3, 1) := by decide +kernel
theorem dX12_worn_43 : decode cX12_worn 43 = .ok (.ifCond .ge 8, 3) := by decide +kernel
theorem dX12_worn_46 : decode cX12_worn 46 = .ok (.bipush (-2), 2) := by decide +kernel
theorem dX12_worn_48 : decode cX12_worn 48 = .ok (.goto 4, 3) := by decide +kernel
theorem dX12_worn_51 : decode cX12_worn 51 = .ok (.iload_n 3, 1) := by decide +kernel
theorem dX12_worn_52 : decode cX12_worn 52 = .ok (.ireturn, 1) := by decide +kernel
theorem dX12_owes_0 : decode cX12_owes 0 = .ok (.aload_n 0, 1) := by decide +kernel
theorem dX12_owes_1 : decode cX12_owes 1 = .ok (.invokevirtual 173, 3) := by decide +kernel
theorem dX12_owes_4 : decode cX12_owes 4 = .ok (.aload_n 0, 1) := by decide +kernel
theorem dX12_owes_5 : decode cX12_owes 5 = .ok (.iload_n 1, 1) := by decide +kernel
theorem dX12_owes_6 : decode cX12_owes 6 = .ok (.invokevirtual 331, 3) := by decide +kernel
theorem dX12_owes_9 : decode cX12_owes 9 = .ok (.ifCond .eq 11, 3) := by decide +kernel
theorem dX12_owes_12 : decode cX12_owes 12 = .ok (.aload_n 0, 1) := by decide +kernel
theorem dX12_owes_13 : decode cX12_owes 13 = .ok (.iload_n 1, 1) := by decide +kernel
theorem dX12_owes_14 : decode cX12_owes 14 = .ok (.invokevirtual 322, 3) := by decide +kernel
theorem dX12_owes_17 : decode cX12_owes 17 = .ok (.goto 8, 3) := by decide +kernel
theorem dX12_owes_20 : decode cX12_owes 20 = .ok (.aload_n 0, 1) := by decide +kernel
theorem dX12_owes_21 : decode cX12_owes 21 = .ok (.iconst 1, 1) := by decide +kernel
theorem dX12_owes_22 : decode cX12_owes 22 = .ok (.invokevirtual 176, 3) := by decide +kernel
theorem dX12_owes_25 : decode cX12_owes 25 = .ok (.ireturn, 1) := by decide +kernel
theorem dX12_done_0 : decode cX12_done 0 = .ok (.aload_n 0, 1) := by decide +kernel
theorem dX12_done_1 : decode cX12_done 1 = .ok (.invokevirtual 173, 3) := by decide +kernel
theorem dX12_done_4 : decode cX12_done 4 = .ok (.aload_n 0, 1) := by decide +kernel
theorem dX12_done_5 : decode cX12_done 5 = .ok (.iload_n 1, 1) := by decide +kernel
theorem dX12_done_6 : decode cX12_done 6 = .ok (.invokevirtual 331, 3) := by decide +kernel
theorem dX12_done_9 : decode cX12_done 9 = .ok (.ifCond .eq 19, 3) := by decide +kernel
theorem dX12_done_12 : decode cX12_done 12 = .ok (.aload_n 0, 1) := by decide +kernel
theorem dX12_done_13 : decode cX12_done 13 = .ok (.iload_n 1, 1) := by decide +kernel
theorem dX12_done_14 : decode cX12_done 14 = .ok (.invokevirtual 334, 3) := by decide +kernel
theorem dX12_done_17 : decode cX12_done 17 = .ok (.ifCond .eq 7, 3) := by decide +kernel
theorem dX12_done_20 : decode cX12_done 20 = .ok (.iconst 1, 1) := by decide +kernel
theorem dX12_done_21 : decode cX12_done 21 = .ok (.goto 12, 3) := by decide +kernel
theorem dX12_done_24 : decode cX12_done 24 = .ok (.iconst 0, 1) := by decide +kernel
theorem dX12_done_25 : decode cX12_done 25 = .ok (.goto 8, 3) := by decide +kernel
theorem dX12_done_28 : decode cX12_done 28 = .ok (.aload_n 0, 1) := by decide +kernel
theorem dX12_done_29 : decode cX12_done 29 = .ok (.iconst 1, 1) := by decide +kernel
theorem dX12_done_30 : decode cX12_done 30 = .ok (.invokevirtual 176, 3) := by decide +kernel
theorem dX12_done_33 : decode cX12_done 33 = .ok (.ireturn, 1) := by decide +kernel
theorem dX12_debt_0 : decode cX12_debt 0 = .ok (.aload_n 0, 1) := by decide +kernel
theorem dX12_debt_1 : decode cX12_debt 1 = .ok (.invokevirtual 173, 3) := by decide +kernel
theorem dX12_debt_4 : decode cX12_debt 4 = .ok (.aload_n 0, 1) := by decide +kernel
theorem dX12_debt_5 : decode cX12_debt 5 = .ok (.iload_n 1, 1) := by decide +kernel
theorem dX12_debt_6 : decode cX12_debt 6 = .ok (.invokevirtual 310, 3) := by decide +kernel
theorem dX12_debt_9 : decode cX12_debt 9 = .ok (.ifCond .ne 9, 3) := by decide +kernel
theorem dX12_debt_12 : decode cX12_debt 12 = .ok (.aload_n 0, 1) := by decide +kernel
theorem dX12_debt_13 : decode cX12_debt 13 = .ok (.iconst 1, 1) := by decide +kernel
theorem dX12_debt_14 : decode cX12_debt 14 = .ok (.invokevirtual 176, 3) := by decide +kernel
theorem dX12_debt_17 : decode cX12_debt 17 = .ok (.ireturn, 1) := by decide +kernel
theorem dX12_debt_18 : decode cX12_debt 18 = .ok (.aload_n 0, 1) := by decide +kernel
theorem dX12_debt_19 : decode cX12_debt 19 = .ok (.iload_n 2, 1) := by decide +kernel
theorem dX12_debt_20 : decode cX12_debt 20 = .ok (.invokevirtual 337, 3) := by decide +kernel
theorem dX12_debt_23 : decode cX12_debt 23 = .ok (.ifCond .eq 12, 3) := by decide +kernel
theorem dX12_debt_26 : decode cX12_debt 26 = .ok (.aload_n 0, 1) := by decide +kernel
theorem dX12_debt_27 : decode cX12_debt 27 = .ok (.iload_n 1, 1) := by decide +kernel
theorem dX12_debt_28 : decode cX12_debt 28 = .ok (.iload_n 2, 1) := by decide +kernel
theorem dX12_debt_29 : decode cX12_debt 29 = .ok (.invokevirtual 340, 3) := by decide +kernel
theorem dX12_debt_32 : decode cX12_debt 32 = .ok (.goto 8, 3) := by decide +kernel
theorem dX12_debt_35 : decode cX12_debt 35 = .ok (.aload_n 0, 1) := by decide +kernel
theorem dX12_debt_36 : decode cX12_debt 36 = .ok (.iconst 2, 1) := by decide +kernel
theorem dX12_debt_37 : decode cX12_debt 37 = .ok (.invokevirtual 176, 3) := by decide +kernel
theorem dX12_debt_40 : decode cX12_debt 40 = .ok (.ireturn, 1) := by decide +kernel
theorem dX12_gain_0 : decode cX12_gain 0 = .ok (.aload_n 0, 1) := by decide +kernel
theorem dX12_gain_1 : decode cX12_gain 1 = .ok (.invokevirtual 173, 3) := by decide +kernel
theorem dX12_gain_4 : decode cX12_gain 4 = .ok (.aload_n 0, 1) := by decide +kernel
theorem dX12_gain_5 : decode cX12_gain 5 = .ok (.iload_n 1, 1) := by decide +kernel
theorem dX12_gain_6 : decode cX12_gain 6 = .ok (.invokevirtual 310, 3) := by decide +kernel
theorem dX12_gain_9 : decode cX12_gain 9 = .ok (.ifCond .ne 12, 3) := by decide +kernel
theorem dX12_gain_12 : decode cX12_gain 12 = .ok (.aload_n 0, 1) := by decide +kernel
theorem dX12_gain_13 : decode cX12_gain 13 = .ok (.iconst 1, 1) := by decide +kernel
theorem dX12_gain_14 : decode cX12_gain 14 = .ok (.sipush (-10000), 3) := by decide +kernel
theorem dX12_gain_17 : decode cX12_gain 17 = .ok (.invokevirtual 343, 3) := by decide +kernel
theorem dX12_gain_20 : decode cX12_gain 20 = .ok (.ireturn, 1) := by decide +kernel
theorem dX12_gain_21 : decode cX12_gain 21 = .ok (.aload_n 0, 1) := by decide +kernel
theorem dX12_gain_22 : decode cX12_gain 22 = .ok (.iload_n 2, 1) := by decide +kernel
theorem dX12_gain_23 : decode cX12_gain 23 = .ok (.invokevirtual 337, 3) := by decide +kernel
theorem dX12_gain_26 : decode cX12_gain 26 = .ok (.ifCond .ne 12, 3) := by decide +kernel
theorem dX12_gain_29 : decode cX12_gain 29 = .ok (.aload_n 0, 1) := by decide +kernel
theorem dX12_gain_30 : decode cX12_gain 30 = .ok (.iconst 2, 1) := by decide +kernel
theorem dX12_gain_31 : decode cX12_gain 31 = .ok (.sipush (-10000), 3) := by decide +kernel
theorem dX12_gain_34 : decode cX12_gain 34 = .ok (.invokevirtual 343, 3) := by decide +kernel
theorem dX12_gain_37 : decode cX12_gain 37 = .ok (.ireturn, 1) := by decide +kernel
theorem dX12_gain_38 : decode cX12_gain 38 = .ok (.aload_n 0, 1) := by decide +kernel
theorem dX12_gain_39 : decode cX12_gain 39 = .ok (.iload_n 1, 1) := by decide +kernel
theorem dX12_gain_40 : decode cX12_gain 40 = .ok (.iload_n 2, 1) := by decide +kernel
theorem dX12_gain_41 : decode cX12_gain 41 = .ok (.invokevirtual 340, 3) := by decide +kernel
theorem dX12_gain_44 : decode cX12_gain 44 = .ok (.ineg, 1) := by decide +kernel
theorem dX12_gain_45 : decode cX12_gain 45 = .ok (.istore_n 3, 1) := by decide +kernel
theorem dX12_gain_46 : decode cX12_gain 46 = .ok (.iconst 0, 1) := by decide +kernel
theorem dX12_gain_47 : decode cX12_gain 47 = .ok (.istore 4, 2) := by decide +kernel
theorem dX12_gain_49 : decode cX12_gain 49 = .ok (.iload 4, 2) := by decide +kernel
theorem dX12_gain_51 : decode cX12_gain 51 = .ok (.aload_n 0, 1) := by decide +kernel
theorem dX12_gain_52 : decode cX12_gain 52 = .ok (.getfield 20, 3) := by decide +kernel
theorem dX12_gain_55 : decode cX12_gain 55 = .ok (.iconst 4, 1) := by decide +kernel
theorem dX12_gain_56 : decode cX12_gain 56 = .ok (.iaload, 1) := by decide +kernel
theorem dX12_gain_57 : decode cX12_gain 57 = .ok (.if_icmp .ge 61, 3) := by decide +kernel
theorem dX12_gain_60 : decode cX12_gain 60 = .ok (.iload_n 3, 1) := by decide +kernel
theorem dX12_gain_61 : decode cX12_gain 61 = .ok (.aload_n 0, 1) := by decide +kernel
theorem dX12_gain_62 : decode cX12_gain 62 = .ok (.iload 4, 2) := by decide +kernel
theorem dX12_gain_64 : decode cX12_gain 64 = .ok (.iconst 2, 1) := by decide +kernel
theorem dX12_gain_65 : decode cX12_gain 65 = .ok (.invokevirtual 319, 3) := by decide +kernel
theorem dX12_gain_68 : decode cX12_gain 68 = .ok (.iload_n 2, 1) := by decide +kernel
theorem dX12_gain_69 : decode cX12_gain 69 = .ok (.if_icmp .gt 40, 3) := by decide +kernel
theorem dX12_gain_72 : decode cX12_gain 72 = .ok (.aload_n 0, 1) := by decide +kernel
theorem dX12_gain_73 : decode cX12_gain 73 = .ok (.iload 4, 2) := by decide +kernel
theorem dX12_gain_75 : decode cX12_gain 75 = .ok (.invokevirtual 322, 3) := by decide +kernel
theorem dX12_gain_78 : decode cX12_gain 78 = .ok (.iload_n 1, 1) := by decide +kernel
theorem dX12_gain_79 : decode cX12_gain 79 = .ok (.if_icmp .ne 30, 3) := by decide +kernel
theorem dX12_gain_82 : decode cX12_gain 82 = .ok (.aload_n 0, 1) := by decide +kernel
theorem dX12_gain_83 : decode cX12_gain 83 = .ok (.iload 4, 2) := by decide +kernel
theorem dX12_gain_85 : decode cX12_gain 85 = .ok (.invokevirtual 334, 3) := by decide +kernel
theorem dX12_gain_88 : decode cX12_gain 88 = .ok (.ifCond .eq 21, 3) := by decide +kernel
theorem dX12_gain_91 : decode cX12_gain 91 = .ok (.aload_n 0, 1) := by decide +kernel
theorem dX12_gain_92 : decode cX12_gain 92 = .ok (.iload 4, 2) := by decide +kernel
theorem dX12_gain_94 : decode cX12_gain 94 = .ok (.iconst 3, 1) := by decide +kernel
theorem dX12_gain_95 : decode cX12_gain 95 = .ok (.invokevirtual 319, 3) := by decide +kernel
theorem dX12_gain_98 : decode cX12_gain 98 = .ok (.aload_n 0, 1) := by decide +kernel
theorem dX12_gain_99 : decode cX12_gain 99 = .ok (.iload 4, 2) := by decide +kernel
theorem dX12_gain_101 : decode cX12_gain 101 = .ok (.iconst 5, 1) := by decide +kernel
theorem dX12_gain_102 : decode cX12_gain 102 = .ok (.invokevirtual 319, 3) := by decide +kernel
theorem dX12_gain_105 : decode cX12_gain 105 = .ok (.isub, 1) := by decide +kernel
theorem dX12_gain_106 : decode cX12_gain 106 = .ok (.goto 4, 3) := by decide +kernel
theorem dX12_gain_109 : decode cX12_gain 109 = .ok (.iconst 0, 1) := by decide +kernel
theorem dX12_gain_110 : decode cX12_gain 110 = .ok (.iadd, 1) := by decide +kernel
theorem dX12_gain_111 : decode cX12_gain 111 = .ok (.istore_n 3, 1) := by decide +kernel
theorem dX12_gain_112 : decode cX12_gain 112 = .ok (.iinc 4 1, 3) := by decide +kernel
theorem dX12_gain_115 : decode cX12_gain 115 = .ok (.goto (-66), 3) := by decide +kernel
theorem dX12_gain_118 : decode cX12_gain 118 = .ok (.iload_n 3, 1) := by decide +kernel
theorem dX12_gain_119 : decode cX12_gain 119 = .ok (.ireturn, 1) := by decide +kernel
theorem dX12_guild_0 : decode cX12_guild 0 = .ok (.aload_n 0, 1) := by decide +kernel
theorem dX12_guild_1 : decode cX12_guild 1 = .ok (.invokevirtual 173, 3) := by decide +kernel
theorem dX12_guild_4 : decode cX12_guild 4 = .ok (.aload_n 0, 1) := by decide +kernel
theorem dX12_guild_5 : decode cX12_guild 5 = .ok (.getfield 186, 3) := by decide +kernel
theorem dX12_guild_8 : decode cX12_guild 8 = .ok (.ifCond .eq 14, 3) := by decide +kernel
theorem dX12_guild_11 : decode cX12_guild 11 = .ok (.aload_n 0, 1) := by decide +kernel
theorem dX12_guild_12 : decode cX12_guild 12 = .ok (.bipush (-2), 2) := by decide +kernel
theorem dX12_guild_14 : decode cX12_guild 14 = .ok (.bipush 20, 2) := by decide +kernel
theorem dX12_guild_16 : decode cX12_guild 16 = .ok (.invokevirtual 340, 3) := by decide +kernel
theorem dX12_guild_19 : decode cX12_guild 19 = .ok (.goto 8, 3) := by decide +kernel
theorem dX12_guild_22 : decode cX12_guild 22 = .ok (.aload_n 0, 1) := by decide +kernel
theorem dX12_guild_23 : decode cX12_guild 23 = .ok (.iconst 1, 1) := by decide +kernel
theorem dX12_guild_24 : decode cX12_guild 24 = .ok (.invokevirtual 176, 3) := by decide +kernel
theorem dX12_guild_27 : decode cX12_guild 27 = .ok (.ireturn, 1) := by decide +kernel
theorem dX12_breaks_0 : decode cX12_breaks 0 = .ok (.aload_n 0, 1) := by decide +kernel
theorem dX12_breaks_1 : decode cX12_breaks 1 = .ok (.invokevirtual 173, 3) := by decide +kernel
theorem dX12_breaks_4 : decode cX12_breaks 4 = .ok (.aload_n 0, 1) := by decide +kernel
theorem dX12_breaks_5 : decode cX12_breaks 5 = .ok (.iload_n 1, 1) := by decide +kernel
theorem dX12_breaks_6 : decode cX12_breaks 6 = .ok (.invokevirtual 310, 3) := by decide +kernel
theorem dX12_breaks_9 : decode cX12_breaks 9 = .ok (.ifCond .ne 9, 3) := by decide +kernel
theorem dX12_breaks_12 : decode cX12_breaks 12 = .ok (.aload_n 0, 1) := by decide +kernel
theorem dX12_breaks_13 : decode cX12_breaks 13 = .ok (.iconst 1, 1) := by decide +kernel
theorem dX12_breaks_14 : decode cX12_breaks 14 = .ok (.invokevirtual 176, 3) := by decide +kernel
theorem dX12_breaks_17 : decode cX12_breaks 17 = .ok (.ireturn, 1) := by decide +kernel
theorem dX12_breaks_18 : decode cX12_breaks 18 = .ok (.aload_n 0, 1) := by decide +kernel
theorem dX12_breaks_19 : decode cX12_breaks 19 = .ok (.iload_n 2, 1) := by decide +kernel
theorem dX12_breaks_20 : decode cX12_breaks 20 = .ok (.invokevirtual 313, 3) := by decide +kernel
theorem dX12_breaks_23 : decode cX12_breaks 23 = .ok (.ifCond .eq 20, 3) := by decide +kernel
theorem dX12_breaks_26 : decode cX12_breaks 26 = .ok (.aload_n 0, 1) := by decide +kernel
theorem dX12_breaks_27 : decode cX12_breaks 27 = .ok (.iload_n 1, 1) := by decide +kernel
theorem dX12_breaks_28 : decode cX12_breaks 28 = .ok (.iload_n 2, 1) := by decide +kernel
theorem dX12_breaks_29 : decode cX12_breaks 29 = .ok (.invokevirtual 325, 3) := by decide +kernel
theorem dX12_breaks_32 : decode cX12_breaks 32 = .ok (.ifCond .eq 7, 3) := by decide +kernel
theorem dX12_breaks_35 : decode cX12_breaks 35 = .ok (.iconst 1, 1) := by decide +kernel
theorem dX12_breaks_36 : decode cX12_breaks 36 = .ok (.goto 12, 3) := by decide +kernel
theorem dX12_breaks_39 : decode cX12_breaks 39 = .ok (.iconst 0, 1) := by decide +kernel
theorem dX12_breaks_40 : decode cX12_breaks 40 = .ok (.goto 8, 3) := by decide +kernel
theorem dX12_breaks_43 : decode cX12_breaks 43 = .ok (.aload_n 0, 1) := by decide +kernel
theorem dX12_breaks_44 : decode cX12_breaks 44 = .ok (.iconst 2, 1) := by decide +kernel
theorem dX12_breaks_45 : decode cX12_breaks 45 = .ok (.invokevirtual 176, 3) := by decide +kernel
theorem dX12_breaks_48 : decode cX12_breaks 48 = .ok (.ireturn, 1) := by decide +kernel
theorem dX12_real_0 : decode cX12_real 0 = .ok (.aload_n 0, 1) := by decide +kernel
theorem dX12_real_1 : decode cX12_real 1 = .ok (.invokevirtual 173, 3) := by decide +kernel
theorem dX12_real_4 : decode cX12_real 4 = .ok (.aload_n 0, 1) := by decide +kernel
theorem dX12_real_5 : decode cX12_real 5 = .ok (.iload_n 1, 1) := by decide +kernel
theorem dX12_real_6 : decode cX12_real 6 = .ok (.invokevirtual 350, 3) := by decide +kernel
theorem dX12_real_9 : decode cX12_real 9 = .ok (.istore_n 2, 1) := by decide +kernel
theorem dX12_real_10 : decode cX12_real 10 = .ok (.iload_n 2, 1) := by decide +kernel
theorem dX12_real_11 : decode cX12_real 11 = .ok (.ifCond .eq 12, 3) := by decide +kernel
theorem dX12_real_14 : decode cX12_real 14 = .ok (.aload_n 0, 1) := by decide +kernel
theorem dX12_real_15 : decode cX12_real 15 = .ok (.iload_n 2, 1) := by decide +kernel
theorem dX12_real_16 : decode cX12_real 16 = .ok (.sipush (-10000), 3) := by decide +kernel
theorem dX12_real_19 : decode cX12_real 19 = .ok (.invokevirtual 343, 3) := by decide +kernel
theorem dX12_real_22 : decode cX12_real 22 = .ok (.ireturn, 1) := by decide +kernel
theorem dX12_real_23 : decode cX12_real 23 = .ok (.iconst 0, 1) := by decide +kernel
theorem dX12_real_24 : decode cX12_real 24 = .ok (.istore_n 3, 1) := by decide +kernel
theorem dX12_real_25 : decode cX12_real 25 = .ok (.iconst 0, 1) := by decide +kernel
theorem dX12_real_26 : decode cX12_real 26 = .ok (.istore 4, 2) := by decide +kernel
theorem dX12_real_28 : decode cX12_real 28 = .ok (.iload 4, 2) := by decide +kernel
theorem dX12_real_30 : decode cX12_real 30 = .ok (.aload_n 0, 1) := by decide +kernel
theorem dX12_real_31 : decode cX12_real 31 = .ok (.getfield 20, 3) := by decide +kernel
theorem dX12_real_34 : decode cX12_real 34 = .ok (.iconst 4, 1) := by decide +kernel
theorem dX12_real_35 : decode cX12_real 35 = .ok (.iaload, 1) := by decide +kernel
theorem dX12_real_36 : decode cX12_real 36 = .ok (.if_icmp .ge 54, 3) := by decide +kernel
theorem dX12_real_39 : decode cX12_real 39 = .ok (.iload_n 3, 1) := by decide +kernel
theorem dX12_real_40 : decode cX12_real 40 = .ok (.aload_n 0, 1) := by decide +kernel
theorem dX12_real_41 : decode cX12_real 41 = .ok (.iload 4, 2) := by decide +kernel
theorem dX12_real_43 : decode cX12_real 43 = .ok (.iconst 2, 1) := by decide +kernel
theorem dX12_real_44 : decode cX12_real 44 = .ok (.invokevirtual 319, 3) := by decide +kernel
theorem dX12_real_47 : decode cX12_real 47 = .ok (.iload_n 1, 1) := by decide +kernel
theorem dX12_real_48 : decode cX12_real 48 = .ok (.if_icmp .eq 7, 3) := by decide +kernel
theorem dX12_real_51 : decode cX12_real 51 = .ok (.iconst 0, 1) := by decide +kernel
theorem dX12_real_52 : decode cX12_real 52 = .ok (.goto 30, 3) := by decide +kernel
theorem dX12_real_55 : decode cX12_real 55 = .ok (.aload_n 0, 1) := by decide +kernel
theorem dX12_real_56 : decode cX12_real 56 = .ok (.iload 4, 2) := by decide +kernel
theorem dX12_real_58 : decode cX12_real 58 = .ok (.invokevirtual 334, 3) := by decide +kernel
theorem dX12_real_61 : decode cX12_real 61 = .ok (.ifCond .eq 13, 3) := by decide +kernel
theorem dX12_real_64 : decode cX12_real 64 = .ok (.aload_n 0, 1) := by decide +kernel
theorem dX12_real_65 : decode cX12_real 65 = .ok (.iload 4, 2) := by decide +kernel
theorem dX12_real_67 : decode cX12_real 67 = .ok (.iconst 3, 1) := by decide +kernel
theorem dX12_real_68 : decode cX12_real 68 = .ok (.invokevirtual 319, 3) := by decide +kernel
theorem dX12_real_71 : decode cX12_real 71 = .ok (.goto 11, 3) := by decide +kernel
theorem dX12_real_74 : decode cX12_real 74 = .ok (.aload_n 0, 1) := by decide +kernel
theorem dX12_real_75 : decode cX12_real 75 = .ok (.iload 4, 2) := by decide +kernel
theorem dX12_real_77 : decode cX12_real 77 = .ok (.iconst 4, 1) := by decide +kernel
theorem dX12_real_78 : decode cX12_real 78 = .ok (.invokevirtual 319, 3) := by decide +kernel
theorem dX12_real_81 : decode cX12_real 81 = .ok (.ineg, 1) := by decide +kernel
theorem dX12_real_82 : decode cX12_real 82 = .ok (.iadd, 1) := by decide +kernel
theorem dX12_real_83 : decode cX12_real 83 = .ok (.istore_n 3, 1) := by decide +kernel
theorem dX12_real_84 : decode cX12_real 84 = .ok (.iinc 4 1, 3) := by decide +kernel
theorem dX12_real_87 : decode cX12_real 87 = .ok (.goto (-59), 3) := by decide +kernel
theorem dX12_real_90 : decode cX12_real 90 = .ok (.iload_n 3, 1) := by decide +kernel
theorem dX12_real_91 : decode cX12_real 91 = .ok (.ireturn, 1) := by decide +kernel
theorem dX12_doesAgree_0 : decode cX12_doesAgree 0 = .ok (.aload_n 0, 1) := by decide +kernel
theorem dX12_doesAgree_1 : decode cX12_doesAgree 1 = .ok (.iload_n 1, 1) := by decide +kernel
theorem dX12_doesAgree_2 : decode cX12_doesAgree 2 = .ok (.iconst 3, 1) := by decide +kernel
theorem dX12_doesAgree_3 : decode cX12_doesAgree 3 = .ok (.invokevirtual 360, 3) := by decide +kernel
theorem dX12_doesAgree_6 : decode cX12_doesAgree 6 = .ok (.aload_n 0, 1) := by decide +kernel
theorem dX12_doesAgree_7 : decode cX12_doesAgree 7 = .ok (.getfield 20, 3) := by decide +kernel
theorem dX12_doesAgree_10 : decode cX12_doesAgree 10 = .ok (.bipush 26, 2) := by decide +kernel
theorem dX12_doesAgree_12 : decode cX12_doesAgree 12 = .ok (.iload_n 2, 1) := by decide +kernel
theorem dX12_doesAgree_13 : decode cX12_doesAgree 13 = .ok (.iadd, 1) := by decide +kernel
theorem dX12_doesAgree_14 : decode cX12_doesAgree 14 = .ok (.iaload, 1) := by decide +kernel
theorem dX12_doesAgree_15 : decode cX12_doesAgree 15 = .ok (.isub, 1) := by decide +kernel
theorem dX12_doesAgree_16 : decode cX12_doesAgree 16 = .ok (.invokestatic 293, 3) := by decide +kernel
theorem dX12_doesAgree_19 : decode cX12_doesAgree 19 = .ok (.iconst 2, 1) := by decide +kernel
theorem dX12_doesAgree_20 : decode cX12_doesAgree 20 = .ok (.if_icmp .ge 34, 3) := by decide +kernel
theorem dX12_doesAgree_23 : decode cX12_doesAgree 23 = .ok (.aload_n 0, 1) := by decide +kernel
theorem dX12_doesAgree_24 : decode cX12_doesAgree 24 = .ok (.iload_n 1, 1) := by decide +kernel
theorem dX12_doesAgree_25 : decode cX12_doesAgree 25 = .ok (.iconst 4, 1) := by decide +kernel
theorem dX12_doesAgree_26 : decode cX12_doesAgree 26 = .ok (.invokevirtual 360, 3) := by decide +kernel
theorem dX12_doesAgree_29 : decode cX12_doesAgree 29 = .ok (.ifCond .eq 21, 3) := by decide +kernel
theorem dX12_doesAgree_32 : decode cX12_doesAgree 32 = .ok (.aload_n 0, 1) := by decide +kernel
theorem dX12_doesAgree_33 : decode cX12_doesAgree 33 = .ok (.iload_n 1, 1) := by decide +kernel
theorem dX12_doesAgree_34 : decode cX12_doesAgree 34 = .ok (.iconst 4, 1) := by decide +kernel
theorem dX12_doesAgree_35 : decode cX12_doesAgree 35 = .ok (.invokevirtual 360, 3) := by decide +kernel
theorem dX12_doesAgree_38 : decode cX12_doesAgree 38 = .ok (.aload_n 0, 1) := by decide +kernel
theorem dX12_doesAgree_39 : decode cX12_doesAgree 39 = .ok (.getfield 20, 3) := by decide +kernel
theorem dX12_doesAgree_42 : decode cX12_doesAgree 42 = .ok (.bipush 44, 2) := by decide +kernel
theorem dX12_doesAgree_44 : decode cX12_doesAgree 44 = .ok (.iload_n 2, 1) := by decide +kernel
theorem dX12_doesAgree_45 : decode cX12_doesAgree 45 = .ok (.iadd, 1) := by decide +kernel
theorem dX12_doesAgree_46 : decode cX12_doesAgree 46 = .ok (.iaload, 1) := by decide +kernel
theorem dX12_doesAgree_47 : decode cX12_doesAgree 47 = .ok (.if_icmp .ne 7, 3) := by decide +kernel
theorem dX12_doesAgree_50 : decode cX12_doesAgree 50 = .ok (.iconst 1, 1) := by decide +kernel
theorem dX12_doesAgree_51 : decode cX12_doesAgree 51 = .ok (.goto 4, 3) := by decide +kernel
theorem dX12_doesAgree_54 : decode cX12_doesAgree 54 = .ok (.iconst 0, 1) := by decide +kernel
theorem dX12_doesAgree_55 : decode cX12_doesAgree 55 = .ok (.ireturn, 1) := by decide +kernel
theorem dX12_agrees_0 : decode cX12_agrees 0 = .ok (.aload_n 0, 1) := by decide +kernel
theorem dX12_agrees_1 : decode cX12_agrees 1 = .ok (.invokevirtual 173, 3) := by decide +kernel
theorem dX12_agrees_4 : decode cX12_agrees 4 = .ok (.aload_n 0, 1) := by decide +kernel
theorem dX12_agrees_5 : decode cX12_agrees 5 = .ok (.iload_n 2, 1) := by decide +kernel
theorem dX12_agrees_6 : decode cX12_agrees 6 = .ok (.invokevirtual 310, 3) := by decide +kernel
theorem dX12_agrees_9 : decode cX12_agrees 9 = .ok (.ifCond .eq 19, 3) := by decide +kernel
theorem dX12_agrees_12 : decode cX12_agrees 12 = .ok (.iload_n 1, 1) := by decide +kernel
theorem dX12_agrees_13 : decode cX12_agrees 13 = .ok (.iconst 0, 1) := by decide +kernel
theorem dX12_agrees_14 : decode cX12_agrees 14 = .ok (.aload_n 0, 1) := by decide +kernel
theorem dX12_agrees_15 : decode cX12_agrees 15 = .ok (.getfield 20, 3) := by decide +kernel
theorem dX12_agrees_18 : decode cX12_agrees 18 = .ok (.iconst 5, 1) := by decide +kernel
theorem dX12_agrees_19 : decode cX12_agrees 19 = .ok (.iaload, 1) := by decide +kernel
theorem dX12_agrees_20 : decode cX12_agrees 20 = .ok (.iconst 1, 1) := by decide +kernel
theorem dX12_agrees_21 : decode cX12_agrees 21 = .ok (.isub, 1) := by decide +kernel
theorem dX12_agrees_22 : decode cX12_agrees 22 = .ok (.invokestatic 154, 3) := by decide +kernel
theorem dX12_agrees_25 : decode cX12_agrees 25 = .ok (.ifCond .ne 9, 3) := by decide +kernel
theorem dX12_agrees_28 : decode cX12_agrees 28 = .ok (.aload_n 0, 1) := by decide +kernel
theorem dX12_agrees_29 : decode cX12_agrees 29 = .ok (.iconst 1, 1) := by decide +kernel
theorem dX12_agrees_30 : decode cX12_agrees 30 = .ok (.invokevirtual 176, 3) := by decide +kernel
theorem dX12_agrees_33 : decode cX12_agrees 33 = .ok (.ireturn, 1) := by decide +kernel
theorem dX12_agrees_34 : decode cX12_agrees 34 = .ok (.aload_n 0, 1) := by decide +kernel
theorem dX12_agrees_35 : decode cX12_agrees 35 = .ok (.getfield 20, 3) := by decide +kernel
theorem dX12_agrees_38 : decode cX12_agrees 38 = .ok (.aload_n 0, 1) := by decide +kernel
theorem dX12_agrees_39 : decode cX12_agrees 39 = .ok (.iload_n 1, 1) := by decide +kernel
theorem dX12_agrees_40 : decode cX12_agrees 40 = .ok (.iconst 0, 1) := by decide +kernel
theorem dX12_agrees_41 : decode cX12_agrees 41 = .ok (.invokevirtual 360, 3) := by decide +kernel
theorem dX12_agrees_44 : decode cX12_agrees 44 = .ok (.iload_n 2, 1) := by decide +kernel
theorem dX12_agrees_45 : decode cX12_agrees 45 = .ok (.invokestatic 296, 3) := by decide +kernel
theorem dX12_agrees_48 : decode cX12_agrees 48 = .ok (.ifCond .eq 16, 3) := by decide +kernel
theorem dX12_agrees_51 : decode cX12_agrees 51 = .ok (.aload_n 0, 1) := by decide +kernel
theorem dX12_agrees_52 : decode cX12_agrees 52 = .ok (.iload_n 1, 1) := by decide +kernel
theorem dX12_agrees_53 : decode cX12_agrees 53 = .ok (.iload_n 2, 1) := by decide +kernel
theorem dX12_agrees_54 : decode cX12_agrees 54 = .ok (.invokevirtual 362, 3) := by decide +kernel
theorem dX12_agrees_57 : decode cX12_agrees 57 = .ok (.ifCond .eq 7, 3) := by decide +kernel
theorem dX12_agrees_60 : decode cX12_agrees 60 = .ok (.iconst 1, 1) := by decide +kernel
theorem dX12_agrees_61 : decode cX12_agrees 61 = .ok (.goto 4, 3) := by decide +kernel
theorem dX12_agrees_64 : decode cX12_agrees 64 = .ok (.iconst 0, 1) := by decide +kernel
theorem dX12_agrees_65 : decode cX12_agrees 65 = .ok (.ireturn, 1) := by decide +kernel
theorem dX12_lending_0 : decode cX12_lending 0 = .ok (.aload_n 0, 1) := by decide +kernel
theorem dX12_lending_1 : decode cX12_lending 1 = .ok (.invokevirtual 173, 3) := by decide +kernel
theorem dX12_lending_4 : decode cX12_lending 4 = .ok (.aload_n 0, 1) := by decide +kernel
theorem dX12_lending_5 : decode cX12_lending 5 = .ok (.getfield 186, 3) := by decide +kernel
theorem dX12_lending_8 : decode cX12_lending 8 = .ok (.ifCond .eq 43, 3) := by decide +kernel
theorem dX12_lending_11 : decode cX12_lending 11 = .ok (.iload_n 1, 1) := by decide +kernel
theorem dX12_lending_12 : decode cX12_lending 12 = .ok (.iconst 0, 1) := by decide +kernel
theorem dX12_lending_13 : decode cX12_lending 13 = .ok (.aload_n 0, 1) := by decide +kernel
theorem dX12_lending_14 : decode cX12_lending 14 = .ok (.getfield 26, 3) := by decide +kernel
theorem dX12_lending_17 : decode cX12_lending 17 = .ok (.iconst 0, 1) := by decide +kernel
theorem dX12_lending_18 : decode cX12_lending 18 = .ok (.iaload, 1) := by decide +kernel
theorem dX12_lending_19 : decode cX12_lending 19 = .ok (.iconst 1, 1) := by decide +kernel
theorem dX12_lending_20 : decode cX12_lending 20 = .ok (.isub, 1) := by decide +kernel
theorem dX12_lending_21 : decode cX12_lending 21 = .ok (.invokestatic 154, 3) := by decide +kernel
theorem dX12_lending_24 : decode cX12_lending 24 = .ok (.ifCond .eq 27, 3) := by decide +kernel
theorem dX12_lending_27 : decode cX12_lending 27 = .ok (.iload_n 2, 1) := by decide +kernel
theorem dX12_lending_28 : decode cX12_lending 28 = .ok (.iconst 0, 1) := by decide +kernel
theorem dX12_lending_29 : decode cX12_lending 29 = .ok (.iconst 3, 1) := by decide +kernel
theorem dX12_lending_30 : decode cX12_lending 30 = .ok (.invokestatic 154, 3) := by decide +kernel
theorem dX12_lending_33 : decode cX12_lending 33 = .ok (.ifCond .eq 18, 3) := by decide +kernel
theorem dX12_lending_36 : decode cX12_lending 36 = .ok (.aload_n 0, 1) := by decide +kernel
theorem dX12_lending_37 : decode cX12_lending 37 = .ok (.getfield 26, 3) := by decide +kernel
theorem dX12_lending_40 : decode cX12_lending 40 = .ok (.iconst 1, 1) := by decide +kernel
theorem dX12_lending_41 : decode cX12_lending 41 = .ok (.iconst 4, 1) := by decide +kernel
theorem dX12_lending_42 : decode cX12_lending 42 = .ok (.iload_n 1, 1) := by decide +kernel
theorem dX12_lending_43 : decode cX12_lending 43 = .ok (.imul, 1) := by decide +kernel
theorem dX12_lending_44 : decode cX12_lending 44 = .ok (.iadd, 1) := by decide +kernel
theorem dX12_lending_45 : decode cX12_lending 45 = .ok (.iload_n 2, 1) := by decide +kernel
theorem dX12_lending_46 : decode cX12_lending 46 = .ok (.iadd, 1) := by decide +kernel
theorem dX12_lending_47 : decode cX12_lending 47 = .ok (.iaload, 1) := by decide +kernel
theorem dX12_lending_48 : decode cX12_lending 48 = .ok (.goto 8, 3) := by decide +kernel
theorem dX12_lending_51 : decode cX12_lending 51 = .ok (.aload_n 0, 1) := by decide +kernel
theorem dX12_lending_52 : decode cX12_lending 52 = .ok (.iconst 1, 1) := by decide +kernel
theorem dX12_lending_53 : decode cX12_lending 53 = .ok (.invokevirtual 176, 3) := by decide +kernel
theorem dX12_lending_56 : decode cX12_lending 56 = .ok (.ireturn, 1) := by decide +kernel
theorem dX12_mask_0 : decode cX12_mask 0 = .ok (.aload_n 0, 1) := by decide +kernel
theorem dX12_mask_1 : decode cX12_mask 1 = .ok (.invokevirtual 173, 3) := by decide +kernel
theorem dX12_mask_4 : decode cX12_mask 4 = .ok (.aload_n 0, 1) := by decide +kernel
theorem dX12_mask_5 : decode cX12_mask 5 = .ok (.iload_n 1, 1) := by decide +kernel
theorem dX12_mask_6 : decode cX12_mask 6 = .ok (.invokevirtual 307, 3) := by decide +kernel
theorem dX12_mask_9 : decode cX12_mask 9 = .ok (.ifCond .eq 33, 3) := by decide +kernel
theorem dX12_mask_12 : decode cX12_mask 12 = .ok (.iload_n 2, 1) := by decide +kernel
theorem dX12_mask_13 : decode cX12_mask 13 = .ok (.iconst 0, 1) := by decide +kernel
theorem dX12_mask_14 : decode cX12_mask 14 = .ok (.iconst 1, 1) := by decide +kernel
theorem dX12_mask_15 : decode cX12_mask 15 = .ok (.invokestatic 154, 3) := by decide +kernel
theorem dX12_mask_18 : decode cX12_mask 18 = .ok (.ifCond .eq 24, 3) := by decide +kernel
theorem dX12_mask_21 : decode cX12_mask 21 = .ok (.aload_n 0, 1) := by decide +kernel
theorem dX12_mask_22 : decode cX12_mask 22 = .ok (.getfield 20, 3) := by decide +kernel
theorem dX12_mask_25 : decode cX12_mask 25 = .ok (.iload_n 2, 1) := by decide +kernel
theorem dX12_mask_26 : decode cX12_mask 26 = .ok (.ifCond .ne 8, 3) := by decide +kernel
theorem dX12_mask_29 : decode cX12_mask 29 = .ok (.bipush 8, 2) := by decide +kernel
theorem dX12_mask_31 : decode cX12_mask 31 = .ok (.goto 5, 3) := by decide +kernel
theorem dX12_mask_34 : decode cX12_mask 34 = .ok (.bipush 14, 2) := by decide +kernel
theorem dX12_mask_36 : decode cX12_mask 36 = .ok (.iload_n 1, 1) := by decide +kernel
theorem dX12_mask_37 : decode cX12_mask 37 = .ok (.iadd, 1) := by decide +kernel
theorem dX12_mask_38 : decode cX12_mask 38 = .ok (.iaload, 1) := by decide +kernel
theorem dX12_mask_39 : decode cX12_mask 39 = .ok (.goto 8, 3) := by decide +kernel
theorem dX12_mask_42 : decode cX12_mask 42 = .ok (.aload_n 0, 1) := by decide +kernel
theorem dX12_mask_43 : decode cX12_mask 43 = .ok (.iconst 1, 1) := by decide +kernel
theorem dX12_mask_44 : decode cX12_mask 44 = .ok (.invokevirtual 176, 3) := by decide +kernel
theorem dX12_mask_47 : decode cX12_mask 47 = .ok (.ireturn, 1) := by decide +kernel
theorem dX12_person_0 : decode cX12_person 0 = .ok (.aload_n 0, 1) := by decide +kernel
theorem dX12_person_1 : decode cX12_person 1 = .ok (.invokevirtual 173, 3) := by decide +kernel
theorem dX12_person_4 : decode cX12_person 4 = .ok (.aload_n 0, 1) := by decide +kernel
theorem dX12_person_5 : decode cX12_person 5 = .ok (.iload_n 1, 1) := by decide +kernel
theorem dX12_person_6 : decode cX12_person 6 = .ok (.invokevirtual 310, 3) := by decide +kernel
theorem dX12_person_9 : decode cX12_person 9 = .ok (.ifCond .eq 29, 3) := by decide +kernel
theorem dX12_person_12 : decode cX12_person 12 = .ok (.iload_n 2, 1) := by decide +kernel
theorem dX12_person_13 : decode cX12_person 13 = .ok (.iconst 0, 1) := by decide +kernel
theorem dX12_person_14 : decode cX12_person 14 = .ok (.iconst 4, 1) := by decide +kernel
theorem dX12_person_15 : decode cX12_person 15 = .ok (.invokestatic 154, 3) := by decide +kernel
theorem dX12_person_18 : decode cX12_person 18 = .ok (.ifCond .eq 20, 3) := by decide +kernel
theorem dX12_person_21 : decode cX12_person 21 = .ok (.aload_n 0, 1) := by decide +kernel
theorem dX12_person_22 : decode cX12_person 22 = .ok (.getfield 20, 3) := by decide +kernel
theorem dX12_person_25 : decode cX12_person 25 = .ok (.bipush 26, 2) := by decide +kernel
theorem dX12_person_27 : decode cX12_person 27 = .ok (.bipush 6, 2) := by decide +kernel
theorem dX12_person_29 : decode cX12_person 29 = .ok (.iload_n 2, 1) := by decide +kernel
theorem dX12_person_30 : decode cX12_person 30 = .ok (.imul, 1) := by decide +kernel
theorem dX12_person_31 : decode cX12_person 31 = .ok (.iadd, 1) := by decide +kernel
theorem dX12_person_32 : decode cX12_person 32 = .ok (.iload_n 1, 1) := by decide +kernel
theorem dX12_person_33 : decode cX12_person 33 = .ok (.iadd, 1) := by decide +kernel
theorem dX12_person_34 : decode cX12_person 34 = .ok (.iaload, 1) := by decide +kernel
theorem dX12_person_35 : decode cX12_person 35 = .ok (.goto 8, 3) := by decide +kernel
theorem dX12_person_38 : decode cX12_person 38 = .ok (.aload_n 0, 1) := by decide +kernel
theorem dX12_person_39 : decode cX12_person 39 = .ok (.iconst 1, 1) := by decide +kernel
theorem dX12_person_40 : decode cX12_person 40 = .ok (.invokevirtual 176, 3) := by decide +kernel
theorem dX12_person_43 : decode cX12_person 43 = .ok (.ireturn, 1) := by decide +kernel
theorem dX12_trouble_0 : decode cX12_trouble 0 = .ok (.aload_n 0, 1) := by decide +kernel
theorem dX12_trouble_1 : decode cX12_trouble 1 = .ok (.iconst 0, 1) := by decide +kernel
theorem dX12_trouble_2 : decode cX12_trouble 2 = .ok (.putfield 54, 3) := by decide +kernel
theorem dX12_trouble_5 : decode cX12_trouble 5 = .ok (.aload_n 0, 1) := by decide +kernel
theorem dX12_trouble_6 : decode cX12_trouble 6 = .ok (.getfield 57, 3) := by decide +kernel
theorem dX12_trouble_9 : decode cX12_trouble 9 = .ok (.ireturn, 1) := by decide +kernel
/-! the reference's whole state -/
def RefB (I : HI) (tp : Nat → Nat) (nt tr fa pl : Nat) (F : bkF) (S : Nat → LSt) (u r : Nat) (im : Nat → LSt) (ic : Nat) : Prop :=
  (I 157 2 = nI nt ∧ nt ≤ 900 ∧ ∀ i, i < nt → I 158 i = nI (tp i) ∧ tp i < 256) ∧ (I 157 11 = nI tr ∧ I 157 9 = nI fa ∧ (tr = 4 → I 157 10 = nI pl) ∧ tr < 7) ∧ RfI I F (S 0) ∧ (I 157 23 = nI u ∧ I 157 24 = nI r ∧ u + r ≤ 12 ∧ (∀ j, j < u → StI I 165 (87 * j) (S (13 - (u - j)))) ∧ (∀ j, j < r → StI I 166 (87 * j) (S (r - j)))) ∧ (I 157 25 = nI ic ∧ ic ≤ 3 ∧ ∀ c, c < ic → StI I 167 (87 * c) (im c)) ∧ (F 0 = 0 → u = 0 ∧ r = 0 ∧ ic = 0)
def YQ (I : HI) (L : HL) (R : HR) (tp : Nat → Nat) (nt tr fa pl : Nat) (F : bkF) (S : Nat → LSt) (u r : Nat) (im : Nat → LSt) (ic : Nat) (a : Int32) (Q : QT) : Prop := ∀ (J : HI) (M : HL), RefB J tp nt tr fa pl F S u r im ic → (∀ x, x < 157 → J x = I x) → (∀ x, x ≠ 170 → M x = L x) → Q (some (.int a)) SH J M R
section
variable {b : Nat} {ad : Nat → Nat} {I J : HI} {L M : HL} {R : HR} {Q : QT} {tp : Nat → Nat} {nt tr fa pl : Nat} {F : bkF} {S : Nat → LSt} {u r : Nat} {im : Nat → LSt} {ic : Nat}
theorem YQ.fin {tr' : Nat} {a a' : Int32} (hQ : YQ I L R tp nt tr fa pl F S u r im ic a Q) (h : RefB J tp nt tr' fa pl F S u r im ic) (hJ : ∀ x, x < 157 → J x = I x) (hM : ∀ x, x ≠ 170 → M x = L x) (e1 : tr' = tr) (e2 : a' = a) : Q (some (.int a')) SH J M R := by
  subst e1 e2; exact hQ J M h hJ hM
theorem rf_fr {v : Nat} (h : RefB I tp nt tr fa pl F S u r im ic) (hv : v < 7) (h4 : v = 4 → tr = 4) (h11 : J 157 11 = nI v) (hj : ∀ j, j = 2 ∨ j = 9 ∨ j = 10 ∨ j = 14 ∨ j = 23 ∨ j = 24 ∨ j = 25 → J 157 j = I 157 j) (hx : ∀ x, x = 158 ∨ x = 160 ∨ x = 162 ∨ x = 165 ∨ x = 166 ∨ x = 167 → J x = I x) : RefB J tp nt v fa pl F S u r im ic := by
  obtain ⟨⟨a1, a2, a3⟩, ⟨b1, b2, b3, b4⟩, c, ⟨d1, d2, d3, d4, d5⟩, ⟨e1, e2, e3⟩, f⟩ := h
  exact ⟨⟨by rw [hj 2 (by decide)]; exact a1, a2, fun i hi => by rw [hx 158 (by decide)]; exact a3 i hi⟩, ⟨h11, by rw [hj 9 (by decide)]; exact b2, fun q => by rw [hj 10 (by decide)]; exact b3 (h4 q), hv⟩, c.fr (hx 160 (by decide)) (hj 14 (by decide)) (hx 162 (by decide)), ⟨by rw [hj 23 (by decide)]; exact d1, by rw [hj 24 (by decide)]; exact d2, d3, fun j q => (d4 j q).fr (hx 165 (by decide)), fun j q => (d5 j q).fr (hx 166 (by decide))⟩, ⟨by rw [hj 25 (by decide)]; exact e1, e2, fun c q => (e3 c q).fr (hx 167 (by decide))⟩, f⟩
theorem rf_tr {v : Nat} (h : RefB I tp nt tr fa pl F S u r im ic) (hv : v < 7 ∧ v ≠ 4) : RefB (ui I 157 11 (nI v)) tp nt v fa pl F S u r im ic :=
  rf_fr h hv.1 (fun q => absurd q hv.2) (ui_s _ _ _ _) (fun j hj => ui_o (by omega)) (fun x hx => ui_ne (by omega))
theorem rf_th {v : Int32} (h : RefB I tp nt tr fa pl F S u r im ic) : RefB (ui I 157 0 v) tp nt tr fa pl F S u r im ic :=
  rf_fr h h.2.1.2.2.2 id (by rw [ui_o (by decide)]; exact h.2.1.1) (fun j hj => ui_o (by omega)) (fun x hx => ui_ne (by omega))
theorem rf_good (h : RefB I tp nt tr fa pl F S u r im ic) : RefB (ui (ui I 157 0 (nI 0)) 157 11 (nI 0)) tp nt 0 fa pl F S u r im ic := rf_tr (rf_th h) (by decide)
theorem sui_acc (f : Nat → Int32) : ∀ (j i : Nat) (a c : Int32), sui f i j (a + c) = sui f i j a + c
  | 0, _, _, _ => rfl
  | j + 1, i, a, c => by
    show sui f (i + 1) j (a + c + f i) = sui f (i + 1) j (a + f i) + c
    rw [← sui_acc f j (i + 1) (a + f i) c]
    congr 1
    rw [Int32.add_assoc, Int32.add_comm c, ← Int32.add_assoc]
theorem sui_cg {f g : Nat → Int32} : ∀ (j i : Nat) (a : Int32), (∀ k, i ≤ k → k < i + j → f k = g k) → sui f i j a = sui g i j a
  | 0, _, _, _ => rfl
  | j + 1, i, a, h => by
    show sui f (i + 1) j (a + f i) = sui g (i + 1) j (a + g i)
    rw [h i (Nat.le_refl _) (by omega)]
    exact sui_cg j (i + 1) _ (fun k q1 q2 => h k (by omega) (by omega))
theorem r_fits {x : Int32} {y : Int32} (hR : RO R) (h : RefB I tp nt tr fa pl F S u r im ic) (hQ : YQ I L R tp nt (t_fits F (S 0) x y) fa pl F S u r im ic (a_fits F (S 0) x y) Q) : KK 8 mX12_fits b ad [.ref (b + 157), .int x, .int y] I L R Q := by
  have hO := h.2.2.1.1.2.2.1
  have o0 := hO.1
  have o1 := hO.2.1
  have o2 := hO.2.2.1
  have o3 := hO.2.2.2.1
  have o4 := hO.2.2.2.2.1
  have o5 := hO.2.2.2.2.2.1
  have o6 := hO.2.2.2.2.2.2.1
  have hK := h.2.2.1.2.2
  have hn20 := hK.1
  have hok : ∀ i, i < (S 0).1 → ok4 ((S 0).2.1 i) := fun i hi => (hK.2.1 i hi).1
  refine K.of (M := mX12_fits) (lv := [some (.ref (b + 157)), some (.int x), some (.int y)]) (by decide) (Nat.le_of_ble_eq_true rfl) rfl ?_
  refine v_aload_0 dX12_fits_0 ?_
  refine u_callV_0 dX12_fits_1 ml_X12_173 mv_X12_good (by first | assumption | rfl | exact led_1 (by assumption) | exact led_2 (by assumption) | exact bk_m (by assumption) (by first | assumption | omega) | exact bk_p (by assumption) (by first | assumption | omega) | exact bk_o (by assumption) (by first | assumption | omega) | exact bk_s (by assumption) (by first | assumption | omega) | exact bk_1 (by assumption) | exact bk_2 (by assumption) | exact bk_3 (by assumption) | exact bk_4 (by assumption) | exact bk_5 (by assumption) | exact bk_6 (by assumption) | exact bk_7 (by assumption) | exact bk_8 (by assumption) | exact sh_ring _ (by first | assumption | omega) | exact sh_imgs _ (by first | assumption | omega)) (by decide) rfl (by decide) (Nat.le_of_ble_eq_true rfl) (c_X12_good ?_)
  have h := rf_good h
  have hr : RfI _ F (S 0) := h.2.2.1
  have hS := hr.2.1
  refine v_aload_0 dX12_fits_4 ?_
  refine v_iload_1 dX12_fits_5 ?_
  refine u_callV_1 dX12_fits_6 ml_X12_307 mv_X12_isMask (by first | assumption | rfl | exact led_1 (by assumption) | exact led_2 (by assumption) | exact bk_m (by assumption) (by first | assumption | omega) | exact bk_p (by assumption) (by first | assumption | omega) | exact bk_o (by assumption) (by first | assumption | omega) | exact bk_s (by assumption) (by first | assumption | omega) | exact bk_1 (by assumption) | exact bk_2 (by assumption) | exact bk_3 (by assumption) | exact bk_4 (by assumption) | exact bk_5 (by assumption) | exact bk_6 (by assumption) | exact bk_7 (by assumption) | exact bk_8 (by assumption) | exact sh_ring _ (by first | assumption | omega) | exact sh_imgs _ (by first | assumption | omega)) (by decide) rfl (by decide) (Nat.le_of_ble_eq_true rfl) (c_X12_isMask hR hr.1 ?_)
  refine v_if_eq (tgt := 40) dX12_fits_9 (by decide) (fun hc9 => ?_) (fun hc9 => ?_)
  · (first | rw [bI_0, Bool.not_eq_false] at hc9 | rw [bI_0] at hc9 | rw [show (0 : Int32) = nI 0 from rfl, nI_eq (by omega) (by omega)] at hc9 | skip)
    refine v_aload_0 dX12_fits_40 ?_
    refine v_iconst (v := nI 1) dX12_fits_41 (by decide) ?_
    refine u_callV_1 dX12_fits_42 ml_X12_176 mv_X12_no (by first | assumption | rfl | exact led_1 (by assumption) | exact led_2 (by assumption) | exact bk_m (by assumption) (by first | assumption | omega) | exact bk_p (by assumption) (by first | assumption | omega) | exact bk_o (by assumption) (by first | assumption | omega) | exact bk_s (by assumption) (by first | assumption | omega) | exact bk_1 (by assumption) | exact bk_2 (by assumption) | exact bk_3 (by assumption) | exact bk_4 (by assumption) | exact bk_5 (by assumption) | exact bk_6 (by assumption) | exact bk_7 (by assumption) | exact bk_8 (by assumption) | exact sh_ring _ (by first | assumption | omega) | exact sh_imgs _ (by first | assumption | omega)) (by decide) rfl (by decide) (Nat.le_of_ble_eq_true rfl) (c_X12_no (k := 1) ?_)
    refine v_iret dX12_fits_45 rfl rfl rfl rfl ?_
    first
      | exact hQ.fin h (fun x hx => by simp only [ui_ne (show x ≠ 157 by omega)]) (fun _ _ => rfl) (by simp [t_fits, trc, hc9, em, ep] <;> rfl) (by simp [a_fits, hc9, em, ep] <;> rfl)
      | exact hQ.fin (rf_tr h (by decide)) (fun x hx => by simp only [ui_ne (show x ≠ 157 by omega)]) (fun _ _ => rfl) (by simp [t_fits, trc, hc9] <;> rfl) (by simp [a_fits, hc9] <;> rfl)
  · (first | rw [bI_0, Bool.not_eq_false] at hc9 | rw [bI_0] at hc9 | rw [show (0 : Int32) = nI 0 from rfl, nI_eq (by omega) (by omega)] at hc9 | skip)
    refine v_aload_0 dX12_fits_12 ?_
    refine v_iload_2 dX12_fits_13 ?_
    refine u_callV_1 dX12_fits_14 ml_X12_310 mv_X12_isPerson (by first | assumption | rfl | exact led_1 (by assumption) | exact led_2 (by assumption) | exact bk_m (by assumption) (by first | assumption | omega) | exact bk_p (by assumption) (by first | assumption | omega) | exact bk_o (by assumption) (by first | assumption | omega) | exact bk_s (by assumption) (by first | assumption | omega) | exact bk_1 (by assumption) | exact bk_2 (by assumption) | exact bk_3 (by assumption) | exact bk_4 (by assumption) | exact bk_5 (by assumption) | exact bk_6 (by assumption) | exact bk_7 (by assumption) | exact bk_8 (by assumption) | exact sh_ring _ (by first | assumption | omega) | exact sh_imgs _ (by first | assumption | omega)) (by decide) rfl (by decide) (Nat.le_of_ble_eq_true rfl) (c_X12_isPerson hR hr.1 ?_)
    refine v_if_eq (tgt := 40) dX12_fits_17 (by decide) (fun hc17 => ?_) (fun hc17 => ?_)
    · (first | rw [bI_0, Bool.not_eq_false] at hc17 | rw [bI_0] at hc17 | rw [show (0 : Int32) = nI 0 from rfl, nI_eq (by omega) (by omega)] at hc17 | skip)
      refine v_aload_0 dX12_fits_40 ?_
      refine v_iconst (v := nI 1) dX12_fits_41 (by decide) ?_
      refine u_callV_1 dX12_fits_42 ml_X12_176 mv_X12_no (by first | assumption | rfl | exact led_1 (by assumption) | exact led_2 (by assumption) | exact bk_m (by assumption) (by first | assumption | omega) | exact bk_p (by assumption) (by first | assumption | omega) | exact bk_o (by assumption) (by first | assumption | omega) | exact bk_s (by assumption) (by first | assumption | omega) | exact bk_1 (by assumption) | exact bk_2 (by assumption) | exact bk_3 (by assumption) | exact bk_4 (by assumption) | exact bk_5 (by assumption) | exact bk_6 (by assumption) | exact bk_7 (by assumption) | exact bk_8 (by assumption) | exact sh_ring _ (by first | assumption | omega) | exact sh_imgs _ (by first | assumption | omega)) (by decide) rfl (by decide) (Nat.le_of_ble_eq_true rfl) (c_X12_no (k := 1) ?_)
      refine v_iret dX12_fits_45 rfl rfl rfl rfl ?_
      first
        | exact hQ.fin h (fun x hx => by simp only [ui_ne (show x ≠ 157 by omega)]) (fun _ _ => rfl) (by simp [t_fits, trc, hc9, hc17, em, ep] <;> rfl) (by simp [a_fits, hc9, hc17, em, ep] <;> rfl)
        | exact hQ.fin (rf_tr h (by decide)) (fun x hx => by simp only [ui_ne (show x ≠ 157 by omega)]) (fun _ _ => rfl) (by simp [t_fits, trc, hc9, hc17] <;> rfl) (by simp [a_fits, hc9, hc17] <;> rfl)
    · (first | rw [bI_0, Bool.not_eq_false] at hc17 | rw [bI_0] at hc17 | rw [show (0 : Int32) = nI 0 from rfl, nI_eq (by omega) (by omega)] at hc17 | skip)
      obtain ⟨m, rfl, hm⟩ := inb_ex (by omega) hc9
      have em : tN (nI m) = m := tN_nI (by omega)
      obtain ⟨p, rfl, hp⟩ := inb_ex (by omega) hc17
      have ep : tN (nI p) = p := tN_nI (by omega)
      refine v_aload_0 dX12_fits_20 ?_
      refine u_getR dX12_fits_21 gf_X12_20 (by first | assumption | rfl | exact led_1 (by assumption) | exact led_2 (by assumption) | exact bk_m (by assumption) (by first | assumption | omega) | exact bk_p (by assumption) (by first | assumption | omega) | exact bk_o (by assumption) (by first | assumption | omega) | exact bk_s (by assumption) (by first | assumption | omega) | exact bk_1 (by assumption) | exact bk_2 (by assumption) | exact bk_3 (by assumption) | exact bk_4 (by assumption) | exact bk_5 (by assumption) | exact bk_6 (by assumption) | exact bk_7 (by assumption) | exact bk_8 (by assumption) | exact sh_ring _ (by first | assumption | omega) | exact sh_imgs _ (by first | assumption | omega)) (ro_X12_15 (by assumption)) ?_
      refine v_iload_1 dX12_fits_24 ?_
      refine v_iload_2 dX12_fits_25 ?_
      refine u_callS_3 dX12_fits_26 ml_X12_296 ms_X12_doesFit (by decide) (Nat.le_of_ble_eq_true rfl) (c_X12_doesFit hr.1.1 hO hm hp ?_)
      refine v_if_eq (tgt := 36) dX12_fits_29 (by decide) (fun hc29 => ?_) (fun hc29 => ?_)
      · (first | rw [bI_0, Bool.not_eq_false] at hc29 | rw [bI_0] at hc29 | rw [show (0 : Int32) = nI 0 from rfl, nI_eq (by omega) (by omega)] at hc29 | skip)
        refine v_iconst (v := nI 0) dX12_fits_36 (by decide) ?_
        refine v_goto (tgt := 45) dX12_fits_37 (by decide) ?_
        refine v_iret dX12_fits_45 rfl rfl rfl rfl ?_
        first
          | exact hQ.fin h (fun x hx => by simp only [ui_ne (show x ≠ 157 by omega)]) (fun _ _ => rfl) (by simp [t_fits, trc, hc9, hc17, hc29, em, ep] <;> rfl) (by simp [a_fits, hc9, hc17, hc29, em, ep] <;> rfl)
          | exact hQ.fin (rf_tr h (by decide)) (fun x hx => by simp only [ui_ne (show x ≠ 157 by omega)]) (fun _ _ => rfl) (by simp [t_fits, trc, hc9, hc17, hc29] <;> rfl) (by simp [a_fits, hc9, hc17, hc29] <;> rfl)
      · (first | rw [bI_0, Bool.not_eq_false] at hc29 | rw [bI_0] at hc29 | rw [show (0 : Int32) = nI 0 from rfl, nI_eq (by omega) (by omega)] at hc29 | skip)
        refine v_iconst (v := nI 1) dX12_fits_32 (by decide) ?_
        refine v_goto (tgt := 45) dX12_fits_33 (by decide) ?_
        refine v_iret dX12_fits_45 rfl rfl rfl rfl ?_
        first
          | exact hQ.fin h (fun x hx => by simp only [ui_ne (show x ≠ 157 by omega)]) (fun _ _ => rfl) (by simp [t_fits, trc, hc9, hc17, hc29, em, ep] <;> rfl) (by simp [a_fits, hc9, hc17, hc29, em, ep] <;> rfl)
          | exact hQ.fin (rf_tr h (by decide)) (fun x hx => by simp only [ui_ne (show x ≠ 157 by omega)]) (fun _ _ => rfl) (by simp [t_fits, trc, hc9, hc17, hc29] <;> rfl) (by simp [a_fits, hc9, hc17, hc29] <;> rfl)
theorem r_wearer {x : Int32} {y : Int32} (hR : RO R) (h : RefB I tp nt tr fa pl F S u r im ic) (hQ : YQ I L R tp nt (t_wearer F (S 0) x y) fa pl F S u r im ic (a_wearer F (S 0) x y) Q) : KK 8 mX12_wearer b ad [.ref (b + 157), .int x, .int y] I L R Q := by
  have hO := h.2.2.1.1.2.2.1
  have o0 := hO.1
  have o1 := hO.2.1
  have o2 := hO.2.2.1
  have o3 := hO.2.2.2.1
  have o4 := hO.2.2.2.2.1
  have o5 := hO.2.2.2.2.2.1
  have o6 := hO.2.2.2.2.2.2.1
  have hK := h.2.2.1.2.2
  have hn20 := hK.1
  have hok : ∀ i, i < (S 0).1 → ok4 ((S 0).2.1 i) := fun i hi => (hK.2.1 i hi).1
  refine K.of (M := mX12_wearer) (lv := [some (.ref (b + 157)), some (.int x), some (.int y)]) (by decide) (Nat.le_of_ble_eq_true rfl) rfl ?_
  refine v_aload_0 dX12_wearer_0 ?_
  refine u_callV_0 dX12_wearer_1 ml_X12_173 mv_X12_good (by first | assumption | rfl | exact led_1 (by assumption) | exact led_2 (by assumption) | exact bk_m (by assumption) (by first | assumption | omega) | exact bk_p (by assumption) (by first | assumption | omega) | exact bk_o (by assumption) (by first | assumption | omega) | exact bk_s (by assumption) (by first | assumption | omega) | exact bk_1 (by assumption) | exact bk_2 (by assumption) | exact bk_3 (by assumption) | exact bk_4 (by assumption) | exact bk_5 (by assumption) | exact bk_6 (by assumption) | exact bk_7 (by assumption) | exact bk_8 (by assumption) | exact sh_ring _ (by first | assumption | omega) | exact sh_imgs _ (by first | assumption | omega)) (by decide) rfl (by decide) (Nat.le_of_ble_eq_true rfl) (c_X12_good ?_)
  have h := rf_good h
  have hr : RfI _ F (S 0) := h.2.2.1
  have hS := hr.2.1
  refine v_aload_0 dX12_wearer_4 ?_
  refine v_iload_1 dX12_wearer_5 ?_
  refine u_callV_1 dX12_wearer_6 ml_X12_307 mv_X12_isMask (by first | assumption | rfl | exact led_1 (by assumption) | exact led_2 (by assumption) | exact bk_m (by assumption) (by first | assumption | omega) | exact bk_p (by assumption) (by first | assumption | omega) | exact bk_o (by assumption) (by first | assumption | omega) | exact bk_s (by assumption) (by first | assumption | omega) | exact bk_1 (by assumption) | exact bk_2 (by assumption) | exact bk_3 (by assumption) | exact bk_4 (by assumption) | exact bk_5 (by assumption) | exact bk_6 (by assumption) | exact bk_7 (by assumption) | exact bk_8 (by assumption) | exact sh_ring _ (by first | assumption | omega) | exact sh_imgs _ (by first | assumption | omega)) (by decide) rfl (by decide) (Nat.le_of_ble_eq_true rfl) (c_X12_isMask hR hr.1 ?_)
  refine v_if_ne (tgt := 18) dX12_wearer_9 (by decide) (fun hc9 => ?_) (fun hc9 => ?_)
  · (first | rw [bI_0, Bool.not_eq_false] at hc9 | rw [bI_0] at hc9 | rw [show (0 : Int32) = nI 0 from rfl, nI_eq (by omega) (by omega)] at hc9 | skip)
    refine v_aload_0 dX12_wearer_18 ?_
    refine v_iload_2 dX12_wearer_19 ?_
    refine u_callV_1 dX12_wearer_20 ml_X12_313 mv_X12_isDay (by first | assumption | rfl | exact led_1 (by assumption) | exact led_2 (by assumption) | exact bk_m (by assumption) (by first | assumption | omega) | exact bk_p (by assumption) (by first | assumption | omega) | exact bk_o (by assumption) (by first | assumption | omega) | exact bk_s (by assumption) (by first | assumption | omega) | exact bk_1 (by assumption) | exact bk_2 (by assumption) | exact bk_3 (by assumption) | exact bk_4 (by assumption) | exact bk_5 (by assumption) | exact bk_6 (by assumption) | exact bk_7 (by assumption) | exact bk_8 (by assumption) | exact sh_ring _ (by first | assumption | omega) | exact sh_imgs _ (by first | assumption | omega)) (by decide) rfl (by decide) (Nat.le_of_ble_eq_true rfl) (c_X12_isDay hR hr.1 ?_)
    refine v_if_eq (tgt := 35) dX12_wearer_23 (by decide) (fun hc23 => ?_) (fun hc23 => ?_)
    · (first | rw [bI_0, Bool.not_eq_false] at hc23 | rw [bI_0] at hc23 | rw [show (0 : Int32) = nI 0 from rfl, nI_eq (by omega) (by omega)] at hc23 | skip)
      refine v_aload_0 dX12_wearer_35 ?_
      refine v_iconst (v := nI 2) dX12_wearer_36 (by decide) ?_
      refine u_callV_1 dX12_wearer_37 ml_X12_176 mv_X12_no (by first | assumption | rfl | exact led_1 (by assumption) | exact led_2 (by assumption) | exact bk_m (by assumption) (by first | assumption | omega) | exact bk_p (by assumption) (by first | assumption | omega) | exact bk_o (by assumption) (by first | assumption | omega) | exact bk_s (by assumption) (by first | assumption | omega) | exact bk_1 (by assumption) | exact bk_2 (by assumption) | exact bk_3 (by assumption) | exact bk_4 (by assumption) | exact bk_5 (by assumption) | exact bk_6 (by assumption) | exact bk_7 (by assumption) | exact bk_8 (by assumption) | exact sh_ring _ (by first | assumption | omega) | exact sh_imgs _ (by first | assumption | omega)) (by decide) rfl (by decide) (Nat.le_of_ble_eq_true rfl) (c_X12_no (k := 2) ?_)
      refine v_iret dX12_wearer_40 rfl rfl rfl rfl ?_
      first
        | exact hQ.fin h (fun x hx => by simp only [ui_ne (show x ≠ 157 by omega)]) (fun _ _ => rfl) (by simp [t_wearer, trc, hc9, hc23, em, ed, eM_eP, lentP] <;> rfl) (by simp [a_wearer, hc9, hc23, em, ed, eM_eP, lentP] <;> rfl)
        | exact hQ.fin (rf_tr h (by decide)) (fun x hx => by simp only [ui_ne (show x ≠ 157 by omega)]) (fun _ _ => rfl) (by simp [t_wearer, trc, hc9, hc23] <;> rfl) (by simp [a_wearer, hc9, hc23] <;> rfl)
    · (first | rw [bI_0, Bool.not_eq_false] at hc23 | rw [bI_0] at hc23 | rw [show (0 : Int32) = nI 0 from rfl, nI_eq (by omega) (by omega)] at hc23 | skip)
      obtain ⟨m, rfl, hm⟩ := inb_ex (by omega) hc9
      have em : tN (nI m) = m := tN_nI (by omega)
      obtain ⟨d, rfl, hd1, hd⟩ := ind_ex (by omega) hc23
      have ed : tN (nI d) = d := tN_nI (by omega)
      refine v_aload_0 dX12_wearer_26 ?_
      refine v_iload_1 dX12_wearer_27 ?_
      refine v_iload_2 dX12_wearer_28 ?_
      refine u_callV_2 dX12_wearer_29 ml_X12_316 mv_X12_wearerOf (by first | assumption | rfl | exact led_1 (by assumption) | exact led_2 (by assumption) | exact bk_m (by assumption) (by first | assumption | omega) | exact bk_p (by assumption) (by first | assumption | omega) | exact bk_o (by assumption) (by first | assumption | omega) | exact bk_s (by assumption) (by first | assumption | omega) | exact bk_1 (by assumption) | exact bk_2 (by assumption) | exact bk_3 (by assumption) | exact bk_4 (by assumption) | exact bk_5 (by assumption) | exact bk_6 (by assumption) | exact bk_7 (by assumption) | exact bk_8 (by assumption) | exact sh_ring _ (by first | assumption | omega) | exact sh_imgs _ (by first | assumption | omega)) (by decide) rfl (by decide) (Nat.le_of_ble_eq_true rfl) (c_X12_wearerOf hR hr (by omega) (by omega) ?_)
      refine v_goto (tgt := 40) dX12_wearer_32 (by decide) ?_
      refine v_iret dX12_wearer_40 rfl rfl rfl rfl ?_
      first
        | exact hQ.fin h (fun x hx => by simp only [ui_ne (show x ≠ 157 by omega)]) (fun _ _ => rfl) (by simp [t_wearer, trc, hc9, hc23, em, ed, eM_eP, lentP] <;> rfl) (by simp [a_wearer, hc9, hc23, em, ed, eM_eP, lentP] <;> rfl)
        | exact hQ.fin (rf_tr h (by decide)) (fun x hx => by simp only [ui_ne (show x ≠ 157 by omega)]) (fun _ _ => rfl) (by simp [t_wearer, trc, hc9, hc23] <;> rfl) (by simp [a_wearer, hc9, hc23] <;> rfl)
  · (first | rw [bI_0, Bool.not_eq_false] at hc9 | rw [bI_0] at hc9 | rw [show (0 : Int32) = nI 0 from rfl, nI_eq (by omega) (by omega)] at hc9 | skip)
    refine v_aload_0 dX12_wearer_12 ?_
    refine v_iconst (v := nI 1) dX12_wearer_13 (by decide) ?_
    refine u_callV_1 dX12_wearer_14 ml_X12_176 mv_X12_no (by first | assumption | rfl | exact led_1 (by assumption) | exact led_2 (by assumption) | exact bk_m (by assumption) (by first | assumption | omega) | exact bk_p (by assumption) (by first | assumption | omega) | exact bk_o (by assumption) (by first | assumption | omega) | exact bk_s (by assumption) (by first | assumption | omega) | exact bk_1 (by assumption) | exact bk_2 (by assumption) | exact bk_3 (by assumption) | exact bk_4 (by assumption) | exact bk_5 (by assumption) | exact bk_6 (by assumption) | exact bk_7 (by assumption) | exact bk_8 (by assumption) | exact sh_ring _ (by first | assumption | omega) | exact sh_imgs _ (by first | assumption | omega)) (by decide) rfl (by decide) (Nat.le_of_ble_eq_true rfl) (c_X12_no (k := 1) ?_)
    refine v_iret dX12_wearer_17 rfl rfl rfl rfl ?_
    first
      | exact hQ.fin h (fun x hx => by simp only [ui_ne (show x ≠ 157 by omega)]) (fun _ _ => rfl) (by simp [t_wearer, trc, hc9, em, ed, eM_eP, lentP] <;> rfl) (by simp [a_wearer, hc9, em, ed, eM_eP, lentP] <;> rfl)
      | exact hQ.fin (rf_tr h (by decide)) (fun x hx => by simp only [ui_ne (show x ≠ 157 by omega)]) (fun _ _ => rfl) (by simp [t_wearer, trc, hc9] <;> rfl) (by simp [a_wearer, hc9] <;> rfl)
theorem r_owes {x : Int32} (hR : RO R) (h : RefB I tp nt tr fa pl F S u r im ic) (hQ : YQ I L R tp nt (t_owes F (S 0) x) fa pl F S u r im ic (a_owes F (S 0) x) Q) : KK 8 mX12_owes b ad [.ref (b + 157), .int x] I L R Q := by
  have hO := h.2.2.1.1.2.2.1
  have o0 := hO.1
  have o1 := hO.2.1
  have o2 := hO.2.2.1
  have o3 := hO.2.2.2.1
  have o4 := hO.2.2.2.2.1
  have o5 := hO.2.2.2.2.2.1
  have o6 := hO.2.2.2.2.2.2.1
  have hK := h.2.2.1.2.2
  have hn20 := hK.1
  have hok : ∀ i, i < (S 0).1 → ok4 ((S 0).2.1 i) := fun i hi => (hK.2.1 i hi).1
  refine K.of (M := mX12_owes) (lv := [some (.ref (b + 157)), some (.int x)]) (by decide) (Nat.le_of_ble_eq_true rfl) rfl ?_
  refine v_aload_0 dX12_owes_0 ?_
  refine u_callV_0 dX12_owes_1 ml_X12_173 mv_X12_good (by first | assumption | rfl | exact led_1 (by assumption) | exact led_2 (by assumption) | exact bk_m (by assumption) (by first | assumption | omega) | exact bk_p (by assumption) (by first | assumption | omega) | exact bk_o (by assumption) (by first | assumption | omega) | exact bk_s (by assumption) (by first | assumption | omega) | exact bk_1 (by assumption) | exact bk_2 (by assumption) | exact bk_3 (by assumption) | exact bk_4 (by assumption) | exact bk_5 (by assumption) | exact bk_6 (by assumption) | exact bk_7 (by assumption) | exact bk_8 (by assumption) | exact sh_ring _ (by first | assumption | omega) | exact sh_imgs _ (by first | assumption | omega)) (by decide) rfl (by decide) (Nat.le_of_ble_eq_true rfl) (c_X12_good ?_)
  have h := rf_good h
  have hr : RfI _ F (S 0) := h.2.2.1
  have hS := hr.2.1
  refine v_aload_0 dX12_owes_4 ?_
  refine v_iload_1 dX12_owes_5 ?_
  refine u_callV_1 dX12_owes_6 ml_X12_331 mv_X12_isPromise (by first | assumption | rfl | exact led_1 (by assumption) | exact led_2 (by assumption) | exact bk_m (by assumption) (by first | assumption | omega) | exact bk_p (by assumption) (by first | assumption | omega) | exact bk_o (by assumption) (by first | assumption | omega) | exact bk_s (by assumption) (by first | assumption | omega) | exact bk_1 (by assumption) | exact bk_2 (by assumption) | exact bk_3 (by assumption) | exact bk_4 (by assumption) | exact bk_5 (by assumption) | exact bk_6 (by assumption) | exact bk_7 (by assumption) | exact bk_8 (by assumption) | exact sh_ring _ (by first | assumption | omega) | exact sh_imgs _ (by first | assumption | omega)) (by decide) rfl (by decide) (Nat.le_of_ble_eq_true rfl) (c_X12_isPromise hR hr.1 ?_)
  refine v_if_eq (tgt := 20) dX12_owes_9 (by decide) (fun hc9 => ?_) (fun hc9 => ?_)
  · (first | rw [bI_0, Bool.not_eq_false] at hc9 | rw [bI_0] at hc9 | rw [show (0 : Int32) = nI 0 from rfl, nI_eq (by omega) (by omega)] at hc9 | skip)
    refine v_aload_0 dX12_owes_20 ?_
    refine v_iconst (v := nI 1) dX12_owes_21 (by decide) ?_
    refine u_callV_1 dX12_owes_22 ml_X12_176 mv_X12_no (by first | assumption | rfl | exact led_1 (by assumption) | exact led_2 (by assumption) | exact bk_m (by assumption) (by first | assumption | omega) | exact bk_p (by assumption) (by first | assumption | omega) | exact bk_o (by assumption) (by first | assumption | omega) | exact bk_s (by assumption) (by first | assumption | omega) | exact bk_1 (by assumption) | exact bk_2 (by assumption) | exact bk_3 (by assumption) | exact bk_4 (by assumption) | exact bk_5 (by assumption) | exact bk_6 (by assumption) | exact bk_7 (by assumption) | exact bk_8 (by assumption) | exact sh_ring _ (by first | assumption | omega) | exact sh_imgs _ (by first | assumption | omega)) (by decide) rfl (by decide) (Nat.le_of_ble_eq_true rfl) (c_X12_no (k := 1) ?_)
    refine v_iret dX12_owes_25 rfl rfl rfl rfl ?_
    first
      | exact hQ.fin h (fun x hx => by simp only [ui_ne (show x ≠ 157 by omega)]) (fun _ _ => rfl) (by simp [t_owes, trc, hc9, eo] <;> rfl) (by simp [a_owes, hc9, eo] <;> rfl)
      | exact hQ.fin (rf_tr h (by decide)) (fun x hx => by simp only [ui_ne (show x ≠ 157 by omega)]) (fun _ _ => rfl) (by simp [t_owes, trc, hc9] <;> rfl) (by simp [a_owes, hc9] <;> rfl)
  · (first | rw [bI_0, Bool.not_eq_false] at hc9 | rw [bI_0] at hc9 | rw [show (0 : Int32) = nI 0 from rfl, nI_eq (by omega) (by omega)] at hc9 | skip)
    obtain ⟨o, rfl, ho⟩ := inb_ex (by omega) hc9
    have eo : tN (nI o) = o := tN_nI (by omega)
    refine v_aload_0 dX12_owes_12 ?_
    refine v_iload_1 dX12_owes_13 ?_
    refine u_callV_1 dX12_owes_14 ml_X12_322 mv_X12_owed (by first | assumption | rfl | exact led_1 (by assumption) | exact led_2 (by assumption) | exact bk_m (by assumption) (by first | assumption | omega) | exact bk_p (by assumption) (by first | assumption | omega) | exact bk_o (by assumption) (by first | assumption | omega) | exact bk_s (by assumption) (by first | assumption | omega) | exact bk_1 (by assumption) | exact bk_2 (by assumption) | exact bk_3 (by assumption) | exact bk_4 (by assumption) | exact bk_5 (by assumption) | exact bk_6 (by assumption) | exact bk_7 (by assumption) | exact bk_8 (by assumption) | exact sh_ring _ (by first | assumption | omega) | exact sh_imgs _ (by first | assumption | omega)) (by decide) rfl (by decide) (Nat.le_of_ble_eq_true rfl) (c_X12_owed hR hr ho ?_)
    refine v_goto (tgt := 25) dX12_owes_17 (by decide) ?_
    refine v_iret dX12_owes_25 rfl rfl rfl rfl ?_
    first
      | exact hQ.fin h (fun x hx => by simp only [ui_ne (show x ≠ 157 by omega)]) (fun _ _ => rfl) (by simp [t_owes, trc, hc9, eo] <;> rfl) (by simp [a_owes, hc9, eo] <;> rfl)
      | exact hQ.fin (rf_tr h (by decide)) (fun x hx => by simp only [ui_ne (show x ≠ 157 by omega)]) (fun _ _ => rfl) (by simp [t_owes, trc, hc9] <;> rfl) (by simp [a_owes, hc9] <;> rfl)
theorem r_done {x : Int32} (hR : RO R) (h : RefB I tp nt tr fa pl F S u r im ic) (hQ : YQ I L R tp nt (t_done F (S 0) x) fa pl F S u r im ic (a_done F (S 0) x) Q) : KK 8 mX12_done b ad [.ref (b + 157), .int x] I L R Q := by
  have hO := h.2.2.1.1.2.2.1
  have o0 := hO.1
  have o1 := hO.2.1
  have o2 := hO.2.2.1
  have o3 := hO.2.2.2.1
  have o4 := hO.2.2.2.2.1
  have o5 := hO.2.2.2.2.2.1
  have o6 := hO.2.2.2.2.2.2.1
  have hK := h.2.2.1.2.2
  have hn20 := hK.1
  have hok : ∀ i, i < (S 0).1 → ok4 ((S 0).2.1 i) := fun i hi => (hK.2.1 i hi).1
  refine K.of (M := mX12_done) (lv := [some (.ref (b + 157)), some (.int x)]) (by decide) (Nat.le_of_ble_eq_true rfl) rfl ?_
  refine v_aload_0 dX12_done_0 ?_
  refine u_callV_0 dX12_done_1 ml_X12_173 mv_X12_good (by first | assumption | rfl | exact led_1 (by assumption) | exact led_2 (by assumption) | exact bk_m (by assumption) (by first | assumption | omega) | exact bk_p (by assumption) (by first | assumption | omega) | exact bk_o (by assumption) (by first | assumption | omega) | exact bk_s (by assumption) (by first | assumption | omega) | exact bk_1 (by assumption) | exact bk_2 (by assumption) | exact bk_3 (by assumption) | exact bk_4 (by assumption) | exact bk_5 (by assumption) | exact bk_6 (by assumption) | exact bk_7 (by assumption) | exact bk_8 (by assumption) | exact sh_ring _ (by first | assumption | omega) | exact sh_imgs _ (by first | assumption | omega)) (by decide) rfl (by decide) (Nat.le_of_ble_eq_true rfl) (c_X12_good ?_)
  have h := rf_good h
  have hr : RfI _ F (S 0) := h.2.2.1
  have hS := hr.2.1
  refine v_aload_0 dX12_done_4 ?_
  refine v_iload_1 dX12_done_5 ?_
  refine u_callV_1 dX12_done_6 ml_X12_331 mv_X12_isPromise (by first | assumption | rfl | exact led_1 (by assumption) | exact led_2 (by assumption) | exact bk_m (by assumption) (by first | assumption | omega) | exact bk_p (by assumption) (by first | assumption | omega) | exact bk_o (by assumption) (by first | assumption | omega) | exact bk_s (by assumption) (by first | assumption | omega) | exact bk_1 (by assumption) | exact bk_2 (by assumption) | exact bk_3 (by assumption) | exact bk_4 (by assumption) | exact bk_5 (by assumption) | exact bk_6 (by assumption) | exact bk_7 (by assumption) | exact bk_8 (by assumption) | exact sh_ring _ (by first | assumption | omega) | exact sh_imgs _ (by first | assumption | omega)) (by decide) rfl (by decide) (Nat.le_of_ble_eq_true rfl) (c_X12_isPromise hR hr.1 ?_)
  refine v_if_eq (tgt := 28) dX12_done_9 (by decide) (fun hc9 => ?_) (fun hc9 => ?_)
  · (first | rw [bI_0, Bool.not_eq_false] at hc9 | rw [bI_0] at hc9 | rw [show (0 : Int32) = nI 0 from rfl, nI_eq (by omega) (by omega)] at hc9 | skip)
    refine v_aload_0 dX12_done_28 ?_
    refine v_iconst (v := nI 1) dX12_done_29 (by decide) ?_
    refine u_callV_1 dX12_done_30 ml_X12_176 mv_X12_no (by first | assumption | rfl | exact led_1 (by assumption) | exact led_2 (by assumption) | exact bk_m (by assumption) (by first | assumption | omega) | exact bk_p (by assumption) (by first | assumption | omega) | exact bk_o (by assumption) (by first | assumption | omega) | exact bk_s (by assumption) (by first | assumption | omega) | exact bk_1 (by assumption) | exact bk_2 (by assumption) | exact bk_3 (by assumption) | exact bk_4 (by assumption) | exact bk_5 (by assumption) | exact bk_6 (by assumption) | exact bk_7 (by assumption) | exact bk_8 (by assumption) | exact sh_ring _ (by first | assumption | omega) | exact sh_imgs _ (by first | assumption | omega)) (by decide) rfl (by decide) (Nat.le_of_ble_eq_true rfl) (c_X12_no (k := 1) ?_)
    refine v_iret dX12_done_33 rfl rfl rfl rfl ?_
    first
      | exact hQ.fin h (fun x hx => by simp only [ui_ne (show x ≠ 157 by omega)]) (fun _ _ => rfl) (by simp [t_done, trc, hc9, eo] <;> rfl) (by simp [a_done, hc9, eo] <;> rfl)
      | exact hQ.fin (rf_tr h (by decide)) (fun x hx => by simp only [ui_ne (show x ≠ 157 by omega)]) (fun _ _ => rfl) (by simp [t_done, trc, hc9] <;> rfl) (by simp [a_done, hc9] <;> rfl)
  · (first | rw [bI_0, Bool.not_eq_false] at hc9 | rw [bI_0] at hc9 | rw [show (0 : Int32) = nI 0 from rfl, nI_eq (by omega) (by omega)] at hc9 | skip)
    obtain ⟨o, rfl, ho⟩ := inb_ex (by omega) hc9
    have eo : tN (nI o) = o := tN_nI (by omega)
    refine v_aload_0 dX12_done_12 ?_
    refine v_iload_1 dX12_done_13 ?_
    refine u_callV_1 dX12_done_14 ml_X12_334 mv_X12_isDone (by first | assumption | rfl | exact led_1 (by assumption) | exact led_2 (by assumption) | exact bk_m (by assumption) (by first | assumption | omega) | exact bk_p (by assumption) (by first | assumption | omega) | exact bk_o (by assumption) (by first | assumption | omega) | exact bk_s (by assumption) (by first | assumption | omega) | exact bk_1 (by assumption) | exact bk_2 (by assumption) | exact bk_3 (by assumption) | exact bk_4 (by assumption) | exact bk_5 (by assumption) | exact bk_6 (by assumption) | exact bk_7 (by assumption) | exact bk_8 (by assumption) | exact sh_ring _ (by first | assumption | omega) | exact sh_imgs _ (by first | assumption | omega)) (by decide) rfl (by decide) (Nat.le_of_ble_eq_true rfl) (c_X12_isDone hR hr ho ?_)
    refine v_if_eq (tgt := 24) dX12_done_17 (by decide) (fun hc17 => ?_) (fun hc17 => ?_)
    · (first | rw [bI_0, Bool.not_eq_false] at hc17 | rw [bI_0] at hc17 | rw [show (0 : Int32) = nI 0 from rfl, nI_eq (by omega) (by omega)] at hc17 | skip)
      refine v_iconst (v := nI 0) dX12_done_24 (by decide) ?_
      refine v_goto (tgt := 33) dX12_done_25 (by decide) ?_
      refine v_iret dX12_done_33 rfl rfl rfl rfl ?_
      first
        | exact hQ.fin h (fun x hx => by simp only [ui_ne (show x ≠ 157 by omega)]) (fun _ _ => rfl) (by simp [t_done, trc, hc9, hc17, eo] <;> rfl) (by simp [a_done, hc9, hc17, eo] <;> rfl)
        | exact hQ.fin (rf_tr h (by decide)) (fun x hx => by simp only [ui_ne (show x ≠ 157 by omega)]) (fun _ _ => rfl) (by simp [t_done, trc, hc9, hc17] <;> rfl) (by simp [a_done, hc9, hc17] <;> rfl)
    · (first | rw [bI_0, Bool.not_eq_false] at hc17 | rw [bI_0] at hc17 | rw [show (0 : Int32) = nI 0 from rfl, nI_eq (by omega) (by omega)] at hc17 | skip)
      refine v_iconst (v := nI 1) dX12_done_20 (by decide) ?_
      refine v_goto (tgt := 33) dX12_done_21 (by decide) ?_
      refine v_iret dX12_done_33 rfl rfl rfl rfl ?_
      first
        | exact hQ.fin h (fun x hx => by simp only [ui_ne (show x ≠ 157 by omega)]) (fun _ _ => rfl) (by simp [t_done, trc, hc9, hc17, eo] <;> rfl) (by simp [a_done, hc9, hc17, eo] <;> rfl)
        | exact hQ.fin (rf_tr h (by decide)) (fun x hx => by simp only [ui_ne (show x ≠ 157 by omega)]) (fun _ _ => rfl) (by simp [t_done, trc, hc9, hc17] <;> rfl) (by simp [a_done, hc9, hc17] <;> rfl)
theorem r_debt {x : Int32} {y : Int32} (hR : RO R) (h : RefB I tp nt tr fa pl F S u r im ic) (hQ : YQ I L R tp nt (t_debt F (S 0) x y) fa pl F S u r im ic (a_debt F (S 0) x y) Q) : KK 8 mX12_debt b ad [.ref (b + 157), .int x, .int y] I L R Q := by
  have hO := h.2.2.1.1.2.2.1
  have o0 := hO.1
  have o1 := hO.2.1
  have o2 := hO.2.2.1
  have o3 := hO.2.2.2.1
  have o4 := hO.2.2.2.2.1
  have o5 := hO.2.2.2.2.2.1
  have o6 := hO.2.2.2.2.2.2.1
  have hK := h.2.2.1.2.2
  have hn20 := hK.1
  have hok : ∀ i, i < (S 0).1 → ok4 ((S 0).2.1 i) := fun i hi => (hK.2.1 i hi).1
  refine K.of (M := mX12_debt) (lv := [some (.ref (b + 157)), some (.int x), some (.int y)]) (by decide) (Nat.le_of_ble_eq_true rfl) rfl ?_
  refine v_aload_0 dX12_debt_0 ?_
  refine u_callV_0 dX12_debt_1 ml_X12_173 mv_X12_good (by first | assumption | rfl | exact led_1 (by assumption) | exact led_2 (by assumption) | exact bk_m (by assumption) (by first | assumption | omega) | exact bk_p (by assumption) (by first | assumption | omega) | exact bk_o (by assumption) (by first | assumption | omega) | exact bk_s (by assumption) (by first | assumption | omega) | exact bk_1 (by assumption) | exact bk_2 (by assumption) | exact bk_3 (by assumption) | exact bk_4 (by assumption) | exact bk_5 (by assumption) | exact bk_6 (by assumption) | exact bk_7 (by assumption) | exact bk_8 (by assumption) | exact sh_ring _ (by first | assumption | omega) | exact sh_imgs _ (by first | assumption | omega)) (by decide) rfl (by decide) (Nat.le_of_ble_eq_true rfl) (c_X12_good ?_)
  have h := rf_good h
  have hr : RfI _ F (S 0) := h.2.2.1
  have hS := hr.2.1
  refine v_aload_0 dX12_debt_4 ?_
  refine v_iload_1 dX12_debt_5 ?_
  refine u_callV_1 dX12_debt_6 ml_X12_310 mv_X12_isPerson (by first | assumption | rfl | exact led_1 (by assumption) | exact led_2 (by assumption) | exact bk_m (by assumption) (by first | assumption | omega) | exact bk_p (by assumption) (by first | assumption | omega) | exact bk_o (by assumption) (by first | assumption | omega) | exact bk_s (by assumption) (by first | assumption | omega) | exact bk_1 (by assumption) | exact bk_2 (by assumption) | exact bk_3 (by assumption) | exact bk_4 (by assumption) | exact bk_5 (by assumption) | exact bk_6 (by assumption) | exact bk_7 (by assumption) | exact bk_8 (by assumption) | exact sh_ring _ (by first | assumption | omega) | exact sh_imgs _ (by first | assumption | omega)) (by decide) rfl (by decide) (Nat.le_of_ble_eq_true rfl) (c_X12_isPerson hR hr.1 ?_)
  refine v_if_ne (tgt := 18) dX12_debt_9 (by decide) (fun hc9 => ?_) (fun hc9 => ?_)
  · (first | rw [bI_0, Bool.not_eq_false] at hc9 | rw [bI_0] at hc9 | rw [show (0 : Int32) = nI 0 from rfl, nI_eq (by omega) (by omega)] at hc9 | skip)
    refine v_aload_0 dX12_debt_18 ?_
    refine v_iload_2 dX12_debt_19 ?_
    refine u_callV_1 dX12_debt_20 ml_X12_337 mv_X12_isDayOrNone (by first | assumption | rfl | exact led_1 (by assumption) | exact led_2 (by assumption) | exact bk_m (by assumption) (by first | assumption | omega) | exact bk_p (by assumption) (by first | assumption | omega) | exact bk_o (by assumption) (by first | assumption | omega) | exact bk_s (by assumption) (by first | assumption | omega) | exact bk_1 (by assumption) | exact bk_2 (by assumption) | exact bk_3 (by assumption) | exact bk_4 (by assumption) | exact bk_5 (by assumption) | exact bk_6 (by assumption) | exact bk_7 (by assumption) | exact bk_8 (by assumption) | exact sh_ring _ (by first | assumption | omega) | exact sh_imgs _ (by first | assumption | omega)) (by decide) rfl (by decide) (Nat.le_of_ble_eq_true rfl) (c_X12_isDayOrNone hR hr.1 ?_)
    refine v_if_eq (tgt := 35) dX12_debt_23 (by decide) (fun hc23 => ?_) (fun hc23 => ?_)
    · (first | rw [bI_0, Bool.not_eq_false] at hc23 | rw [bI_0] at hc23 | rw [show (0 : Int32) = nI 0 from rfl, nI_eq (by omega) (by omega)] at hc23 | skip)
      refine v_aload_0 dX12_debt_35 ?_
      refine v_iconst (v := nI 2) dX12_debt_36 (by decide) ?_
      refine u_callV_1 dX12_debt_37 ml_X12_176 mv_X12_no (by first | assumption | rfl | exact led_1 (by assumption) | exact led_2 (by assumption) | exact bk_m (by assumption) (by first | assumption | omega) | exact bk_p (by assumption) (by first | assumption | omega) | exact bk_o (by assumption) (by first | assumption | omega) | exact bk_s (by assumption) (by first | assumption | omega) | exact bk_1 (by assumption) | exact bk_2 (by assumption) | exact bk_3 (by assumption) | exact bk_4 (by assumption) | exact bk_5 (by assumption) | exact bk_6 (by assumption) | exact bk_7 (by assumption) | exact bk_8 (by assumption) | exact sh_ring _ (by first | assumption | omega) | exact sh_imgs _ (by first | assumption | omega)) (by decide) rfl (by decide) (Nat.le_of_ble_eq_true rfl) (c_X12_no (k := 2) ?_)
      refine v_iret dX12_debt_40 rfl rfl rfl rfl ?_
      first
        | exact hQ.fin h (fun x hx => by simp only [ui_ne (show x ≠ 157 by omega)]) (fun _ _ => rfl) (by simp [t_debt, trc, hc9, hc23, ep, ed] <;> rfl) (by simp [a_debt, hc9, hc23, ep, ed] <;> rfl)
        | exact hQ.fin (rf_tr h (by decide)) (fun x hx => by simp only [ui_ne (show x ≠ 157 by omega)]) (fun _ _ => rfl) (by simp [t_debt, trc, hc9, hc23] <;> rfl) (by simp [a_debt, hc9, hc23] <;> rfl)
    · (first | rw [bI_0, Bool.not_eq_false] at hc23 | rw [bI_0] at hc23 | rw [show (0 : Int32) = nI 0 from rfl, nI_eq (by omega) (by omega)] at hc23 | skip)
      obtain ⟨p, rfl, hp⟩ := inb_ex (by omega) hc9
      have ep : tN (nI p) = p := tN_nI (by omega)
      obtain ⟨d, rfl, hd⟩ := indn_ex (by omega) hc23
      have ed : tN (nI d) = d := tN_nI (by omega)
      refine v_aload_0 dX12_debt_26 ?_
      refine v_iload_1 dX12_debt_27 ?_
      refine v_iload_2 dX12_debt_28 ?_
      refine u_callV_2 dX12_debt_29 ml_X12_340 mv_X12_debtOf (by first | assumption | rfl | exact led_1 (by assumption) | exact led_2 (by assumption) | exact bk_m (by assumption) (by first | assumption | omega) | exact bk_p (by assumption) (by first | assumption | omega) | exact bk_o (by assumption) (by first | assumption | omega) | exact bk_s (by assumption) (by first | assumption | omega) | exact bk_1 (by assumption) | exact bk_2 (by assumption) | exact bk_3 (by assumption) | exact bk_4 (by assumption) | exact bk_5 (by assumption) | exact bk_6 (by assumption) | exact bk_7 (by assumption) | exact bk_8 (by assumption) | exact sh_ring _ (by first | assumption | omega) | exact sh_imgs _ (by first | assumption | omega)) (by decide) rfl (by decide) (Nat.le_of_ble_eq_true rfl) (c_X12_debtOf (od := some p) hR hr (fun z e => by cases e; omega) (by omega) ?_)
      refine v_goto (tgt := 40) dX12_debt_32 (by decide) ?_
      refine v_iret dX12_debt_40 rfl rfl rfl rfl ?_
      first
        | exact hQ.fin h (fun x hx => by simp only [ui_ne (show x ≠ 157 by omega)]) (fun _ _ => rfl) (by simp [t_debt, trc, hc9, hc23, ep, ed] <;> rfl) (by simp [a_debt, hc9, hc23, ep, ed] <;> rfl)
        | exact hQ.fin (rf_tr h (by decide)) (fun x hx => by simp only [ui_ne (show x ≠ 157 by omega)]) (fun _ _ => rfl) (by simp [t_debt, trc, hc9, hc23] <;> rfl) (by simp [a_debt, hc9, hc23] <;> rfl)
  · (first | rw [bI_0, Bool.not_eq_false] at hc9 | rw [bI_0] at hc9 | rw [show (0 : Int32) = nI 0 from rfl, nI_eq (by omega) (by omega)] at hc9 | skip)
    refine v_aload_0 dX12_debt_12 ?_
    refine v_iconst (v := nI 1) dX12_debt_13 (by decide) ?_
    refine u_callV_1 dX12_debt_14 ml_X12_176 mv_X12_no (by first | assumption | rfl | exact led_1 (by assumption) | exact led_2 (by assumption) | exact bk_m (by assumption) (by first | assumption | omega) | exact bk_p (by assumption) (by first | assumption | omega) | exact bk_o (by assumption) (by first | assumption | omega) | exact bk_s (by assumption) (by first | assumption | omega) | exact bk_1 (by assumption) | exact bk_2 (by assumption) | exact bk_3 (by assumption) | exact bk_4 (by assumption) | exact bk_5 (by assumption) | exact bk_6 (by assumption) | exact bk_7 (by assumption) | exact bk_8 (by assumption) | exact sh_ring _ (by first | assumption | omega) | exact sh_imgs _ (by first | assumption | omega)) (by decide) rfl (by decide) (Nat.le_of_ble_eq_true rfl) (c_X12_no (k := 1) ?_)
    refine v_iret dX12_debt_17 rfl rfl rfl rfl ?_
    first
      | exact hQ.fin h (fun x hx => by simp only [ui_ne (show x ≠ 157 by omega)]) (fun _ _ => rfl) (by simp [t_debt, trc, hc9, ep, ed] <;> rfl) (by simp [a_debt, hc9, ep, ed] <;> rfl)
      | exact hQ.fin (rf_tr h (by decide)) (fun x hx => by simp only [ui_ne (show x ≠ 157 by omega)]) (fun _ _ => rfl) (by simp [t_debt, trc, hc9] <;> rfl) (by simp [a_debt, hc9] <;> rfl)
theorem r_breaks {x : Int32} {y : Int32} (hR : RO R) (h : RefB I tp nt tr fa pl F S u r im ic) (hQ : YQ I L R tp nt (t_breaks F (S 0) x y) fa pl F S u r im ic (a_breaks F (S 0) x y) Q) : KK 8 mX12_breaks b ad [.ref (b + 157), .int x, .int y] I L R Q := by
  have hO := h.2.2.1.1.2.2.1
  have o0 := hO.1
  have o1 := hO.2.1
  have o2 := hO.2.2.1
  have o3 := hO.2.2.2.1
  have o4 := hO.2.2.2.2.1
  have o5 := hO.2.2.2.2.2.1
  have o6 := hO.2.2.2.2.2.2.1
  have hK := h.2.2.1.2.2
  have hn20 := hK.1
  have hok : ∀ i, i < (S 0).1 → ok4 ((S 0).2.1 i) := fun i hi => (hK.2.1 i hi).1
  refine K.of (M := mX12_breaks) (lv := [some (.ref (b + 157)), some (.int x), some (.int y)]) (by decide) (Nat.le_of_ble_eq_true rfl) rfl ?_
  refine v_aload_0 dX12_breaks_0 ?_
  refine u_callV_0 dX12_breaks_1 ml_X12_173 mv_X12_good (by first | assumption | rfl | exact led_1 (by assumption) | exact led_2 (by assumption) | exact bk_m (by assumption) (by first | assumption | omega) | exact bk_p (by assumption) (by first | assumption | omega) | exact bk_o (by assumption) (by first | assumption | omega) | exact bk_s (by assumption) (by first | assumption | omega) | exact bk_1 (by assumption) | exact bk_2 (by assumption) | exact bk_3 (by assumption) | exact bk_4 (by assumption) | exact bk_5 (by assumption) | exact bk_6 (by assumption) | exact bk_7 (by assumption) | exact bk_8 (by assumption) | exact sh_ring _ (by first | assumption | omega) | exact sh_imgs _ (by first | assumption | omega)) (by decide) rfl (by decide) (Nat.le_of_ble_eq_true rfl) (c_X12_good ?_)
  have h := rf_good h
  have hr : RfI _ F (S 0) := h.2.2.1
  have hS := hr.2.1
  refine v_aload_0 dX12_breaks_4 ?_
  refine v_iload_1 dX12_breaks_5 ?_
  refine u_callV_1 dX12_breaks_6 ml_X12_310 mv_X12_isPerson (by first | assumption | rfl | exact led_1 (by assumption) | exact led_2 (by assumption) | exact bk_m (by assumption) (by first | assumption | omega) | exact bk_p (by assumption) (by first | assumption | omega) | exact bk_o (by assumption) (by first | assumption | omega) | exact bk_s (by assumption) (by first | assumption | omega) | exact bk_1 (by assumption) | exact bk_2 (by assumption) | exact bk_3 (by assumption) | exact bk_4 (by assumption) | exact bk_5 (by assumption) | exact bk_6 (by assumption) | exact bk_7 (by assumption) | exact bk_8 (by assumption) | exact sh_ring _ (by first | assumption | omega) | exact sh_imgs _ (by first | assumption | omega)) (by decide) rfl (by decide) (Nat.le_of_ble_eq_true rfl) (c_X12_isPerson hR hr.1 ?_)
  refine v_if_ne (tgt := 18) dX12_breaks_9 (by decide) (fun hc9 => ?_) (fun hc9 => ?_)
  · (first | rw [bI_0, Bool.not_eq_false] at hc9 | rw [bI_0] at hc9 | rw [show (0 : Int32) = nI 0 from rfl, nI_eq (by omega) (by omega)] at hc9 | skip)
    refine v_aload_0 dX12_breaks_18 ?_
    refine v_iload_2 dX12_breaks_19 ?_
    refine u_callV_1 dX12_breaks_20 ml_X12_313 mv_X12_isDay (by first | assumption | rfl | exact led_1 (by assumption) | exact led_2 (by assumption) | exact bk_m (by assumption) (by first | assumption | omega) | exact bk_p (by assumption) (by first | assumption | omega) | exact bk_o (by assumption) (by first | assumption | omega) | exact bk_s (by assumption) (by first | assumption | omega) | exact bk_1 (by assumption) | exact bk_2 (by assumption) | exact bk_3 (by assumption) | exact bk_4 (by assumption) | exact bk_5 (by assumption) | exact bk_6 (by assumption) | exact bk_7 (by assumption) | exact bk_8 (by assumption) | exact sh_ring _ (by first | assumption | omega) | exact sh_imgs _ (by first | assumption | omega)) (by decide) rfl (by decide) (Nat.le_of_ble_eq_true rfl) (c_X12_isDay hR hr.1 ?_)
    refine v_if_eq (tgt := 43) dX12_breaks_23 (by decide) (fun hc23 => ?_) (fun hc23 => ?_)
    · (first | rw [bI_0, Bool.not_eq_false] at hc23 | rw [bI_0] at hc23 | rw [show (0 : Int32) = nI 0 from rfl, nI_eq (by omega) (by omega)] at hc23 | skip)
      refine v_aload_0 dX12_breaks_43 ?_
      refine v_iconst (v := nI 2) dX12_breaks_44 (by decide) ?_
      refine u_callV_1 dX12_breaks_45 ml_X12_176 mv_X12_no (by first | assumption | rfl | exact led_1 (by assumption) | exact led_2 (by assumption) | exact bk_m (by assumption) (by first | assumption | omega) | exact bk_p (by assumption) (by first | assumption | omega) | exact bk_o (by assumption) (by first | assumption | omega) | exact bk_s (by assumption) (by first | assumption | omega) | exact bk_1 (by assumption) | exact bk_2 (by assumption) | exact bk_3 (by assumption) | exact bk_4 (by assumption) | exact bk_5 (by assumption) | exact bk_6 (by assumption) | exact bk_7 (by assumption) | exact bk_8 (by assumption) | exact sh_ring _ (by first | assumption | omega) | exact sh_imgs _ (by first | assumption | omega)) (by decide) rfl (by decide) (Nat.le_of_ble_eq_true rfl) (c_X12_no (k := 2) ?_)
      refine v_iret dX12_breaks_48 rfl rfl rfl rfl ?_
      first
        | exact hQ.fin h (fun x hx => by simp only [ui_ne (show x ≠ 157 by omega)]) (fun _ _ => rfl) (by simp [t_breaks, trc, hc9, hc23, ep, ed] <;> rfl) (by simp [a_breaks, hc9, hc23, ep, ed] <;> rfl)
        | exact hQ.fin (rf_tr h (by decide)) (fun x hx => by simp only [ui_ne (show x ≠ 157 by omega)]) (fun _ _ => rfl) (by simp [t_breaks, trc, hc9, hc23] <;> rfl) (by simp [a_breaks, hc9, hc23] <;> rfl)
    · (first | rw [bI_0, Bool.not_eq_false] at hc23 | rw [bI_0] at hc23 | rw [show (0 : Int32) = nI 0 from rfl, nI_eq (by omega) (by omega)] at hc23 | skip)
      obtain ⟨p, rfl, hp⟩ := inb_ex (by omega) hc9
      have ep : tN (nI p) = p := tN_nI (by omega)
      obtain ⟨d, rfl, hd1, hd⟩ := ind_ex (by omega) hc23
      have ed : tN (nI d) = d := tN_nI (by omega)
      refine v_aload_0 dX12_breaks_26 ?_
      refine v_iload_1 dX12_breaks_27 ?_
      refine v_iload_2 dX12_breaks_28 ?_
      refine u_callV_2 dX12_breaks_29 ml_X12_325 mv_X12_isBroken (by first | assumption | rfl | exact led_1 (by assumption) | exact led_2 (by assumption) | exact bk_m (by assumption) (by first | assumption | omega) | exact bk_p (by assumption) (by first | assumption | omega) | exact bk_o (by assumption) (by first | assumption | omega) | exact bk_s (by assumption) (by first | assumption | omega) | exact bk_1 (by assumption) | exact bk_2 (by assumption) | exact bk_3 (by assumption) | exact bk_4 (by assumption) | exact bk_5 (by assumption) | exact bk_6 (by assumption) | exact bk_7 (by assumption) | exact bk_8 (by assumption) | exact sh_ring _ (by first | assumption | omega) | exact sh_imgs _ (by first | assumption | omega)) (by decide) rfl (by decide) (Nat.le_of_ble_eq_true rfl) (c_X12_isBroken hR hr (by omega) (by omega) ?_)
      refine v_if_eq (tgt := 39) dX12_breaks_32 (by decide) (fun hc32 => ?_) (fun hc32 => ?_)
      · (first | rw [bI_0, Bool.not_eq_false] at hc32 | rw [bI_0] at hc32 | rw [show (0 : Int32) = nI 0 from rfl, nI_eq (by omega) (by omega)] at hc32 | skip)
        refine v_iconst (v := nI 0) dX12_breaks_39 (by decide) ?_
        refine v_goto (tgt := 48) dX12_breaks_40 (by decide) ?_
        refine v_iret dX12_breaks_48 rfl rfl rfl rfl ?_
        first
          | exact hQ.fin h (fun x hx => by simp only [ui_ne (show x ≠ 157 by omega)]) (fun _ _ => rfl) (by simp [t_breaks, trc, hc9, hc23, hc32, ep, ed] <;> rfl) (by simp [a_breaks, hc9, hc23, hc32, ep, ed] <;> rfl)
          | exact hQ.fin (rf_tr h (by decide)) (fun x hx => by simp only [ui_ne (show x ≠ 157 by omega)]) (fun _ _ => rfl) (by simp [t_breaks, trc, hc9, hc23, hc32] <;> rfl) (by simp [a_breaks, hc9, hc23, hc32] <;> rfl)
      · (first | rw [bI_0, Bool.not_eq_false] at hc32 | rw [bI_0] at hc32 | rw [show (0 : Int32) = nI 0 from rfl, nI_eq (by omega) (by omega)] at hc32 | skip)
        refine v_iconst (v := nI 1) dX12_breaks_35 (by decide) ?_
        refine v_goto (tgt := 48) dX12_breaks_36 (by decide) ?_
        refine v_iret dX12_breaks_48 rfl rfl rfl rfl ?_
        first
          | exact hQ.fin h (fun x hx => by simp only [ui_ne (show x ≠ 157 by omega)]) (fun _ _ => rfl) (by simp [t_breaks, trc, hc9, hc23, hc32, ep, ed] <;> rfl) (by simp [a_breaks, hc9, hc23, hc32, ep, ed] <;> rfl)
          | exact hQ.fin (rf_tr h (by decide)) (fun x hx => by simp only [ui_ne (show x ≠ 157 by omega)]) (fun _ _ => rfl) (by simp [t_breaks, trc, hc9, hc23, hc32] <;> rfl) (by simp [a_breaks, hc9, hc23, hc32] <;> rfl)
  · (first | rw [bI_0, Bool.not_eq_false] at hc9 | rw [bI_0] at hc9 | rw [show (0 : Int32) = nI 0 from rfl, nI_eq (by omega) (by omega)] at hc9 | skip)
    refine v_aload_0 dX12_breaks_12 ?_
    refine v_iconst (v := nI 1) dX12_breaks_13 (by decide) ?_
    refine u_callV_1 dX12_breaks_14 ml_X12_176 mv_X12_no (by first | assumption | rfl | exact led_1 (by assumption) | exact led_2 (by assumption) | exact bk_m (by assumption) (by first | assumption | omega) | exact bk_p (by assumption) (by first | assumption | omega) | exact bk_o (by assumption) (by first | assumption | omega) | exact bk_s (by assumption) (by first | assumption | omega) | exact bk_1 (by assumption) | exact bk_2 (by assumption) | exact bk_3 (by assumption) | exact bk_4 (by assumption) | exact bk_5 (by assumption) | exact bk_6 (by assumption) | exact bk_7 (by assumption) | exact bk_8 (by assumption) | exact sh_ring _ (by first | assumption | omega) | exact sh_imgs _ (by first | assumption | omega)) (by decide) rfl (by decide) (Nat.le_of_ble_eq_true rfl) (c_X12_no (k := 1) ?_)
    refine v_iret dX12_breaks_17 rfl rfl rfl rfl ?_
    first
      | exact hQ.fin h (fun x hx => by simp only [ui_ne (show x ≠ 157 by omega)]) (fun _ _ => rfl) (by simp [t_breaks, trc, hc9, ep, ed] <;> rfl) (by simp [a_breaks, hc9, ep, ed] <;> rfl)
      | exact hQ.fin (rf_tr h (by decide)) (fun x hx => by simp only [ui_ne (show x ≠ 157 by omega)]) (fun _ _ => rfl) (by simp [t_breaks, trc, hc9] <;> rfl) (by simp [a_breaks, hc9] <;> rfl)
theorem r_worn {x : Int32} {y : Int32} (hR : RO R) (h : RefB I tp nt tr fa pl F S u r im ic) (hQ : YQ I L R tp nt (t_worn F (S 0) x y) fa pl F S u r im ic (a_worn F (S 0) x y) Q) : KK 8 mX12_worn b ad [.ref (b + 157), .int x, .int y] I L R Q := by
  have hO := h.2.2.1.1.2.2.1
  have o0 := hO.1
  have o1 := hO.2.1
  have o2 := hO.2.2.1
  have o3 := hO.2.2.2.1
  have o4 := hO.2.2.2.2.1
  have o5 := hO.2.2.2.2.2.1
  have o6 := hO.2.2.2.2.2.2.1
  have hK := h.2.2.1.2.2
  have hn20 := hK.1
  have hok : ∀ i, i < (S 0).1 → ok4 ((S 0).2.1 i) := fun i hi => (hK.2.1 i hi).1
  refine K.of (M := mX12_worn) (lv := [some (.ref (b + 157)), some (.int x), some (.int y), none]) (by decide) (Nat.le_of_ble_eq_true rfl) rfl ?_
  refine v_aload_0 dX12_worn_0 ?_
  refine u_callV_0 dX12_worn_1 ml_X12_173 mv_X12_good (by first | assumption | rfl | exact led_1 (by assumption) | exact led_2 (by assumption) | exact bk_m (by assumption) (by first | assumption | omega) | exact bk_p (by assumption) (by first | assumption | omega) | exact bk_o (by assumption) (by first | assumption | omega) | exact bk_s (by assumption) (by first | assumption | omega) | exact bk_1 (by assumption) | exact bk_2 (by assumption) | exact bk_3 (by assumption) | exact bk_4 (by assumption) | exact bk_5 (by assumption) | exact bk_6 (by assumption) | exact bk_7 (by assumption) | exact bk_8 (by assumption) | exact sh_ring _ (by first | assumption | omega) | exact sh_imgs _ (by first | assumption | omega)) (by decide) rfl (by decide) (Nat.le_of_ble_eq_true rfl) (c_X12_good ?_)
  have h := rf_good h
  have hr : RfI _ F (S 0) := h.2.2.1
  have hS := hr.2.1
  refine v_aload_0 dX12_worn_4 ?_
  refine v_iload_1 dX12_worn_5 ?_
  refine u_callV_1 dX12_worn_6 ml_X12_310 mv_X12_isPerson (by first | assumption | rfl | exact led_1 (by assumption) | exact led_2 (by assumption) | exact bk_m (by assumption) (by first | assumption | omega) | exact bk_p (by assumption) (by first | assumption | omega) | exact bk_o (by assumption) (by first | assumption | omega) | exact bk_s (by assumption) (by first | assumption | omega) | exact bk_1 (by assumption) | exact bk_2 (by assumption) | exact bk_3 (by assumption) | exact bk_4 (by assumption) | exact bk_5 (by assumption) | exact bk_6 (by assumption) | exact bk_7 (by assumption) | exact bk_8 (by assumption) | exact sh_ring _ (by first | assumption | omega) | exact sh_imgs _ (by first | assumption | omega)) (by decide) rfl (by decide) (Nat.le_of_ble_eq_true rfl) (c_X12_isPerson hR hr.1 ?_)
  refine v_if_ne (tgt := 18) dX12_worn_9 (by decide) (fun hc9 => ?_) (fun hc9 => ?_)
  · (first | rw [bI_0, Bool.not_eq_false] at hc9 | rw [bI_0] at hc9 | rw [show (0 : Int32) = nI 0 from rfl, nI_eq (by omega) (by omega)] at hc9 | skip)
    refine v_aload_0 dX12_worn_18 ?_
    refine v_iload_2 dX12_worn_19 ?_
    refine u_callV_1 dX12_worn_20 ml_X12_313 mv_X12_isDay (by first | assumption | rfl | exact led_1 (by assumption) | exact led_2 (by assumption) | exact bk_m (by assumption) (by first | assumption | omega) | exact bk_p (by assumption) (by first | assumption | omega) | exact bk_o (by assumption) (by first | assumption | omega) | exact bk_s (by assumption) (by first | assumption | omega) | exact bk_1 (by assumption) | exact bk_2 (by assumption) | exact bk_3 (by assumption) | exact bk_4 (by assumption) | exact bk_5 (by assumption) | exact bk_6 (by assumption) | exact bk_7 (by assumption) | exact bk_8 (by assumption) | exact sh_ring _ (by first | assumption | omega) | exact sh_imgs _ (by first | assumption | omega)) (by decide) rfl (by decide) (Nat.le_of_ble_eq_true rfl) (c_X12_isDay hR hr.1 ?_)
    refine v_if_ne (tgt := 32) dX12_worn_23 (by decide) (fun hc23 => ?_) (fun hc23 => ?_)
    · (first | rw [bI_0, Bool.not_eq_false] at hc23 | rw [bI_0] at hc23 | rw [show (0 : Int32) = nI 0 from rfl, nI_eq (by omega) (by omega)] at hc23 | skip)
      obtain ⟨p, rfl, hp⟩ := inb_ex (by omega) hc9
      have ep : tN (nI p) = p := tN_nI (by omega)
      obtain ⟨d, rfl, hd1, hd⟩ := ind_ex (by omega) hc23
      have ed : tN (nI d) = d := tN_nI (by omega)
      refine v_aload_0 dX12_worn_32 ?_
      refine u_getR dX12_worn_33 gf_X12_26 (by first | assumption | rfl | exact led_1 (by assumption) | exact led_2 (by assumption) | exact bk_m (by assumption) (by first | assumption | omega) | exact bk_p (by assumption) (by first | assumption | omega) | exact bk_o (by assumption) (by first | assumption | omega) | exact bk_s (by assumption) (by first | assumption | omega) | exact bk_1 (by assumption) | exact bk_2 (by assumption) | exact bk_3 (by assumption) | exact bk_4 (by assumption) | exact bk_5 (by assumption) | exact bk_6 (by assumption) | exact bk_7 (by assumption) | exact bk_8 (by assumption) | exact sh_ring _ (by first | assumption | omega) | exact sh_imgs _ (by first | assumption | omega)) (ro_X12_17 (by assumption)) ?_
      refine v_iload_1 dX12_worn_36 ?_
      refine v_iload_2 dX12_worn_37 ?_
      refine u_callS_3 dX12_worn_38 ml_X12_300 ms_X12_maskOf (by decide) (Nat.le_of_ble_eq_true rfl) (c_X12_maskOf (s := S 0) rfl hS hn20 hok (by omega) (by omega) ?_)
      refine v_istore_3 rfl dX12_worn_41 ?_
      cases hf : fup (hitp (S 0).2.1 p d d) 0 (S 0).1 with
      | none =>
        show VV _ _ _ _ _ _ _ _ _ [some (.ref (b + 157)), some (.int (nI p)), some (.int (nI d)), some (.int (-1))] _ _ _ _
        refine v_iload_3 dX12_worn_42 ?_
        refine v_if_ge (tgt := 51) dX12_worn_43 (by decide) (fun hc43 => ?_) (fun hc43 => ?_)
        · exact absurd hc43 (by decide)
        · (first | rw [show (0 : Int32) = nI 0 from rfl, nI_ltI (by omega) (by omega)] at hc43 | rw [show (0 : Int32) = nI 0 from rfl, nI_leI (by omega) (by omega)] at hc43 | skip)
          refine v_bipush (v := -2) dX12_worn_46 (by decide) ?_
          refine v_goto (tgt := 52) dX12_worn_48 (by decide) ?_
          refine v_iret dX12_worn_52 rfl rfl rfl rfl ?_
          exact hQ.fin h (fun x hx => by simp only [ui_ne (show x ≠ 157 by omega)]) (fun _ _ => rfl) (by simp [t_worn, trc, hc9, hc23]) (by simp [a_worn, hc9, hc23, ep, ed, hf, eM])
      | some i =>
        have hi : i < (S 0).1 := by have := fup_some hf; omega
        have hm6 := (hok i hi).1
        show VV _ _ _ _ _ _ _ _ _ [some (.ref (b + 157)), some (.int (nI p)), some (.int (nI d)), some (.int (nI ((S 0).2.1 i).1))] _ _ _ _
        refine v_iload_3 dX12_worn_42 ?_
        refine v_if_ge (tgt := 51) dX12_worn_43 (by decide) (fun hc43 => ?_) (fun hc43 => ?_)
        · (first | rw [show (0 : Int32) = nI 0 from rfl, nI_ltI (by omega) (by omega)] at hc43 | rw [show (0 : Int32) = nI 0 from rfl, nI_leI (by omega) (by omega)] at hc43 | skip)
          refine v_iload_3 dX12_worn_51 ?_
          refine v_iret dX12_worn_52 rfl rfl rfl rfl ?_
          exact hQ.fin h (fun x hx => by simp only [ui_ne (show x ≠ 157 by omega)]) (fun _ _ => rfl) (by simp [t_worn, trc, hc9, hc23]) (by simp [a_worn, hc9, hc23, ep, ed, hf, eM])
        · exact absurd (nI_pos2 (by omega)) hc43
    · (first | rw [bI_0, Bool.not_eq_false] at hc23 | rw [bI_0] at hc23 | rw [show (0 : Int32) = nI 0 from rfl, nI_eq (by omega) (by omega)] at hc23 | skip)
      refine v_aload_0 dX12_worn_26 ?_
      refine v_iconst (v := nI 2) dX12_worn_27 (by decide) ?_
      refine u_callV_1 dX12_worn_28 ml_X12_176 mv_X12_no (by first | assumption | rfl | exact led_1 (by assumption) | exact led_2 (by assumption) | exact bk_m (by assumption) (by first | assumption | omega) | exact bk_p (by assumption) (by first | assumption | omega) | exact bk_o (by assumption) (by first | assumption | omega) | exact bk_s (by assumption) (by first | assumption | omega) | exact bk_1 (by assumption) | exact bk_2 (by assumption) | exact bk_3 (by assumption) | exact bk_4 (by assumption) | exact bk_5 (by assumption) | exact bk_6 (by assumption) | exact bk_7 (by assumption) | exact bk_8 (by assumption) | exact sh_ring _ (by first | assumption | omega) | exact sh_imgs _ (by first | assumption | omega)) (by decide) rfl (by decide) (Nat.le_of_ble_eq_true rfl) (c_X12_no (k := 2) ?_)
      refine v_iret dX12_worn_31 rfl rfl rfl rfl ?_
      first
        | exact hQ.fin h (fun x hx => by simp only [ui_ne (show x ≠ 157 by omega)]) (fun _ _ => rfl) (by simp [t_worn, trc, hc9, hc23, ep, ed] <;> rfl) (by simp [a_worn, hc9, hc23, ep, ed] <;> rfl)
        | exact hQ.fin (rf_tr h (by decide)) (fun x hx => by simp only [ui_ne (show x ≠ 157 by omega)]) (fun _ _ => rfl) (by simp [t_worn, trc, hc9, hc23] <;> rfl) (by simp [a_worn, hc9, hc23] <;> rfl)
  · (first | rw [bI_0, Bool.not_eq_false] at hc9 | rw [bI_0] at hc9 | rw [show (0 : Int32) = nI 0 from rfl, nI_eq (by omega) (by omega)] at hc9 | skip)
    refine v_aload_0 dX12_worn_12 ?_
    refine v_iconst (v := nI 1) dX12_worn_13 (by decide) ?_
    refine u_callV_1 dX12_worn_14 ml_X12_176 mv_X12_no (by first | assumption | rfl | exact led_1 (by assumption) | exact led_2 (by assumption) | exact bk_m (by assumption) (by first | assumption | omega) | exact bk_p (by assumption) (by first | assumption | omega) | exact bk_o (by assumption) (by first | assumption | omega) | exact bk_s (by assumption) (by first | assumption | omega) | exact bk_1 (by assumption) | exact bk_2 (by assumption) | exact bk_3 (by assumption) | exact bk_4 (by assumption) | exact bk_5 (by assumption) | exact bk_6 (by assumption) | exact bk_7 (by assumption) | exact bk_8 (by assumption) | exact sh_ring _ (by first | assumption | omega) | exact sh_imgs _ (by first | assumption | omega)) (by decide) rfl (by decide) (Nat.le_of_ble_eq_true rfl) (c_X12_no (k := 1) ?_)
    refine v_iret dX12_worn_17 rfl rfl rfl rfl ?_
    first
      | exact hQ.fin h (fun x hx => by simp only [ui_ne (show x ≠ 157 by omega)]) (fun _ _ => rfl) (by simp [t_worn, trc, hc9, ep, ed] <;> rfl) (by simp [a_worn, hc9, ep, ed] <;> rfl)
      | exact hQ.fin (rf_tr h (by decide)) (fun x hx => by simp only [ui_ne (show x ≠ 157 by omega)]) (fun _ _ => rfl) (by simp [t_worn, trc, hc9] <;> rfl) (by simp [a_worn, hc9] <;> rfl)
theorem r_guild  (hR : RO R) (h : RefB I tp nt tr fa pl F S u r im ic) (hQ : YQ I L R tp nt (t_guild F (S 0) ) fa pl F S u r im ic (a_guild F (S 0) ) Q) : KK 8 mX12_guild b ad [.ref (b + 157)] I L R Q := by
  have hO := h.2.2.1.1.2.2.1
  have o0 := hO.1
  have o1 := hO.2.1
  have o2 := hO.2.2.1
  have o3 := hO.2.2.2.1
  have o4 := hO.2.2.2.2.1
  have o5 := hO.2.2.2.2.2.1
  have o6 := hO.2.2.2.2.2.2.1
  have hK := h.2.2.1.2.2
  have hn20 := hK.1
  have hok : ∀ i, i < (S 0).1 → ok4 ((S 0).2.1 i) := fun i hi => (hK.2.1 i hi).1
  refine K.of (M := mX12_guild) (lv := [some (.ref (b + 157))]) (by decide) (Nat.le_of_ble_eq_true rfl) rfl ?_
  refine v_aload_0 dX12_guild_0 ?_
  refine u_callV_0 dX12_guild_1 ml_X12_173 mv_X12_good (by first | assumption | rfl | exact led_1 (by assumption) | exact led_2 (by assumption) | exact bk_m (by assumption) (by first | assumption | omega) | exact bk_p (by assumption) (by first | assumption | omega) | exact bk_o (by assumption) (by first | assumption | omega) | exact bk_s (by assumption) (by first | assumption | omega) | exact bk_1 (by assumption) | exact bk_2 (by assumption) | exact bk_3 (by assumption) | exact bk_4 (by assumption) | exact bk_5 (by assumption) | exact bk_6 (by assumption) | exact bk_7 (by assumption) | exact bk_8 (by assumption) | exact sh_ring _ (by first | assumption | omega) | exact sh_imgs _ (by first | assumption | omega)) (by decide) rfl (by decide) (Nat.le_of_ble_eq_true rfl) (c_X12_good ?_)
  have h := rf_good h
  have hr : RfI _ F (S 0) := h.2.2.1
  have hS := hr.2.1
  refine v_aload_0 dX12_guild_4 ?_
  refine u_getI dX12_guild_5 gf_X12_186 (by first | assumption | rfl | exact led_1 (by assumption) | exact led_2 (by assumption) | exact bk_m (by assumption) (by first | assumption | omega) | exact bk_p (by assumption) (by first | assumption | omega) | exact bk_o (by assumption) (by first | assumption | omega) | exact bk_s (by assumption) (by first | assumption | omega) | exact bk_1 (by assumption) | exact bk_2 (by assumption) | exact bk_3 (by assumption) | exact bk_4 (by assumption) | exact bk_5 (by assumption) | exact bk_6 (by assumption) | exact bk_7 (by assumption) | exact bk_8 (by assumption) | exact sh_ring _ (by first | assumption | omega) | exact sh_imgs _ (by first | assumption | omega)) ?_
  rw [show _ = bI (decide (0 < F 0)) from hr.1.2.1]
  refine v_if_eq (tgt := 22) dX12_guild_8 (by decide) (fun hc8 => ?_) (fun hc8 => ?_)
  · (first | rw [bI_0, Bool.not_eq_false] at hc8 | rw [bI_0] at hc8 | rw [show (0 : Int32) = nI 0 from rfl, nI_eq (by omega) (by omega)] at hc8 | skip)
    refine v_aload_0 dX12_guild_22 ?_
    refine v_iconst (v := nI 1) dX12_guild_23 (by decide) ?_
    refine u_callV_1 dX12_guild_24 ml_X12_176 mv_X12_no (by first | assumption | rfl | exact led_1 (by assumption) | exact led_2 (by assumption) | exact bk_m (by assumption) (by first | assumption | omega) | exact bk_p (by assumption) (by first | assumption | omega) | exact bk_o (by assumption) (by first | assumption | omega) | exact bk_s (by assumption) (by first | assumption | omega) | exact bk_1 (by assumption) | exact bk_2 (by assumption) | exact bk_3 (by assumption) | exact bk_4 (by assumption) | exact bk_5 (by assumption) | exact bk_6 (by assumption) | exact bk_7 (by assumption) | exact bk_8 (by assumption) | exact sh_ring _ (by first | assumption | omega) | exact sh_imgs _ (by first | assumption | omega)) (by decide) rfl (by decide) (Nat.le_of_ble_eq_true rfl) (c_X12_no (k := 1) ?_)
    refine v_iret dX12_guild_27 rfl rfl rfl rfl ?_
    first
      | exact hQ.fin h (fun x hx => by simp only [ui_ne (show x ≠ 157 by omega)]) (fun _ _ => rfl) (by simp [t_guild, trc, hc8, hgu] <;> rfl) (by simp [a_guild, hc8, hgu] <;> rfl)
      | exact hQ.fin (rf_tr h (by decide)) (fun x hx => by simp only [ui_ne (show x ≠ 157 by omega)]) (fun _ _ => rfl) (by simp [t_guild, trc, hc8] <;> rfl) (by simp [a_guild, hc8] <;> rfl)
  · (first | rw [bI_0, Bool.not_eq_false] at hc8 | rw [bI_0] at hc8 | rw [show (0 : Int32) = nI 0 from rfl, nI_eq (by omega) (by omega)] at hc8 | skip)
    have hgu : sui (finesf F (S 0).1 (S 0).2.1 (S 0).2.2 none 20) 0 (F 4) 0 = sui (finesf F (S 0).1 (S 0).2.1 (S 0).2.2 none (F 0)) 0 (F 4) 0 := sui_cg _ _ _ (fun k _ hk => by
      obtain ⟨y1, y2, y3, y4, y5, y6, y7⟩ := fk_o hO (show k < F 4 by omega)
      unfold finesf; rw [if_pos (show F (58 + 6 * k) ≤ 20 by omega), if_pos (show F (58 + 6 * k) ≤ F 0 by omega)])
    have hcg : decide (0 < F 0) = true := hc8
    refine v_aload_0 dX12_guild_11 ?_
    refine v_bipush (v := -2) dX12_guild_12 (by decide) ?_
    refine v_bipush (v := nI 20) dX12_guild_14 (by decide) ?_
    refine u_callV_2 dX12_guild_16 ml_X12_340 mv_X12_debtOf (by first | assumption | rfl | exact led_1 (by assumption) | exact led_2 (by assumption) | exact bk_m (by assumption) (by first | assumption | omega) | exact bk_p (by assumption) (by first | assumption | omega) | exact bk_o (by assumption) (by first | assumption | omega) | exact bk_s (by assumption) (by first | assumption | omega) | exact bk_1 (by assumption) | exact bk_2 (by assumption) | exact bk_3 (by assumption) | exact bk_4 (by assumption) | exact bk_5 (by assumption) | exact bk_6 (by assumption) | exact bk_7 (by assumption) | exact bk_8 (by assumption) | exact sh_ring _ (by first | assumption | omega) | exact sh_imgs _ (by first | assumption | omega)) (by decide) rfl (by decide) (Nat.le_of_ble_eq_true rfl) (c_X12_debtOf (od := none) (d := 20) hR hr (fun z e => by cases e) (by decide) ?_)
    refine v_goto (tgt := 27) dX12_guild_19 (by decide) ?_
    refine v_iret dX12_guild_27 rfl rfl rfl rfl ?_
    first
      | exact hQ.fin h (fun x hx => by simp only [ui_ne (show x ≠ 157 by omega)]) (fun _ _ => rfl) (by simp [t_guild, trc, hc8, hgu] <;> rfl) (by simp [a_guild, hc8, hgu] <;> rfl)
      | exact hQ.fin (rf_tr h (by decide)) (fun x hx => by simp only [ui_ne (show x ≠ 157 by omega)]) (fun _ _ => rfl) (by simp [t_guild, trc, hc8] <;> rfl) (by simp [a_guild, hc8] <;> rfl)
theorem r_mask {x : Int32} {y : Int32} (hR : RO R) (h : RefB I tp nt tr fa pl F S u r im ic) (hQ : YQ I L R tp nt (t_mask F (S 0) x y) fa pl F S u r im ic (a_mask F (S 0) x y) Q) : KK 8 mX12_mask b ad [.ref (b + 157), .int x, .int y] I L R Q := by
  have hO := h.2.2.1.1.2.2.1
  have o0 := hO.1
  have o1 := hO.2.1
  have o2 := hO.2.2.1
  have o3 := hO.2.2.2.1
  have o4 := hO.2.2.2.2.1
  have o5 := hO.2.2.2.2.2.1
  have o6 := hO.2.2.2.2.2.2.1
  have hK := h.2.2.1.2.2
  have hn20 := hK.1
  have hok : ∀ i, i < (S 0).1 → ok4 ((S 0).2.1 i) := fun i hi => (hK.2.1 i hi).1
  refine K.of (M := mX12_mask) (lv := [some (.ref (b + 157)), some (.int x), some (.int y)]) (by decide) (Nat.le_of_ble_eq_true rfl) rfl ?_
  refine v_aload_0 dX12_mask_0 ?_
  refine u_callV_0 dX12_mask_1 ml_X12_173 mv_X12_good (by first | assumption | rfl | exact led_1 (by assumption) | exact led_2 (by assumption) | exact bk_m (by assumption) (by first | assumption | omega) | exact bk_p (by assumption) (by first | assumption | omega) | exact bk_o (by assumption) (by first | assumption | omega) | exact bk_s (by assumption) (by first | assumption | omega) | exact bk_1 (by assumption) | exact bk_2 (by assumption) | exact bk_3 (by assumption) | exact bk_4 (by assumption) | exact bk_5 (by assumption) | exact bk_6 (by assumption) | exact bk_7 (by assumption) | exact bk_8 (by assumption) | exact sh_ring _ (by first | assumption | omega) | exact sh_imgs _ (by first | assumption | omega)) (by decide) rfl (by decide) (Nat.le_of_ble_eq_true rfl) (c_X12_good ?_)
  have h := rf_good h
  have hr : RfI _ F (S 0) := h.2.2.1
  have hS := hr.2.1
  refine v_aload_0 dX12_mask_4 ?_
  refine v_iload_1 dX12_mask_5 ?_
  refine u_callV_1 dX12_mask_6 ml_X12_307 mv_X12_isMask (by first | assumption | rfl | exact led_1 (by assumption) | exact led_2 (by assumption) | exact bk_m (by assumption) (by first | assumption | omega) | exact bk_p (by assumption) (by first | assumption | omega) | exact bk_o (by assumption) (by first | assumption | omega) | exact bk_s (by assumption) (by first | assumption | omega) | exact bk_1 (by assumption) | exact bk_2 (by assumption) | exact bk_3 (by assumption) | exact bk_4 (by assumption) | exact bk_5 (by assumption) | exact bk_6 (by assumption) | exact bk_7 (by assumption) | exact bk_8 (by assumption) | exact sh_ring _ (by first | assumption | omega) | exact sh_imgs _ (by first | assumption | omega)) (by decide) rfl (by decide) (Nat.le_of_ble_eq_true rfl) (c_X12_isMask hR hr.1 ?_)
  refine v_if_eq (tgt := 42) dX12_mask_9 (by decide) (fun hc9 => ?_) (fun hc9 => ?_)
  · (first | rw [bI_0, Bool.not_eq_false] at hc9 | rw [bI_0] at hc9 | rw [show (0 : Int32) = nI 0 from rfl, nI_eq (by omega) (by omega)] at hc9 | skip)
    refine v_aload_0 dX12_mask_42 ?_
    refine v_iconst (v := nI 1) dX12_mask_43 (by decide) ?_
    refine u_callV_1 dX12_mask_44 ml_X12_176 mv_X12_no (by first | assumption | rfl | exact led_1 (by assumption) | exact led_2 (by assumption) | exact bk_m (by assumption) (by first | assumption | omega) | exact bk_p (by assumption) (by first | assumption | omega) | exact bk_o (by assumption) (by first | assumption | omega) | exact bk_s (by assumption) (by first | assumption | omega) | exact bk_1 (by assumption) | exact bk_2 (by assumption) | exact bk_3 (by assumption) | exact bk_4 (by assumption) | exact bk_5 (by assumption) | exact bk_6 (by assumption) | exact bk_7 (by assumption) | exact bk_8 (by assumption) | exact sh_ring _ (by first | assumption | omega) | exact sh_imgs _ (by first | assumption | omega)) (by decide) rfl (by decide) (Nat.le_of_ble_eq_true rfl) (c_X12_no (k := 1) ?_)
    refine v_iret dX12_mask_47 rfl rfl rfl rfl ?_
    first
      | exact hQ.fin h (fun x hx => by simp only [ui_ne (show x ≠ 157 by omega)]) (fun _ _ => rfl) (trc_0 hcm).symm (by rw [a_mask, if_pos hcm, em]; first | rw [if_pos hc26] | rw [if_neg hc26])
      | exact hQ.fin (rf_tr h (by decide)) (fun x hx => by simp only [ui_ne (show x ≠ 157 by omega)]) (fun _ _ => rfl) (by have q2 : (inb x (F 2) && decide (0 ≤ y) && decide (y ≤ nI 1)) = false := (by rw [Bool.and_assoc, show (decide ((0 : Int32) ≤ y) && decide (y ≤ nI 1)) = false from hc18, Bool.and_false]); rw [t_mask, q2]; rfl) (by have q2 : (inb x (F 2) && decide (0 ≤ y) && decide (y ≤ nI 1)) = false := (by rw [Bool.and_assoc, show (decide ((0 : Int32) ≤ y) && decide (y ≤ nI 1)) = false from hc18, Bool.and_false]); rw [a_mask, q2]; rfl)
      | exact hQ.fin (rf_tr h (by decide)) (fun x hx => by simp only [ui_ne (show x ≠ 157 by omega)]) (fun _ _ => rfl) (by simp [t_mask, trc, hc9] <;> rfl) (by simp [a_mask, hc9] <;> rfl)
  · (first | rw [bI_0, Bool.not_eq_false] at hc9 | rw [bI_0] at hc9 | rw [show (0 : Int32) = nI 0 from rfl, nI_eq (by omega) (by omega)] at hc9 | skip)
    refine v_iload_2 dX12_mask_12 ?_
    refine v_iconst (v := nI 0) dX12_mask_13 (by decide) ?_
    refine v_iconst (v := nI 1) dX12_mask_14 (by decide) ?_
    refine u_callS_3 dX12_mask_15 ml_X12_154 ms_X12_within (by decide) (Nat.le_of_ble_eq_true rfl) (c_X12_within ?_)
    refine v_if_eq (tgt := 42) dX12_mask_18 (by decide) (fun hc18 => ?_) (fun hc18 => ?_)
    · (first | rw [bI_0, Bool.not_eq_false] at hc18 | rw [bI_0] at hc18 | rw [show (0 : Int32) = nI 0 from rfl, nI_eq (by omega) (by omega)] at hc18 | skip)
      refine v_aload_0 dX12_mask_42 ?_
      refine v_iconst (v := nI 1) dX12_mask_43 (by decide) ?_
      refine u_callV_1 dX12_mask_44 ml_X12_176 mv_X12_no (by first | assumption | rfl | exact led_1 (by assumption) | exact led_2 (by assumption) | exact bk_m (by assumption) (by first | assumption | omega) | exact bk_p (by assumption) (by first | assumption | omega) | exact bk_o (by assumption) (by first | assumption | omega) | exact bk_s (by assumption) (by first | assumption | omega) | exact bk_1 (by assumption) | exact bk_2 (by assumption) | exact bk_3 (by assumption) | exact bk_4 (by assumption) | exact bk_5 (by assumption) | exact bk_6 (by assumption) | exact bk_7 (by assumption) | exact bk_8 (by assumption) | exact sh_ring _ (by first | assumption | omega) | exact sh_imgs _ (by first | assumption | omega)) (by decide) rfl (by decide) (Nat.le_of_ble_eq_true rfl) (c_X12_no (k := 1) ?_)
      refine v_iret dX12_mask_47 rfl rfl rfl rfl ?_
      first
        | exact hQ.fin h (fun x hx => by simp only [ui_ne (show x ≠ 157 by omega)]) (fun _ _ => rfl) (trc_0 hcm).symm (by rw [a_mask, if_pos hcm, em]; first | rw [if_pos hc26] | rw [if_neg hc26])
        | exact hQ.fin (rf_tr h (by decide)) (fun x hx => by simp only [ui_ne (show x ≠ 157 by omega)]) (fun _ _ => rfl) (by have q2 : (inb x (F 2) && decide (0 ≤ y) && decide (y ≤ nI 1)) = false := (by rw [Bool.and_assoc, show (decide ((0 : Int32) ≤ y) && decide (y ≤ nI 1)) = false from hc18, Bool.and_false]); rw [t_mask, q2]; rfl) (by have q2 : (inb x (F 2) && decide (0 ≤ y) && decide (y ≤ nI 1)) = false := (by rw [Bool.and_assoc, show (decide ((0 : Int32) ≤ y) && decide (y ≤ nI 1)) = false from hc18, Bool.and_false]); rw [a_mask, q2]; rfl)
        | exact hQ.fin (rf_tr h (by decide)) (fun x hx => by simp only [ui_ne (show x ≠ 157 by omega)]) (fun _ _ => rfl) (by simp [t_mask, trc, hc9, hc18] <;> rfl) (by simp [a_mask, hc9, hc18] <;> rfl)
    · (first | rw [bI_0, Bool.not_eq_false] at hc18 | rw [bI_0] at hc18 | rw [show (0 : Int32) = nI 0 from rfl, nI_eq (by omega) (by omega)] at hc18 | skip)
      obtain ⟨m, rfl, hm⟩ := inb_ex (by omega) hc9
      have em : tN (nI m) = m := tN_nI (by omega)
      have hcm : ((inb (nI m) (F 2) && decide (0 ≤ y) && decide (y ≤ nI 1)) && true) = true := (by rw [Bool.and_true, Bool.and_assoc, hc9, Bool.true_and]; exact hc18)
      refine v_aload_0 dX12_mask_21 ?_
      refine u_getR dX12_mask_22 gf_X12_20 (by first | assumption | rfl | exact led_1 (by assumption) | exact led_2 (by assumption) | exact bk_m (by assumption) (by first | assumption | omega) | exact bk_p (by assumption) (by first | assumption | omega) | exact bk_o (by assumption) (by first | assumption | omega) | exact bk_s (by assumption) (by first | assumption | omega) | exact bk_1 (by assumption) | exact bk_2 (by assumption) | exact bk_3 (by assumption) | exact bk_4 (by assumption) | exact bk_5 (by assumption) | exact bk_6 (by assumption) | exact bk_7 (by assumption) | exact bk_8 (by assumption) | exact sh_ring _ (by first | assumption | omega) | exact sh_imgs _ (by first | assumption | omega)) (ro_X12_15 (by assumption)) ?_
      refine v_iload_2 dX12_mask_25 ?_
      refine v_if_ne (tgt := 34) dX12_mask_26 (by decide) (fun hc26 => ?_) (fun hc26 => ?_)
      · skip
        refine v_bipush (v := nI 14) dX12_mask_34 (by decide) ?_
        refine v_iload_1 dX12_mask_36 ?_
        refine v_iadd dX12_mask_37 ?_
        refine u_iald dX12_mask_38 (by first | assumption | rfl | exact led_1 (by assumption) | exact led_2 (by assumption) | exact bk_m (by assumption) (by first | assumption | omega) | exact bk_p (by assumption) (by first | assumption | omega) | exact bk_o (by assumption) (by first | assumption | omega) | exact bk_s (by assumption) (by first | assumption | omega) | exact bk_1 (by assumption) | exact bk_2 (by assumption) | exact bk_3 (by assumption) | exact bk_4 (by assumption) | exact bk_5 (by assumption) | exact bk_6 (by assumption) | exact bk_7 (by assumption) | exact bk_8 (by assumption) | exact sh_ring _ (by first | assumption | omega) | exact sh_imgs _ (by first | assumption | omega)) (by first | with_reducible rfl | (simp only [nlit, nI_add, pk_mul]; with_reducible rfl) | rfl) (by first | assumption | omega) (by first | assumption | decide) ?_
        rw [hr.1.1.2 _ (by omega)]
        refine v_goto (tgt := 47) dX12_mask_39 (by decide) ?_
        refine v_iret dX12_mask_47 rfl rfl rfl rfl ?_
        first
          | exact hQ.fin h (fun x hx => by simp only [ui_ne (show x ≠ 157 by omega)]) (fun _ _ => rfl) (trc_0 hcm).symm (by rw [a_mask, if_pos hcm, em]; first | rw [if_pos hc26] | rw [if_neg hc26])
          | exact hQ.fin (rf_tr h (by decide)) (fun x hx => by simp only [ui_ne (show x ≠ 157 by omega)]) (fun _ _ => rfl) (by have q2 : (inb x (F 2) && decide (0 ≤ y) && decide (y ≤ nI 1)) = false := (by rw [Bool.and_assoc, show (decide ((0 : Int32) ≤ y) && decide (y ≤ nI 1)) = false from hc18, Bool.and_false]); rw [t_mask, q2]; rfl) (by have q2 : (inb x (F 2) && decide (0 ≤ y) && decide (y ≤ nI 1)) = false := (by rw [Bool.and_assoc, show (decide ((0 : Int32) ≤ y) && decide (y ≤ nI 1)) = false from hc18, Bool.and_false]); rw [a_mask, q2]; rfl)
          | exact hQ.fin (rf_tr h (by decide)) (fun x hx => by simp only [ui_ne (show x ≠ 157 by omega)]) (fun _ _ => rfl) (by simp [t_mask, trc, hc9, hc18, hc26] <;> rfl) (by simp [a_mask, hc9, hc18, hc26] <;> rfl)
      · skip
        refine v_bipush (v := nI 8) dX12_mask_29 (by decide) ?_
        refine v_goto (tgt := 36) dX12_mask_31 (by decide) ?_
        refine v_iload_1 dX12_mask_36 ?_
        refine v_iadd dX12_mask_37 ?_
        refine u_iald dX12_mask_38 (by first | assumption | rfl | exact led_1 (by assumption) | exact led_2 (by assumption) | exact bk_m (by assumption) (by first | assumption | omega) | exact bk_p (by assumption) (by first | assumption | omega) | exact bk_o (by assumption) (by first | assumption | omega) | exact bk_s (by assumption) (by first | assumption | omega) | exact bk_1 (by assumption) | exact bk_2 (by assumption) | exact bk_3 (by assumption) | exact bk_4 (by assumption) | exact bk_5 (by assumption) | exact bk_6 (by assumption) | exact bk_7 (by assumption) | exact bk_8 (by assumption) | exact sh_ring _ (by first | assumption | omega) | exact sh_imgs _ (by first | assumption | omega)) (by first | with_reducible rfl | (simp only [nlit, nI_add, pk_mul]; with_reducible rfl) | rfl) (by first | assumption | omega) (by first | assumption | decide) ?_
        rw [hr.1.1.2 _ (by omega)]
        refine v_goto (tgt := 47) dX12_mask_39 (by decide) ?_
        refine v_iret dX12_mask_47 rfl rfl rfl rfl ?_
        first
          | exact hQ.fin h (fun x hx => by simp only [ui_ne (show x ≠ 157 by omega)]) (fun _ _ => rfl) (trc_0 hcm).symm (by rw [a_mask, if_pos hcm, em]; first | rw [if_pos hc26] | rw [if_neg hc26])
          | exact hQ.fin (rf_tr h (by decide)) (fun x hx => by simp only [ui_ne (show x ≠ 157 by omega)]) (fun _ _ => rfl) (by have q2 : (inb x (F 2) && decide (0 ≤ y) && decide (y ≤ nI 1)) = false := (by rw [Bool.and_assoc, show (decide ((0 : Int32) ≤ y) && decide (y ≤ nI 1)) = false from hc18, Bool.and_false]); rw [t_mask, q2]; rfl) (by have q2 : (inb x (F 2) && decide (0 ≤ y) && decide (y ≤ nI 1)) = false := (by rw [Bool.and_assoc, show (decide ((0 : Int32) ≤ y) && decide (y ≤ nI 1)) = false from hc18, Bool.and_false]); rw [a_mask, q2]; rfl)
          | exact hQ.fin (rf_tr h (by decide)) (fun x hx => by simp only [ui_ne (show x ≠ 157 by omega)]) (fun _ _ => rfl) (by simp [t_mask, trc, hc9, hc18, hc26] <;> rfl) (by simp [a_mask, hc9, hc18, hc26] <;> rfl)
theorem r_person {x : Int32} {y : Int32} (hR : RO R) (h : RefB I tp nt tr fa pl F S u r im ic) (hQ : YQ I L R tp nt (t_person F (S 0) x y) fa pl F S u r im ic (a_person F (S 0) x y) Q) : KK 8 mX12_person b ad [.ref (b + 157), .int x, .int y] I L R Q := by
  have hO := h.2.2.1.1.2.2.1
  have o0 := hO.1
  have o1 := hO.2.1
  have o2 := hO.2.2.1
  have o3 := hO.2.2.2.1
  have o4 := hO.2.2.2.2.1
  have o5 := hO.2.2.2.2.2.1
  have o6 := hO.2.2.2.2.2.2.1
  have hK := h.2.2.1.2.2
  have hn20 := hK.1
  have hok : ∀ i, i < (S 0).1 → ok4 ((S 0).2.1 i) := fun i hi => (hK.2.1 i hi).1
  refine K.of (M := mX12_person) (lv := [some (.ref (b + 157)), some (.int x), some (.int y)]) (by decide) (Nat.le_of_ble_eq_true rfl) rfl ?_
  refine v_aload_0 dX12_person_0 ?_
  refine u_callV_0 dX12_person_1 ml_X12_173 mv_X12_good (by first | assumption | rfl | exact led_1 (by assumption) | exact led_2 (by assumption) | exact bk_m (by assumption) (by first | assumption | omega) | exact bk_p (by assumption) (by first | assumption | omega) | exact bk_o (by assumption) (by first | assumption | omega) | exact bk_s (by assumption) (by first | assumption | omega) | exact bk_1 (by assumption) | exact bk_2 (by assumption) | exact bk_3 (by assumption) | exact bk_4 (by assumption) | exact bk_5 (by assumption) | exact bk_6 (by assumption) | exact bk_7 (by assumption) | exact bk_8 (by assumption) | exact sh_ring _ (by first | assumption | omega) | exact sh_imgs _ (by first | assumption | omega)) (by decide) rfl (by decide) (Nat.le_of_ble_eq_true rfl) (c_X12_good ?_)
  have h := rf_good h
  have hr : RfI _ F (S 0) := h.2.2.1
  have hS := hr.2.1
  refine v_aload_0 dX12_person_4 ?_
  refine v_iload_1 dX12_person_5 ?_
  refine u_callV_1 dX12_person_6 ml_X12_310 mv_X12_isPerson (by first | assumption | rfl | exact led_1 (by assumption) | exact led_2 (by assumption) | exact bk_m (by assumption) (by first | assumption | omega) | exact bk_p (by assumption) (by first | assumption | omega) | exact bk_o (by assumption) (by first | assumption | omega) | exact bk_s (by assumption) (by first | assumption | omega) | exact bk_1 (by assumption) | exact bk_2 (by assumption) | exact bk_3 (by assumption) | exact bk_4 (by assumption) | exact bk_5 (by assumption) | exact bk_6 (by assumption) | exact bk_7 (by assumption) | exact bk_8 (by assumption) | exact sh_ring _ (by first | assumption | omega) | exact sh_imgs _ (by first | assumption | omega)) (by decide) rfl (by decide) (Nat.le_of_ble_eq_true rfl) (c_X12_isPerson hR hr.1 ?_)
  refine v_if_eq (tgt := 38) dX12_person_9 (by decide) (fun hc9 => ?_) (fun hc9 => ?_)
  · (first | rw [bI_0, Bool.not_eq_false] at hc9 | rw [bI_0] at hc9 | rw [show (0 : Int32) = nI 0 from rfl, nI_eq (by omega) (by omega)] at hc9 | skip)
    refine v_aload_0 dX12_person_38 ?_
    refine v_iconst (v := nI 1) dX12_person_39 (by decide) ?_
    refine u_callV_1 dX12_person_40 ml_X12_176 mv_X12_no (by first | assumption | rfl | exact led_1 (by assumption) | exact led_2 (by assumption) | exact bk_m (by assumption) (by first | assumption | omega) | exact bk_p (by assumption) (by first | assumption | omega) | exact bk_o (by assumption) (by first | assumption | omega) | exact bk_s (by assumption) (by first | assumption | omega) | exact bk_1 (by assumption) | exact bk_2 (by assumption) | exact bk_3 (by assumption) | exact bk_4 (by assumption) | exact bk_5 (by assumption) | exact bk_6 (by assumption) | exact bk_7 (by assumption) | exact bk_8 (by assumption) | exact sh_ring _ (by first | assumption | omega) | exact sh_imgs _ (by first | assumption | omega)) (by decide) rfl (by decide) (Nat.le_of_ble_eq_true rfl) (c_X12_no (k := 1) ?_)
    refine v_iret dX12_person_43 rfl rfl rfl rfl ?_
    first
      | exact hQ.fin h (fun x hx => by simp only [ui_ne (show x ≠ 157 by omega)]) (fun _ _ => rfl) (by simp [t_person, trc, hc9, h5]) (by simp [a_person, hc9, h5, ep, ew])
      | exact hQ.fin (rf_tr h (by decide)) (fun x hx => by simp only [ui_ne (show x ≠ 157 by omega)]) (fun _ _ => rfl) (by have h5 : inb y 5 = false := (by rw [inb5]; exact hc18); simp [t_person, trc, hc9, h5]) (by have h5 : inb y 5 = false := (by rw [inb5]; exact hc18); simp [a_person, hc9, h5])
      | exact hQ.fin (rf_tr h (by decide)) (fun x hx => by simp only [ui_ne (show x ≠ 157 by omega)]) (fun _ _ => rfl) (by simp [t_person, trc, hc9] <;> rfl) (by simp [a_person, hc9] <;> rfl)
  · (first | rw [bI_0, Bool.not_eq_false] at hc9 | rw [bI_0] at hc9 | rw [show (0 : Int32) = nI 0 from rfl, nI_eq (by omega) (by omega)] at hc9 | skip)
    refine v_iload_2 dX12_person_12 ?_
    refine v_iconst (v := nI 0) dX12_person_13 (by decide) ?_
    refine v_iconst (v := nI 4) dX12_person_14 (by decide) ?_
    refine u_callS_3 dX12_person_15 ml_X12_154 ms_X12_within (by decide) (Nat.le_of_ble_eq_true rfl) (c_X12_within ?_)
    refine v_if_eq (tgt := 38) dX12_person_18 (by decide) (fun hc18 => ?_) (fun hc18 => ?_)
    · (first | rw [bI_0, Bool.not_eq_false] at hc18 | rw [bI_0] at hc18 | rw [show (0 : Int32) = nI 0 from rfl, nI_eq (by omega) (by omega)] at hc18 | skip)
      refine v_aload_0 dX12_person_38 ?_
      refine v_iconst (v := nI 1) dX12_person_39 (by decide) ?_
      refine u_callV_1 dX12_person_40 ml_X12_176 mv_X12_no (by first | assumption | rfl | exact led_1 (by assumption) | exact led_2 (by assumption) | exact bk_m (by assumption) (by first | assumption | omega) | exact bk_p (by assumption) (by first | assumption | omega) | exact bk_o (by assumption) (by first | assumption | omega) | exact bk_s (by assumption) (by first | assumption | omega) | exact bk_1 (by assumption) | exact bk_2 (by assumption) | exact bk_3 (by assumption) | exact bk_4 (by assumption) | exact bk_5 (by assumption) | exact bk_6 (by assumption) | exact bk_7 (by assumption) | exact bk_8 (by assumption) | exact sh_ring _ (by first | assumption | omega) | exact sh_imgs _ (by first | assumption | omega)) (by decide) rfl (by decide) (Nat.le_of_ble_eq_true rfl) (c_X12_no (k := 1) ?_)
      refine v_iret dX12_person_43 rfl rfl rfl rfl ?_
      first
        | exact hQ.fin h (fun x hx => by simp only [ui_ne (show x ≠ 157 by omega)]) (fun _ _ => rfl) (by simp [t_person, trc, hc9, h5]) (by simp [a_person, hc9, h5, ep, ew])
        | exact hQ.fin (rf_tr h (by decide)) (fun x hx => by simp only [ui_ne (show x ≠ 157 by omega)]) (fun _ _ => rfl) (by have h5 : inb y 5 = false := (by rw [inb5]; exact hc18); simp [t_person, trc, hc9, h5]) (by have h5 : inb y 5 = false := (by rw [inb5]; exact hc18); simp [a_person, hc9, h5])
        | exact hQ.fin (rf_tr h (by decide)) (fun x hx => by simp only [ui_ne (show x ≠ 157 by omega)]) (fun _ _ => rfl) (by simp [t_person, trc, hc9, hc18] <;> rfl) (by simp [a_person, hc9, hc18] <;> rfl)
    · (first | rw [bI_0, Bool.not_eq_false] at hc18 | rw [bI_0] at hc18 | rw [show (0 : Int32) = nI 0 from rfl, nI_eq (by omega) (by omega)] at hc18 | skip)
      obtain ⟨p, rfl, hp⟩ := inb_ex (by omega) hc9
      have ep : tN (nI p) = p := tN_nI (by omega)
      have h5 : inb y 5 = true := by rw [inb5]; exact hc18
      obtain ⟨w, rfl, hw⟩ := inb_ex (by omega) h5
      have ew : tN (nI w) = w := tN_nI (by omega)
      refine v_aload_0 dX12_person_21 ?_
      refine u_getR dX12_person_22 gf_X12_20 (by first | assumption | rfl | exact led_1 (by assumption) | exact led_2 (by assumption) | exact bk_m (by assumption) (by first | assumption | omega) | exact bk_p (by assumption) (by first | assumption | omega) | exact bk_o (by assumption) (by first | assumption | omega) | exact bk_s (by assumption) (by first | assumption | omega) | exact bk_1 (by assumption) | exact bk_2 (by assumption) | exact bk_3 (by assumption) | exact bk_4 (by assumption) | exact bk_5 (by assumption) | exact bk_6 (by assumption) | exact bk_7 (by assumption) | exact bk_8 (by assumption) | exact sh_ring _ (by first | assumption | omega) | exact sh_imgs _ (by first | assumption | omega)) (ro_X12_15 (by assumption)) ?_
      refine v_bipush (v := nI 26) dX12_person_25 (by decide) ?_
      refine v_bipush (v := nI 6) dX12_person_27 (by decide) ?_
      refine v_iload_2 dX12_person_29 ?_
      refine v_imul dX12_person_30 ?_
      refine v_iadd dX12_person_31 ?_
      refine v_iload_1 dX12_person_32 ?_
      refine v_iadd dX12_person_33 ?_
      refine u_iald dX12_person_34 (by first | assumption | rfl | exact led_1 (by assumption) | exact led_2 (by assumption) | exact bk_m (by assumption) (by first | assumption | omega) | exact bk_p (by assumption) (by first | assumption | omega) | exact bk_o (by assumption) (by first | assumption | omega) | exact bk_s (by assumption) (by first | assumption | omega) | exact bk_1 (by assumption) | exact bk_2 (by assumption) | exact bk_3 (by assumption) | exact bk_4 (by assumption) | exact bk_5 (by assumption) | exact bk_6 (by assumption) | exact bk_7 (by assumption) | exact bk_8 (by assumption) | exact sh_ring _ (by first | assumption | omega) | exact sh_imgs _ (by first | assumption | omega)) (by first | with_reducible rfl | (simp only [nlit, nI_add, pk_mul]; with_reducible rfl) | rfl) (by first | assumption | omega) (by first | assumption | decide) ?_
      rw [hr.1.1.2 _ (by omega)]
      refine v_goto (tgt := 43) dX12_person_35 (by decide) ?_
      refine v_iret dX12_person_43 rfl rfl rfl rfl ?_
      first
        | exact hQ.fin h (fun x hx => by simp only [ui_ne (show x ≠ 157 by omega)]) (fun _ _ => rfl) (by simp [t_person, trc, hc9, h5]) (by simp [a_person, hc9, h5, ep, ew])
        | exact hQ.fin (rf_tr h (by decide)) (fun x hx => by simp only [ui_ne (show x ≠ 157 by omega)]) (fun _ _ => rfl) (by have h5 : inb y 5 = false := (by rw [inb5]; exact hc18); simp [t_person, trc, hc9, h5]) (by have h5 : inb y 5 = false := (by rw [inb5]; exact hc18); simp [a_person, hc9, h5])
        | exact hQ.fin (rf_tr h (by decide)) (fun x hx => by simp only [ui_ne (show x ≠ 157 by omega)]) (fun _ _ => rfl) (by simp [t_person, trc, hc9, hc18] <;> rfl) (by simp [a_person, hc9, hc18] <;> rfl)
theorem no_lend (h : LOK F (S 0)) (h0 : ¬ 0 < F 0) : (S 0).1 = 0 := by
  cases hn : (S 0).1 with
  | zero => rfl
  | succ n =>
    have := h.2.1 0 (by omega)
    obtain ⟨⟨q1, q2, q3, q4, q5⟩, -, -, q6, -⟩ := this
    omega
theorem lq_at {I : HI} {a : Nat} {s : LSt} (h : StI I a 0 s) {i w k : Nat} (hi : i < s.1) (hw : w < 4) (hk : k = 1 + 4 * i + w) : I a k = nI (lq (s.2.1 i) w) := by
  subst hk
  match w, hw with
  | 0, _ => exact h.m hi (by omega)
  | 1, _ => exact h.p hi (by omega)
  | 2, _ => exact h.f hi (by omega)
  | 3, _ => exact h.u hi (by omega)
theorem r_lending {x : Int32} {y : Int32} (hR : RO R) (h : RefB I tp nt tr fa pl F S u r im ic) (hQ : YQ I L R tp nt (t_lending F (S 0) x y) fa pl F S u r im ic (a_lending F (S 0) x y) Q) : KK 8 mX12_lending b ad [.ref (b + 157), .int x, .int y] I L R Q := by
  have hO := h.2.2.1.1.2.2.1
  have o0 := hO.1
  have o1 := hO.2.1
  have o2 := hO.2.2.1
  have o3 := hO.2.2.2.1
  have o4 := hO.2.2.2.2.1
  have o5 := hO.2.2.2.2.2.1
  have o6 := hO.2.2.2.2.2.2.1
  have hK := h.2.2.1.2.2
  have hn20 := hK.1
  have hok : ∀ i, i < (S 0).1 → ok4 ((S 0).2.1 i) := fun i hi => (hK.2.1 i hi).1
  refine K.of (M := mX12_lending) (lv := [some (.ref (b + 157)), some (.int x), some (.int y)]) (by decide) (Nat.le_of_ble_eq_true rfl) rfl ?_
  refine v_aload_0 dX12_lending_0 ?_
  refine u_callV_0 dX12_lending_1 ml_X12_173 mv_X12_good (by first | assumption | rfl | exact led_1 (by assumption) | exact led_2 (by assumption) | exact bk_m (by assumption) (by first | assumption | omega) | exact bk_p (by assumption) (by first | assumption | omega) | exact bk_o (by assumption) (by first | assumption | omega) | exact bk_s (by assumption) (by first | assumption | omega) | exact bk_1 (by assumption) | exact bk_2 (by assumption) | exact bk_3 (by assumption) | exact bk_4 (by assumption) | exact bk_5 (by assumption) | exact bk_6 (by assumption) | exact bk_7 (by assumption) | exact bk_8 (by assumption) | exact sh_ring _ (by first | assumption | omega) | exact sh_imgs _ (by first | assumption | omega)) (by decide) rfl (by decide) (Nat.le_of_ble_eq_true rfl) (c_X12_good ?_)
  have h := rf_good h
  have hr : RfI _ F (S 0) := h.2.2.1
  have hS := hr.2.1
  refine v_aload_0 dX12_lending_4 ?_
  refine u_getI dX12_lending_5 gf_X12_186 (by first | assumption | rfl | exact led_1 (by assumption) | exact led_2 (by assumption) | exact bk_m (by assumption) (by first | assumption | omega) | exact bk_p (by assumption) (by first | assumption | omega) | exact bk_o (by assumption) (by first | assumption | omega) | exact bk_s (by assumption) (by first | assumption | omega) | exact bk_1 (by assumption) | exact bk_2 (by assumption) | exact bk_3 (by assumption) | exact bk_4 (by assumption) | exact bk_5 (by assumption) | exact bk_6 (by assumption) | exact bk_7 (by assumption) | exact bk_8 (by assumption) | exact sh_ring _ (by first | assumption | omega) | exact sh_imgs _ (by first | assumption | omega)) ?_
  rw [show _ = bI (decide (0 < F 0)) from hr.1.2.1]
  refine v_if_eq (tgt := 51) dX12_lending_8 (by decide) (fun hc8 => ?_) (fun hc8 => ?_)
  · (first | rw [bI_0, Bool.not_eq_false] at hc8 | rw [bI_0] at hc8 | rw [show (0 : Int32) = nI 0 from rfl, nI_eq (by omega) (by omega)] at hc8 | skip)
    refine v_aload_0 dX12_lending_51 ?_
    refine v_iconst (v := nI 1) dX12_lending_52 (by decide) ?_
    refine u_callV_1 dX12_lending_53 ml_X12_176 mv_X12_no (by first | assumption | rfl | exact led_1 (by assumption) | exact led_2 (by assumption) | exact bk_m (by assumption) (by first | assumption | omega) | exact bk_p (by assumption) (by first | assumption | omega) | exact bk_o (by assumption) (by first | assumption | omega) | exact bk_s (by assumption) (by first | assumption | omega) | exact bk_1 (by assumption) | exact bk_2 (by assumption) | exact bk_3 (by assumption) | exact bk_4 (by assumption) | exact bk_5 (by assumption) | exact bk_6 (by assumption) | exact bk_7 (by assumption) | exact bk_8 (by assumption) | exact sh_ring _ (by first | assumption | omega) | exact sh_imgs _ (by first | assumption | omega)) (by decide) rfl (by decide) (Nat.le_of_ble_eq_true rfl) (c_X12_no (k := 1) ?_)
    refine v_iret dX12_lending_56 rfl rfl rfl rfl ?_
    first
      | exact hQ.fin h (fun x hx => by simp only [ui_ne (show x ≠ 157 by omega)]) (fun _ _ => rfl) (by simp [t_lending, trc, h1, h4]) (by simp [a_lending, h1, h4, ei, ew])
      | exact hQ.fin (rf_tr h (by decide)) (fun x hx => by simp only [ui_ne (show x ≠ 157 by omega)]) (fun _ _ => rfl) (by have h4 : inb y 4 = false := (by rw [inb4]; exact hc33); simp [t_lending, trc, h4]) (by have h4 : inb y 4 = false := (by rw [inb4]; exact hc33); simp [a_lending, h4])
      | exact hQ.fin (rf_tr h (by decide)) (fun x hx => by simp only [ui_ne (show x ≠ 157 by omega)]) (fun _ _ => rfl) (by have h1 : inb x (S 0).1 = false := (by rw [inbw (by omega)]; exact hc24); simp [t_lending, trc, h1]) (by have h1 : inb x (S 0).1 = false := (by rw [inbw (by omega)]; exact hc24); simp [a_lending, h1])
      | exact hQ.fin (rf_tr h (by decide)) (fun x hx => by simp only [ui_ne (show x ≠ 157 by omega)]) (fun _ _ => rfl) (by have h1 : inb x (S 0).1 = false := inb0 (no_lend hK (of_decide_eq_false hc8)); simp [t_lending, trc, h1]) (by have h1 : inb x (S 0).1 = false := inb0 (no_lend hK (of_decide_eq_false hc8)); simp [a_lending, h1])
  · (first | rw [bI_0, Bool.not_eq_false] at hc8 | rw [bI_0] at hc8 | rw [show (0 : Int32) = nI 0 from rfl, nI_eq (by omega) (by omega)] at hc8 | skip)
    refine v_iload_1 dX12_lending_11 ?_
    refine v_iconst (v := nI 0) dX12_lending_12 (by decide) ?_
    refine v_aload_0 dX12_lending_13 ?_
    refine u_getR dX12_lending_14 gf_X12_26 (by first | assumption | rfl | exact led_1 (by assumption) | exact led_2 (by assumption) | exact bk_m (by assumption) (by first | assumption | omega) | exact bk_p (by assumption) (by first | assumption | omega) | exact bk_o (by assumption) (by first | assumption | omega) | exact bk_s (by assumption) (by first | assumption | omega) | exact bk_1 (by assumption) | exact bk_2 (by assumption) | exact bk_3 (by assumption) | exact bk_4 (by assumption) | exact bk_5 (by assumption) | exact bk_6 (by assumption) | exact bk_7 (by assumption) | exact bk_8 (by assumption) | exact sh_ring _ (by first | assumption | omega) | exact sh_imgs _ (by first | assumption | omega)) (ro_X12_17 (by assumption)) ?_
    refine v_iconst (v := nI 0) dX12_lending_17 (by decide) ?_
    refine u_iald dX12_lending_18 (by first | assumption | rfl | exact led_1 (by assumption) | exact led_2 (by assumption) | exact bk_m (by assumption) (by first | assumption | omega) | exact bk_p (by assumption) (by first | assumption | omega) | exact bk_o (by assumption) (by first | assumption | omega) | exact bk_s (by assumption) (by first | assumption | omega) | exact bk_1 (by assumption) | exact bk_2 (by assumption) | exact bk_3 (by assumption) | exact bk_4 (by assumption) | exact bk_5 (by assumption) | exact bk_6 (by assumption) | exact bk_7 (by assumption) | exact bk_8 (by assumption) | exact sh_ring _ (by first | assumption | omega) | exact sh_imgs _ (by first | assumption | omega)) (by first | with_reducible rfl | (simp only [nlit, nI_add, pk_mul]; with_reducible rfl) | rfl) (by first | assumption | omega) (by first | assumption | decide) ?_
    rw [hS.1]
    refine v_iconst (v := nI 1) dX12_lending_19 (by decide) ?_
    refine v_isub dX12_lending_20 ?_
    refine u_callS_3 dX12_lending_21 ml_X12_154 ms_X12_within (by decide) (Nat.le_of_ble_eq_true rfl) (c_X12_within ?_)
    refine v_if_eq (tgt := 51) dX12_lending_24 (by decide) (fun hc24 => ?_) (fun hc24 => ?_)
    · (first | rw [bI_0, Bool.not_eq_false] at hc24 | rw [bI_0] at hc24 | rw [show (0 : Int32) = nI 0 from rfl, nI_eq (by omega) (by omega)] at hc24 | skip)
      refine v_aload_0 dX12_lending_51 ?_
      refine v_iconst (v := nI 1) dX12_lending_52 (by decide) ?_
      refine u_callV_1 dX12_lending_53 ml_X12_176 mv_X12_no (by first | assumption | rfl | exact led_1 (by assumption) | exact led_2 (by assumption) | exact bk_m (by assumption) (by first | assumption | omega) | exact bk_p (by assumption) (by first | assumption | omega) | exact bk_o (by assumption) (by first | assumption | omega) | exact bk_s (by assumption) (by first | assumption | omega) | exact bk_1 (by assumption) | exact bk_2 (by assumption) | exact bk_3 (by assumption) | exact bk_4 (by assumption) | exact bk_5 (by assumption) | exact bk_6 (by assumption) | exact bk_7 (by assumption) | exact bk_8 (by assumption) | exact sh_ring _ (by first | assumption | omega) | exact sh_imgs _ (by first | assumption | omega)) (by decide) rfl (by decide) (Nat.le_of_ble_eq_true rfl) (c_X12_no (k := 1) ?_)
      refine v_iret dX12_lending_56 rfl rfl rfl rfl ?_
      first
        | exact hQ.fin h (fun x hx => by simp only [ui_ne (show x ≠ 157 by omega)]) (fun _ _ => rfl) (by simp [t_lending, trc, h1, h4]) (by simp [a_lending, h1, h4, ei, ew])
        | exact hQ.fin (rf_tr h (by decide)) (fun x hx => by simp only [ui_ne (show x ≠ 157 by omega)]) (fun _ _ => rfl) (by have h4 : inb y 4 = false := (by rw [inb4]; exact hc33); simp [t_lending, trc, h4]) (by have h4 : inb y 4 = false := (by rw [inb4]; exact hc33); simp [a_lending, h4])
        | exact hQ.fin (rf_tr h (by decide)) (fun x hx => by simp only [ui_ne (show x ≠ 157 by omega)]) (fun _ _ => rfl) (by have h1 : inb x (S 0).1 = false := (by rw [inbw (by omega)]; exact hc24); simp [t_lending, trc, h1]) (by have h1 : inb x (S 0).1 = false := (by rw [inbw (by omega)]; exact hc24); simp [a_lending, h1])
        | exact hQ.fin (rf_tr h (by decide)) (fun x hx => by simp only [ui_ne (show x ≠ 157 by omega)]) (fun _ _ => rfl) (by have h1 : inb x (S 0).1 = false := inb0 (no_lend hK (of_decide_eq_false hc8)); simp [t_lending, trc, h1]) (by have h1 : inb x (S 0).1 = false := inb0 (no_lend hK (of_decide_eq_false hc8)); simp [a_lending, h1])
    · (first | rw [bI_0, Bool.not_eq_false] at hc24 | rw [bI_0] at hc24 | rw [show (0 : Int32) = nI 0 from rfl, nI_eq (by omega) (by omega)] at hc24 | skip)
      refine v_iload_2 dX12_lending_27 ?_
      refine v_iconst (v := nI 0) dX12_lending_28 (by decide) ?_
      refine v_iconst (v := nI 3) dX12_lending_29 (by decide) ?_
      refine u_callS_3 dX12_lending_30 ml_X12_154 ms_X12_within (by decide) (Nat.le_of_ble_eq_true rfl) (c_X12_within ?_)
      refine v_if_eq (tgt := 51) dX12_lending_33 (by decide) (fun hc33 => ?_) (fun hc33 => ?_)
      · (first | rw [bI_0, Bool.not_eq_false] at hc33 | rw [bI_0] at hc33 | rw [show (0 : Int32) = nI 0 from rfl, nI_eq (by omega) (by omega)] at hc33 | skip)
        refine v_aload_0 dX12_lending_51 ?_
        refine v_iconst (v := nI 1) dX12_lending_52 (by decide) ?_
        refine u_callV_1 dX12_lending_53 ml_X12_176 mv_X12_no (by first | assumption | rfl | exact led_1 (by assumption) | exact led_2 (by assumption) | exact bk_m (by assumption) (by first | assumption | omega) | exact bk_p (by assumption) (by first | assumption | omega) | exact bk_o (by assumption) (by first | assumption | omega) | exact bk_s (by assumption) (by first | assumption | omega) | exact bk_1 (by assumption) | exact bk_2 (by assumption) | exact bk_3 (by assumption) | exact bk_4 (by assumption) | exact bk_5 (by assumption) | exact bk_6 (by assumption) | exact bk_7 (by assumption) | exact bk_8 (by assumption) | exact sh_ring _ (by first | assumption | omega) | exact sh_imgs _ (by first | assumption | omega)) (by decide) rfl (by decide) (Nat.le_of_ble_eq_true rfl) (c_X12_no (k := 1) ?_)
        refine v_iret dX12_lending_56 rfl rfl rfl rfl ?_
        first
          | exact hQ.fin h (fun x hx => by simp only [ui_ne (show x ≠ 157 by omega)]) (fun _ _ => rfl) (by simp [t_lending, trc, h1, h4]) (by simp [a_lending, h1, h4, ei, ew])
          | exact hQ.fin (rf_tr h (by decide)) (fun x hx => by simp only [ui_ne (show x ≠ 157 by omega)]) (fun _ _ => rfl) (by have h4 : inb y 4 = false := (by rw [inb4]; exact hc33); simp [t_lending, trc, h4]) (by have h4 : inb y 4 = false := (by rw [inb4]; exact hc33); simp [a_lending, h4])
          | exact hQ.fin (rf_tr h (by decide)) (fun x hx => by simp only [ui_ne (show x ≠ 157 by omega)]) (fun _ _ => rfl) (by have h1 : inb x (S 0).1 = false := (by rw [inbw (by omega)]; exact hc24); simp [t_lending, trc, h1]) (by have h1 : inb x (S 0).1 = false := (by rw [inbw (by omega)]; exact hc24); simp [a_lending, h1])
          | exact hQ.fin (rf_tr h (by decide)) (fun x hx => by simp only [ui_ne (show x ≠ 157 by omega)]) (fun _ _ => rfl) (by have h1 : inb x (S 0).1 = false := inb0 (no_lend hK (of_decide_eq_false hc8)); simp [t_lending, trc, h1]) (by have h1 : inb x (S 0).1 = false := inb0 (no_lend hK (of_decide_eq_false hc8)); simp [a_lending, h1])
      · (first | rw [bI_0, Bool.not_eq_false] at hc33 | rw [bI_0] at hc33 | rw [show (0 : Int32) = nI 0 from rfl, nI_eq (by omega) (by omega)] at hc33 | skip)
        have h1 : inb x (S 0).1 = true := by rw [inbw (by omega)]; exact hc24
        have h4 : inb y 4 = true := by rw [inb4]; exact hc33
        obtain ⟨i, rfl, hi⟩ := inb_ex (by omega) h1
        have ei : tN (nI i) = i := tN_nI (by omega)
        obtain ⟨w, rfl, hw⟩ := inb_ex (by omega) h4
        have ew : tN (nI w) = w := tN_nI (by omega)
        refine v_aload_0 dX12_lending_36 ?_
        refine u_getR dX12_lending_37 gf_X12_26 (by first | assumption | rfl | exact led_1 (by assumption) | exact led_2 (by assumption) | exact bk_m (by assumption) (by first | assumption | omega) | exact bk_p (by assumption) (by first | assumption | omega) | exact bk_o (by assumption) (by first | assumption | omega) | exact bk_s (by assumption) (by first | assumption | omega) | exact bk_1 (by assumption) | exact bk_2 (by assumption) | exact bk_3 (by assumption) | exact bk_4 (by assumption) | exact bk_5 (by assumption) | exact bk_6 (by assumption) | exact bk_7 (by assumption) | exact bk_8 (by assumption) | exact sh_ring _ (by first | assumption | omega) | exact sh_imgs _ (by first | assumption | omega)) (ro_X12_17 (by assumption)) ?_
        refine v_iconst (v := nI 1) dX12_lending_40 (by decide) ?_
        refine v_iconst (v := nI 4) dX12_lending_41 (by decide) ?_
        refine v_iload_1 dX12_lending_42 ?_
        refine v_imul dX12_lending_43 ?_
        refine v_iadd dX12_lending_44 ?_
        refine v_iload_2 dX12_lending_45 ?_
        refine v_iadd dX12_lending_46 ?_
        refine u_iald dX12_lending_47 (by first | assumption | rfl | exact led_1 (by assumption) | exact led_2 (by assumption) | exact bk_m (by assumption) (by first | assumption | omega) | exact bk_p (by assumption) (by first | assumption | omega) | exact bk_o (by assumption) (by first | assumption | omega) | exact bk_s (by assumption) (by first | assumption | omega) | exact bk_1 (by assumption) | exact bk_2 (by assumption) | exact bk_3 (by assumption) | exact bk_4 (by assumption) | exact bk_5 (by assumption) | exact bk_6 (by assumption) | exact bk_7 (by assumption) | exact bk_8 (by assumption) | exact sh_ring _ (by first | assumption | omega) | exact sh_imgs _ (by first | assumption | omega)) (by first | with_reducible rfl | (simp only [nlit, nI_add, pk_mul]; with_reducible rfl) | rfl) (by first | assumption | omega) (by first | assumption | decide) ?_
        rw [lq_at hS hi hw (by omega)]
        refine v_goto (tgt := 56) dX12_lending_48 (by decide) ?_
        refine v_iret dX12_lending_56 rfl rfl rfl rfl ?_
        first
          | exact hQ.fin h (fun x hx => by simp only [ui_ne (show x ≠ 157 by omega)]) (fun _ _ => rfl) (by simp [t_lending, trc, h1, h4]) (by simp [a_lending, h1, h4, ei, ew])
          | exact hQ.fin (rf_tr h (by decide)) (fun x hx => by simp only [ui_ne (show x ≠ 157 by omega)]) (fun _ _ => rfl) (by have h4 : inb y 4 = false := (by rw [inb4]; exact hc33); simp [t_lending, trc, h4]) (by have h4 : inb y 4 = false := (by rw [inb4]; exact hc33); simp [a_lending, h4])
          | exact hQ.fin (rf_tr h (by decide)) (fun x hx => by simp only [ui_ne (show x ≠ 157 by omega)]) (fun _ _ => rfl) (by have h1 : inb x (S 0).1 = false := (by rw [inbw (by omega)]; exact hc24); simp [t_lending, trc, h1]) (by have h1 : inb x (S 0).1 = false := (by rw [inbw (by omega)]; exact hc24); simp [a_lending, h1])
          | exact hQ.fin (rf_tr h (by decide)) (fun x hx => by simp only [ui_ne (show x ≠ 157 by omega)]) (fun _ _ => rfl) (by have h1 : inb x (S 0).1 = false := inb0 (no_lend hK (of_decide_eq_false hc8)); simp [t_lending, trc, h1]) (by have h1 : inb x (S 0).1 = false := inb0 (no_lend hK (of_decide_eq_false hc8)); simp [a_lending, h1])
theorem r_fault (hR : RO R) (h : RefB I tp nt tr fa pl F S u r im ic) (hQ : YQ I L R tp nt tr fa pl F S u r im ic (nI fa) Q) : KK 8 mX12_fault b ad [.ref (b + 157)] I L R Q := by
  refine K.of (M := mX12_fault) (lv := [some (.ref (b + 157))]) (by decide) (Nat.le_of_ble_eq_true rfl) rfl ?_
  refine v_aload_0 dX12_fault_0 ?_
  refine v_iconst (v := nI 0) dX12_fault_1 (by decide) ?_
  refine u_putI dX12_fault_2 gf_X12_54 (by first | assumption | rfl | exact led_1 (by assumption) | exact led_2 (by assumption) | exact bk_m (by assumption) (by first | assumption | omega) | exact bk_p (by assumption) (by first | assumption | omega) | exact bk_o (by assumption) (by first | assumption | omega) | exact bk_s (by assumption) (by first | assumption | omega) | exact bk_1 (by assumption) | exact bk_2 (by assumption) | exact bk_3 (by assumption) | exact bk_4 (by assumption) | exact bk_5 (by assumption) | exact bk_6 (by assumption) | exact bk_7 (by assumption) | exact bk_8 (by assumption) | exact sh_ring _ (by first | assumption | omega) | exact sh_imgs _ (by first | assumption | omega)) rfl rfl rfl ?_
  refine v_aload_0 dX12_fault_5 ?_
  refine u_getI dX12_fault_6 gf_X12_96 (by first | assumption | rfl | exact led_1 (by assumption) | exact led_2 (by assumption) | exact bk_m (by assumption) (by first | assumption | omega) | exact bk_p (by assumption) (by first | assumption | omega) | exact bk_o (by assumption) (by first | assumption | omega) | exact bk_s (by assumption) (by first | assumption | omega) | exact bk_1 (by assumption) | exact bk_2 (by assumption) | exact bk_3 (by assumption) | exact bk_4 (by assumption) | exact bk_5 (by assumption) | exact bk_6 (by assumption) | exact bk_7 (by assumption) | exact bk_8 (by assumption) | exact sh_ring _ (by first | assumption | omega) | exact sh_imgs _ (by first | assumption | omega)) ?_
  rw [ui_o (by decide), h.2.1.2.1]
  refine v_iret dX12_fault_9 rfl rfl rfl rfl ?_
  exact hQ.fin (rf_th h) (fun x hx => by simp only [ui_ne (show x ≠ 157 by omega)]) (fun _ _ => rfl) rfl rfl
theorem r_trouble (hR : RO R) (h : RefB I tp nt tr fa pl F S u r im ic) (hQ : YQ I L R tp nt tr fa pl F S u r im ic (nI tr) Q) : KK 8 mX12_trouble b ad [.ref (b + 157)] I L R Q := by
  refine K.of (M := mX12_trouble) (lv := [some (.ref (b + 157))]) (by decide) (Nat.le_of_ble_eq_true rfl) rfl ?_
  refine v_aload_0 dX12_trouble_0 ?_
  refine v_iconst (v := nI 0) dX12_trouble_1 (by decide) ?_
  refine u_putI dX12_trouble_2 gf_X12_54 (by first | assumption | rfl | exact led_1 (by assumption) | exact led_2 (by assumption) | exact bk_m (by assumption) (by first | assumption | omega) | exact bk_p (by assumption) (by first | assumption | omega) | exact bk_o (by assumption) (by first | assumption | omega) | exact bk_s (by assumption) (by first | assumption | omega) | exact bk_1 (by assumption) | exact bk_2 (by assumption) | exact bk_3 (by assumption) | exact bk_4 (by assumption) | exact bk_5 (by assumption) | exact bk_6 (by assumption) | exact bk_7 (by assumption) | exact bk_8 (by assumption) | exact sh_ring _ (by first | assumption | omega) | exact sh_imgs _ (by first | assumption | omega)) rfl rfl rfl ?_
  refine v_aload_0 dX12_trouble_5 ?_
  refine u_getI dX12_trouble_6 gf_X12_57 (by first | assumption | rfl | exact led_1 (by assumption) | exact led_2 (by assumption) | exact bk_m (by assumption) (by first | assumption | omega) | exact bk_p (by assumption) (by first | assumption | omega) | exact bk_o (by assumption) (by first | assumption | omega) | exact bk_s (by assumption) (by first | assumption | omega) | exact bk_1 (by assumption) | exact bk_2 (by assumption) | exact bk_3 (by assumption) | exact bk_4 (by assumption) | exact bk_5 (by assumption) | exact bk_6 (by assumption) | exact bk_7 (by assumption) | exact bk_8 (by assumption) | exact sh_ring _ (by first | assumption | omega) | exact sh_imgs _ (by first | assumption | omega)) ?_
  rw [ui_o (by decide), h.2.1.1]
  refine v_iret dX12_trouble_9 rfl rfl rfl rfl ?_
  exact hQ.fin (rf_th h) (fun x hx => by simp only [ui_ne (show x ≠ 157 by omega)]) (fun _ _ => rfl) rfl rfl
theorem r_where (hR : RO R) (h : RefB I tp nt tr fa pl F S u r im ic) (hQ : YQ I L R tp nt tr fa pl F S u r im ic (a_where tr pl) Q) : KK 8 mX12_where b ad [.ref (b + 157)] I L R Q := by
  have h7 := h.2.1.2.2.2
  refine K.of (M := mX12_where) (lv := [some (.ref (b + 157))]) (by decide) (Nat.le_of_ble_eq_true rfl) rfl ?_
  refine v_aload_0 dX12_where_0 ?_
  refine v_iconst (v := nI 0) dX12_where_1 (by decide) ?_
  refine u_putI dX12_where_2 gf_X12_54 (by first | assumption | rfl | exact led_1 (by assumption) | exact led_2 (by assumption) | exact bk_m (by assumption) (by first | assumption | omega) | exact bk_p (by assumption) (by first | assumption | omega) | exact bk_o (by assumption) (by first | assumption | omega) | exact bk_s (by assumption) (by first | assumption | omega) | exact bk_1 (by assumption) | exact bk_2 (by assumption) | exact bk_3 (by assumption) | exact bk_4 (by assumption) | exact bk_5 (by assumption) | exact bk_6 (by assumption) | exact bk_7 (by assumption) | exact bk_8 (by assumption) | exact sh_ring _ (by first | assumption | omega) | exact sh_imgs _ (by first | assumption | omega)) rfl rfl rfl ?_
  refine v_aload_0 dX12_where_5 ?_
  refine u_getI dX12_where_6 gf_X12_57 (by first | assumption | rfl | exact led_1 (by assumption) | exact led_2 (by assumption) | exact bk_m (by assumption) (by first | assumption | omega) | exact bk_p (by assumption) (by first | assumption | omega) | exact bk_o (by assumption) (by first | assumption | omega) | exact bk_s (by assumption) (by first | assumption | omega) | exact bk_1 (by assumption) | exact bk_2 (by assumption) | exact bk_3 (by assumption) | exact bk_4 (by assumption) | exact bk_5 (by assumption) | exact bk_6 (by assumption) | exact bk_7 (by assumption) | exact bk_8 (by assumption) | exact sh_ring _ (by first | assumption | omega) | exact sh_imgs _ (by first | assumption | omega)) ?_
  rw [ui_o (by decide), h.2.1.1]
  refine v_iconst (v := nI 4) dX12_where_9 (by decide) ?_
  refine v_icmp_ne (tgt := 20) dX12_where_10 (by decide) (fun hc10 => ?_) (fun hc10 => ?_)
  · (try rw [nI_eq (by omega) (by omega)] at hc10)
    refine v_iconst (v := -1) dX12_where_20 (by decide) ?_
    refine v_iret dX12_where_21 rfl rfl rfl rfl ?_
    exact hQ.fin (rf_th h) (fun x hx => by simp only [ui_ne (show x ≠ 157 by omega)]) (fun _ _ => rfl) rfl (by simp [a_where, hc10])
  · (try rw [nI_eq (by omega) (by omega)] at hc10)
    refine v_aload_0 dX12_where_13 ?_
    refine u_getI dX12_where_14 gf_X12_13 (by first | assumption | rfl | exact led_1 (by assumption) | exact led_2 (by assumption) | exact bk_m (by assumption) (by first | assumption | omega) | exact bk_p (by assumption) (by first | assumption | omega) | exact bk_o (by assumption) (by first | assumption | omega) | exact bk_s (by assumption) (by first | assumption | omega) | exact bk_1 (by assumption) | exact bk_2 (by assumption) | exact bk_3 (by assumption) | exact bk_4 (by assumption) | exact bk_5 (by assumption) | exact bk_6 (by assumption) | exact bk_7 (by assumption) | exact bk_8 (by assumption) | exact sh_ring _ (by first | assumption | omega) | exact sh_imgs _ (by first | assumption | omega)) ?_
    rw [ui_o (by decide), h.2.1.2.2.1 hc10]
    refine v_goto (tgt := 21) dX12_where_17 (by decide) ?_
    refine v_iret dX12_where_21 rfl rfl rfl rfl ?_
    exact hQ.fin (rf_th h) (fun x hx => by simp only [ui_ne (show x ≠ 157 by omega)]) (fun _ _ => rfl) rfl (by simp [a_where, hc10])
end
