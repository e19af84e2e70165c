theorem dX12_wearerOf_0 : decode cX12_wearerOf 0 = .ok (.aload_n 0, 1) := by decide +kernel
theorem dX12_wearerOf_1 : decode cX12_wearerOf 1 = .ok (.getfield 26, 3) := by decide +kernel
theorem dX12_wearerOf_4 : decode cX12_wearerOf 4 = .ok (.iload_n 1, 1) := by decide +kernel
theorem dX12_wearerOf_5 : decode cX12_wearerOf 5 = .ok (.iload_n 2, 1) := by decide +kernel
theorem dX12_wearerOf_6 : decode cX12_wearerOf 6 = .ok (.invokestatic 304, 3) := by decide +kernel
theorem dX12_wearerOf_9 : decode cX12_wearerOf 9 = .ok (.istore_n 3, 1) := by decide +kernel
theorem dX12_wearerOf_10 : decode cX12_wearerOf 10 = .ok (.iload_n 3, 1) := by decide +kernel
theorem dX12_wearerOf_11 : decode cX12_wearerOf 11 = .ok (.ifCond .ge 8, 3) := by decide +kernel
theorem dX12_wearerOf_14 : decode cX12_wearerOf 14 = .ok (.bipush (-2), 2) := by decide +kernel
theorem dX12_wearerOf_16 : decode cX12_wearerOf 16 = .ok (.goto 15, 3) := by decide +kernel
theorem dX12_wearerOf_19 : decode cX12_wearerOf 19 = .ok (.aload_n 0, 1) := by decide +kernel
theorem dX12_wearerOf_20 : decode cX12_wearerOf 20 = .ok (.getfield 26, 3) := by decide +kernel
theorem dX12_wearerOf_23 : decode cX12_wearerOf 23 = .ok (.iconst 1, 1) := by decide +kernel
theorem dX12_wearerOf_24 : decode cX12_wearerOf 24 = .ok (.iconst 4, 1) := by decide +kernel
theorem dX12_wearerOf_25 : decode cX12_wearerOf 25 = .ok (.iload_n 3, 1) := by decide +kernel
theorem dX12_wearerOf_26 : decode cX12_wearerOf 26 = .ok (.imul, 1) := by decide +kernel
theorem dX12_wearerOf_27 : decode cX12_wearerOf 27 = .ok (.iadd, 1) := by decide +kernel
theorem dX12_wearerOf_28 : decode cX12_wearerOf 28 = .ok (.iconst 1, 1) := by decide +kernel
theorem dX12_wearerOf_29 : decode cX12_wearerOf 29 = .ok (.iadd, 1) := by decide +kernel
theorem dX12_wearerOf_30 : decode cX12_wearerOf 30 = .ok (.iaload, 1) := by decide +kernel
theorem dX12_wearerOf_31 : decode cX12_wearerOf 31 = .ok (.ireturn, 1) := by decide +kernel
theorem dX12_isBroken_0 : decode cX12_isBroken 0 = .ok (.aload_n 0, 1) := by decide +kernel
theorem dX12_isBroken_1 : decode cX12_isBroken 1 = .ok (.getfield 26, 3) := by decide +kernel
theorem dX12_isBroken_4 : decode cX12_isBroken 4 = .ok (.bipush 81, 2) := by decide +kernel
theorem dX12_isBroken_6 : decode cX12_isBroken 6 = .ok (.iload_n 1, 1) := by decide +kernel
theorem dX12_isBroken_7 : decode cX12_isBroken 7 = .ok (.iadd, 1) := by decide +kernel
theorem dX12_isBroken_8 : decode cX12_isBroken 8 = .ok (.iaload, 1) := by decide +kernel
theorem dX12_isBroken_9 : decode cX12_isBroken 9 = .ok (.iload_n 2, 1) := by decide +kernel
theorem dX12_isBroken_10 : decode cX12_isBroken 10 = .ok (.invokestatic 158, 3) := by decide +kernel
theorem dX12_isBroken_13 : decode cX12_isBroken 13 = .ok (.ireturn, 1) := by decide +kernel
theorem dX12_wouldBe_0 : decode cX12_wouldBe 0 = .ok (.aload_n 0, 1) := by decide +kernel
theorem dX12_wouldBe_1 : decode cX12_wouldBe 1 = .ok (.getfield 20, 3) := by decide +kernel
theorem dX12_wouldBe_4 : decode cX12_wouldBe 4 = .ok (.bipush 50, 2) := by decide +kernel
theorem dX12_wouldBe_6 : decode cX12_wouldBe 6 = .ok (.iload_n 2, 1) := by decide +kernel
theorem dX12_wouldBe_7 : decode cX12_wouldBe 7 = .ok (.iadd, 1) := by decide +kernel
theorem dX12_wouldBe_8 : decode cX12_wouldBe 8 = .ok (.iaload, 1) := by decide +kernel
theorem dX12_wouldBe_9 : decode cX12_wouldBe 9 = .ok (.aload_n 0, 1) := by decide +kernel
theorem dX12_wouldBe_10 : decode cX12_wouldBe 10 = .ok (.iload_n 1, 1) := by decide +kernel
theorem dX12_wouldBe_11 : decode cX12_wouldBe 11 = .ok (.iconst 1, 1) := by decide +kernel
theorem dX12_wouldBe_12 : decode cX12_wouldBe 12 = .ok (.invokevirtual 319, 3) := by decide +kernel
theorem dX12_wouldBe_15 : decode cX12_wouldBe 15 = .ok (.invokestatic 158, 3) := by decide +kernel
theorem dX12_wouldBe_18 : decode cX12_wouldBe 18 = .ok (.ifCond .ne 5, 3) := by decide +kernel
theorem dX12_wouldBe_21 : decode cX12_wouldBe 21 = .ok (.iconst 0, 1) := by decide +kernel
theorem dX12_wouldBe_22 : decode cX12_wouldBe 22 = .ok (.ireturn, 1) := by decide +kernel
theorem dX12_wouldBe_23 : decode cX12_wouldBe 23 = .ok (.iconst 0, 1) := by decide +kernel
theorem dX12_wouldBe_24 : decode cX12_wouldBe 24 = .ok (.istore_n 3, 1) := by decide +kernel
theorem dX12_wouldBe_25 : decode cX12_wouldBe 25 = .ok (.iconst 0, 1) := by decide +kernel
theorem dX12_wouldBe_26 : decode cX12_wouldBe 26 = .ok (.istore 4, 2) := by decide +kernel
theorem dX12_wouldBe_28 : decode cX12_wouldBe 28 = .ok (.iload 4, 2) := by decide +kernel
theorem dX12_wouldBe_30 : decode cX12_wouldBe 30 = .ok (.iload_n 1, 1) := by decide +kernel
theorem dX12_wouldBe_31 : decode cX12_wouldBe 31 = .ok (.if_icmp .ge 71, 3) := by decide +kernel
theorem dX12_wouldBe_34 : decode cX12_wouldBe 34 = .ok (.iload_n 3, 1) := by decide +kernel
theorem dX12_wouldBe_35 : decode cX12_wouldBe 35 = .ok (.aload_n 0, 1) := by decide +kernel
theorem dX12_wouldBe_36 : decode cX12_wouldBe 36 = .ok (.iload 4, 2) := by decide +kernel
theorem dX12_wouldBe_38 : decode cX12_wouldBe 38 = .ok (.iconst 0, 1) := by decide +kernel
theorem dX12_wouldBe_39 : decode cX12_wouldBe 39 = .ok (.invokevirtual 319, 3) := by decide +kernel
theorem dX12_wouldBe_42 : decode cX12_wouldBe 42 = .ok (.aload_n 0, 1) := by decide +kernel
theorem dX12_wouldBe_43 : decode cX12_wouldBe 43 = .ok (.iload_n 1, 1) := by decide +kernel
theorem dX12_wouldBe_44 : decode cX12_wouldBe 44 = .ok (.iconst 0, 1) := by decide +kernel
theorem dX12_wouldBe_45 : decode cX12_wouldBe 45 = .ok (.invokevirtual 319, 3) := by decide +kernel
theorem dX12_wouldBe_48 : decode cX12_wouldBe 48 = .ok (.if_icmp .ne 45, 3) := by decide +kernel
theorem dX12_wouldBe_51 : decode cX12_wouldBe 51 = .ok (.aload_n 0, 1) := by decide +kernel
theorem dX12_wouldBe_52 : decode cX12_wouldBe 52 = .ok (.iload 4, 2) := by decide +kernel
theorem dX12_wouldBe_54 : decode cX12_wouldBe 54 = .ok (.iconst 2, 1) := by decide +kernel
theorem dX12_wouldBe_55 : decode cX12_wouldBe 55 = .ok (.invokevirtual 319, 3) := by decide +kernel
theorem dX12_wouldBe_58 : decode cX12_wouldBe 58 = .ok (.aload_n 0, 1) := by decide +kernel
theorem dX12_wouldBe_59 : decode cX12_wouldBe 59 = .ok (.iload_n 1, 1) := by decide +kernel
theorem dX12_wouldBe_60 : decode cX12_wouldBe 60 = .ok (.iconst 2, 1) := by decide +kernel
theorem dX12_wouldBe_61 : decode cX12_wouldBe 61 = .ok (.invokevirtual 319, 3) := by decide +kernel
theorem dX12_wouldBe_64 : decode cX12_wouldBe 64 = .ok (.if_icmp .ne 29, 3) := by decide +kernel
theorem dX12_wouldBe_67 : decode cX12_wouldBe 67 = .ok (.aload_n 0, 1) := by decide +kernel
theorem dX12_wouldBe_68 : decode cX12_wouldBe 68 = .ok (.getfield 20, 3) := by decide +kernel
theorem dX12_wouldBe_71 : decode cX12_wouldBe 71 = .ok (.bipush 50, 2) := by decide +kernel
theorem dX12_wouldBe_73 : decode cX12_wouldBe 73 = .ok (.iload_n 2, 1) := by decide +kernel
theorem dX12_wouldBe_74 : decode cX12_wouldBe 74 = .ok (.iadd, 1) := by decide +kernel
theorem dX12_wouldBe_75 : decode cX12_wouldBe 75 = .ok (.iaload, 1) := by decide +kernel
theorem dX12_wouldBe_76 : decode cX12_wouldBe 76 = .ok (.aload_n 0, 1) := by decide +kernel
theorem dX12_wouldBe_77 : decode cX12_wouldBe 77 = .ok (.iload 4, 2) := by decide +kernel
theorem dX12_wouldBe_79 : decode cX12_wouldBe 79 = .ok (.iconst 1, 1) := by decide +kernel
theorem dX12_wouldBe_80 : decode cX12_wouldBe 80 = .ok (.invokevirtual 319, 3) := by decide +kernel
theorem dX12_wouldBe_83 : decode cX12_wouldBe 83 = .ok (.invokestatic 158, 3) := by decide +kernel
theorem dX12_wouldBe_86 : decode cX12_wouldBe 86 = .ok (.ifCond .eq 7, 3) := by decide +kernel
theorem dX12_wouldBe_89 : decode cX12_wouldBe 89 = .ok (.iconst 1, 1) := by decide +kernel
theorem dX12_wouldBe_90 : decode cX12_wouldBe 90 = .ok (.goto 4, 3) := by decide +kernel
theorem dX12_wouldBe_93 : decode cX12_wouldBe 93 = .ok (.iconst 0, 1) := by decide +kernel
theorem dX12_wouldBe_94 : decode cX12_wouldBe 94 = .ok (.iadd, 1) := by decide +kernel
theorem dX12_wouldBe_95 : decode cX12_wouldBe 95 = .ok (.istore_n 3, 1) := by decide +kernel
theorem dX12_wouldBe_96 : decode cX12_wouldBe 96 = .ok (.iinc 4 1, 3) := by decide +kernel
theorem dX12_wouldBe_99 : decode cX12_wouldBe 99 = .ok (.goto (-71), 3) := by decide +kernel
theorem dX12_wouldBe_102 : decode cX12_wouldBe 102 = .ok (.iload_n 3, 1) := by decide +kernel
theorem dX12_wouldBe_103 : decode cX12_wouldBe 103 = .ok (.aload_n 0, 1) := by decide +kernel
theorem dX12_wouldBe_104 : decode cX12_wouldBe 104 = .ok (.getfield 20, 3) := by decide +kernel
theorem dX12_wouldBe_107 : decode cX12_wouldBe 107 = .ok (.bipush 8, 2) := by decide +kernel
theorem dX12_wouldBe_109 : decode cX12_wouldBe 109 = .ok (.aload_n 0, 1) := by decide +kernel
theorem dX12_wouldBe_110 : decode cX12_wouldBe 110 = .ok (.iload_n 1, 1) := by decide +kernel
theorem dX12_wouldBe_111 : decode cX12_wouldBe 111 = .ok (.iconst 0, 1) := by decide +kernel
theorem dX12_wouldBe_112 : decode cX12_wouldBe 112 = .ok (.invokevirtual 319, 3) := by decide +kernel
theorem dX12_wouldBe_115 : decode cX12_wouldBe 115 = .ok (.iadd, 1) := by decide +kernel
theorem dX12_wouldBe_116 : decode cX12_wouldBe 116 = .ok (.iaload, 1) := by decide +kernel
theorem dX12_wouldBe_117 : decode cX12_wouldBe 117 = .ok (.iconst 3, 1) := by decide +kernel
theorem dX12_wouldBe_118 : decode cX12_wouldBe 118 = .ok (.if_icmp .ne 7, 3) := by decide +kernel
theorem dX12_wouldBe_121 : decode cX12_wouldBe 121 = .ok (.iconst 2, 1) := by decide +kernel
theorem dX12_wouldBe_122 : decode cX12_wouldBe 122 = .ok (.goto 4, 3) := by decide +kernel
theorem dX12_wouldBe_125 : decode cX12_wouldBe 125 = .ok (.iconst 1, 1) := by decide +kernel
theorem dX12_wouldBe_126 : decode cX12_wouldBe 126 = .ok (.if_icmp .ge 7, 3) := by decide +kernel
theorem dX12_wouldBe_129 : decode cX12_wouldBe 129 = .ok (.iconst 1, 1) := by decide +kernel
theorem dX12_wouldBe_130 : decode cX12_wouldBe 130 = .ok (.goto 4, 3) := by decide +kernel
theorem dX12_wouldBe_133 : decode cX12_wouldBe 133 = .ok (.iconst 0, 1) := by decide +kernel
theorem dX12_wouldBe_134 : decode cX12_wouldBe 134 = .ok (.ireturn, 1) := by decide +kernel
theorem dX12_owed_0 : decode cX12_owed 0 = .ok (.aload_n 0, 1) := by decide +kernel
theorem dX12_owed_1 : decode cX12_owed 1 = .ok (.aload_n 0, 1) := by decide +kernel
theorem dX12_owed_2 : decode cX12_owed 2 = .ok (.iload_n 1, 1) := by decide +kernel
theorem dX12_owed_3 : decode cX12_owed 3 = .ok (.iconst 0, 1) := by decide +kernel
theorem dX12_owed_4 : decode cX12_owed 4 = .ok (.invokevirtual 319, 3) := by decide +kernel
theorem dX12_owed_7 : decode cX12_owed 7 = .ok (.aload_n 0, 1) := by decide +kernel
theorem dX12_owed_8 : decode cX12_owed 8 = .ok (.iload_n 1, 1) := by decide +kernel
theorem dX12_owed_9 : decode cX12_owed 9 = .ok (.iconst 2, 1) := by decide +kernel
theorem dX12_owed_10 : decode cX12_owed 10 = .ok (.invokevirtual 319, 3) := by decide +kernel
theorem dX12_owed_13 : decode cX12_owed 13 = .ok (.invokevirtual 316, 3) := by decide +kernel
theorem dX12_owed_16 : decode cX12_owed 16 = .ok (.ireturn, 1) := by decide +kernel
theorem dX12_isDone_0 : decode cX12_isDone 0 = .ok (.aload_n 0, 1) := by decide +kernel
theorem dX12_isDone_1 : decode cX12_isDone 1 = .ok (.iload_n 1, 1) := by decide +kernel
theorem dX12_isDone_2 : decode cX12_isDone 2 = .ok (.invokevirtual 322, 3) := by decide +kernel
theorem dX12_isDone_5 : decode cX12_isDone 5 = .ok (.istore_n 2, 1) := by decide +kernel
theorem dX12_isDone_6 : decode cX12_isDone 6 = .ok (.iload_n 2, 1) := by decide +kernel
theorem dX12_isDone_7 : decode cX12_isDone 7 = .ok (.bipush (-2), 2) := by decide +kernel
theorem dX12_isDone_9 : decode cX12_isDone 9 = .ok (.if_icmp .eq 30, 3) := by decide +kernel
theorem dX12_isDone_12 : decode cX12_isDone 12 = .ok (.aload_n 0, 1) := by decide +kernel
theorem dX12_isDone_13 : decode cX12_isDone 13 = .ok (.iload_n 2, 1) := by decide +kernel
theorem dX12_isDone_14 : decode cX12_isDone 14 = .ok (.aload_n 0, 1) := by decide +kernel
theorem dX12_isDone_15 : decode cX12_isDone 15 = .ok (.iload_n 1, 1) := by decide +kernel
theorem dX12_isDone_16 : decode cX12_isDone 16 = .ok (.iconst 2, 1) := by decide +kernel
theorem dX12_isDone_17 : decode cX12_isDone 17 = .ok (.invokevirtual 319, 3) := by decide +kernel
theorem dX12_isDone_20 : decode cX12_isDone 20 = .ok (.invokevirtual 325, 3) := by decide +kernel
theorem dX12_isDone_23 : decode cX12_isDone 23 = .ok (.ifCond .ne 16, 3) := by decide +kernel
theorem dX12_isDone_26 : decode cX12_isDone 26 = .ok (.aload_n 0, 1) := by decide +kernel
theorem dX12_isDone_27 : decode cX12_isDone 27 = .ok (.iload_n 1, 1) := by decide +kernel
theorem dX12_isDone_28 : decode cX12_isDone 28 = .ok (.iload_n 2, 1) := by decide +kernel
theorem dX12_isDone_29 : decode cX12_isDone 29 = .ok (.invokevirtual 328, 3) := by decide +kernel
theorem dX12_isDone_32 : decode cX12_isDone 32 = .ok (.ifCond .eq 7, 3) := by decide +kernel
theorem dX12_isDone_35 : decode cX12_isDone 35 = .ok (.iconst 1, 1) := by decide +kernel
theorem dX12_isDone_36 : decode cX12_isDone 36 = .ok (.goto 4, 3) := by decide +kernel
theorem dX12_isDone_39 : decode cX12_isDone 39 = .ok (.iconst 0, 1) := by decide +kernel
theorem dX12_isDone_40 : decode cX12_isDone 40 = .ok (.ireturn, 1) := by decide +kernel
theorem dX12_debtOf_0 : decode cX12_debtOf 0 = .ok (.iconst 0, 1) := by decide +kernel
theorem dX12_debtOf_1 : decode cX12_debtOf 1 = .ok (.istore_n 3, 1) := by decide +kernel
theorem dX12_debtOf_2 : decode cX12_debtOf 2 = .ok (.iconst 0, 1) := by decide +kernel
theorem dX12_debtOf_3 : decode cX12_debtOf 3 = .ok (.istore 4, 2) := by decide +kernel
theorem dX12_debtOf_5 : decode cX12_debtOf 5 = .ok (.iload 4, 2) := by decide +kernel
theorem dX12_debtOf_7 : decode cX12_debtOf 7 = .ok (.aload_n 0, 1) := by decide +kernel
theorem dX12_debtOf_8 : decode cX12_debtOf 8 = .ok (.getfield 20, 3) := by decide +kernel
theorem dX12_debtOf_11 : decode cX12_debtOf 11 = .ok (.iconst 4, 1) := by decide +kernel
theorem dX12_debtOf_12 : decode cX12_debtOf 12 = .ok (.iaload, 1) := by decide +kernel
theorem dX12_debtOf_13 : decode cX12_debtOf 13 = .ok (.if_icmp .ge 53, 3) := by decide +kernel
theorem dX12_debtOf_16 : decode cX12_debtOf 16 = .ok (.iload_n 3, 1) := by decide +kernel
theorem dX12_debtOf_17 : decode cX12_debtOf 17 = .ok (.aload_n 0, 1) := by decide +kernel
theorem dX12_debtOf_18 : decode cX12_debtOf 18 = .ok (.iload 4, 2) := by decide +kernel
theorem dX12_debtOf_20 : decode cX12_debtOf 20 = .ok (.iconst 2, 1) := by decide +kernel
theorem dX12_debtOf_21 : decode cX12_debtOf 21 = .ok (.invokevirtual 319, 3) := by decide +kernel
theorem dX12_debtOf_24 : decode cX12_debtOf 24 = .ok (.iload_n 2, 1) := by decide +kernel
theorem dX12_debtOf_25 : decode cX12_debtOf 25 = .ok (.if_icmp .gt 32, 3) := by decide +kernel
theorem dX12_debtOf_28 : decode cX12_debtOf 28 = .ok (.aload_n 0, 1) := by decide +kernel
theorem dX12_debtOf_29 : decode cX12_debtOf 29 = .ok (.iload 4, 2) := by decide +kernel
theorem dX12_debtOf_31 : decode cX12_debtOf 31 = .ok (.invokevirtual 322, 3) := by decide +kernel
theorem dX12_debtOf_34 : decode cX12_debtOf 34 = .ok (.iload_n 1, 1) := by decide +kernel
theorem dX12_debtOf_35 : decode cX12_debtOf 35 = .ok (.if_icmp .ne 22, 3) := by decide +kernel
theorem dX12_debtOf_38 : decode cX12_debtOf 38 = .ok (.aload_n 0, 1) := by decide +kernel
theorem dX12_debtOf_39 : decode cX12_debtOf 39 = .ok (.iload 4, 2) := by decide +kernel
theorem dX12_debtOf_41 : decode cX12_debtOf 41 = .ok (.invokevirtual 334, 3) := by decide +kernel
theorem dX12_debtOf_44 : decode cX12_debtOf 44 = .ok (.ifCond .ne 13, 3) := by decide +kernel
theorem dX12_debtOf_47 : decode cX12_debtOf 47 = .ok (.aload_n 0, 1) := by decide +kernel
theorem dX12_debtOf_48 : decode cX12_debtOf 48 = .ok (.iload 4, 2) := by decide +kernel
theorem dX12_debtOf_50 : decode cX12_debtOf 50 = .ok (.iconst 4, 1) := by decide +kernel
theorem dX12_debtOf_51 : decode cX12_debtOf 51 = .ok (.invokevirtual 319, 3) := by decide +kernel
theorem dX12_debtOf_54 : decode cX12_debtOf 54 = .ok (.goto 4, 3) := by decide +kernel
theorem dX12_debtOf_57 : decode cX12_debtOf 57 = .ok (.iconst 0, 1) := by decide +kernel
theorem dX12_debtOf_58 : decode cX12_debtOf 58 = .ok (.iadd, 1) := by decide +kernel
theorem dX12_debtOf_59 : decode cX12_debtOf 59 = .ok (.istore_n 3, 1) := by decide +kernel
theorem dX12_debtOf_60 : decode cX12_debtOf 60 = .ok (.iinc 4 1, 3) := by decide +kernel
theorem dX12_debtOf_63 : decode cX12_debtOf 63 = .ok (.goto (-58), 3) := by decide +kernel
theorem dX12_debtOf_66 : decode cX12_debtOf 66 = .ok (.iload_n 3, 1) := by decide +kernel
theorem dX12_debtOf_67 : decode cX12_debtOf 67 = .ok (.ireturn, 1) := by decide +kernel
theorem dX12_planWhy_0 : decode cX12_planWhy 0 = .ok (.aload_n 0, 1) := by decide +kernel
theorem dX12_planWhy_1 : decode cX12_planWhy 1 = .ok (.getfield 186, 3) := by decide +kernel
theorem dX12_planWhy_4 : decode cX12_planWhy 4 = .ok (.ifCond .ne 7, 3) := by decide +kernel
theorem dX12_planWhy_7 : decode cX12_planWhy 7 = .ok (.iconst 1, 1) := by decide +kernel
theorem dX12_planWhy_8 : decode cX12_planWhy 8 = .ok (.goto 16, 3) := by decide +kernel
theorem dX12_planWhy_11 : decode cX12_planWhy 11 = .ok (.aload_n 0, 1) := by decide +kernel
theorem dX12_planWhy_12 : decode cX12_planWhy 12 = .ok (.iload_n 1, 1) := by decide +kernel
theorem dX12_planWhy_13 : decode cX12_planWhy 13 = .ok (.invokevirtual 313, 3) := by decide +kernel
theorem dX12_planWhy_16 : decode cX12_planWhy 16 = .ok (.ifCond .eq 7, 3) := by decide +kernel
theorem dX12_planWhy_19 : decode cX12_planWhy 19 = .ok (.iconst 0, 1) := by decide +kernel
theorem dX12_planWhy_20 : decode cX12_planWhy 20 = .ok (.goto 4, 3) := by decide +kernel
theorem dX12_planWhy_23 : decode cX12_planWhy 23 = .ok (.iconst 2, 1) := by decide +kernel
theorem dX12_planWhy_24 : decode cX12_planWhy 24 = .ok (.ireturn, 1) := by decide +kernel
/-- the reference's book and its row of now -/
def RfI (I : HI) (F : bkF) (s : LSt) : Prop := RrI I F ∧ StI I 162 0 s ∧ LOK F s
theorem RfI.fr {I J : HI} {F : bkF} {s : LSt} (h : RfI I F s) (e : J 160 = I 160) (e2 : J 157 14 = I 157 14) (e3 : J 162 = I 162) : RfI J F s := ⟨h.1.fr e e2, h.2.1.fr e3, h.2.2⟩
section
variable {b : Nat} {ad : Nat → Nat} {I J : HI} {L M : HL} {R : HR} {Q : QT} {F : bkF} {s : LSt} {a o : Nat}
theorem c_X12_wearerOf {m d : Nat} (hR : RO R) (hr : RfI I F s) (hm : m < 2 ^ 31) (hd : d < 2 ^ 31) (hQ : Q (some (.int (eP (lentP s.1 s.2.1 d m)))) SH I L R) : KK 2 mX12_wearerOf b ad [.ref (b + 157), .int (nI m), .int (nI d)] I L R Q := by
  have hO := hr.1.2.2.1
  have o2 := hO.2.2.1
  have o3 := hO.2.2.2.1
  have o4 := hO.2.2.2.2.1
  have o0 := hO.1
  have hS := hr.2.1
  have hK := hr.2.2
  have hn20 := hK.1
  have hok : ∀ i, i < s.1 → ok4 (s.2.1 i) := fun i hi => (hK.2.1 i hi).1
  refine K.of (M := mX12_wearerOf) (lv := [some (.ref (b + 157)), some (.int (nI m)), some (.int (nI d)), none]) (by decide) (Nat.le_of_ble_eq_true rfl) rfl ?_
  refine v_aload_0 dX12_wearerOf_0 ?_
  refine u_getR dX12_wearerOf_1 gf_X12_26 (by first | assumption | rfl | exact led_1 (by assumption) | exact led_2 (by assumption) | exact bk_m (by assumption) (by first | assumption | omega) | exact bk_p (by assumption) (by first | assumption | omega) | exact bk_o (by assumption) (by first | assumption | omega) | exact bk_s (by assumption) (by first | assumption | omega) | exact bk_1 (by assumption) | exact bk_2 (by assumption) | exact bk_3 (by assumption) | exact bk_4 (by assumption) | exact bk_5 (by assumption) | exact bk_6 (by assumption) | exact bk_7 (by assumption) | exact bk_8 (by assumption) | exact sh_ring _ (by first | assumption | omega) | exact sh_imgs _ (by first | assumption | omega)) (ro_X12_17 (by assumption)) ?_
  refine v_iload_1 dX12_wearerOf_4 ?_
  refine v_iload_2 dX12_wearerOf_5 ?_
  refine u_callS_3 dX12_wearerOf_6 ml_X12_304 ms_X12_lendingOf (by decide) (Nat.le_of_ble_eq_true rfl) (c_X12_lendingOf (s := s) rfl hS hn20 hok hm hd ?_)
  refine v_istore_3 rfl dX12_wearerOf_9 ?_
  cases hf : fup (hitm s.2.1 m d d) 0 s.1 with
  | none =>
    have e : lentP s.1 s.2.1 d m = none := by unfold lentP; rw [hf]; rfl
    rw [e] at hQ
    show VV _ _ _ _ _ _ _ _ _ [some (.ref (b + 157)), some (.int (nI m)), some (.int (nI d)), some (.int (-1))] _ _ _ _
    refine v_iload_3 dX12_wearerOf_10 ?_
    refine v_if_ge (tgt := 19) dX12_wearerOf_11 (by decide) (fun hc11 => ?_) (fun hc11 => ?_)
    · exact absurd hc11 (by decide)
    · (first | rw [show (0 : Int32) = nI 0 from rfl, nI_ltI (by omega) (by omega)] at hc11 | rw [show (0 : Int32) = nI 0 from rfl, nI_leI (by omega) (by omega)] at hc11 | skip)
      refine v_bipush (v := -2) dX12_wearerOf_14 (by decide) ?_
      refine v_goto (tgt := 31) dX12_wearerOf_16 (by decide) ?_
      refine v_iret dX12_wearerOf_31 rfl rfl rfl rfl ?_
      exact hQ
  | some i =>
    have hi : i < s.1 := by have := fup_some hf; omega
    have e : lentP s.1 s.2.1 d m = some (s.2.1 i).2.1 := by unfold lentP; rw [hf]; rfl
    rw [e] at hQ
    show VV _ _ _ _ _ _ _ _ _ [some (.ref (b + 157)), some (.int (nI m)), some (.int (nI d)), some (.int (nI i))] _ _ _ _
    refine v_iload_3 dX12_wearerOf_10 ?_
    refine v_if_ge (tgt := 19) dX12_wearerOf_11 (by decide) (fun hc11 => ?_) (fun hc11 => ?_)
    · (first | rw [show (0 : Int32) = nI 0 from rfl, nI_ltI (by omega) (by omega)] at hc11 | rw [show (0 : Int32) = nI 0 from rfl, nI_leI (by omega) (by omega)] at hc11 | skip)
      refine v_aload_0 dX12_wearerOf_19 ?_
      refine u_getR dX12_wearerOf_20 gf_X12_26 (by first | assumption | rfl | exact led_1 (by assumption) | exact led_2 (by assumption) | exact bk_m (by assumption) (by first | assumption | omega) | exact bk_p (by assumption) (by first | assumption | omega) | exact bk_o (by assumption) (by first | assumption | omega) | exact bk_s (by assumption) (by first | assumption | omega) | exact bk_1 (by assumption) | exact bk_2 (by assumption) | exact bk_3 (by assumption) | exact bk_4 (by assumption) | exact bk_5 (by assumption) | exact bk_6 (by assumption) | exact bk_7 (by assumption) | exact bk_8 (by assumption) | exact sh_ring _ (by first | assumption | omega) | exact sh_imgs _ (by first | assumption | omega)) (ro_X12_17 (by assumption)) ?_
      refine v_iconst (v := nI 1) dX12_wearerOf_23 (by decide) ?_
      refine v_iconst (v := nI 4) dX12_wearerOf_24 (by decide) ?_
      refine v_iload_3 dX12_wearerOf_25 ?_
      refine v_imul dX12_wearerOf_26 ?_
      refine v_iadd dX12_wearerOf_27 ?_
      refine v_iconst (v := nI 1) dX12_wearerOf_28 (by decide) ?_
      refine v_iadd dX12_wearerOf_29 ?_
      refine u_iald dX12_wearerOf_30 (by first | assumption | rfl | exact led_1 (by assumption) | exact led_2 (by assumption) | exact bk_m (by assumption) (by first | assumption | omega) | exact bk_p (by assumption) (by first | assumption | omega) | exact bk_o (by assumption) (by first | assumption | omega) | exact bk_s (by assumption) (by first | assumption | omega) | exact bk_1 (by assumption) | exact bk_2 (by assumption) | exact bk_3 (by assumption) | exact bk_4 (by assumption) | exact bk_5 (by assumption) | exact bk_6 (by assumption) | exact bk_7 (by assumption) | exact bk_8 (by assumption) | exact sh_ring _ (by first | assumption | omega) | exact sh_imgs _ (by first | assumption | omega)) (by first | with_reducible rfl | (simp only [nlit, nI_add, pk_mul]; with_reducible rfl) | rfl) (by first | assumption | omega) (by first | assumption | decide) ?_
      rw [hS.p hi (by omega)]
      refine v_iret dX12_wearerOf_31 rfl rfl rfl rfl ?_
      exact hQ
    · exact absurd (nI_pos2 (by omega)) hc11
theorem c_X12_isBroken {p d : Nat} (hR : RO R) (hr : RfI I F s) (hp : p < 6) (hd : d < 32) (hQ : Q (some (.int (bI ((s.2.2 p).testBit d)))) SH I L R) : KK 1 mX12_isBroken b ad [.ref (b + 157), .int (nI p), .int (nI d)] I L R Q := by
  have hO := hr.1.2.2.1
  have o2 := hO.2.2.1
  have o3 := hO.2.2.2.1
  have o4 := hO.2.2.2.2.1
  have o0 := hO.1
  have hS := hr.2.1
  have hK := hr.2.2
  have hn20 := hK.1
  have hok : ∀ i, i < s.1 → ok4 (s.2.1 i) := fun i hi => (hK.2.1 i hi).1
  have hb := hK.2.2.2 p
  refine K.of (M := mX12_isBroken) (lv := [some (.ref (b + 157)), some (.int (nI p)), some (.int (nI d))]) (by decide) (Nat.le_of_ble_eq_true rfl) rfl ?_
  refine v_aload_0 dX12_isBroken_0 ?_
  refine u_getR dX12_isBroken_1 gf_X12_26 (by first | assumption | rfl | exact led_1 (by assumption) | exact led_2 (by assumption) | exact bk_m (by assumption) (by first | assumption | omega) | exact bk_p (by assumption) (by first | assumption | omega) | exact bk_o (by assumption) (by first | assumption | omega) | exact bk_s (by assumption) (by first | assumption | omega) | exact bk_1 (by assumption) | exact bk_2 (by assumption) | exact bk_3 (by assumption) | exact bk_4 (by assumption) | exact bk_5 (by assumption) | exact bk_6 (by assumption) | exact bk_7 (by assumption) | exact bk_8 (by assumption) | exact sh_ring _ (by first | assumption | omega) | exact sh_imgs _ (by first | assumption | omega)) (ro_X12_17 (by assumption)) ?_
  refine v_bipush (v := nI 81) dX12_isBroken_4 (by decide) ?_
  refine v_iload_1 dX12_isBroken_6 ?_
  refine v_iadd dX12_isBroken_7 ?_
  refine u_iald dX12_isBroken_8 (by first | assumption | rfl | exact led_1 (by assumption) | exact led_2 (by assumption) | exact bk_m (by assumption) (by first | assumption | omega) | exact bk_p (by assumption) (by first | assumption | omega) | exact bk_o (by assumption) (by first | assumption | omega) | exact bk_s (by assumption) (by first | assumption | omega) | exact bk_1 (by assumption) | exact bk_2 (by assumption) | exact bk_3 (by assumption) | exact bk_4 (by assumption) | exact bk_5 (by assumption) | exact bk_6 (by assumption) | exact bk_7 (by assumption) | exact bk_8 (by assumption) | exact sh_ring _ (by first | assumption | omega) | exact sh_imgs _ (by first | assumption | omega)) (by first | with_reducible rfl | (simp only [nlit, nI_add, pk_mul]; with_reducible rfl) | rfl) (by first | assumption | omega) (by first | assumption | decide) ?_
  rw [hS.b hp (by omega)]
  refine v_iload_2 dX12_isBroken_9 ?_
  refine u_callS_2 dX12_isBroken_10 ml_X12_158 ms_X12_has (by decide) (Nat.le_of_ble_eq_true rfl) (c_X12_has (by omega) hd ?_)
  refine v_zret dX12_isBroken_13 (by first | rfl | exact bI_n _) rfl rfl rfl rfl ?_
  exact hQ
theorem c_X12_wouldBe {o p : Nat} (hR : RO R) (hr : RfI I F s) (ho : o < F 4) (hp : p < F 3) (hQ : Q (some (.int (bI (wouldV F (some p) o)))) SH I L R) : KK 1 mX12_wouldBe b ad [.ref (b + 157), .int (nI o), .int (nI p)] I L R Q := by
  have hO := hr.1.2.2.1
  have o2 := hO.2.2.1
  have o3 := hO.2.2.2.1
  have o4 := hO.2.2.2.2.1
  have o0 := hO.1
  have hS := hr.2.1
  have hK := hr.2.2
  have hn20 := hK.1
  have hok : ∀ i, i < s.1 → ok4 (s.2.1 i) := fun i hi => (hK.2.1 i hi).1
  have hF := hr.1.1.2
  obtain ⟨z1, z2, z3, z4, z5⟩ := fk_p hO hp
  obtain ⟨y1, y2, y3, y4, y5, y6, y7⟩ := fk_o hO ho
  have hcl := cup_le (aheadp F (some p) o) o 0
  have hkd := (fk_m hO y1).1
  have loop : couldV F (some p) o = true → ∀ (j k c : Nat), k + j = o → c + cup (aheadp F (some p) o) k j = cup (aheadp F (some p) o) 0 o → VV yX12_wouldBe cX12_wouldBe 5 (some .boolean) 1 Q b ad 28 [some (.ref (b + 157)), some (.int (nI o)), some (.int (nI p)), some (.int (nI c)), some (.int (nI k))] [] I L R := by
    intro hcd j
    induction j with
    | zero =>
      intro k c hk he
      have ec : c = cup (aheadp F (some p) o) 0 o := he
      subst ec
      refine v_iload_4 dX12_wouldBe_28 ?_
      refine v_iload_1 dX12_wouldBe_30 ?_
      refine v_icmp_ge (tgt := 102) dX12_wouldBe_31 (by decide) (fun hc31 => ?_) (fun hc31 => ?_)
      · (try rw [nI_leI (by omega) (by omega)] at hc31)
        refine v_iload_3 dX12_wouldBe_102 ?_
        refine v_aload_0 dX12_wouldBe_103 ?_
        refine u_getR dX12_wouldBe_104 gf_X12_20 (by first | assumption | rfl | exact led_1 (by assumption) | exact led_2 (by assumption) | exact bk_m (by assumption) (by first | assumption | omega) | exact bk_p (by assumption) (by first | assumption | omega) | exact bk_o (by assumption) (by first | assumption | omega) | exact bk_s (by assumption) (by first | assumption | omega) | exact bk_1 (by assumption) | exact bk_2 (by assumption) | exact bk_3 (by assumption) | exact bk_4 (by assumption) | exact bk_5 (by assumption) | exact bk_6 (by assumption) | exact bk_7 (by assumption) | exact bk_8 (by assumption) | exact sh_ring _ (by first | assumption | omega) | exact sh_imgs _ (by first | assumption | omega)) (ro_X12_15 (by assumption)) ?_
        refine v_bipush (v := nI 8) dX12_wouldBe_107 (by decide) ?_
        refine v_aload_0 dX12_wouldBe_109 ?_
        refine v_iload_1 dX12_wouldBe_110 ?_
        refine v_iconst (v := nI 0) dX12_wouldBe_111 (by decide) ?_
        refine u_callV_2 dX12_wouldBe_112 ml_X12_319 mv_X12_own (by first | assumption | rfl | exact led_1 (by assumption) | exact led_2 (by assumption) | exact bk_m (by assumption) (by first | assumption | omega) | exact bk_p (by assumption) (by first | assumption | omega) | exact bk_o (by assumption) (by first | assumption | omega) | exact bk_s (by assumption) (by first | assumption | omega) | exact bk_1 (by assumption) | exact bk_2 (by assumption) | exact bk_3 (by assumption) | exact bk_4 (by assumption) | exact bk_5 (by assumption) | exact bk_6 (by assumption) | exact bk_7 (by assumption) | exact bk_8 (by assumption) | exact sh_ring _ (by first | assumption | omega) | exact sh_imgs _ (by first | assumption | omega)) (by decide) rfl (by decide) (Nat.le_of_ble_eq_true rfl) (c_X12_own (k := 56 + 6 * o) hR hr.1.1 (by omega) (by decide) (by omega) ?_)
        refine v_iadd dX12_wouldBe_115 ?_
        refine u_iald dX12_wouldBe_116 (by first | assumption | rfl | exact led_1 (by assumption) | exact led_2 (by assumption) | exact bk_m (by assumption) (by first | assumption | omega) | exact bk_p (by assumption) (by first | assumption | omega) | exact bk_o (by assumption) (by first | assumption | omega) | exact bk_s (by assumption) (by first | assumption | omega) | exact bk_1 (by assumption) | exact bk_2 (by assumption) | exact bk_3 (by assumption) | exact bk_4 (by assumption) | exact bk_5 (by assumption) | exact bk_6 (by assumption) | exact bk_7 (by assumption) | exact bk_8 (by assumption) | exact sh_ring _ (by first | assumption | omega) | exact sh_imgs _ (by first | assumption | omega)) (by first | with_reducible rfl | (simp only [nlit, nI_add, pk_mul]; with_reducible rfl) | rfl) (by first | assumption | omega) (by first | assumption | decide) ?_
        rw [hF _ (by omega)]
        refine v_iconst (v := nI 3) dX12_wouldBe_117 (by decide) ?_
        refine v_icmp_ne (tgt := 125) dX12_wouldBe_118 (by decide) (fun hc118 => ?_) (fun hc118 => ?_)
        · (try rw [nI_eq (by omega) (by omega)] at hc118)
          refine v_iconst (v := nI 1) dX12_wouldBe_125 (by decide) ?_
          refine v_icmp_ge (tgt := 133) dX12_wouldBe_126 (by decide) (fun hc126 => ?_) (fun hc126 => ?_)
          · (try rw [nI_leI (by omega) (by omega)] at hc126)
            refine v_iconst (v := nI 0) dX12_wouldBe_133 (by decide) ?_
            refine v_zret dX12_wouldBe_134 (by first | rfl | exact bI_n _) rfl rfl rfl rfl ?_
            first
              | (have e : wouldV F (some p) o = true := (by unfold wouldV; rw [hcd, Bool.true_and]; unfold handsF; (first | rw [if_neg hc118] | rw [if_pos hc118]); exact decide_eq_true (by omega)); rw [e] at hQ; exact hQ)
              | (have e : wouldV F (some p) o = false := (by unfold wouldV; rw [hcd, Bool.true_and]; unfold handsF; (first | rw [if_neg hc118] | rw [if_pos hc118]); exact decide_eq_false (by omega)); rw [e] at hQ; exact hQ)
          · (try rw [nI_leI (by omega) (by omega)] at hc126)
            refine v_iconst (v := nI 1) dX12_wouldBe_129 (by decide) ?_
            refine v_goto (tgt := 134) dX12_wouldBe_130 (by decide) ?_
            refine v_zret dX12_wouldBe_134 (by first | rfl | exact bI_n _) rfl rfl rfl rfl ?_
            first
              | (have e : wouldV F (some p) o = true := (by unfold wouldV; rw [hcd, Bool.true_and]; unfold handsF; (first | rw [if_neg hc118] | rw [if_pos hc118]); exact decide_eq_true (by omega)); rw [e] at hQ; exact hQ)
              | (have e : wouldV F (some p) o = false := (by unfold wouldV; rw [hcd, Bool.true_and]; unfold handsF; (first | rw [if_neg hc118] | rw [if_pos hc118]); exact decide_eq_false (by omega)); rw [e] at hQ; exact hQ)
        · (try rw [nI_eq (by omega) (by omega)] at hc118)
          refine v_iconst (v := nI 2) dX12_wouldBe_121 (by decide) ?_
          refine v_goto (tgt := 126) dX12_wouldBe_122 (by decide) ?_
          refine v_icmp_ge (tgt := 133) dX12_wouldBe_126 (by decide) (fun hc126 => ?_) (fun hc126 => ?_)
          · (try rw [nI_leI (by omega) (by omega)] at hc126)
            refine v_iconst (v := nI 0) dX12_wouldBe_133 (by decide) ?_
            refine v_zret dX12_wouldBe_134 (by first | rfl | exact bI_n _) rfl rfl rfl rfl ?_
            first
              | (have e : wouldV F (some p) o = true := (by unfold wouldV; rw [hcd, Bool.true_and]; unfold handsF; (first | rw [if_neg hc118] | rw [if_pos hc118]); exact decide_eq_true (by omega)); rw [e] at hQ; exact hQ)
              | (have e : wouldV F (some p) o = false := (by unfold wouldV; rw [hcd, Bool.true_and]; unfold handsF; (first | rw [if_neg hc118] | rw [if_pos hc118]); exact decide_eq_false (by omega)); rw [e] at hQ; exact hQ)
          · (try rw [nI_leI (by omega) (by omega)] at hc126)
            refine v_iconst (v := nI 1) dX12_wouldBe_129 (by decide) ?_
            refine v_goto (tgt := 134) dX12_wouldBe_130 (by decide) ?_
            refine v_zret dX12_wouldBe_134 (by first | rfl | exact bI_n _) rfl rfl rfl rfl ?_
            first
              | (have e : wouldV F (some p) o = true := (by unfold wouldV; rw [hcd, Bool.true_and]; unfold handsF; (first | rw [if_neg hc118] | rw [if_pos hc118]); exact decide_eq_true (by omega)); rw [e] at hQ; exact hQ)
              | (have e : wouldV F (some p) o = false := (by unfold wouldV; rw [hcd, Bool.true_and]; unfold handsF; (first | rw [if_neg hc118] | rw [if_pos hc118]); exact decide_eq_false (by omega)); rw [e] at hQ; exact hQ)
      · exact absurd (nI_le (by omega) (by omega)) hc31
    | succ j ih =>
      intro k c hk he
      obtain ⟨x1, x2, x3, x4, x5, x6, x7⟩ := fk_o hO (show k < F 4 by omega)
      have hc9 : c ≤ o := by omega
      refine v_iload_4 dX12_wouldBe_28 ?_
      refine v_iload_1 dX12_wouldBe_30 ?_
      refine v_icmp_ge (tgt := 102) dX12_wouldBe_31 (by decide) (fun hc31 => ?_) (fun hc31 => ?_)
      · exact absurd hc31 (nI_ge (by omega) (by omega))
      · (try rw [nI_leI (by omega) (by omega)] at hc31)
        refine v_iload_3 dX12_wouldBe_34 ?_
        refine v_aload_0 dX12_wouldBe_35 ?_
        refine v_iload_4 dX12_wouldBe_36 ?_
        refine v_iconst (v := nI 0) dX12_wouldBe_38 (by decide) ?_
        refine u_callV_2 dX12_wouldBe_39 ml_X12_319 mv_X12_own (by first | assumption | rfl | exact led_1 (by assumption) | exact led_2 (by assumption) | exact bk_m (by assumption) (by first | assumption | omega) | exact bk_p (by assumption) (by first | assumption | omega) | exact bk_o (by assumption) (by first | assumption | omega) | exact bk_s (by assumption) (by first | assumption | omega) | exact bk_1 (by assumption) | exact bk_2 (by assumption) | exact bk_3 (by assumption) | exact bk_4 (by assumption) | exact bk_5 (by assumption) | exact bk_6 (by assumption) | exact bk_7 (by assumption) | exact bk_8 (by assumption) | exact sh_ring _ (by first | assumption | omega) | exact sh_imgs _ (by first | assumption | omega)) (by decide) rfl (by decide) (Nat.le_of_ble_eq_true rfl) (c_X12_own (k := 56 + 6 * k) hR hr.1.1 (by omega) (by decide) (by omega) ?_)
        refine v_aload_0 dX12_wouldBe_42 ?_
        refine v_iload_1 dX12_wouldBe_43 ?_
        refine v_iconst (v := nI 0) dX12_wouldBe_44 (by decide) ?_
        refine u_callV_2 dX12_wouldBe_45 ml_X12_319 mv_X12_own (by first | assumption | rfl | exact led_1 (by assumption) | exact led_2 (by assumption) | exact bk_m (by assumption) (by first | assumption | omega) | exact bk_p (by assumption) (by first | assumption | omega) | exact bk_o (by assumption) (by first | assumption | omega) | exact bk_s (by assumption) (by first | assumption | omega) | exact bk_1 (by assumption) | exact bk_2 (by assumption) | exact bk_3 (by assumption) | exact bk_4 (by assumption) | exact bk_5 (by assumption) | exact bk_6 (by assumption) | exact bk_7 (by assumption) | exact bk_8 (by assumption) | exact sh_ring _ (by first | assumption | omega) | exact sh_imgs _ (by first | assumption | omega)) (by decide) rfl (by decide) (Nat.le_of_ble_eq_true rfl) (c_X12_own (k := 56 + 6 * o) hR hr.1.1 (by omega) (by decide) (by omega) ?_)
        refine v_icmp_ne (tgt := 93) dX12_wouldBe_48 (by decide) (fun hc48 => ?_) (fun hc48 => ?_)
        · (try rw [nI_eq (by omega) (by omega)] at hc48)
          refine v_iconst (v := nI 0) dX12_wouldBe_93 (by decide) ?_
          refine v_iadd dX12_wouldBe_94 ?_
          rw [nI_add]
          refine v_istore_3 rfl dX12_wouldBe_95 ?_
          refine v_iinc_4 (v := 1) rfl dX12_wouldBe_96 (by decide) ?_
          rw [show nI k + 1 = nI (k + 1) from nI_1 k]
          refine v_goto (tgt := 28) dX12_wouldBe_99 (by decide) ?_
          refine ih (k + 1) _ (by omega) ?_
          rw [← he, cup]
          first
            | (have e : aheadp F (some p) o k = true := (by show (decide _ && decide _ && couldV F (some p) k) = true; rw [decide_eq_true hc48, decide_eq_true hc64, show couldV F (some p) k = true from hc86]; rfl); rw [e, if_pos rfl]; omega)
            | (have e : aheadp F (some p) o k = false := (by show (decide _ && decide _ && couldV F (some p) k) = false; rw [show couldV F (some p) k = false from hc86, Bool.and_false]); rw [e, if_neg (by decide)]; omega)
            | (have e : aheadp F (some p) o k = false := (by show (decide _ && decide _ && couldV F (some p) k) = false; rw [decide_eq_false hc64, Bool.and_false]; rfl); rw [e, if_neg (by decide)]; omega)
            | (have e : aheadp F (some p) o k = false := (by show (decide _ && decide _ && couldV F (some p) k) = false; rw [decide_eq_false hc48]; rfl); rw [e, if_neg (by decide)]; omega)
        · (try rw [nI_eq (by omega) (by omega)] at hc48)
          refine v_aload_0 dX12_wouldBe_51 ?_
          refine v_iload_4 dX12_wouldBe_52 ?_
          refine v_iconst (v := nI 2) dX12_wouldBe_54 (by decide) ?_
          refine u_callV_2 dX12_wouldBe_55 ml_X12_319 mv_X12_own (by first | assumption | rfl | exact led_1 (by assumption) | exact led_2 (by assumption) | exact bk_m (by assumption) (by first | assumption | omega) | exact bk_p (by assumption) (by first | assumption | omega) | exact bk_o (by assumption) (by first | assumption | omega) | exact bk_s (by assumption) (by first | assumption | omega) | exact bk_1 (by assumption) | exact bk_2 (by assumption) | exact bk_3 (by assumption) | exact bk_4 (by assumption) | exact bk_5 (by assumption) | exact bk_6 (by assumption) | exact bk_7 (by assumption) | exact bk_8 (by assumption) | exact sh_ring _ (by first | assumption | omega) | exact sh_imgs _ (by first | assumption | omega)) (by decide) rfl (by decide) (Nat.le_of_ble_eq_true rfl) (c_X12_own (k := 58 + 6 * k) hR hr.1.1 (by omega) (by decide) (by omega) ?_)
          refine v_aload_0 dX12_wouldBe_58 ?_
          refine v_iload_1 dX12_wouldBe_59 ?_
          refine v_iconst (v := nI 2) dX12_wouldBe_60 (by decide) ?_
          refine u_callV_2 dX12_wouldBe_61 ml_X12_319 mv_X12_own (by first | assumption | rfl | exact led_1 (by assumption) | exact led_2 (by assumption) | exact bk_m (by assumption) (by first | assumption | omega) | exact bk_p (by assumption) (by first | assumption | omega) | exact bk_o (by assumption) (by first | assumption | omega) | exact bk_s (by assumption) (by first | assumption | omega) | exact bk_1 (by assumption) | exact bk_2 (by assumption) | exact bk_3 (by assumption) | exact bk_4 (by assumption) | exact bk_5 (by assumption) | exact bk_6 (by assumption) | exact bk_7 (by assumption) | exact bk_8 (by assumption) | exact sh_ring _ (by first | assumption | omega) | exact sh_imgs _ (by first | assumption | omega)) (by decide) rfl (by decide) (Nat.le_of_ble_eq_true rfl) (c_X12_own (k := 58 + 6 * o) hR hr.1.1 (by omega) (by decide) (by omega) ?_)
          refine v_icmp_ne (tgt := 93) dX12_wouldBe_64 (by decide) (fun hc64 => ?_) (fun hc64 => ?_)
          · (try rw [nI_eq (by omega) (by omega)] at hc64)
            refine v_iconst (v := nI 0) dX12_wouldBe_93 (by decide) ?_
            refine v_iadd dX12_wouldBe_94 ?_
            rw [nI_add]
            refine v_istore_3 rfl dX12_wouldBe_95 ?_
            refine v_iinc_4 (v := 1) rfl dX12_wouldBe_96 (by decide) ?_
            rw [show nI k + 1 = nI (k + 1) from nI_1 k]
            refine v_goto (tgt := 28) dX12_wouldBe_99 (by decide) ?_
            refine ih (k + 1) _ (by omega) ?_
            rw [← he, cup]
            first
              | (have e : aheadp F (some p) o k = true := (by show (decide _ && decide _ && couldV F (some p) k) = true; rw [decide_eq_true hc48, decide_eq_true hc64, show couldV F (some p) k = true from hc86]; rfl); rw [e, if_pos rfl]; omega)
              | (have e : aheadp F (some p) o k = false := (by show (decide _ && decide _ && couldV F (some p) k) = false; rw [show couldV F (some p) k = false from hc86, Bool.and_false]); rw [e, if_neg (by decide)]; omega)
              | (have e : aheadp F (some p) o k = false := (by show (decide _ && decide _ && couldV F (some p) k) = false; rw [decide_eq_false hc64, Bool.and_false]; rfl); rw [e, if_neg (by decide)]; omega)
              | (have e : aheadp F (some p) o k = false := (by show (decide _ && decide _ && couldV F (some p) k) = false; rw [decide_eq_false hc48]; rfl); rw [e, if_neg (by decide)]; omega)
          · (try rw [nI_eq (by omega) (by omega)] at hc64)
            refine v_aload_0 dX12_wouldBe_67 ?_
            refine u_getR dX12_wouldBe_68 gf_X12_20 (by first | assumption | rfl | exact led_1 (by assumption) | exact led_2 (by assumption) | exact bk_m (by assumption) (by first | assumption | omega) | exact bk_p (by assumption) (by first | assumption | omega) | exact bk_o (by assumption) (by first | assumption | omega) | exact bk_s (by assumption) (by first | assumption | omega) | exact bk_1 (by assumption) | exact bk_2 (by assumption) | exact bk_3 (by assumption) | exact bk_4 (by assumption) | exact bk_5 (by assumption) | exact bk_6 (by assumption) | exact bk_7 (by assumption) | exact bk_8 (by assumption) | exact sh_ring _ (by first | assumption | omega) | exact sh_imgs _ (by first | assumption | omega)) (ro_X12_15 (by assumption)) ?_
            refine v_bipush (v := nI 50) dX12_wouldBe_71 (by decide) ?_
            refine v_iload_2 dX12_wouldBe_73 ?_
            refine v_iadd dX12_wouldBe_74 ?_
            refine u_iald dX12_wouldBe_75 (by first | assumption | rfl | exact led_1 (by assumption) | exact led_2 (by assumption) | exact bk_m (by assumption) (by first | assumption | omega) | exact bk_p (by assumption) (by first | assumption | omega) | exact bk_o (by assumption) (by first | assumption | omega) | exact bk_s (by assumption) (by first | assumption | omega) | exact bk_1 (by assumption) | exact bk_2 (by assumption) | exact bk_3 (by assumption) | exact bk_4 (by assumption) | exact bk_5 (by assumption) | exact bk_6 (by assumption) | exact bk_7 (by assumption) | exact bk_8 (by assumption) | exact sh_ring _ (by first | assumption | omega) | exact sh_imgs _ (by first | assumption | omega)) (by first | with_reducible rfl | (simp only [nlit, nI_add, pk_mul]; with_reducible rfl) | rfl) (by first | assumption | omega) (by first | assumption | decide) ?_
            rw [hF _ (by omega)]
            refine v_aload_0 dX12_wouldBe_76 ?_
            refine v_iload_4 dX12_wouldBe_77 ?_
            refine v_iconst (v := nI 1) dX12_wouldBe_79 (by decide) ?_
            refine u_callV_2 dX12_wouldBe_80 ml_X12_319 mv_X12_own (by first | assumption | rfl | exact led_1 (by assumption) | exact led_2 (by assumption) | exact bk_m (by assumption) (by first | assumption | omega) | exact bk_p (by assumption) (by first | assumption | omega) | exact bk_o (by assumption) (by first | assumption | omega) | exact bk_s (by assumption) (by first | assumption | omega) | exact bk_1 (by assumption) | exact bk_2 (by assumption) | exact bk_3 (by assumption) | exact bk_4 (by assumption) | exact bk_5 (by assumption) | exact bk_6 (by assumption) | exact bk_7 (by assumption) | exact bk_8 (by assumption) | exact sh_ring _ (by first | assumption | omega) | exact sh_imgs _ (by first | assumption | omega)) (by decide) rfl (by decide) (Nat.le_of_ble_eq_true rfl) (c_X12_own (k := 57 + 6 * k) hR hr.1.1 (by omega) (by decide) (by omega) ?_)
            refine u_callS_2 dX12_wouldBe_83 ml_X12_158 ms_X12_has (by decide) (Nat.le_of_ble_eq_true rfl) (c_X12_has (k := F (57 + 6 * k)) (by omega) (by omega) ?_)
            refine v_if_eq (tgt := 93) dX12_wouldBe_86 (by decide) (fun hc86 => ?_) (fun hc86 => ?_)
            · (first | rw [bI_0, Bool.not_eq_false] at hc86 | rw [bI_0] at hc86 | rw [show (0 : Int32) = nI 0 from rfl, nI_eq (by omega) (by omega)] at hc86 | skip)
              refine v_iconst (v := nI 0) dX12_wouldBe_93 (by decide) ?_
              refine v_iadd dX12_wouldBe_94 ?_
              rw [nI_add]
              refine v_istore_3 rfl dX12_wouldBe_95 ?_
              refine v_iinc_4 (v := 1) rfl dX12_wouldBe_96 (by decide) ?_
              rw [show nI k + 1 = nI (k + 1) from nI_1 k]
              refine v_goto (tgt := 28) dX12_wouldBe_99 (by decide) ?_
              refine ih (k + 1) _ (by omega) ?_
              rw [← he, cup]
              first
                | (have e : aheadp F (some p) o k = true := (by show (decide _ && decide _ && couldV F (some p) k) = true; rw [decide_eq_true hc48, decide_eq_true hc64, show couldV F (some p) k = true from hc86]; rfl); rw [e, if_pos rfl]; omega)
                | (have e : aheadp F (some p) o k = false := (by show (decide _ && decide _ && couldV F (some p) k) = false; rw [show couldV F (some p) k = false from hc86, Bool.and_false]); rw [e, if_neg (by decide)]; omega)
                | (have e : aheadp F (some p) o k = false := (by show (decide _ && decide _ && couldV F (some p) k) = false; rw [decide_eq_false hc64, Bool.and_false]; rfl); rw [e, if_neg (by decide)]; omega)
                | (have e : aheadp F (some p) o k = false := (by show (decide _ && decide _ && couldV F (some p) k) = false; rw [decide_eq_false hc48]; rfl); rw [e, if_neg (by decide)]; omega)
            · (first | rw [bI_0, Bool.not_eq_false] at hc86 | rw [bI_0] at hc86 | rw [show (0 : Int32) = nI 0 from rfl, nI_eq (by omega) (by omega)] at hc86 | skip)
              refine v_iconst (v := nI 1) dX12_wouldBe_89 (by decide) ?_
              refine v_goto (tgt := 94) dX12_wouldBe_90 (by decide) ?_
              refine v_iadd dX12_wouldBe_94 ?_
              rw [nI_add]
              refine v_istore_3 rfl dX12_wouldBe_95 ?_
              refine v_iinc_4 (v := 1) rfl dX12_wouldBe_96 (by decide) ?_
              rw [show nI k + 1 = nI (k + 1) from nI_1 k]
              refine v_goto (tgt := 28) dX12_wouldBe_99 (by decide) ?_
              refine ih (k + 1) _ (by omega) ?_
              rw [← he, cup]
              first
                | (have e : aheadp F (some p) o k = true := (by show (decide _ && decide _ && couldV F (some p) k) = true; rw [decide_eq_true hc48, decide_eq_true hc64, show couldV F (some p) k = true from hc86]; rfl); rw [e, if_pos rfl]; omega)
                | (have e : aheadp F (some p) o k = false := (by show (decide _ && decide _ && couldV F (some p) k) = false; rw [show couldV F (some p) k = false from hc86, Bool.and_false]); rw [e, if_neg (by decide)]; omega)
                | (have e : aheadp F (some p) o k = false := (by show (decide _ && decide _ && couldV F (some p) k) = false; rw [decide_eq_false hc64, Bool.and_false]; rfl); rw [e, if_neg (by decide)]; omega)
                | (have e : aheadp F (some p) o k = false := (by show (decide _ && decide _ && couldV F (some p) k) = false; rw [decide_eq_false hc48]; rfl); rw [e, if_neg (by decide)]; omega)
  refine K.of (M := mX12_wouldBe) (lv := [some (.ref (b + 157)), some (.int (nI o)), some (.int (nI p)), none, none]) (by decide) (Nat.le_of_ble_eq_true rfl) rfl ?_
  refine v_aload_0 dX12_wouldBe_0 ?_
  refine u_getR dX12_wouldBe_1 gf_X12_20 (by first | assumption | rfl | exact led_1 (by assumption) | exact led_2 (by assumption) | exact bk_m (by assumption) (by first | assumption | omega) | exact bk_p (by assumption) (by first | assumption | omega) | exact bk_o (by assumption) (by first | assumption | omega) | exact bk_s (by assumption) (by first | assumption | omega) | exact bk_1 (by assumption) | exact bk_2 (by assumption) | exact bk_3 (by assumption) | exact bk_4 (by assumption) | exact bk_5 (by assumption) | exact bk_6 (by assumption) | exact bk_7 (by assumption) | exact bk_8 (by assumption) | exact sh_ring _ (by first | assumption | omega) | exact sh_imgs _ (by first | assumption | omega)) (ro_X12_15 (by assumption)) ?_
  refine v_bipush (v := nI 50) dX12_wouldBe_4 (by decide) ?_
  refine v_iload_2 dX12_wouldBe_6 ?_
  refine v_iadd dX12_wouldBe_7 ?_
  refine u_iald dX12_wouldBe_8 (by first | assumption | rfl | exact led_1 (by assumption) | exact led_2 (by assumption) | exact bk_m (by assumption) (by first | assumption | omega) | exact bk_p (by assumption) (by first | assumption | omega) | exact bk_o (by assumption) (by first | assumption | omega) | exact bk_s (by assumption) (by first | assumption | omega) | exact bk_1 (by assumption) | exact bk_2 (by assumption) | exact bk_3 (by assumption) | exact bk_4 (by assumption) | exact bk_5 (by assumption) | exact bk_6 (by assumption) | exact bk_7 (by assumption) | exact bk_8 (by assumption) | exact sh_ring _ (by first | assumption | omega) | exact sh_imgs _ (by first | assumption | omega)) (by first | with_reducible rfl | (simp only [nlit, nI_add, pk_mul]; with_reducible rfl) | rfl) (by first | assumption | omega) (by first | assumption | decide) ?_
  rw [hF _ (by omega)]
  refine v_aload_0 dX12_wouldBe_9 ?_
  refine v_iload_1 dX12_wouldBe_10 ?_
  refine v_iconst (v := nI 1) dX12_wouldBe_11 (by decide) ?_
  refine u_callV_2 dX12_wouldBe_12 ml_X12_319 mv_X12_own (by first | assumption | rfl | exact led_1 (by assumption) | exact led_2 (by assumption) | exact bk_m (by assumption) (by first | assumption | omega) | exact bk_p (by assumption) (by first | assumption | omega) | exact bk_o (by assumption) (by first | assumption | omega) | exact bk_s (by assumption) (by first | assumption | omega) | exact bk_1 (by assumption) | exact bk_2 (by assumption) | exact bk_3 (by assumption) | exact bk_4 (by assumption) | exact bk_5 (by assumption) | exact bk_6 (by assumption) | exact bk_7 (by assumption) | exact bk_8 (by assumption) | exact sh_ring _ (by first | assumption | omega) | exact sh_imgs _ (by first | assumption | omega)) (by decide) rfl (by decide) (Nat.le_of_ble_eq_true rfl) (c_X12_own (k := 57 + 6 * o) hR hr.1.1 (by omega) (by decide) (by omega) ?_)
  refine u_callS_2 dX12_wouldBe_15 ml_X12_158 ms_X12_has (by decide) (Nat.le_of_ble_eq_true rfl) (c_X12_has (k := F (57 + 6 * o)) (by omega) (by omega) ?_)
  refine v_if_ne (tgt := 23) dX12_wouldBe_18 (by decide) (fun hc18 => ?_) (fun hc18 => ?_)
  · (first | rw [bI_0, Bool.not_eq_false] at hc18 | rw [bI_0] at hc18 | rw [show (0 : Int32) = nI 0 from rfl, nI_eq (by omega) (by omega)] at hc18 | skip)
    refine v_iconst (v := nI 0) dX12_wouldBe_23 (by decide) ?_
    refine v_istore_3 rfl dX12_wouldBe_24 ?_
    refine v_iconst (v := nI 0) dX12_wouldBe_25 (by decide) ?_
    refine v_istore_4 rfl dX12_wouldBe_26 ?_
    exact loop hc18 o 0 0 (by omega) (by omega)
  · (first | rw [bI_0, Bool.not_eq_false] at hc18 | rw [bI_0] at hc18 | rw [show (0 : Int32) = nI 0 from rfl, nI_eq (by omega) (by omega)] at hc18 | skip)
    refine v_iconst (v := nI 0) dX12_wouldBe_21 (by decide) ?_
    refine v_zret dX12_wouldBe_22 (by first | rfl | exact bI_n _) rfl rfl rfl rfl ?_
    have e : wouldV F (some p) o = false := (by unfold wouldV; rw [show couldV F (some p) o = false from hc18]; rfl)
    rw [e] at hQ
    exact hQ
theorem c_X12_owed {o : Nat} (hR : RO R) (hr : RfI I F s) (ho : o < F 4) (hQ : Q (some (.int (eP (owe F s.1 s.2.1 o)))) SH I L R) : KK 3 mX12_owed b ad [.ref (b + 157), .int (nI o)] I L R Q := by
  have hO := hr.1.2.2.1
  have o2 := hO.2.2.1
  have o3 := hO.2.2.2.1
  have o4 := hO.2.2.2.2.1
  have o0 := hO.1
  have hS := hr.2.1
  have hK := hr.2.2
  have hn20 := hK.1
  have hok : ∀ i, i < s.1 → ok4 (s.2.1 i) := fun i hi => (hK.2.1 i hi).1
  obtain ⟨y1, y2, y3, y4, y5, y6, y7⟩ := fk_o hO ho
  refine K.of (M := mX12_owed) (lv := [some (.ref (b + 157)), some (.int (nI o))]) (by decide) (Nat.le_of_ble_eq_true rfl) rfl ?_
  refine v_aload_0 dX12_owed_0 ?_
  refine v_aload_0 dX12_owed_1 ?_
  refine v_iload_1 dX12_owed_2 ?_
  refine v_iconst (v := nI 0) dX12_owed_3 (by decide) ?_
  refine u_callV_2 dX12_owed_4 ml_X12_319 mv_X12_own (by first | assumption | rfl | exact led_1 (by assumption) | exact led_2 (by assumption) | exact bk_m (by assumption) (by first | assumption | omega) | exact bk_p (by assumption) (by first | assumption | omega) | exact bk_o (by assumption) (by first | assumption | omega) | exact bk_s (by assumption) (by first | assumption | omega) | exact bk_1 (by assumption) | exact bk_2 (by assumption) | exact bk_3 (by assumption) | exact bk_4 (by assumption) | exact bk_5 (by assumption) | exact bk_6 (by assumption) | exact bk_7 (by assumption) | exact bk_8 (by assumption) | exact sh_ring _ (by first | assumption | omega) | exact sh_imgs _ (by first | assumption | omega)) (by decide) rfl (by decide) (Nat.le_of_ble_eq_true rfl) (c_X12_own (k := 56 + 6 * o) hR hr.1.1 (by omega) (by decide) (by omega) ?_)
  refine v_aload_0 dX12_owed_7 ?_
  refine v_iload_1 dX12_owed_8 ?_
  refine v_iconst (v := nI 2) dX12_owed_9 (by decide) ?_
  refine u_callV_2 dX12_owed_10 ml_X12_319 mv_X12_own (by first | assumption | rfl | exact led_1 (by assumption) | exact led_2 (by assumption) | exact bk_m (by assumption) (by first | assumption | omega) | exact bk_p (by assumption) (by first | assumption | omega) | exact bk_o (by assumption) (by first | assumption | omega) | exact bk_s (by assumption) (by first | assumption | omega) | exact bk_1 (by assumption) | exact bk_2 (by assumption) | exact bk_3 (by assumption) | exact bk_4 (by assumption) | exact bk_5 (by assumption) | exact bk_6 (by assumption) | exact bk_7 (by assumption) | exact bk_8 (by assumption) | exact sh_ring _ (by first | assumption | omega) | exact sh_imgs _ (by first | assumption | omega)) (by decide) rfl (by decide) (Nat.le_of_ble_eq_true rfl) (c_X12_own (k := 58 + 6 * o) hR hr.1.1 (by omega) (by decide) (by omega) ?_)
  refine u_callV_2 dX12_owed_13 ml_X12_316 mv_X12_wearerOf (by first | assumption | rfl | exact led_1 (by assumption) | exact led_2 (by assumption) | exact bk_m (by assumption) (by first | assumption | omega) | exact bk_p (by assumption) (by first | assumption | omega) | exact bk_o (by assumption) (by first | assumption | omega) | exact bk_s (by assumption) (by first | assumption | omega) | exact bk_1 (by assumption) | exact bk_2 (by assumption) | exact bk_3 (by assumption) | exact bk_4 (by assumption) | exact bk_5 (by assumption) | exact bk_6 (by assumption) | exact bk_7 (by assumption) | exact bk_8 (by assumption) | exact sh_ring _ (by first | assumption | omega) | exact sh_imgs _ (by first | assumption | omega)) (by decide) rfl (by decide) (Nat.le_of_ble_eq_true rfl) (c_X12_wearerOf hR hr (by omega) (by omega) ?_)
  refine v_iret dX12_owed_16 rfl rfl rfl rfl ?_
  exact hQ
theorem c_X12_isDone {o : Nat} (hR : RO R) (hr : RfI I F s) (ho : o < F 4) (hQ : Q (some (.int (bI (doneV F s.1 s.2.1 s.2.2 o)))) SH I L R) : KK 4 mX12_isDone b ad [.ref (b + 157), .int (nI o)] I L R Q := by
  have hO := hr.1.2.2.1
  have o2 := hO.2.2.1
  have o3 := hO.2.2.2.1
  have o4 := hO.2.2.2.2.1
  have o0 := hO.1
  have hS := hr.2.1
  have hK := hr.2.2
  have hn20 := hK.1
  have hok : ∀ i, i < s.1 → ok4 (s.2.1 i) := fun i hi => (hK.2.1 i hi).1
  obtain ⟨y1, y2, y3, y4, y5, y6, y7⟩ := fk_o hO ho
  refine K.of (M := mX12_isDone) (lv := [some (.ref (b + 157)), some (.int (nI o)), none]) (by decide) (Nat.le_of_ble_eq_true rfl) rfl ?_
  refine v_aload_0 dX12_isDone_0 ?_
  refine v_iload_1 dX12_isDone_1 ?_
  refine u_callV_1 dX12_isDone_2 ml_X12_322 mv_X12_owed (by first | assumption | rfl | exact led_1 (by assumption) | exact led_2 (by assumption) | exact bk_m (by assumption) (by first | assumption | omega) | exact bk_p (by assumption) (by first | assumption | omega) | exact bk_o (by assumption) (by first | assumption | omega) | exact bk_s (by assumption) (by first | assumption | omega) | exact bk_1 (by assumption) | exact bk_2 (by assumption) | exact bk_3 (by assumption) | exact bk_4 (by assumption) | exact bk_5 (by assumption) | exact bk_6 (by assumption) | exact bk_7 (by assumption) | exact bk_8 (by assumption) | exact sh_ring _ (by first | assumption | omega) | exact sh_imgs _ (by first | assumption | omega)) (by decide) rfl (by decide) (Nat.le_of_ble_eq_true rfl) (c_X12_owed hR hr ho ?_)
  refine v_istore_2 rfl dX12_isDone_5 ?_
  cases hf : owe F s.1 s.2.1 o with
  | none =>
    have e : doneV F s.1 s.2.1 s.2.2 o = false := by unfold doneV; rw [hf]
    rw [e] at hQ
    show VV _ _ _ _ _ _ _ _ _ [some (.ref (b + 157)), some (.int (nI o)), some (.int (-2))] _ _ _ _
    refine v_iload_2 dX12_isDone_6 ?_
    refine v_bipush (v := -2) dX12_isDone_7 (by decide) ?_
    refine v_icmp_eq (tgt := 39) dX12_isDone_9 (by decide) (fun hc9 => ?_) (fun hc9 => ?_)
    · (try rw [nI_eq (by omega) (by omega)] at hc9)
      refine v_iconst (v := nI 0) dX12_isDone_39 (by decide) ?_
      refine v_zret dX12_isDone_40 (by first | rfl | exact bI_n _) rfl rfl rfl rfl ?_
      exact hQ
    · exact absurd rfl hc9
  | some p =>
    have hp := owe_lt hK.pers hf
    have e : doneV F s.1 s.2.1 s.2.2 o = (wouldV F (some p) o && !(s.2.2 p).testBit (F (58 + 6 * o))) := by unfold doneV; rw [hf]
    rw [e] at hQ
    show VV _ _ _ _ _ _ _ _ _ [some (.ref (b + 157)), some (.int (nI o)), some (.int (nI p))] _ _ _ _
    refine v_iload_2 dX12_isDone_6 ?_
    refine v_bipush (v := -2) dX12_isDone_7 (by decide) ?_
    refine v_icmp_eq (tgt := 39) dX12_isDone_9 (by decide) (fun hc9 => ?_) (fun hc9 => ?_)
    · exact absurd hc9 (fun q => by have h0 := nI_pos (n := p) (by omega); rw [q] at h0; exact h0 (by decide))
    · (try rw [nI_eq (by omega) (by omega)] at hc9)
      refine v_aload_0 dX12_isDone_12 ?_
      refine v_iload_2 dX12_isDone_13 ?_
      refine v_aload_0 dX12_isDone_14 ?_
      refine v_iload_1 dX12_isDone_15 ?_
      refine v_iconst (v := nI 2) dX12_isDone_16 (by decide) ?_
      refine u_callV_2 dX12_isDone_17 ml_X12_319 mv_X12_own (by first | assumption | rfl | exact led_1 (by assumption) | exact led_2 (by assumption) | exact bk_m (by assumption) (by first | assumption | omega) | exact bk_p (by assumption) (by first | assumption | omega) | exact bk_o (by assumption) (by first | assumption | omega) | exact bk_s (by assumption) (by first | assumption | omega) | exact bk_1 (by assumption) | exact bk_2 (by assumption) | exact bk_3 (by assumption) | exact bk_4 (by assumption) | exact bk_5 (by assumption) | exact bk_6 (by assumption) | exact bk_7 (by assumption) | exact bk_8 (by assumption) | exact sh_ring _ (by first | assumption | omega) | exact sh_imgs _ (by first | assumption | omega)) (by decide) rfl (by decide) (Nat.le_of_ble_eq_true rfl) (c_X12_own (k := 58 + 6 * o) hR hr.1.1 (by omega) (by decide) (by omega) ?_)
      refine u_callV_2 dX12_isDone_20 ml_X12_325 mv_X12_isBroken (by first | assumption | rfl | exact led_1 (by assumption) | exact led_2 (by assumption) | exact bk_m (by assumption) (by first | assumption | omega) | exact bk_p (by assumption) (by first | assumption | omega) | exact bk_o (by assumption) (by first | assumption | omega) | exact bk_s (by assumption) (by first | assumption | omega) | exact bk_1 (by assumption) | exact bk_2 (by assumption) | exact bk_3 (by assumption) | exact bk_4 (by assumption) | exact bk_5 (by assumption) | exact bk_6 (by assumption) | exact bk_7 (by assumption) | exact bk_8 (by assumption) | exact sh_ring _ (by first | assumption | omega) | exact sh_imgs _ (by first | assumption | omega)) (by decide) rfl (by decide) (Nat.le_of_ble_eq_true rfl) (c_X12_isBroken hR hr (by omega) (by omega) ?_)
      refine v_if_ne (tgt := 39) dX12_isDone_23 (by decide) (fun hc23 => ?_) (fun hc23 => ?_)
      · (first | rw [bI_0, Bool.not_eq_false] at hc23 | rw [bI_0] at hc23 | rw [show (0 : Int32) = nI 0 from rfl, nI_eq (by omega) (by omega)] at hc23 | skip)
        refine v_iconst (v := nI 0) dX12_isDone_39 (by decide) ?_
        refine v_zret dX12_isDone_40 (by first | rfl | exact bI_n _) rfl rfl rfl rfl ?_
        first
          | (rw [hc23, hc32] at hQ; exact hQ)
          | (rw [hc23, Bool.not_true, Bool.and_false] at hQ; exact hQ)
      · (first | rw [bI_0, Bool.not_eq_false] at hc23 | rw [bI_0] at hc23 | rw [show (0 : Int32) = nI 0 from rfl, nI_eq (by omega) (by omega)] at hc23 | skip)
        refine v_aload_0 dX12_isDone_26 ?_
        refine v_iload_1 dX12_isDone_27 ?_
        refine v_iload_2 dX12_isDone_28 ?_
        refine u_callV_2 dX12_isDone_29 ml_X12_328 mv_X12_wouldBe (by first | assumption | rfl | exact led_1 (by assumption) | exact led_2 (by assumption) | exact bk_m (by assumption) (by first | assumption | omega) | exact bk_p (by assumption) (by first | assumption | omega) | exact bk_o (by assumption) (by first | assumption | omega) | exact bk_s (by assumption) (by first | assumption | omega) | exact bk_1 (by assumption) | exact bk_2 (by assumption) | exact bk_3 (by assumption) | exact bk_4 (by assumption) | exact bk_5 (by assumption) | exact bk_6 (by assumption) | exact bk_7 (by assumption) | exact bk_8 (by assumption) | exact sh_ring _ (by first | assumption | omega) | exact sh_imgs _ (by first | assumption | omega)) (by decide) rfl (by decide) (Nat.le_of_ble_eq_true rfl) (c_X12_wouldBe hR hr ho hp ?_)
        refine v_if_eq (tgt := 39) dX12_isDone_32 (by decide) (fun hc32 => ?_) (fun hc32 => ?_)
        · (first | rw [bI_0, Bool.not_eq_false] at hc32 | rw [bI_0] at hc32 | rw [show (0 : Int32) = nI 0 from rfl, nI_eq (by omega) (by omega)] at hc32 | skip)
          refine v_iconst (v := nI 0) dX12_isDone_39 (by decide) ?_
          refine v_zret dX12_isDone_40 (by first | rfl | exact bI_n _) rfl rfl rfl rfl ?_
          first
            | (rw [hc23, hc32] at hQ; exact hQ)
            | (rw [hc23, Bool.not_true, Bool.and_false] at hQ; exact hQ)
        · (first | rw [bI_0, Bool.not_eq_false] at hc32 | rw [bI_0] at hc32 | rw [show (0 : Int32) = nI 0 from rfl, nI_eq (by omega) (by omega)] at hc32 | skip)
          refine v_iconst (v := nI 1) dX12_isDone_35 (by decide) ?_
          refine v_goto (tgt := 40) dX12_isDone_36 (by decide) ?_
          refine v_zret dX12_isDone_40 (by first | rfl | exact bI_n _) rfl rfl rfl rfl ?_
          first
            | (rw [hc23, hc32] at hQ; exact hQ)
            | (rw [hc23, Bool.not_true, Bool.and_false] at hQ; exact hQ)
theorem c_X12_debtOf {od : Option Nat} {d : Nat} (hR : RO R) (hr : RfI I F s) (hod : ∀ p, od = some p → p < 2 ^ 31) (hd : d < 2 ^ 31) (hQ : Q (some (.int (sui (finesf F s.1 s.2.1 s.2.2 od d) 0 (F 4) 0))) SH I L R) : KK 5 mX12_debtOf b ad [.ref (b + 157), .int (eP od), .int (nI d)] I L R Q := by
  have hO := hr.1.2.2.1
  have o2 := hO.2.2.1
  have o3 := hO.2.2.2.1
  have o4 := hO.2.2.2.2.1
  have o0 := hO.1
  have hS := hr.2.1
  have hK := hr.2.2
  have hn20 := hK.1
  have hok : ∀ i, i < s.1 → ok4 (s.2.1 i) := fun i hi => (hK.2.1 i hi).1
  have hF := hr.1.1.2
  have loop : ∀ (j i : Nat) (acc : Int32), i + j = F 4 → sui (finesf F s.1 s.2.1 s.2.2 od d) i j acc = sui (finesf F s.1 s.2.1 s.2.2 od d) 0 (F 4) 0 → VV yX12_debtOf cX12_debtOf 5 (some .int) 5 Q b ad 5 [some (.ref (b + 157)), some (.int (eP od)), some (.int (nI d)), some (.int acc), some (.int (nI i))] [] I L R := by
    intro j
    induction j with
    | zero =>
      intro i acc hi he
      have he : acc = _ := he
      subst he
      refine v_iload_4 dX12_debtOf_5 ?_
      refine v_aload_0 dX12_debtOf_7 ?_
      refine u_getR dX12_debtOf_8 gf_X12_20 (by first | assumption | rfl | exact led_1 (by assumption) | exact led_2 (by assumption) | exact bk_m (by assumption) (by first | assumption | omega) | exact bk_p (by assumption) (by first | assumption | omega) | exact bk_o (by assumption) (by first | assumption | omega) | exact bk_s (by assumption) (by first | assumption | omega) | exact bk_1 (by assumption) | exact bk_2 (by assumption) | exact bk_3 (by assumption) | exact bk_4 (by assumption) | exact bk_5 (by assumption) | exact bk_6 (by assumption) | exact bk_7 (by assumption) | exact bk_8 (by assumption) | exact sh_ring _ (by first | assumption | omega) | exact sh_imgs _ (by first | assumption | omega)) (ro_X12_15 (by assumption)) ?_
      refine v_iconst (v := nI 4) dX12_debtOf_11 (by decide) ?_
      refine u_iald dX12_debtOf_12 (by first | assumption | rfl | exact led_1 (by assumption) | exact led_2 (by assumption) | exact bk_m (by assumption) (by first | assumption | omega) | exact bk_p (by assumption) (by first | assumption | omega) | exact bk_o (by assumption) (by first | assumption | omega) | exact bk_s (by assumption) (by first | assumption | omega) | exact bk_1 (by assumption) | exact bk_2 (by assumption) | exact bk_3 (by assumption) | exact bk_4 (by assumption) | exact bk_5 (by assumption) | exact bk_6 (by assumption) | exact bk_7 (by assumption) | exact bk_8 (by assumption) | exact sh_ring _ (by first | assumption | omega) | exact sh_imgs _ (by first | assumption | omega)) (by first | with_reducible rfl | (simp only [nlit, nI_add, pk_mul]; with_reducible rfl) | rfl) (by first | assumption | omega) (by first | assumption | decide) ?_
      rw [hF 4 (by decide)]
      refine v_icmp_ge (tgt := 66) dX12_debtOf_13 (by decide) (fun hc13 => ?_) (fun hc13 => ?_)
      · (try rw [nI_leI (by omega) (by omega)] at hc13)
        refine v_iload_3 dX12_debtOf_66 ?_
        refine v_iret dX12_debtOf_67 rfl rfl rfl rfl ?_
        exact hQ
      · exact absurd (nI_le (by omega) (by omega)) hc13
    | succ j ih =>
      intro i acc hij he
      have hi : i < F 4 := by omega
      obtain ⟨y1, y2, y3, y4, y5, y6, y7⟩ := fk_o hO hi
      refine v_iload_4 dX12_debtOf_5 ?_
      refine v_aload_0 dX12_debtOf_7 ?_
      refine u_getR dX12_debtOf_8 gf_X12_20 (by first | assumption | rfl | exact led_1 (by assumption) | exact led_2 (by assumption) | exact bk_m (by assumption) (by first | assumption | omega) | exact bk_p (by assumption) (by first | assumption | omega) | exact bk_o (by assumption) (by first | assumption | omega) | exact bk_s (by assumption) (by first | assumption | omega) | exact bk_1 (by assumption) | exact bk_2 (by assumption) | exact bk_3 (by assumption) | exact bk_4 (by assumption) | exact bk_5 (by assumption) | exact bk_6 (by assumption) | exact bk_7 (by assumption) | exact bk_8 (by assumption) | exact sh_ring _ (by first | assumption | omega) | exact sh_imgs _ (by first | assumption | omega)) (ro_X12_15 (by assumption)) ?_
      refine v_iconst (v := nI 4) dX12_debtOf_11 (by decide) ?_
      refine u_iald dX12_debtOf_12 (by first | assumption | rfl | exact led_1 (by assumption) | exact led_2 (by assumption) | exact bk_m (by assumption) (by first | assumption | omega) | exact bk_p (by assumption) (by first | assumption | omega) | exact bk_o (by assumption) (by first | assumption | omega) | exact bk_s (by assumption) (by first | assumption | omega) | exact bk_1 (by assumption) | exact bk_2 (by assumption) | exact bk_3 (by assumption) | exact bk_4 (by assumption) | exact bk_5 (by assumption) | exact bk_6 (by assumption) | exact bk_7 (by assumption) | exact bk_8 (by assumption) | exact sh_ring _ (by first | assumption | omega) | exact sh_imgs _ (by first | assumption | omega)) (by first | with_reducible rfl | (simp only [nlit, nI_add, pk_mul]; with_reducible rfl) | rfl) (by first | assumption | omega) (by first | assumption | decide) ?_
      rw [hF 4 (by decide)]
      refine v_icmp_ge (tgt := 66) dX12_debtOf_13 (by decide) (fun hc13 => ?_) (fun hc13 => ?_)
      · exact absurd hc13 (nI_ge (by omega) (by omega))
      · (try rw [nI_leI (by omega) (by omega)] at hc13)
        refine v_iload_3 dX12_debtOf_16 ?_
        refine v_aload_0 dX12_debtOf_17 ?_
        refine v_iload_4 dX12_debtOf_18 ?_
        refine v_iconst (v := nI 2) dX12_debtOf_20 (by decide) ?_
        refine u_callV_2 dX12_debtOf_21 ml_X12_319 mv_X12_own (by first | assumption | rfl | exact led_1 (by assumption) | exact led_2 (by assumption) | exact bk_m (by assumption) (by first | assumption | omega) | exact bk_p (by assumption) (by first | assumption | omega) | exact bk_o (by assumption) (by first | assumption | omega) | exact bk_s (by assumption) (by first | assumption | omega) | exact bk_1 (by assumption) | exact bk_2 (by assumption) | exact bk_3 (by assumption) | exact bk_4 (by assumption) | exact bk_5 (by assumption) | exact bk_6 (by assumption) | exact bk_7 (by assumption) | exact bk_8 (by assumption) | exact sh_ring _ (by first | assumption | omega) | exact sh_imgs _ (by first | assumption | omega)) (by decide) rfl (by decide) (Nat.le_of_ble_eq_true rfl) (c_X12_own (k := 58 + 6 * i) hR hr.1.1 (by omega) (by decide) (by omega) ?_)
        refine v_iload_2 dX12_debtOf_24 ?_
        refine v_icmp_gt (tgt := 57) dX12_debtOf_25 (by decide) (fun hc25 => ?_) (fun hc25 => ?_)
        · (try rw [nI_ltI (by omega) (by omega)] at hc25)
          refine v_iconst (v := nI 0) dX12_debtOf_57 (by decide) ?_
          refine v_iadd dX12_debtOf_58 ?_
          refine v_istore_3 rfl dX12_debtOf_59 ?_
          refine v_iinc_4 (v := 1) rfl dX12_debtOf_60 (by decide) ?_
          rw [show nI i + 1 = nI (i + 1) from nI_1 i]
          refine v_goto (tgt := 5) dX12_debtOf_63 (by decide) ?_
          refine ih (i + 1) _ (by omega) ?_
          rw [← he]
          show _ = sui (finesf F s.1 s.2.1 s.2.2 od d) (i + 1) j (acc + finesf F s.1 s.2.1 s.2.2 od d i)
          congr 2
          unfold finesf
          first
            | (rw [if_pos (by omega), if_pos hc35, if_neg (by rw [hc44]; decide)]; first | done | rfl)
            | (rw [if_pos (by omega), if_pos hc35, if_pos hc44]; first | done | rfl)
            | (rw [if_pos (by omega), if_neg hc35]; first | done | rfl)
            | (rw [if_neg (by omega)]; first | done | rfl)
        · (try rw [nI_ltI (by omega) (by omega)] at hc25)
          refine v_aload_0 dX12_debtOf_28 ?_
          refine v_iload_4 dX12_debtOf_29 ?_
          refine u_callV_1 dX12_debtOf_31 ml_X12_322 mv_X12_owed (by first | assumption | rfl | exact led_1 (by assumption) | exact led_2 (by assumption) | exact bk_m (by assumption) (by first | assumption | omega) | exact bk_p (by assumption) (by first | assumption | omega) | exact bk_o (by assumption) (by first | assumption | omega) | exact bk_s (by assumption) (by first | assumption | omega) | exact bk_1 (by assumption) | exact bk_2 (by assumption) | exact bk_3 (by assumption) | exact bk_4 (by assumption) | exact bk_5 (by assumption) | exact bk_6 (by assumption) | exact bk_7 (by assumption) | exact bk_8 (by assumption) | exact sh_ring _ (by first | assumption | omega) | exact sh_imgs _ (by first | assumption | omega)) (by decide) rfl (by decide) (Nat.le_of_ble_eq_true rfl) (c_X12_owed hR hr hi ?_)
          refine v_iload_1 dX12_debtOf_34 ?_
          refine v_icmp_ne (tgt := 57) dX12_debtOf_35 (by decide) (fun hc35 => ?_) (fun hc35 => ?_)
          · rw [eP_inj (fun p q => by have := owe_lt hK.pers q; omega) hod] at hc35
            refine v_iconst (v := nI 0) dX12_debtOf_57 (by decide) ?_
            refine v_iadd dX12_debtOf_58 ?_
            refine v_istore_3 rfl dX12_debtOf_59 ?_
            refine v_iinc_4 (v := 1) rfl dX12_debtOf_60 (by decide) ?_
            rw [show nI i + 1 = nI (i + 1) from nI_1 i]
            refine v_goto (tgt := 5) dX12_debtOf_63 (by decide) ?_
            refine ih (i + 1) _ (by omega) ?_
            rw [← he]
            show _ = sui (finesf F s.1 s.2.1 s.2.2 od d) (i + 1) j (acc + finesf F s.1 s.2.1 s.2.2 od d i)
            congr 2
            unfold finesf
            first
              | (rw [if_pos (by omega), if_pos hc35, if_neg (by rw [hc44]; decide)]; first | done | rfl)
              | (rw [if_pos (by omega), if_pos hc35, if_pos hc44]; first | done | rfl)
              | (rw [if_pos (by omega), if_neg hc35]; first | done | rfl)
              | (rw [if_neg (by omega)]; first | done | rfl)
          · rw [eP_inj (fun p q => by have := owe_lt hK.pers q; omega) hod] at hc35
            refine v_aload_0 dX12_debtOf_38 ?_
            refine v_iload_4 dX12_debtOf_39 ?_
            refine u_callV_1 dX12_debtOf_41 ml_X12_334 mv_X12_isDone (by first | assumption | rfl | exact led_1 (by assumption) | exact led_2 (by assumption) | exact bk_m (by assumption) (by first | assumption | omega) | exact bk_p (by assumption) (by first | assumption | omega) | exact bk_o (by assumption) (by first | assumption | omega) | exact bk_s (by assumption) (by first | assumption | omega) | exact bk_1 (by assumption) | exact bk_2 (by assumption) | exact bk_3 (by assumption) | exact bk_4 (by assumption) | exact bk_5 (by assumption) | exact bk_6 (by assumption) | exact bk_7 (by assumption) | exact bk_8 (by assumption) | exact sh_ring _ (by first | assumption | omega) | exact sh_imgs _ (by first | assumption | omega)) (by decide) rfl (by decide) (Nat.le_of_ble_eq_true rfl) (c_X12_isDone hR hr hi ?_)
            refine v_if_ne (tgt := 57) dX12_debtOf_44 (by decide) (fun hc44 => ?_) (fun hc44 => ?_)
            · (first | rw [bI_0, Bool.not_eq_false] at hc44 | rw [bI_0] at hc44 | rw [show (0 : Int32) = nI 0 from rfl, nI_eq (by omega) (by omega)] at hc44 | skip)
              refine v_iconst (v := nI 0) dX12_debtOf_57 (by decide) ?_
              refine v_iadd dX12_debtOf_58 ?_
              refine v_istore_3 rfl dX12_debtOf_59 ?_
              refine v_iinc_4 (v := 1) rfl dX12_debtOf_60 (by decide) ?_
              rw [show nI i + 1 = nI (i + 1) from nI_1 i]
              refine v_goto (tgt := 5) dX12_debtOf_63 (by decide) ?_
              refine ih (i + 1) _ (by omega) ?_
              rw [← he]
              show _ = sui (finesf F s.1 s.2.1 s.2.2 od d) (i + 1) j (acc + finesf F s.1 s.2.1 s.2.2 od d i)
              congr 2
              unfold finesf
              first
                | (rw [if_pos (by omega), if_pos hc35, if_neg (by rw [hc44]; decide)]; first | done | rfl)
                | (rw [if_pos (by omega), if_pos hc35, if_pos hc44]; first | done | rfl)
                | (rw [if_pos (by omega), if_neg hc35]; first | done | rfl)
                | (rw [if_neg (by omega)]; first | done | rfl)
            · (first | rw [bI_0, Bool.not_eq_false] at hc44 | rw [bI_0] at hc44 | rw [show (0 : Int32) = nI 0 from rfl, nI_eq (by omega) (by omega)] at hc44 | skip)
              refine v_aload_0 dX12_debtOf_47 ?_
              refine v_iload_4 dX12_debtOf_48 ?_
              refine v_iconst (v := nI 4) dX12_debtOf_50 (by decide) ?_
              refine u_callV_2 dX12_debtOf_51 ml_X12_319 mv_X12_own (by first | assumption | rfl | exact led_1 (by assumption) | exact led_2 (by assumption) | exact bk_m (by assumption) (by first | assumption | omega) | exact bk_p (by assumption) (by first | assumption | omega) | exact bk_o (by assumption) (by first | assumption | omega) | exact bk_s (by assumption) (by first | assumption | omega) | exact bk_1 (by assumption) | exact bk_2 (by assumption) | exact bk_3 (by assumption) | exact bk_4 (by assumption) | exact bk_5 (by assumption) | exact bk_6 (by assumption) | exact bk_7 (by assumption) | exact bk_8 (by assumption) | exact sh_ring _ (by first | assumption | omega) | exact sh_imgs _ (by first | assumption | omega)) (by decide) rfl (by decide) (Nat.le_of_ble_eq_true rfl) (c_X12_own (k := 60 + 6 * i) hR hr.1.1 (by omega) (by decide) (by omega) ?_)
              refine v_goto (tgt := 58) dX12_debtOf_54 (by decide) ?_
              refine v_iadd dX12_debtOf_58 ?_
              refine v_istore_3 rfl dX12_debtOf_59 ?_
              refine v_iinc_4 (v := 1) rfl dX12_debtOf_60 (by decide) ?_
              rw [show nI i + 1 = nI (i + 1) from nI_1 i]
              refine v_goto (tgt := 5) dX12_debtOf_63 (by decide) ?_
              refine ih (i + 1) _ (by omega) ?_
              rw [← he]
              show _ = sui (finesf F s.1 s.2.1 s.2.2 od d) (i + 1) j (acc + finesf F s.1 s.2.1 s.2.2 od d i)
              congr 2
              unfold finesf
              first
                | (rw [if_pos (by omega), if_pos hc35, if_neg (by rw [hc44]; decide)]; first | done | rfl)
                | (rw [if_pos (by omega), if_pos hc35, if_pos hc44]; first | done | rfl)
                | (rw [if_pos (by omega), if_neg hc35]; first | done | rfl)
                | (rw [if_neg (by omega)]; first | done | rfl)
  refine K.of (M := mX12_debtOf) (lv := [some (.ref (b + 157)), some (.int (eP od)), some (.int (nI d)), none, none]) (by decide) (Nat.le_of_ble_eq_true rfl) rfl ?_
  refine v_iconst (v := nI 0) dX12_debtOf_0 (by decide) ?_
  refine v_istore_3 rfl dX12_debtOf_1 ?_
  refine v_iconst (v := nI 0) dX12_debtOf_2 (by decide) ?_
  refine v_istore_4 rfl dX12_debtOf_3 ?_
  exact loop (F 4) 0 0 (by omega) rfl
theorem c_X12_planWhy {x : Int32} (hR : RO R) (hr : RrI I F) (hQ : Q (some (.int (nI (trc (decide (0 < F 0)) (ind x (F 0)))))) SH I L R) : KK 2 mX12_planWhy b ad [.ref (b + 157), .int x] I L R Q := by
  refine K.of (M := mX12_planWhy) (lv := [some (.ref (b + 157)), some (.int x)]) (by decide) (Nat.le_of_ble_eq_true rfl) rfl ?_
  refine v_aload_0 dX12_planWhy_0 ?_
  refine u_getI dX12_planWhy_1 gf_X12_186 (by first | assumption | rfl | exact led_1 (by assumption) | exact led_2 (by assumption) | exact bk_m (by assumption) (by first | assumption | omega) | exact bk_p (by assumption) (by first | assumption | omega) | exact bk_o (by assumption) (by first | assumption | omega) | exact bk_s (by assumption) (by first | assumption | omega) | exact bk_1 (by assumption) | exact bk_2 (by assumption) | exact bk_3 (by assumption) | exact bk_4 (by assumption) | exact bk_5 (by assumption) | exact bk_6 (by assumption) | exact bk_7 (by assumption) | exact bk_8 (by assumption) | exact sh_ring _ (by first | assumption | omega) | exact sh_imgs _ (by first | assumption | omega)) ?_
  rw [hr.2.1]
  refine v_if_ne (tgt := 11) dX12_planWhy_4 (by decide) (fun hc4 => ?_) (fun hc4 => ?_)
  · (first | rw [bI_0, Bool.not_eq_false] at hc4 | rw [bI_0] at hc4 | rw [show (0 : Int32) = nI 0 from rfl, nI_eq (by omega) (by omega)] at hc4 | skip)
    refine v_aload_0 dX12_planWhy_11 ?_
    refine v_iload_1 dX12_planWhy_12 ?_
    refine u_callV_1 dX12_planWhy_13 ml_X12_313 mv_X12_isDay (by first | assumption | rfl | exact led_1 (by assumption) | exact led_2 (by assumption) | exact bk_m (by assumption) (by first | assumption | omega) | exact bk_p (by assumption) (by first | assumption | omega) | exact bk_o (by assumption) (by first | assumption | omega) | exact bk_s (by assumption) (by first | assumption | omega) | exact bk_1 (by assumption) | exact bk_2 (by assumption) | exact bk_3 (by assumption) | exact bk_4 (by assumption) | exact bk_5 (by assumption) | exact bk_6 (by assumption) | exact bk_7 (by assumption) | exact bk_8 (by assumption) | exact sh_ring _ (by first | assumption | omega) | exact sh_imgs _ (by first | assumption | omega)) (by decide) rfl (by decide) (Nat.le_of_ble_eq_true rfl) (c_X12_isDay hR hr ?_)
    refine v_if_eq (tgt := 23) dX12_planWhy_16 (by decide) (fun hc16 => ?_) (fun hc16 => ?_)
    · (first | rw [bI_0, Bool.not_eq_false] at hc16 | rw [bI_0] at hc16 | rw [show (0 : Int32) = nI 0 from rfl, nI_eq (by omega) (by omega)] at hc16 | skip)
      refine v_iconst (v := nI 2) dX12_planWhy_23 (by decide) ?_
      refine v_iret dX12_planWhy_24 rfl rfl rfl rfl ?_
      unfold trc at hQ
      simp only [hc4, hc16, if_true, if_false, Bool.true_eq_false] at hQ
      exact hQ
    · (first | rw [bI_0, Bool.not_eq_false] at hc16 | rw [bI_0] at hc16 | rw [show (0 : Int32) = nI 0 from rfl, nI_eq (by omega) (by omega)] at hc16 | skip)
      refine v_iconst (v := nI 0) dX12_planWhy_19 (by decide) ?_
      refine v_goto (tgt := 24) dX12_planWhy_20 (by decide) ?_
      refine v_iret dX12_planWhy_24 rfl rfl rfl rfl ?_
      unfold trc at hQ
      simp only [hc4, hc16, if_true, if_false, Bool.true_eq_false] at hQ
      exact hQ
  · (first | rw [bI_0, Bool.not_eq_false] at hc4 | rw [bI_0] at hc4 | rw [show (0 : Int32) = nI 0 from rfl, nI_eq (by omega) (by omega)] at hc4 | skip)
    refine v_iconst (v := nI 1) dX12_planWhy_7 (by decide) ?_
    refine v_goto (tgt := 24) dX12_planWhy_8 (by decide) ?_
    refine v_iret dX12_planWhy_24 rfl rfl rfl rfl ?_
    unfold trc at hQ
    simp only [hc4, if_true, if_false, Bool.true_eq_false] at hQ
    exact hQ
end
