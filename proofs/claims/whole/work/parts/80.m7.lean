theorem dX12_lend_0 : decode cX12_lend 0 = .ok (.aload_n 0, 1) := by decide +kernel
theorem dX12_lend_1 : decode cX12_lend 1 = .ok (.invokevirtual 173, 3) := by decide +kernel
theorem dX12_lend_4 : decode cX12_lend 4 = .ok (.aload_n 0, 1) := by decide +kernel
theorem dX12_lend_5 : decode cX12_lend 5 = .ok (.iload_n 1, 1) := by decide +kernel
theorem dX12_lend_6 : decode cX12_lend 6 = .ok (.invokevirtual 307, 3) := by decide +kernel
theorem dX12_lend_9 : decode cX12_lend 9 = .ok (.ifCond .eq 11, 3) := by decide +kernel
theorem dX12_lend_12 : decode cX12_lend 12 = .ok (.aload_n 0, 1) := by decide +kernel
theorem dX12_lend_13 : decode cX12_lend 13 = .ok (.iload_n 2, 1) := by decide +kernel
theorem dX12_lend_14 : decode cX12_lend 14 = .ok (.invokevirtual 310, 3) := by decide +kernel
theorem dX12_lend_17 : decode cX12_lend 17 = .ok (.ifCond .ne 9, 3) := by decide +kernel
theorem dX12_lend_20 : decode cX12_lend 20 = .ok (.aload_n 0, 1) := by decide +kernel
theorem dX12_lend_21 : decode cX12_lend 21 = .ok (.iconst 1, 1) := by decide +kernel
theorem dX12_lend_22 : decode cX12_lend 22 = .ok (.invokevirtual 423, 3) := by decide +kernel
theorem dX12_lend_25 : decode cX12_lend 25 = .ok (.ireturn, 1) := by decide +kernel
theorem dX12_lend_26 : decode cX12_lend 26 = .ok (.aload_n 0, 1) := by decide +kernel
theorem dX12_lend_27 : decode cX12_lend 27 = .ok (.iload_n 3, 1) := by decide +kernel
theorem dX12_lend_28 : decode cX12_lend 28 = .ok (.iload 4, 2) := by decide +kernel
theorem dX12_lend_30 : decode cX12_lend 30 = .ok (.invokevirtual 357, 3) := by decide +kernel
theorem dX12_lend_33 : decode cX12_lend 33 = .ok (.ifCond .ne 9, 3) := by decide +kernel
theorem dX12_lend_36 : decode cX12_lend 36 = .ok (.aload_n 0, 1) := by decide +kernel
theorem dX12_lend_37 : decode cX12_lend 37 = .ok (.iconst 2, 1) := by decide +kernel
theorem dX12_lend_38 : decode cX12_lend 38 = .ok (.invokevirtual 423, 3) := by decide +kernel
theorem dX12_lend_41 : decode cX12_lend 41 = .ok (.ireturn, 1) := by decide +kernel
theorem dX12_lend_42 : decode cX12_lend 42 = .ok (.aload_n 0, 1) := by decide +kernel
theorem dX12_lend_43 : decode cX12_lend 43 = .ok (.getfield 26, 3) := by decide +kernel
theorem dX12_lend_46 : decode cX12_lend 46 = .ok (.iconst 0, 1) := by decide +kernel
theorem dX12_lend_47 : decode cX12_lend 47 = .ok (.iaload, 1) := by decide +kernel
theorem dX12_lend_48 : decode cX12_lend 48 = .ok (.bipush 20, 2) := by decide +kernel
theorem dX12_lend_50 : decode cX12_lend 50 = .ok (.if_icmp .ne 9, 3) := by decide +kernel
theorem dX12_lend_53 : decode cX12_lend 53 = .ok (.aload_n 0, 1) := by decide +kernel
theorem dX12_lend_54 : decode cX12_lend 54 = .ok (.iconst 3, 1) := by decide +kernel
theorem dX12_lend_55 : decode cX12_lend 55 = .ok (.invokevirtual 423, 3) := by decide +kernel
theorem dX12_lend_58 : decode cX12_lend 58 = .ok (.ireturn, 1) := by decide +kernel
theorem dX12_lend_59 : decode cX12_lend 59 = .ok (.aload_n 0, 1) := by decide +kernel
theorem dX12_lend_60 : decode cX12_lend 60 = .ok (.getfield 20, 3) := by decide +kernel
theorem dX12_lend_63 : decode cX12_lend 63 = .ok (.aload_n 0, 1) := by decide +kernel
theorem dX12_lend_64 : decode cX12_lend 64 = .ok (.getfield 26, 3) := by decide +kernel
theorem dX12_lend_67 : decode cX12_lend 67 = .ok (.iload_n 1, 1) := by decide +kernel
theorem dX12_lend_68 : decode cX12_lend 68 = .ok (.iload_n 2, 1) := by decide +kernel
theorem dX12_lend_69 : decode cX12_lend 69 = .ok (.iload_n 3, 1) := by decide +kernel
theorem dX12_lend_70 : decode cX12_lend 70 = .ok (.iload 4, 2) := by decide +kernel
theorem dX12_lend_72 : decode cX12_lend 72 = .ok (.iconst (-1), 1) := by decide +kernel
theorem dX12_lend_73 : decode cX12_lend 73 = .ok (.invokestatic 283, 3) := by decide +kernel
theorem dX12_lend_76 : decode cX12_lend 76 = .ok (.ifCond .ne 9, 3) := by decide +kernel
theorem dX12_lend_79 : decode cX12_lend 79 = .ok (.aload_n 0, 1) := by decide +kernel
theorem dX12_lend_80 : decode cX12_lend 80 = .ok (.iconst 5, 1) := by decide +kernel
theorem dX12_lend_81 : decode cX12_lend 81 = .ok (.invokevirtual 423, 3) := by decide +kernel
theorem dX12_lend_84 : decode cX12_lend 84 = .ok (.ireturn, 1) := by decide +kernel
theorem dX12_lend_85 : decode cX12_lend 85 = .ok (.aload_n 0, 1) := by decide +kernel
theorem dX12_lend_86 : decode cX12_lend 86 = .ok (.getfield 26, 3) := by decide +kernel
theorem dX12_lend_89 : decode cX12_lend 89 = .ok (.iconst 0, 1) := by decide +kernel
theorem dX12_lend_90 : decode cX12_lend 90 = .ok (.aload_n 0, 1) := by decide +kernel
theorem dX12_lend_91 : decode cX12_lend 91 = .ok (.getfield 32, 3) := by decide +kernel
theorem dX12_lend_94 : decode cX12_lend 94 = .ok (.iconst 0, 1) := by decide +kernel
theorem dX12_lend_95 : decode cX12_lend 95 = .ok (.bipush 87, 2) := by decide +kernel
theorem dX12_lend_97 : decode cX12_lend 97 = .ok (.invokestatic 182, 3) := by decide +kernel
theorem dX12_lend_100 : decode cX12_lend 100 = .ok (.aload_n 0, 1) := by decide +kernel
theorem dX12_lend_101 : decode cX12_lend 101 = .ok (.getfield 26, 3) := by decide +kernel
theorem dX12_lend_104 : decode cX12_lend 104 = .ok (.iload_n 1, 1) := by decide +kernel
theorem dX12_lend_105 : decode cX12_lend 105 = .ok (.iload_n 2, 1) := by decide +kernel
theorem dX12_lend_106 : decode cX12_lend 106 = .ok (.iload_n 3, 1) := by decide +kernel
theorem dX12_lend_107 : decode cX12_lend 107 = .ok (.iload 4, 2) := by decide +kernel
theorem dX12_lend_109 : decode cX12_lend 109 = .ok (.invokestatic 287, 3) := by decide +kernel
theorem dX12_lend_112 : decode cX12_lend 112 = .ok (.aload_n 0, 1) := by decide +kernel
theorem dX12_lend_113 : decode cX12_lend 113 = .ok (.invokevirtual 426, 3) := by decide +kernel
theorem dX12_lend_116 : decode cX12_lend 116 = .ok (.ireturn, 1) := by decide +kernel
theorem dX12_give_0 : decode cX12_give 0 = .ok (.aload_n 0, 1) := by decide +kernel
theorem dX12_give_1 : decode cX12_give 1 = .ok (.invokevirtual 173, 3) := by decide +kernel
theorem dX12_give_4 : decode cX12_give 4 = .ok (.aload_n 0, 1) := by decide +kernel
theorem dX12_give_5 : decode cX12_give 5 = .ok (.iload_n 1, 1) := by decide +kernel
theorem dX12_give_6 : decode cX12_give 6 = .ok (.invokevirtual 307, 3) := by decide +kernel
theorem dX12_give_9 : decode cX12_give 9 = .ok (.ifCond .ne 9, 3) := by decide +kernel
theorem dX12_give_12 : decode cX12_give 12 = .ok (.aload_n 0, 1) := by decide +kernel
theorem dX12_give_13 : decode cX12_give 13 = .ok (.iconst 1, 1) := by decide +kernel
theorem dX12_give_14 : decode cX12_give 14 = .ok (.invokevirtual 423, 3) := by decide +kernel
theorem dX12_give_17 : decode cX12_give 17 = .ok (.ireturn, 1) := by decide +kernel
theorem dX12_give_18 : decode cX12_give 18 = .ok (.aload_n 0, 1) := by decide +kernel
theorem dX12_give_19 : decode cX12_give 19 = .ok (.iload_n 2, 1) := by decide +kernel
theorem dX12_give_20 : decode cX12_give 20 = .ok (.invokevirtual 313, 3) := by decide +kernel
theorem dX12_give_23 : decode cX12_give 23 = .ok (.ifCond .ne 9, 3) := by decide +kernel
theorem dX12_give_26 : decode cX12_give 26 = .ok (.aload_n 0, 1) := by decide +kernel
theorem dX12_give_27 : decode cX12_give 27 = .ok (.iconst 2, 1) := by decide +kernel
theorem dX12_give_28 : decode cX12_give 28 = .ok (.invokevirtual 423, 3) := by decide +kernel
theorem dX12_give_31 : decode cX12_give 31 = .ok (.ireturn, 1) := by decide +kernel
theorem dX12_give_32 : decode cX12_give 32 = .ok (.aload_n 0, 1) := by decide +kernel
theorem dX12_give_33 : decode cX12_give 33 = .ok (.getfield 26, 3) := by decide +kernel
theorem dX12_give_36 : decode cX12_give 36 = .ok (.iload_n 1, 1) := by decide +kernel
theorem dX12_give_37 : decode cX12_give 37 = .ok (.iload_n 2, 1) := by decide +kernel
theorem dX12_give_38 : decode cX12_give 38 = .ok (.invokestatic 304, 3) := by decide +kernel
theorem dX12_give_41 : decode cX12_give 41 = .ok (.istore_n 3, 1) := by decide +kernel
theorem dX12_give_42 : decode cX12_give 42 = .ok (.iload_n 3, 1) := by decide +kernel
theorem dX12_give_43 : decode cX12_give 43 = .ok (.ifCond .ge 10, 3) := by decide +kernel
theorem dX12_give_46 : decode cX12_give 46 = .ok (.aload_n 0, 1) := by decide +kernel
theorem dX12_give_47 : decode cX12_give 47 = .ok (.bipush 6, 2) := by decide +kernel
theorem dX12_give_49 : decode cX12_give 49 = .ok (.invokevirtual 423, 3) := by decide +kernel
theorem dX12_give_52 : decode cX12_give 52 = .ok (.ireturn, 1) := by decide +kernel
theorem dX12_give_53 : decode cX12_give 53 = .ok (.aload_n 0, 1) := by decide +kernel
theorem dX12_give_54 : decode cX12_give 54 = .ok (.getfield 26, 3) := by decide +kernel
theorem dX12_give_57 : decode cX12_give 57 = .ok (.iconst 0, 1) := by decide +kernel
theorem dX12_give_58 : decode cX12_give 58 = .ok (.aload_n 0, 1) := by decide +kernel
theorem dX12_give_59 : decode cX12_give 59 = .ok (.getfield 32, 3) := by decide +kernel
theorem dX12_give_62 : decode cX12_give 62 = .ok (.iconst 0, 1) := by decide +kernel
theorem dX12_give_63 : decode cX12_give 63 = .ok (.bipush 87, 2) := by decide +kernel
theorem dX12_give_65 : decode cX12_give 65 = .ok (.invokestatic 182, 3) := by decide +kernel
theorem dX12_give_68 : decode cX12_give 68 = .ok (.aload_n 0, 1) := by decide +kernel
theorem dX12_give_69 : decode cX12_give 69 = .ok (.getfield 26, 3) := by decide +kernel
theorem dX12_give_72 : decode cX12_give 72 = .ok (.iconst 1, 1) := by decide +kernel
theorem dX12_give_73 : decode cX12_give 73 = .ok (.iconst 4, 1) := by decide +kernel
theorem dX12_give_74 : decode cX12_give 74 = .ok (.iload_n 3, 1) := by decide +kernel
theorem dX12_give_75 : decode cX12_give 75 = .ok (.imul, 1) := by decide +kernel
theorem dX12_give_76 : decode cX12_give 76 = .ok (.iadd, 1) := by decide +kernel
theorem dX12_give_77 : decode cX12_give 77 = .ok (.iconst 2, 1) := by decide +kernel
theorem dX12_give_78 : decode cX12_give 78 = .ok (.iadd, 1) := by decide +kernel
theorem dX12_give_79 : decode cX12_give 79 = .ok (.iaload, 1) := by decide +kernel
theorem dX12_give_80 : decode cX12_give 80 = .ok (.iload_n 2, 1) := by decide +kernel
theorem dX12_give_81 : decode cX12_give 81 = .ok (.if_icmp .ne 14, 3) := by decide +kernel
theorem dX12_give_84 : decode cX12_give 84 = .ok (.aload_n 0, 1) := by decide +kernel
theorem dX12_give_85 : decode cX12_give 85 = .ok (.getfield 26, 3) := by decide +kernel
theorem dX12_give_88 : decode cX12_give 88 = .ok (.iload_n 3, 1) := by decide +kernel
theorem dX12_give_89 : decode cX12_give 89 = .ok (.invokestatic 429, 3) := by decide +kernel
theorem dX12_give_92 : decode cX12_give 92 = .ok (.goto 18, 3) := by decide +kernel
theorem dX12_give_95 : decode cX12_give 95 = .ok (.aload_n 0, 1) := by decide +kernel
theorem dX12_give_96 : decode cX12_give 96 = .ok (.getfield 26, 3) := by decide +kernel
theorem dX12_give_99 : decode cX12_give 99 = .ok (.iconst 1, 1) := by decide +kernel
theorem dX12_give_100 : decode cX12_give 100 = .ok (.iconst 4, 1) := by decide +kernel
theorem dX12_give_101 : decode cX12_give 101 = .ok (.iload_n 3, 1) := by decide +kernel
theorem dX12_give_102 : decode cX12_give 102 = .ok (.imul, 1) := by decide +kernel
theorem dX12_give_103 : decode cX12_give 103 = .ok (.iadd, 1) := by decide +kernel
theorem dX12_give_104 : decode cX12_give 104 = .ok (.iconst 3, 1) := by decide +kernel
theorem dX12_give_105 : decode cX12_give 105 = .ok (.iadd, 1) := by decide +kernel
theorem dX12_give_106 : decode cX12_give 106 = .ok (.iload_n 2, 1) := by decide +kernel
theorem dX12_give_107 : decode cX12_give 107 = .ok (.iconst 1, 1) := by decide +kernel
theorem dX12_give_108 : decode cX12_give 108 = .ok (.isub, 1) := by decide +kernel
theorem dX12_give_109 : decode cX12_give 109 = .ok (.iastore, 1) := by decide +kernel
theorem dX12_give_110 : decode cX12_give 110 = .ok (.aload_n 0, 1) := by decide +kernel
theorem dX12_give_111 : decode cX12_give 111 = .ok (.invokevirtual 426, 3) := by decide +kernel
theorem dX12_give_114 : decode cX12_give 114 = .ok (.ireturn, 1) := by decide +kernel
theorem dX12_pass_0 : decode cX12_pass 0 = .ok (.aload_n 0, 1) := by decide +kernel
theorem dX12_pass_1 : decode cX12_pass 1 = .ok (.invokevirtual 173, 3) := by decide +kernel
theorem dX12_pass_4 : decode cX12_pass 4 = .ok (.aload_n 0, 1) := by decide +kernel
theorem dX12_pass_5 : decode cX12_pass 5 = .ok (.iload_n 1, 1) := by decide +kernel
theorem dX12_pass_6 : decode cX12_pass 6 = .ok (.invokevirtual 307, 3) := by decide +kernel
theorem dX12_pass_9 : decode cX12_pass 9 = .ok (.ifCond .eq 11, 3) := by decide +kernel
theorem dX12_pass_12 : decode cX12_pass 12 = .ok (.aload_n 0, 1) := by decide +kernel
theorem dX12_pass_13 : decode cX12_pass 13 = .ok (.iload_n 3, 1) := by decide +kernel
theorem dX12_pass_14 : decode cX12_pass 14 = .ok (.invokevirtual 310, 3) := by decide +kernel
theorem dX12_pass_17 : decode cX12_pass 17 = .ok (.ifCond .ne 9, 3) := by decide +kernel
theorem dX12_pass_20 : decode cX12_pass 20 = .ok (.aload_n 0, 1) := by decide +kernel
theorem dX12_pass_21 : decode cX12_pass 21 = .ok (.iconst 1, 1) := by decide +kernel
theorem dX12_pass_22 : decode cX12_pass 22 = .ok (.invokevirtual 423, 3) := by decide +kernel
theorem dX12_pass_25 : decode cX12_pass 25 = .ok (.ireturn, 1) := by decide +kernel
theorem dX12_pass_26 : decode cX12_pass 26 = .ok (.aload_n 0, 1) := by decide +kernel
theorem dX12_pass_27 : decode cX12_pass 27 = .ok (.iload_n 2, 1) := by decide +kernel
theorem dX12_pass_28 : decode cX12_pass 28 = .ok (.invokevirtual 313, 3) := by decide +kernel
theorem dX12_pass_31 : decode cX12_pass 31 = .ok (.ifCond .ne 9, 3) := by decide +kernel
theorem dX12_pass_34 : decode cX12_pass 34 = .ok (.aload_n 0, 1) := by decide +kernel
theorem dX12_pass_35 : decode cX12_pass 35 = .ok (.iconst 2, 1) := by decide +kernel
theorem dX12_pass_36 : decode cX12_pass 36 = .ok (.invokevirtual 423, 3) := by decide +kernel
theorem dX12_pass_39 : decode cX12_pass 39 = .ok (.ireturn, 1) := by decide +kernel
theorem dX12_pass_40 : decode cX12_pass 40 = .ok (.aload_n 0, 1) := by decide +kernel
theorem dX12_pass_41 : decode cX12_pass 41 = .ok (.getfield 26, 3) := by decide +kernel
theorem dX12_pass_44 : decode cX12_pass 44 = .ok (.iload_n 1, 1) := by decide +kernel
theorem dX12_pass_45 : decode cX12_pass 45 = .ok (.iload_n 2, 1) := by decide +kernel
theorem dX12_pass_46 : decode cX12_pass 46 = .ok (.invokestatic 304, 3) := by decide +kernel
theorem dX12_pass_49 : decode cX12_pass 49 = .ok (.istore 4, 2) := by decide +kernel
theorem dX12_pass_51 : decode cX12_pass 51 = .ok (.iload 4, 2) := by decide +kernel
theorem dX12_pass_53 : decode cX12_pass 53 = .ok (.ifCond .ge 10, 3) := by decide +kernel
theorem dX12_pass_56 : decode cX12_pass 56 = .ok (.aload_n 0, 1) := by decide +kernel
theorem dX12_pass_57 : decode cX12_pass 57 = .ok (.bipush 6, 2) := by decide +kernel
theorem dX12_pass_59 : decode cX12_pass 59 = .ok (.invokevirtual 423, 3) := by decide +kernel
theorem dX12_pass_62 : decode cX12_pass 62 = .ok (.ireturn, 1) := by decide +kernel
theorem dX12_pass_63 : decode cX12_pass 63 = .ok (.aload_n 0, 1) := by decide +kernel
theorem dX12_pass_64 : decode cX12_pass 64 = .ok (.getfield 26, 3) := by decide +kernel
theorem dX12_pass_67 : decode cX12_pass 67 = .ok (.iconst 1, 1) := by decide +kernel
theorem dX12_pass_68 : decode cX12_pass 68 = .ok (.iconst 4, 1) := by decide +kernel
theorem dX12_pass_69 : decode cX12_pass 69 = .ok (.iload 4, 2) := by decide +kernel
theorem dX12_pass_71 : decode cX12_pass 71 = .ok (.imul, 1) := by decide +kernel
theorem dX12_pass_72 : decode cX12_pass 72 = .ok (.iadd, 1) := by decide +kernel
theorem dX12_pass_73 : decode cX12_pass 73 = .ok (.iconst 2, 1) := by decide +kernel
theorem dX12_pass_74 : decode cX12_pass 74 = .ok (.iadd, 1) := by decide +kernel
theorem dX12_pass_75 : decode cX12_pass 75 = .ok (.iaload, 1) := by decide +kernel
theorem dX12_pass_76 : decode cX12_pass 76 = .ok (.istore 5, 2) := by decide +kernel
theorem dX12_pass_78 : decode cX12_pass 78 = .ok (.aload_n 0, 1) := by decide +kernel
theorem dX12_pass_79 : decode cX12_pass 79 = .ok (.getfield 26, 3) := by decide +kernel
theorem dX12_pass_82 : decode cX12_pass 82 = .ok (.iconst 1, 1) := by decide +kernel
theorem dX12_pass_83 : decode cX12_pass 83 = .ok (.iconst 4, 1) := by decide +kernel
theorem dX12_pass_84 : decode cX12_pass 84 = .ok (.iload 4, 2) := by decide +kernel
theorem dX12_pass_86 : decode cX12_pass 86 = .ok (.imul, 1) := by decide +kernel
theorem dX12_pass_87 : decode cX12_pass 87 = .ok (.iadd, 1) := by decide +kernel
theorem dX12_pass_88 : decode cX12_pass 88 = .ok (.iconst 3, 1) := by decide +kernel
theorem dX12_pass_89 : decode cX12_pass 89 = .ok (.iadd, 1) := by decide +kernel
theorem dX12_pass_90 : decode cX12_pass 90 = .ok (.iaload, 1) := by decide +kernel
theorem dX12_pass_91 : decode cX12_pass 91 = .ok (.istore 6, 2) := by decide +kernel
theorem dX12_pass_93 : decode cX12_pass 93 = .ok (.aload_n 0, 1) := by decide +kernel
theorem dX12_pass_94 : decode cX12_pass 94 = .ok (.getfield 26, 3) := by decide +kernel
theorem dX12_pass_97 : decode cX12_pass 97 = .ok (.iconst 0, 1) := by decide +kernel
theorem dX12_pass_98 : decode cX12_pass 98 = .ok (.iaload, 1) := by decide +kernel
theorem dX12_pass_99 : decode cX12_pass 99 = .ok (.bipush 20, 2) := by decide +kernel
theorem dX12_pass_101 : decode cX12_pass 101 = .ok (.if_icmp .ne 15, 3) := by decide +kernel
theorem dX12_pass_104 : decode cX12_pass 104 = .ok (.iload 5, 2) := by decide +kernel
theorem dX12_pass_106 : decode cX12_pass 106 = .ok (.iload_n 2, 1) := by decide +kernel
theorem dX12_pass_107 : decode cX12_pass 107 = .ok (.if_icmp .ge 9, 3) := by decide +kernel
theorem dX12_pass_110 : decode cX12_pass 110 = .ok (.aload_n 0, 1) := by decide +kernel
theorem dX12_pass_111 : decode cX12_pass 111 = .ok (.iconst 3, 1) := by decide +kernel
theorem dX12_pass_112 : decode cX12_pass 112 = .ok (.invokevirtual 423, 3) := by decide +kernel
theorem dX12_pass_115 : decode cX12_pass 115 = .ok (.ireturn, 1) := by decide +kernel
theorem dX12_pass_116 : decode cX12_pass 116 = .ok (.aload_n 0, 1) := by decide +kernel
theorem dX12_pass_117 : decode cX12_pass 117 = .ok (.getfield 26, 3) := by decide +kernel
theorem dX12_pass_120 : decode cX12_pass 120 = .ok (.iconst 1, 1) := by decide +kernel
theorem dX12_pass_121 : decode cX12_pass 121 = .ok (.iconst 4, 1) := by decide +kernel
theorem dX12_pass_122 : decode cX12_pass 122 = .ok (.iload 4, 2) := by decide +kernel
theorem dX12_pass_124 : decode cX12_pass 124 = .ok (.imul, 1) := by decide +kernel
theorem dX12_pass_125 : decode cX12_pass 125 = .ok (.iadd, 1) := by decide +kernel
theorem dX12_pass_126 : decode cX12_pass 126 = .ok (.iconst 1, 1) := by decide +kernel
theorem dX12_pass_127 : decode cX12_pass 127 = .ok (.iadd, 1) := by decide +kernel
theorem dX12_pass_128 : decode cX12_pass 128 = .ok (.iaload, 1) := by decide +kernel
theorem dX12_pass_129 : decode cX12_pass 129 = .ok (.iload_n 3, 1) := by decide +kernel
theorem dX12_pass_130 : decode cX12_pass 130 = .ok (.if_icmp .eq 23, 3) := by decide +kernel
theorem dX12_pass_133 : decode cX12_pass 133 = .ok (.aload_n 0, 1) := by decide +kernel
theorem dX12_pass_134 : decode cX12_pass 134 = .ok (.getfield 20, 3) := by decide +kernel
theorem dX12_pass_137 : decode cX12_pass 137 = .ok (.aload_n 0, 1) := by decide +kernel
theorem dX12_pass_138 : decode cX12_pass 138 = .ok (.getfield 26, 3) := by decide +kernel
theorem dX12_pass_141 : decode cX12_pass 141 = .ok (.iload_n 1, 1) := by decide +kernel
theorem dX12_pass_142 : decode cX12_pass 142 = .ok (.iload_n 3, 1) := by decide +kernel
theorem dX12_pass_143 : decode cX12_pass 143 = .ok (.iload_n 2, 1) := by decide +kernel
theorem dX12_pass_144 : decode cX12_pass 144 = .ok (.iload 6, 2) := by decide +kernel
theorem dX12_pass_146 : decode cX12_pass 146 = .ok (.iload_n 1, 1) := by decide +kernel
theorem dX12_pass_147 : decode cX12_pass 147 = .ok (.invokestatic 283, 3) := by decide +kernel
theorem dX12_pass_150 : decode cX12_pass 150 = .ok (.ifCond .ne 9, 3) := by decide +kernel
theorem dX12_pass_153 : decode cX12_pass 153 = .ok (.aload_n 0, 1) := by decide +kernel
theorem dX12_pass_154 : decode cX12_pass 154 = .ok (.iconst 5, 1) := by decide +kernel
theorem dX12_pass_155 : decode cX12_pass 155 = .ok (.invokevirtual 423, 3) := by decide +kernel
theorem dX12_pass_158 : decode cX12_pass 158 = .ok (.ireturn, 1) := by decide +kernel
theorem dX12_pass_159 : decode cX12_pass 159 = .ok (.aload_n 0, 1) := by decide +kernel
theorem dX12_pass_160 : decode cX12_pass 160 = .ok (.getfield 26, 3) := by decide +kernel
theorem dX12_pass_163 : decode cX12_pass 163 = .ok (.iconst 0, 1) := by decide +kernel
theorem dX12_pass_164 : decode cX12_pass 164 = .ok (.aload_n 0, 1) := by decide +kernel
theorem dX12_pass_165 : decode cX12_pass 165 = .ok (.getfield 32, 3) := by decide +kernel
theorem dX12_pass_168 : decode cX12_pass 168 = .ok (.iconst 0, 1) := by decide +kernel
theorem dX12_pass_169 : decode cX12_pass 169 = .ok (.bipush 87, 2) := by decide +kernel
theorem dX12_pass_171 : decode cX12_pass 171 = .ok (.invokestatic 182, 3) := by decide +kernel
theorem dX12_pass_174 : decode cX12_pass 174 = .ok (.iload 5, 2) := by decide +kernel
theorem dX12_pass_176 : decode cX12_pass 176 = .ok (.iload_n 2, 1) := by decide +kernel
theorem dX12_pass_177 : decode cX12_pass 177 = .ok (.if_icmp .ne 20, 3) := by decide +kernel
theorem dX12_pass_180 : decode cX12_pass 180 = .ok (.aload_n 0, 1) := by decide +kernel
theorem dX12_pass_181 : decode cX12_pass 181 = .ok (.getfield 26, 3) := by decide +kernel
theorem dX12_pass_184 : decode cX12_pass 184 = .ok (.iconst 1, 1) := by decide +kernel
theorem dX12_pass_185 : decode cX12_pass 185 = .ok (.iconst 4, 1) := by decide +kernel
theorem dX12_pass_186 : decode cX12_pass 186 = .ok (.iload 4, 2) := by decide +kernel
theorem dX12_pass_188 : decode cX12_pass 188 = .ok (.imul, 1) := by decide +kernel
theorem dX12_pass_189 : decode cX12_pass 189 = .ok (.iadd, 1) := by decide +kernel
theorem dX12_pass_190 : decode cX12_pass 190 = .ok (.iconst 1, 1) := by decide +kernel
theorem dX12_pass_191 : decode cX12_pass 191 = .ok (.iadd, 1) := by decide +kernel
theorem dX12_pass_192 : decode cX12_pass 192 = .ok (.iload_n 3, 1) := by decide +kernel
theorem dX12_pass_193 : decode cX12_pass 193 = .ok (.iastore, 1) := by decide +kernel
theorem dX12_pass_194 : decode cX12_pass 194 = .ok (.goto 31, 3) := by decide +kernel
theorem dX12_pass_197 : decode cX12_pass 197 = .ok (.aload_n 0, 1) := by decide +kernel
theorem dX12_pass_198 : decode cX12_pass 198 = .ok (.getfield 26, 3) := by decide +kernel
theorem dX12_pass_201 : decode cX12_pass 201 = .ok (.iconst 1, 1) := by decide +kernel
theorem dX12_pass_202 : decode cX12_pass 202 = .ok (.iconst 4, 1) := by decide +kernel
theorem dX12_pass_203 : decode cX12_pass 203 = .ok (.iload 4, 2) := by decide +kernel
theorem dX12_pass_205 : decode cX12_pass 205 = .ok (.imul, 1) := by decide +kernel
theorem dX12_pass_206 : decode cX12_pass 206 = .ok (.iadd, 1) := by decide +kernel
theorem dX12_pass_207 : decode cX12_pass 207 = .ok (.iconst 3, 1) := by decide +kernel
theorem dX12_pass_208 : decode cX12_pass 208 = .ok (.iadd, 1) := by decide +kernel
theorem dX12_pass_209 : decode cX12_pass 209 = .ok (.iload_n 2, 1) := by decide +kernel
theorem dX12_pass_210 : decode cX12_pass 210 = .ok (.iconst 1, 1) := by decide +kernel
theorem dX12_pass_211 : decode cX12_pass 211 = .ok (.isub, 1) := by decide +kernel
theorem dX12_pass_212 : decode cX12_pass 212 = .ok (.iastore, 1) := by decide +kernel
theorem dX12_pass_213 : decode cX12_pass 213 = .ok (.aload_n 0, 1) := by decide +kernel
theorem dX12_pass_214 : decode cX12_pass 214 = .ok (.getfield 26, 3) := by decide +kernel
theorem dX12_pass_217 : decode cX12_pass 217 = .ok (.iload_n 1, 1) := by decide +kernel
theorem dX12_pass_218 : decode cX12_pass 218 = .ok (.iload_n 3, 1) := by decide +kernel
theorem dX12_pass_219 : decode cX12_pass 219 = .ok (.iload_n 2, 1) := by decide +kernel
theorem dX12_pass_220 : decode cX12_pass 220 = .ok (.iload 6, 2) := by decide +kernel
theorem dX12_pass_222 : decode cX12_pass 222 = .ok (.invokestatic 287, 3) := by decide +kernel
theorem dX12_pass_225 : decode cX12_pass 225 = .ok (.aload_n 0, 1) := by decide +kernel
theorem dX12_pass_226 : decode cX12_pass 226 = .ok (.invokevirtual 426, 3) := by decide +kernel
theorem dX12_pass_229 : decode cX12_pass 229 = .ok (.ireturn, 1) := by decide +kernel
theorem dX12_breaking_0 : decode cX12_breaking 0 = .ok (.aload_n 0, 1) := by decide +kernel
theorem dX12_breaking_1 : decode cX12_breaking 1 = .ok (.invokevirtual 173, 3) := by decide +kernel
theorem dX12_breaking_4 : decode cX12_breaking 4 = .ok (.aload_n 0, 1) := by decide +kernel
theorem dX12_breaking_5 : decode cX12_breaking 5 = .ok (.iload_n 1, 1) := by decide +kernel
theorem dX12_breaking_6 : decode cX12_breaking 6 = .ok (.invokevirtual 310, 3) := by decide +kernel
theorem dX12_breaking_9 : decode cX12_breaking 9 = .ok (.ifCond .ne 9, 3) := by decide +kernel
theorem dX12_breaking_12 : decode cX12_breaking 12 = .ok (.aload_n 0, 1) := by decide +kernel
theorem dX12_breaking_13 : decode cX12_breaking 13 = .ok (.iconst 1, 1) := by decide +kernel
theorem dX12_breaking_14 : decode cX12_breaking 14 = .ok (.invokevirtual 423, 3) := by decide +kernel
theorem dX12_breaking_17 : decode cX12_breaking 17 = .ok (.ireturn, 1) := by decide +kernel
theorem dX12_breaking_18 : decode cX12_breaking 18 = .ok (.aload_n 0, 1) := by decide +kernel
theorem dX12_breaking_19 : decode cX12_breaking 19 = .ok (.iload_n 2, 1) := by decide +kernel
theorem dX12_breaking_20 : decode cX12_breaking 20 = .ok (.invokevirtual 313, 3) := by decide +kernel
theorem dX12_breaking_23 : decode cX12_breaking 23 = .ok (.ifCond .ne 9, 3) := by decide +kernel
theorem dX12_breaking_26 : decode cX12_breaking 26 = .ok (.aload_n 0, 1) := by decide +kernel
theorem dX12_breaking_27 : decode cX12_breaking 27 = .ok (.iconst 2, 1) := by decide +kernel
theorem dX12_breaking_28 : decode cX12_breaking 28 = .ok (.invokevirtual 423, 3) := by decide +kernel
theorem dX12_breaking_31 : decode cX12_breaking 31 = .ok (.ireturn, 1) := by decide +kernel
theorem dX12_breaking_32 : decode cX12_breaking 32 = .ok (.aload_n 0, 1) := by decide +kernel
theorem dX12_breaking_33 : decode cX12_breaking 33 = .ok (.iload_n 1, 1) := by decide +kernel
theorem dX12_breaking_34 : decode cX12_breaking 34 = .ok (.iload_n 2, 1) := by decide +kernel
theorem dX12_breaking_35 : decode cX12_breaking 35 = .ok (.invokevirtual 325, 3) := by decide +kernel
theorem dX12_breaking_38 : decode cX12_breaking 38 = .ok (.iload_n 3, 1) := by decide +kernel
theorem dX12_breaking_39 : decode cX12_breaking 39 = .ok (.if_icmp .ne 9, 3) := by decide +kernel
theorem dX12_breaking_42 : decode cX12_breaking 42 = .ok (.aload_n 0, 1) := by decide +kernel
theorem dX12_breaking_43 : decode cX12_breaking 43 = .ok (.iconst 5, 1) := by decide +kernel
theorem dX12_breaking_44 : decode cX12_breaking 44 = .ok (.invokevirtual 423, 3) := by decide +kernel
theorem dX12_breaking_47 : decode cX12_breaking 47 = .ok (.ireturn, 1) := by decide +kernel
theorem dX12_breaking_48 : decode cX12_breaking 48 = .ok (.aload_n 0, 1) := by decide +kernel
theorem dX12_breaking_49 : decode cX12_breaking 49 = .ok (.getfield 26, 3) := by decide +kernel
theorem dX12_breaking_52 : decode cX12_breaking 52 = .ok (.iconst 0, 1) := by decide +kernel
theorem dX12_breaking_53 : decode cX12_breaking 53 = .ok (.aload_n 0, 1) := by decide +kernel
theorem dX12_breaking_54 : decode cX12_breaking 54 = .ok (.getfield 32, 3) := by decide +kernel
theorem dX12_breaking_57 : decode cX12_breaking 57 = .ok (.iconst 0, 1) := by decide +kernel
theorem dX12_breaking_58 : decode cX12_breaking 58 = .ok (.bipush 87, 2) := by decide +kernel
theorem dX12_breaking_60 : decode cX12_breaking 60 = .ok (.invokestatic 182, 3) := by decide +kernel
theorem dX12_breaking_63 : decode cX12_breaking 63 = .ok (.aload_n 0, 1) := by decide +kernel
theorem dX12_breaking_64 : decode cX12_breaking 64 = .ok (.getfield 26, 3) := by decide +kernel
theorem dX12_breaking_67 : decode cX12_breaking 67 = .ok (.bipush 81, 2) := by decide +kernel
theorem dX12_breaking_69 : decode cX12_breaking 69 = .ok (.iload_n 1, 1) := by decide +kernel
theorem dX12_breaking_70 : decode cX12_breaking 70 = .ok (.iadd, 1) := by decide +kernel
theorem dX12_breaking_71 : decode cX12_breaking 71 = .ok (.dup2, 1) := by decide +kernel
theorem dX12_breaking_72 : decode cX12_breaking 72 = .ok (.iaload, 1) := by decide +kernel
theorem dX12_breaking_73 : decode cX12_breaking 73 = .ok (.iconst 1, 1) := by decide +kernel
theorem dX12_breaking_74 : decode cX12_breaking 74 = .ok (.iload_n 2, 1) := by decide +kernel
theorem dX12_breaking_75 : decode cX12_breaking 75 = .ok (.ishl, 1) := by decide +kernel
theorem dX12_breaking_76 : decode cX12_breaking 76 = .ok (.ixor, 1) := by decide +kernel
theorem dX12_breaking_77 : decode cX12_breaking 77 = .ok (.iastore, 1) := by decide +kernel
theorem dX12_breaking_78 : decode cX12_breaking 78 = .ok (.aload_n 0, 1) := by decide +kernel
theorem dX12_breaking_79 : decode cX12_breaking 79 = .ok (.invokevirtual 426, 3) := by decide +kernel
theorem dX12_breaking_82 : decode cX12_breaking 82 = .ok (.ireturn, 1) := by decide +kernel
theorem dX12_undo_0 : decode cX12_undo 0 = .ok (.aload_n 0, 1) := by decide +kernel
theorem dX12_undo_1 : decode cX12_undo 1 = .ok (.invokevirtual 173, 3) := by decide +kernel
theorem dX12_undo_4 : decode cX12_undo 4 = .ok (.aload_n 0, 1) := by decide +kernel
theorem dX12_undo_5 : decode cX12_undo 5 = .ok (.getfield 189, 3) := by decide +kernel
theorem dX12_undo_8 : decode cX12_undo 8 = .ok (.ifCond .ne 10, 3) := by decide +kernel
theorem dX12_undo_11 : decode cX12_undo 11 = .ok (.aload_n 0, 1) := by decide +kernel
theorem dX12_undo_12 : decode cX12_undo 12 = .ok (.bipush 6, 2) := by decide +kernel
theorem dX12_undo_14 : decode cX12_undo 14 = .ok (.invokevirtual 423, 3) := by decide +kernel
theorem dX12_undo_17 : decode cX12_undo 17 = .ok (.ireturn, 1) := by decide +kernel
theorem dX12_undo_18 : decode cX12_undo 18 = .ok (.aload_n 0, 1) := by decide +kernel
theorem dX12_undo_19 : decode cX12_undo 19 = .ok (.aload_n 0, 1) := by decide +kernel
theorem dX12_undo_20 : decode cX12_undo 20 = .ok (.getfield 38, 3) := by decide +kernel
theorem dX12_undo_23 : decode cX12_undo 23 = .ok (.aload_n 0, 1) := by decide +kernel
theorem dX12_undo_24 : decode cX12_undo 24 = .ok (.getfield 192, 3) := by decide +kernel
theorem dX12_undo_27 : decode cX12_undo 27 = .ok (.aload_n 0, 1) := by decide +kernel
theorem dX12_undo_28 : decode cX12_undo 28 = .ok (.getfield 26, 3) := by decide +kernel
theorem dX12_undo_31 : decode cX12_undo 31 = .ok (.invokestatic 419, 3) := by decide +kernel
theorem dX12_undo_34 : decode cX12_undo 34 = .ok (.putfield 192, 3) := by decide +kernel
theorem dX12_undo_37 : decode cX12_undo 37 = .ok (.aload_n 0, 1) := by decide +kernel
theorem dX12_undo_38 : decode cX12_undo 38 = .ok (.dup, 1) := by decide +kernel
theorem dX12_undo_39 : decode cX12_undo 39 = .ok (.getfield 189, 3) := by decide +kernel
theorem dX12_undo_42 : decode cX12_undo 42 = .ok (.iconst 1, 1) := by decide +kernel
theorem dX12_undo_43 : decode cX12_undo 43 = .ok (.isub, 1) := by decide +kernel
theorem dX12_undo_44 : decode cX12_undo 44 = .ok (.putfield 189, 3) := by decide +kernel
theorem dX12_undo_47 : decode cX12_undo 47 = .ok (.aload_n 0, 1) := by decide +kernel
theorem dX12_undo_48 : decode cX12_undo 48 = .ok (.getfield 35, 3) := by decide +kernel
theorem dX12_undo_51 : decode cX12_undo 51 = .ok (.bipush 87, 2) := by decide +kernel
theorem dX12_undo_53 : decode cX12_undo 53 = .ok (.aload_n 0, 1) := by decide +kernel
theorem dX12_undo_54 : decode cX12_undo 54 = .ok (.getfield 189, 3) := by decide +kernel
theorem dX12_undo_57 : decode cX12_undo 57 = .ok (.imul, 1) := by decide +kernel
theorem dX12_undo_58 : decode cX12_undo 58 = .ok (.aload_n 0, 1) := by decide +kernel
theorem dX12_undo_59 : decode cX12_undo 59 = .ok (.getfield 26, 3) := by decide +kernel
theorem dX12_undo_62 : decode cX12_undo 62 = .ok (.iconst 0, 1) := by decide +kernel
theorem dX12_undo_63 : decode cX12_undo 63 = .ok (.bipush 87, 2) := by decide +kernel
theorem dX12_undo_65 : decode cX12_undo 65 = .ok (.invokestatic 182, 3) := by decide +kernel
theorem dX12_undo_68 : decode cX12_undo 68 = .ok (.iconst 1, 1) := by decide +kernel
theorem dX12_undo_69 : decode cX12_undo 69 = .ok (.ireturn, 1) := by decide +kernel
theorem dX12_redo_0 : decode cX12_redo 0 = .ok (.aload_n 0, 1) := by decide +kernel
theorem dX12_redo_1 : decode cX12_redo 1 = .ok (.invokevirtual 173, 3) := by decide +kernel
theorem dX12_redo_4 : decode cX12_redo 4 = .ok (.aload_n 0, 1) := by decide +kernel
theorem dX12_redo_5 : decode cX12_redo 5 = .ok (.getfield 192, 3) := by decide +kernel
theorem dX12_redo_8 : decode cX12_redo 8 = .ok (.ifCond .ne 10, 3) := by decide +kernel
theorem dX12_redo_11 : decode cX12_redo 11 = .ok (.aload_n 0, 1) := by decide +kernel
theorem dX12_redo_12 : decode cX12_redo 12 = .ok (.bipush 6, 2) := by decide +kernel
theorem dX12_redo_14 : decode cX12_redo 14 = .ok (.invokevirtual 423, 3) := by decide +kernel
theorem dX12_redo_17 : decode cX12_redo 17 = .ok (.ireturn, 1) := by decide +kernel
theorem dX12_redo_18 : decode cX12_redo 18 = .ok (.aload_n 0, 1) := by decide +kernel
theorem dX12_redo_19 : decode cX12_redo 19 = .ok (.aload_n 0, 1) := by decide +kernel
theorem dX12_redo_20 : decode cX12_redo 20 = .ok (.getfield 35, 3) := by decide +kernel
theorem dX12_redo_23 : decode cX12_redo 23 = .ok (.aload_n 0, 1) := by decide +kernel
theorem dX12_redo_24 : decode cX12_redo 24 = .ok (.getfield 189, 3) := by decide +kernel
theorem dX12_redo_27 : decode cX12_redo 27 = .ok (.aload_n 0, 1) := by decide +kernel
theorem dX12_redo_28 : decode cX12_redo 28 = .ok (.getfield 26, 3) := by decide +kernel
theorem dX12_redo_31 : decode cX12_redo 31 = .ok (.invokestatic 419, 3) := by decide +kernel
theorem dX12_redo_34 : decode cX12_redo 34 = .ok (.putfield 189, 3) := by decide +kernel
theorem dX12_redo_37 : decode cX12_redo 37 = .ok (.aload_n 0, 1) := by decide +kernel
theorem dX12_redo_38 : decode cX12_redo 38 = .ok (.dup, 1) := by decide +kernel
theorem dX12_redo_39 : decode cX12_redo 39 = .ok (.getfield 192, 3) := by decide +kernel
theorem dX12_redo_42 : decode cX12_redo 42 = .ok (.iconst 1, 1) := by decide +kernel
theorem dX12_redo_43 : decode cX12_redo 43 = .ok (.isub, 1) := by decide +kernel
theorem dX12_redo_44 : decode cX12_redo 44 = .ok (.putfield 192, 3) := by decide +kernel
theorem dX12_redo_47 : decode cX12_redo 47 = .ok (.aload_n 0, 1) := by decide +kernel
theorem dX12_redo_48 : decode cX12_redo 48 = .ok (.getfield 38, 3) := by decide +kernel
theorem dX12_redo_51 : decode cX12_redo 51 = .ok (.bipush 87, 2) := by decide +kernel
theorem dX12_redo_53 : decode cX12_redo 53 = .ok (.aload_n 0, 1) := by decide +kernel
theorem dX12_redo_54 : decode cX12_redo 54 = .ok (.getfield 192, 3) := by decide +kernel
theorem dX12_redo_57 : decode cX12_redo 57 = .ok (.imul, 1) := by decide +kernel
theorem dX12_redo_58 : decode cX12_redo 58 = .ok (.aload_n 0, 1) := by decide +kernel
theorem dX12_redo_59 : decode cX12_redo 59 = .ok (.getfield 26, 3) := by decide +kernel
theorem dX12_redo_62 : decode cX12_redo 62 = .ok (.iconst 0, 1) := by decide +kernel
theorem dX12_redo_63 : decode cX12_redo 63 = .ok (.bipush 87, 2) := by decide +kernel
theorem dX12_redo_65 : decode cX12_redo 65 = .ok (.invokestatic 182, 3) := by decide +kernel
theorem dX12_redo_68 : decode cX12_redo 68 = .ok (.iconst 1, 1) := by decide +kernel
theorem dX12_redo_69 : decode cX12_redo 69 = .ok (.ireturn, 1) := by decide +kernel
theorem dX12_image_0 : decode cX12_image 0 = .ok (.aload_n 0, 1) := by decide +kernel
theorem dX12_image_1 : decode cX12_image 1 = .ok (.invokevirtual 173, 3) := by decide +kernel
theorem dX12_image_4 : decode cX12_image 4 = .ok (.aload_n 0, 1) := by decide +kernel
theorem dX12_image_5 : decode cX12_image 5 = .ok (.getfield 186, 3) := by decide +kernel
theorem dX12_image_8 : decode cX12_image 8 = .ok (.ifCond .ne 9, 3) := by decide +kernel
theorem dX12_image_11 : decode cX12_image 11 = .ok (.aload_n 0, 1) := by decide +kernel
theorem dX12_image_12 : decode cX12_image 12 = .ok (.iconst 1, 1) := by decide +kernel
theorem dX12_image_13 : decode cX12_image 13 = .ok (.invokevirtual 176, 3) := by decide +kernel
theorem dX12_image_16 : decode cX12_image 16 = .ok (.ireturn, 1) := by decide +kernel
theorem dX12_image_17 : decode cX12_image 17 = .ok (.aload_n 0, 1) := by decide +kernel
theorem dX12_image_18 : decode cX12_image 18 = .ok (.getfield 195, 3) := by decide +kernel
theorem dX12_image_21 : decode cX12_image 21 = .ok (.iconst 3, 1) := by decide +kernel
theorem dX12_image_22 : decode cX12_image 22 = .ok (.if_icmp .ne 9, 3) := by decide +kernel
theorem dX12_image_25 : decode cX12_image 25 = .ok (.aload_n 0, 1) := by decide +kernel
theorem dX12_image_26 : decode cX12_image 26 = .ok (.iconst 3, 1) := by decide +kernel
theorem dX12_image_27 : decode cX12_image 27 = .ok (.invokevirtual 176, 3) := by decide +kernel
theorem dX12_image_30 : decode cX12_image 30 = .ok (.ireturn, 1) := by decide +kernel
theorem dX12_image_31 : decode cX12_image 31 = .ok (.aload_n 0, 1) := by decide +kernel
theorem dX12_image_32 : decode cX12_image 32 = .ok (.getfield 26, 3) := by decide +kernel
theorem dX12_image_35 : decode cX12_image 35 = .ok (.iconst 0, 1) := by decide +kernel
theorem dX12_image_36 : decode cX12_image 36 = .ok (.aload_n 0, 1) := by decide +kernel
theorem dX12_image_37 : decode cX12_image 37 = .ok (.getfield 41, 3) := by decide +kernel
theorem dX12_image_40 : decode cX12_image 40 = .ok (.bipush 87, 2) := by decide +kernel
theorem dX12_image_42 : decode cX12_image 42 = .ok (.aload_n 0, 1) := by decide +kernel
theorem dX12_image_43 : decode cX12_image 43 = .ok (.getfield 195, 3) := by decide +kernel
theorem dX12_image_46 : decode cX12_image 46 = .ok (.imul, 1) := by decide +kernel
theorem dX12_image_47 : decode cX12_image 47 = .ok (.bipush 87, 2) := by decide +kernel
theorem dX12_image_49 : decode cX12_image 49 = .ok (.invokestatic 182, 3) := by decide +kernel
theorem dX12_image_52 : decode cX12_image 52 = .ok (.aload_n 0, 1) := by decide +kernel
theorem dX12_image_53 : decode cX12_image 53 = .ok (.dup, 1) := by decide +kernel
theorem dX12_image_54 : decode cX12_image 54 = .ok (.getfield 195, 3) := by decide +kernel
theorem dX12_image_57 : decode cX12_image 57 = .ok (.iconst 1, 1) := by decide +kernel
theorem dX12_image_58 : decode cX12_image 58 = .ok (.iadd, 1) := by decide +kernel
theorem dX12_image_59 : decode cX12_image 59 = .ok (.putfield 195, 3) := by decide +kernel
theorem dX12_image_62 : decode cX12_image 62 = .ok (.aload_n 0, 1) := by decide +kernel
theorem dX12_image_63 : decode cX12_image 63 = .ok (.getfield 195, 3) := by decide +kernel
theorem dX12_image_66 : decode cX12_image 66 = .ok (.iconst 1, 1) := by decide +kernel
theorem dX12_image_67 : decode cX12_image 67 = .ok (.isub, 1) := by decide +kernel
theorem dX12_image_68 : decode cX12_image 68 = .ok (.ireturn, 1) := by decide +kernel
theorem dX12_back_0 : decode cX12_back 0 = .ok (.aload_n 0, 1) := by decide +kernel
theorem dX12_back_1 : decode cX12_back 1 = .ok (.invokevirtual 173, 3) := by decide +kernel
theorem dX12_back_4 : decode cX12_back 4 = .ok (.iload_n 1, 1) := by decide +kernel
theorem dX12_back_5 : decode cX12_back 5 = .ok (.iconst 0, 1) := by decide +kernel
theorem dX12_back_6 : decode cX12_back 6 = .ok (.aload_n 0, 1) := by decide +kernel
theorem dX12_back_7 : decode cX12_back 7 = .ok (.getfield 195, 3) := by decide +kernel
theorem dX12_back_10 : decode cX12_back 10 = .ok (.iconst 1, 1) := by decide +kernel
theorem dX12_back_11 : decode cX12_back 11 = .ok (.isub, 1) := by decide +kernel
theorem dX12_back_12 : decode cX12_back 12 = .ok (.invokestatic 154, 3) := by decide +kernel
theorem dX12_back_15 : decode cX12_back 15 = .ok (.ifCond .ne 9, 3) := by decide +kernel
theorem dX12_back_18 : decode cX12_back 18 = .ok (.aload_n 0, 1) := by decide +kernel
theorem dX12_back_19 : decode cX12_back 19 = .ok (.iconst 1, 1) := by decide +kernel
theorem dX12_back_20 : decode cX12_back 20 = .ok (.invokevirtual 423, 3) := by decide +kernel
theorem dX12_back_23 : decode cX12_back 23 = .ok (.ireturn, 1) := by decide +kernel
theorem dX12_back_24 : decode cX12_back 24 = .ok (.aload_n 0, 1) := by decide +kernel
theorem dX12_back_25 : decode cX12_back 25 = .ok (.getfield 41, 3) := by decide +kernel
theorem dX12_back_28 : decode cX12_back 28 = .ok (.bipush 87, 2) := by decide +kernel
theorem dX12_back_30 : decode cX12_back 30 = .ok (.iload_n 1, 1) := by decide +kernel
theorem dX12_back_31 : decode cX12_back 31 = .ok (.imul, 1) := by decide +kernel
theorem dX12_back_32 : decode cX12_back 32 = .ok (.aload_n 0, 1) := by decide +kernel
theorem dX12_back_33 : decode cX12_back 33 = .ok (.getfield 26, 3) := by decide +kernel
theorem dX12_back_36 : decode cX12_back 36 = .ok (.iconst 0, 1) := by decide +kernel
theorem dX12_back_37 : decode cX12_back 37 = .ok (.bipush 87, 2) := by decide +kernel
theorem dX12_back_39 : decode cX12_back 39 = .ok (.invokestatic 182, 3) := by decide +kernel
theorem dX12_back_42 : decode cX12_back 42 = .ok (.aload_n 0, 1) := by decide +kernel
theorem dX12_back_43 : decode cX12_back 43 = .ok (.iconst 0, 1) := by decide +kernel
theorem dX12_back_44 : decode cX12_back 44 = .ok (.putfield 189, 3) := by decide +kernel
theorem dX12_back_47 : decode cX12_back 47 = .ok (.aload_n 0, 1) := by decide +kernel
theorem dX12_back_48 : decode cX12_back 48 = .ok (.iconst 0, 1) := by decide +kernel
theorem dX12_back_49 : decode cX12_back 49 = .ok (.putfield 192, 3) := by decide +kernel
theorem dX12_back_52 : decode cX12_back 52 = .ok (.iconst 1, 1) := by decide +kernel
theorem dX12_back_53 : decode cX12_back 53 = .ok (.ireturn, 1) := by decide +kernel
section
variable {b : Nat} {ad : Nat → Nat} {I J : HI} {L M : HL} {R : HR} {Q : QT} {tp : Nat → Nat} {nt tr fa pl : Nat} {F : bkF} {S : Nat → LSt} {u r : Nat} {im : Nat → LSt} {ic : Nat}
theorem upU_12 (h : u ≤ 12) : upU u ≤ 12 ∧ (u < 12 → upU u = u + 1) ∧ (u = 12 → upU u = 12) := by
  unfold upU; refine ⟨?_, fun h2 => ?_, fun h2 => ?_⟩
  · split <;> omega
  · by_cases q : u + 1 < 12
    · rw [if_pos q]
    · rw [if_neg q]; omega
  · rw [if_neg (by omega)]
theorem rf_step {s' : LSt} {W : Nat → Int32} (h : RefB I tp nt tr fa pl F S u r im ic) (h0 : F 0 ≠ 0) (hl : ∀ k, live u r k → LOK F (S k)) (j165 : ∀ k, k < 1044 → J 165 k = if u < 12 then (if 87 * u ≤ k ∧ k < 87 * u + 87 then W (k - 87 * u) else I 165 k) else (if k < 957 then I 165 (k + 87) else W (k - 957))) (hW : ∀ k, k < 87 → W k = I 162 k) (hs : StI J 162 0 s') (hk : LOK F s') (j23 : J 157 23 = nI (upU u)) (j24 : J 157 24 = nI 0) (j11 : J 157 11 = nI 0) (hj : ∀ j, j = 2 ∨ j = 9 ∨ j = 10 ∨ j = 14 ∨ j = 25 → J 157 j = I 157 j) (hx : ∀ x, x = 158 ∨ x = 160 ∨ x = 167 → J x = I x) : RefB J tp nt 0 fa pl F (stepS S s') (upU u) 0 im ic := by
  obtain ⟨⟨a1, a2, a3⟩, ⟨b1, b2, b3, b4⟩, c, ⟨d1, d2, d3, d4, d5⟩, ⟨e1, e2, e3⟩, f⟩ := h
  have hu := upU_12 (u := u) (by omega)
  have n20 : ∀ k, live u r k → (S k).1 ≤ 20 := fun k q => (hl k q).1
  have st0 : stepS S s' 0 = s' := rfl
  have stn : ∀ k, k ≠ 0 → stepS S s' k = S ((k + 1) % 13) := fun k q => if_neg q
  refine ⟨⟨by rw [hj 2 (by decide)]; exact a1, a2, fun i hi => by rw [hx 158 (by decide)]; exact a3 i hi⟩, ⟨j11, by rw [hj 9 (by decide)]; exact b2, (fun (q : 0 = 4) => absurd q (by decide)), by decide⟩, ?_, ⟨j23, j24, by omega, fun j q => ?_, fun j q => absurd q (Nat.not_lt_zero _)⟩, ⟨by rw [hj 25 (by decide)]; exact e1, e2, fun c q => (e3 c q).fr (hx 167 (by decide))⟩, fun q => absurd q h0⟩
  · rw [st0]; exact ⟨c.1.fr (hx 160 (by decide)) (hj 14 (by decide)), hs, hk⟩
  · rw [stn _ (by omega)]
    by_cases h12 : u < 12
    · have e := hu.2.1 h12
      rw [e] at q ⊢
      by_cases hju : j = u
      · subst hju
        rw [show (13 - (j + 1 - j) + 1) % 13 = 0 by omega]
        refine c.2.1.cp (n20 0 (live0 _ _)) (fun k hk => ?_)
        rw [j165 _ (by omega), if_pos h12, if_pos ⟨by omega, by omega⟩, show 87 * j + k - 87 * j = k by omega, hW k hk, Nat.zero_add]
      · rw [show (13 - (u + 1 - j) + 1) % 13 = 13 - (u - j) by omega]
        refine (d4 j (by omega)).cp (n20 _ ⟨by omega, Or.inr (by omega)⟩) (fun k hk => ?_)
        rw [j165 _ (by omega), if_pos h12, if_neg (by omega)]
    · have e := hu.2.2 (by omega)
      have eu : u = 12 := by omega
      rw [e] at q ⊢
      by_cases hju : j = 11
      · subst hju
        rw [show (13 - (12 - 11) + 1) % 13 = 0 by omega]
        refine c.2.1.cp (n20 0 (live0 _ _)) (fun k hk => ?_)
        rw [j165 _ (by omega), if_neg h12, if_neg (by omega), show 87 * 11 + k - 957 = k by omega, hW k hk, Nat.zero_add]
      · rw [show (13 - (12 - j) + 1) % 13 = 13 - (u - (j + 1)) by omega]
        refine (d4 (j + 1) (by omega)).cp (n20 _ ⟨by omega, Or.inr (by omega)⟩) (fun k hk => ?_)
        rw [j165 _ (by omega), if_neg h12, if_pos (by omega), show 87 * j + k + 87 = 87 * (j + 1) + k by omega]
theorem r_lend {x : Int32} {y : Int32} {z : Int32} {w : Int32} (hR : RO R) (h : RefB I tp nt tr fa pl F S u r im ic) (hl : ∀ k, live u r k → LOK F (S k)) (hQ0 : k_lend F (S 0) x y z w ≠ 0 → YQ I L R tp nt (k_lend F (S 0) x y z w) fa pl F S u r im ic 0 Q) (hQ1 : k_lend F (S 0) x y z w = 0 → YQ I L R tp nt 0 fa pl F (stepS S (insS (S 0) (tN x, tN y, tN z, tN w))) (upU u) 0 im ic 1 Q) : KK 8 mX12_lend b ad [.ref (b + 157), .int x, .int y, .int z, .int w] I L R Q := by
  have hO := h.2.2.1.1.2.2.1
  have o0 := hO.1
  have o1 := hO.2.1
  have o2 := hO.2.2.1
  have o3 := hO.2.2.2.1
  have o4 := hO.2.2.2.2.1
  have o5 := hO.2.2.2.2.2.1
  have o6 := hO.2.2.2.2.2.2.1
  have hK := h.2.2.1.2.2
  have hn20 := hK.1
  have hok : ∀ i, i < (S 0).1 → ok4 ((S 0).2.1 i) := fun i hi => (hK.2.1 i hi).1
  refine K.of (M := mX12_lend) (lv := [some (.ref (b + 157)), some (.int x), some (.int y), some (.int z), some (.int w)]) (by decide) (Nat.le_of_ble_eq_true rfl) rfl ?_
  refine v_aload_0 dX12_lend_0 ?_
  refine u_callV_0 dX12_lend_1 ml_X12_173 mv_X12_good (by first | assumption | rfl | exact led_1 (by assumption) | exact led_2 (by assumption) | exact bk_m (by assumption) (by first | assumption | omega) | exact bk_p (by assumption) (by first | assumption | omega) | exact bk_o (by assumption) (by first | assumption | omega) | exact bk_s (by assumption) (by first | assumption | omega) | exact bk_1 (by assumption) | exact bk_2 (by assumption) | exact bk_3 (by assumption) | exact bk_4 (by assumption) | exact bk_5 (by assumption) | exact bk_6 (by assumption) | exact bk_7 (by assumption) | exact bk_8 (by assumption) | exact sh_ring _ (by first | assumption | omega) | exact sh_imgs _ (by first | assumption | omega)) (by decide) rfl (by decide) (Nat.le_of_ble_eq_true rfl) (c_X12_good ?_)
  have h := rf_good h
  have hr : RfI _ F (S 0) := h.2.2.1
  have hS := hr.2.1
  refine v_aload_0 dX12_lend_4 ?_
  refine v_iload_1 dX12_lend_5 ?_
  refine u_callV_1 dX12_lend_6 ml_X12_307 mv_X12_isMask (by first | assumption | rfl | exact led_1 (by assumption) | exact led_2 (by assumption) | exact bk_m (by assumption) (by first | assumption | omega) | exact bk_p (by assumption) (by first | assumption | omega) | exact bk_o (by assumption) (by first | assumption | omega) | exact bk_s (by assumption) (by first | assumption | omega) | exact bk_1 (by assumption) | exact bk_2 (by assumption) | exact bk_3 (by assumption) | exact bk_4 (by assumption) | exact bk_5 (by assumption) | exact bk_6 (by assumption) | exact bk_7 (by assumption) | exact bk_8 (by assumption) | exact sh_ring _ (by first | assumption | omega) | exact sh_imgs _ (by first | assumption | omega)) (by decide) rfl (by decide) (Nat.le_of_ble_eq_true rfl) (c_X12_isMask hR hr.1 ?_)
  refine v_if_eq (tgt := 20) dX12_lend_9 (by decide) (fun hc9 => ?_) (fun hc9 => ?_)
  · (first | rw [bI_0, Bool.not_eq_false] at hc9 | rw [bI_0] at hc9 | rw [show (0 : Int32) = nI 0 from rfl, nI_eq (by omega) (by omega)] at hc9 | skip)
    refine v_aload_0 dX12_lend_20 ?_
    refine v_iconst (v := nI 1) dX12_lend_21 (by decide) ?_
    refine u_callV_1 dX12_lend_22 ml_X12_423 mv_X12_isNot (by first | assumption | rfl | exact led_1 (by assumption) | exact led_2 (by assumption) | exact bk_m (by assumption) (by first | assumption | omega) | exact bk_p (by assumption) (by first | assumption | omega) | exact bk_o (by assumption) (by first | assumption | omega) | exact bk_s (by assumption) (by first | assumption | omega) | exact bk_1 (by assumption) | exact bk_2 (by assumption) | exact bk_3 (by assumption) | exact bk_4 (by assumption) | exact bk_5 (by assumption) | exact bk_6 (by assumption) | exact bk_7 (by assumption) | exact bk_8 (by assumption) | exact sh_ring _ (by first | assumption | omega) | exact sh_imgs _ (by first | assumption | omega)) (by decide) rfl (by decide) (Nat.le_of_ble_eq_true rfl) (c_X12_isNot (k := 1) ?_)
    refine v_zret dX12_lend_25 (by first | rfl | exact bI_n _) rfl rfl rfl rfl ?_
    have hk : k_lend F (S 0) x y z w = 1 := by first | simp [k_lend, trc, hc9, hc17] | simp [k_lend, trc, hc9]
    exact (hQ0 (by rw [hk]; decide)).fin (rf_tr h (by decide)) (fun x hx => by simp only [ui_ne (show x ≠ 157 by omega)]) (fun _ _ => rfl) hk.symm rfl
  · (first | rw [bI_0, Bool.not_eq_false] at hc9 | rw [bI_0] at hc9 | rw [show (0 : Int32) = nI 0 from rfl, nI_eq (by omega) (by omega)] at hc9 | skip)
    refine v_aload_0 dX12_lend_12 ?_
    refine v_iload_2 dX12_lend_13 ?_
    refine u_callV_1 dX12_lend_14 ml_X12_310 mv_X12_isPerson (by first | assumption | rfl | exact led_1 (by assumption) | exact led_2 (by assumption) | exact bk_m (by assumption) (by first | assumption | omega) | exact bk_p (by assumption) (by first | assumption | omega) | exact bk_o (by assumption) (by first | assumption | omega) | exact bk_s (by assumption) (by first | assumption | omega) | exact bk_1 (by assumption) | exact bk_2 (by assumption) | exact bk_3 (by assumption) | exact bk_4 (by assumption) | exact bk_5 (by assumption) | exact bk_6 (by assumption) | exact bk_7 (by assumption) | exact bk_8 (by assumption) | exact sh_ring _ (by first | assumption | omega) | exact sh_imgs _ (by first | assumption | omega)) (by decide) rfl (by decide) (Nat.le_of_ble_eq_true rfl) (c_X12_isPerson hR hr.1 ?_)
    refine v_if_ne (tgt := 26) dX12_lend_17 (by decide) (fun hc17 => ?_) (fun hc17 => ?_)
    · (first | rw [bI_0, Bool.not_eq_false] at hc17 | rw [bI_0] at hc17 | rw [show (0 : Int32) = nI 0 from rfl, nI_eq (by omega) (by omega)] at hc17 | skip)
      refine v_aload_0 dX12_lend_26 ?_
      refine v_iload_3 dX12_lend_27 ?_
      refine v_iload_4 dX12_lend_28 ?_
      refine u_callV_2 dX12_lend_30 ml_X12_357 mv_X12_areDays (by first | assumption | rfl | exact led_1 (by assumption) | exact led_2 (by assumption) | exact bk_m (by assumption) (by first | assumption | omega) | exact bk_p (by assumption) (by first | assumption | omega) | exact bk_o (by assumption) (by first | assumption | omega) | exact bk_s (by assumption) (by first | assumption | omega) | exact bk_1 (by assumption) | exact bk_2 (by assumption) | exact bk_3 (by assumption) | exact bk_4 (by assumption) | exact bk_5 (by assumption) | exact bk_6 (by assumption) | exact bk_7 (by assumption) | exact bk_8 (by assumption) | exact sh_ring _ (by first | assumption | omega) | exact sh_imgs _ (by first | assumption | omega)) (by decide) rfl (by decide) (Nat.le_of_ble_eq_true rfl) (c_X12_areDays hR hr.1 ?_)
      refine v_if_ne (tgt := 42) dX12_lend_33 (by decide) (fun hc33 => ?_) (fun hc33 => ?_)
      · (first | rw [bI_0, Bool.not_eq_false] at hc33 | rw [bI_0] at hc33 | rw [show (0 : Int32) = nI 0 from rfl, nI_eq (by omega) (by omega)] at hc33 | skip)
        obtain ⟨m, rfl, hm⟩ := inb_ex (by omega) hc9
        have em : tN (nI m) = m := tN_nI (by omega)
        obtain ⟨p, rfl, hp⟩ := inb_ex (by omega) hc17
        have ep : tN (nI p) = p := tN_nI (by omega)
        have hA := hc33
        rw [Bool.and_eq_true, Bool.and_eq_true, decide_eq_true_eq] at hA
        obtain ⟨⟨hz1, hw1⟩, hzw⟩ := hA
        obtain ⟨d, rfl, hd1, hd⟩ := ind_ex (by omega) hz1
        have ed : tN (nI d) = d := tN_nI (by omega)
        obtain ⟨d2, rfl, hd21, hd2⟩ := ind_ex (by omega) hw1
        have ed2 : tN (nI d2) = d2 := tN_nI (by omega)
        rw [nI_leI (by omega) (by omega)] at hzw
        have hdd : d ≤ d2 := hzw
        have hcc : ((inb (nI m) (F 2) && inb (nI p) (F 3)) && (ind (nI d) (F 0) && ind (nI d2) (F 0) && decide (nI d ≤ nI d2))) = true := by rw [hc9, hc17, hc33]; rfl
        refine v_aload_0 dX12_lend_42 ?_
        refine u_getR dX12_lend_43 gf_X12_26 (by first | assumption | rfl | exact led_1 (by assumption) | exact led_2 (by assumption) | exact bk_m (by assumption) (by first | assumption | omega) | exact bk_p (by assumption) (by first | assumption | omega) | exact bk_o (by assumption) (by first | assumption | omega) | exact bk_s (by assumption) (by first | assumption | omega) | exact bk_1 (by assumption) | exact bk_2 (by assumption) | exact bk_3 (by assumption) | exact bk_4 (by assumption) | exact bk_5 (by assumption) | exact bk_6 (by assumption) | exact bk_7 (by assumption) | exact bk_8 (by assumption) | exact sh_ring _ (by first | assumption | omega) | exact sh_imgs _ (by first | assumption | omega)) (ro_X12_17 (by assumption)) ?_
        refine v_iconst (v := nI 0) dX12_lend_46 (by decide) ?_
        refine u_iald dX12_lend_47 (by first | assumption | rfl | exact led_1 (by assumption) | exact led_2 (by assumption) | exact bk_m (by assumption) (by first | assumption | omega) | exact bk_p (by assumption) (by first | assumption | omega) | exact bk_o (by assumption) (by first | assumption | omega) | exact bk_s (by assumption) (by first | assumption | omega) | exact bk_1 (by assumption) | exact bk_2 (by assumption) | exact bk_3 (by assumption) | exact bk_4 (by assumption) | exact bk_5 (by assumption) | exact bk_6 (by assumption) | exact bk_7 (by assumption) | exact bk_8 (by assumption) | exact sh_ring _ (by first | assumption | omega) | exact sh_imgs _ (by first | assumption | omega)) (by first | with_reducible rfl | (simp only [nlit, nI_add, pk_mul]; with_reducible rfl) | rfl) (by first | assumption | omega) (by first | assumption | decide) ?_
        rw [hS.1]
        refine v_bipush (v := nI 20) dX12_lend_48 (by decide) ?_
        refine v_icmp_ne (tgt := 59) dX12_lend_50 (by decide) (fun hc50 => ?_) (fun hc50 => ?_)
        · (try rw [nI_eq (by omega) (by omega)] at hc50)
          refine v_aload_0 dX12_lend_59 ?_
          refine u_getR dX12_lend_60 gf_X12_20 (by first | assumption | rfl | exact led_1 (by assumption) | exact led_2 (by assumption) | exact bk_m (by assumption) (by first | assumption | omega) | exact bk_p (by assumption) (by first | assumption | omega) | exact bk_o (by assumption) (by first | assumption | omega) | exact bk_s (by assumption) (by first | assumption | omega) | exact bk_1 (by assumption) | exact bk_2 (by assumption) | exact bk_3 (by assumption) | exact bk_4 (by assumption) | exact bk_5 (by assumption) | exact bk_6 (by assumption) | exact bk_7 (by assumption) | exact bk_8 (by assumption) | exact sh_ring _ (by first | assumption | omega) | exact sh_imgs _ (by first | assumption | omega)) (ro_X12_15 (by assumption)) ?_
          refine v_aload_0 dX12_lend_63 ?_
          refine u_getR dX12_lend_64 gf_X12_26 (by first | assumption | rfl | exact led_1 (by assumption) | exact led_2 (by assumption) | exact bk_m (by assumption) (by first | assumption | omega) | exact bk_p (by assumption) (by first | assumption | omega) | exact bk_o (by assumption) (by first | assumption | omega) | exact bk_s (by assumption) (by first | assumption | omega) | exact bk_1 (by assumption) | exact bk_2 (by assumption) | exact bk_3 (by assumption) | exact bk_4 (by assumption) | exact bk_5 (by assumption) | exact bk_6 (by assumption) | exact bk_7 (by assumption) | exact bk_8 (by assumption) | exact sh_ring _ (by first | assumption | omega) | exact sh_imgs _ (by first | assumption | omega)) (ro_X12_17 (by assumption)) ?_
          refine v_iload_1 dX12_lend_67 ?_
          refine v_iload_2 dX12_lend_68 ?_
          refine v_iload_3 dX12_lend_69 ?_
          refine v_iload_4 dX12_lend_70 ?_
          refine v_iconst (v := -1) dX12_lend_72 (by decide) ?_
          refine u_callS_7 dX12_lend_73 ml_X12_283 ms_X12_canLend (by decide) (Nat.le_of_ble_eq_true rfl) (c_X12_canLendN (F := F) (s := S 0) hr.1.1 hO rfl hS hK hm hp hdd (by omega) ?_)
          refine v_if_ne (tgt := 85) dX12_lend_76 (by decide) (fun hc76 => ?_) (fun hc76 => ?_)
          · (first | rw [bI_0, Bool.not_eq_false] at hc76 | rw [bI_0] at hc76 | rw [show (0 : Int32) = nI 0 from rfl, nI_eq (by omega) (by omega)] at hc76 | skip)
            have haup := aup_okL (m := m) (p := p) hK hdd
            rw [haup] at hc76
            have hoq := hc76
            unfold okL at hoq
            rw [Bool.and_eq_true, Bool.and_eq_true] at hoq
            obtain ⟨⟨hfit, hfm⟩, hfp⟩ := hoq
            have hq4 : ok4 (m, p, d, d2) := ⟨Nat.lt_of_lt_of_le hm o2, Nat.lt_of_lt_of_le hp o3, hd1, hdd, by show d2 ≤ 20; omega⟩
            have hq5 : okq F (m, p, d, d2) := ⟨hq4, hm, hp, hd2, hfit⟩
            have hfr : free (S 0).1 (S 0).2.1 (m, p, d, d2) := ⟨fup_isNone hfm, fup_isNone hfp⟩
            refine v_aload_0 dX12_lend_85 ?_
            refine u_getR dX12_lend_86 gf_X12_26 (by first | assumption | rfl | exact led_1 (by assumption) | exact led_2 (by assumption) | exact bk_m (by assumption) (by first | assumption | omega) | exact bk_p (by assumption) (by first | assumption | omega) | exact bk_o (by assumption) (by first | assumption | omega) | exact bk_s (by assumption) (by first | assumption | omega) | exact bk_1 (by assumption) | exact bk_2 (by assumption) | exact bk_3 (by assumption) | exact bk_4 (by assumption) | exact bk_5 (by assumption) | exact bk_6 (by assumption) | exact bk_7 (by assumption) | exact bk_8 (by assumption) | exact sh_ring _ (by first | assumption | omega) | exact sh_imgs _ (by first | assumption | omega)) (ro_X12_17 (by assumption)) ?_
            refine v_iconst (v := nI 0) dX12_lend_89 (by decide) ?_
            refine v_aload_0 dX12_lend_90 ?_
            refine u_getR dX12_lend_91 gf_X12_32 (by first | assumption | rfl | exact led_1 (by assumption) | exact led_2 (by assumption) | exact bk_m (by assumption) (by first | assumption | omega) | exact bk_p (by assumption) (by first | assumption | omega) | exact bk_o (by assumption) (by first | assumption | omega) | exact bk_s (by assumption) (by first | assumption | omega) | exact bk_1 (by assumption) | exact bk_2 (by assumption) | exact bk_3 (by assumption) | exact bk_4 (by assumption) | exact bk_5 (by assumption) | exact bk_6 (by assumption) | exact bk_7 (by assumption) | exact bk_8 (by assumption) | exact sh_ring _ (by first | assumption | omega) | exact sh_imgs _ (by first | assumption | omega)) (ro_X12_19 (by assumption)) ?_
            refine v_iconst (v := nI 0) dX12_lend_94 (by decide) ?_
            refine v_bipush (v := nI 87) dX12_lend_95 (by decide) ?_
            refine u_callS_5 dX12_lend_97 ml_X12_182 ms_X12_copy (by decide) (Nat.le_of_ble_eq_true rfl) (c_X12_copy (i0 := 0) (j0 := 0) (m := 87) rfl rfl (by decide) (by decide) (by decide) (by decide) (by decide) (fun J1 q1 q2 => ?_))
            refine v_aload_0 dX12_lend_100 ?_
            refine u_getR dX12_lend_101 gf_X12_26 (by first | assumption | rfl | exact led_1 (by assumption) | exact led_2 (by assumption) | exact bk_m (by assumption) (by first | assumption | omega) | exact bk_p (by assumption) (by first | assumption | omega) | exact bk_o (by assumption) (by first | assumption | omega) | exact bk_s (by assumption) (by first | assumption | omega) | exact bk_1 (by assumption) | exact bk_2 (by assumption) | exact bk_3 (by assumption) | exact bk_4 (by assumption) | exact bk_5 (by assumption) | exact bk_6 (by assumption) | exact bk_7 (by assumption) | exact bk_8 (by assumption) | exact sh_ring _ (by first | assumption | omega) | exact sh_imgs _ (by first | assumption | omega)) (ro_X12_17 (by assumption)) ?_
            refine v_iload_1 dX12_lend_104 ?_
            refine v_iload_2 dX12_lend_105 ?_
            refine v_iload_3 dX12_lend_106 ?_
            refine v_iload_4 dX12_lend_107 ?_
            refine u_callS_5 dX12_lend_109 ml_X12_287 ms_X12_putLending (by decide) (Nat.le_of_ble_eq_true rfl) (c_X12_putLending (F := F) (s := S 0) rfl (hS.fr (q2 162 (by decide))) hK (by omega) hq5 hfr (fun J2 q3 q4 => ?_))
            refine v_aload_0 dX12_lend_112 ?_
            refine u_callV_0 dX12_lend_113 ml_X12_426 mv_X12_did (by first | assumption | rfl | exact led_1 (by assumption) | exact led_2 (by assumption) | exact bk_m (by assumption) (by first | assumption | omega) | exact bk_p (by assumption) (by first | assumption | omega) | exact bk_o (by assumption) (by first | assumption | omega) | exact bk_s (by assumption) (by first | assumption | omega) | exact bk_1 (by assumption) | exact bk_2 (by assumption) | exact bk_3 (by assumption) | exact bk_4 (by assumption) | exact bk_5 (by assumption) | exact bk_6 (by assumption) | exact bk_7 (by assumption) | exact bk_8 (by assumption) | exact sh_ring _ (by first | assumption | omega) | exact sh_imgs _ (by first | assumption | omega)) (by decide) rfl (by decide) (Nat.le_of_ble_eq_true rfl) (c_X12_did (u := u) hR (by rw [q4 157 (by decide), q2 157 (by decide)]; exact h.2.2.2.1.1) (by have := h.2.2.2.1.2.2.1; omega) (fun J3 p1 p2 p3 p4 p5 => ?_))
            refine v_zret dX12_lend_116 (by first | rfl | exact bI_n _) rfl rfl rfl rfl ?_
            have hk : k_lend F (S 0) (nI m) (nI p) (nI d) (nI d2) = 0 := by rw [k_lend, if_pos hcc, if_neg (by omega), em, ep, ed, ed2, if_pos hc76]
            have hfin := hQ1 hk
            rw [em, ep, ed, ed2] at hfin
            exact hfin.fin (rf_step (W := fun k => J1 164 k) h (by omega) hl (fun k hk => by rw [p1 k hk, q4 165 (by decide), q2 165 (by decide), q4 164 (by decide)]) (fun k hk => by show J1 164 k = _; rw [q1 k, if_pos ⟨Nat.zero_le _, by omega⟩, Nat.zero_add, Nat.sub_zero]) (q3.fr (p5 162 (by decide) (by decide))) (lok_ins hK (by omega) hq5 hfr) p2 p3 (by rw [p4 11 (by decide) (by decide), q4 157 (by decide), q2 157 (by decide), ui_s]) (fun j hj => by rw [p4 j (by omega) (by omega), q4 157 (by decide), q2 157 (by decide)]) (fun x hx => by rw [p5 x (by omega) (by omega), q4 x (by omega), q2 x (by omega)])) (fun x hx => by rw [p5 x (by omega) (by omega), q4 x (by omega), q2 x (by omega)]; simp only [ui_ne (show x ≠ 157 by omega)]) (fun _ _ => rfl) rfl rfl
          · (first | rw [bI_0, Bool.not_eq_false] at hc76 | rw [bI_0] at hc76 | rw [show (0 : Int32) = nI 0 from rfl, nI_eq (by omega) (by omega)] at hc76 | skip)
            refine v_aload_0 dX12_lend_79 ?_
            refine v_iconst (v := nI 5) dX12_lend_80 (by decide) ?_
            refine u_callV_1 dX12_lend_81 ml_X12_423 mv_X12_isNot (by first | assumption | rfl | exact led_1 (by assumption) | exact led_2 (by assumption) | exact bk_m (by assumption) (by first | assumption | omega) | exact bk_p (by assumption) (by first | assumption | omega) | exact bk_o (by assumption) (by first | assumption | omega) | exact bk_s (by assumption) (by first | assumption | omega) | exact bk_1 (by assumption) | exact bk_2 (by assumption) | exact bk_3 (by assumption) | exact bk_4 (by assumption) | exact bk_5 (by assumption) | exact bk_6 (by assumption) | exact bk_7 (by assumption) | exact bk_8 (by assumption) | exact sh_ring _ (by first | assumption | omega) | exact sh_imgs _ (by first | assumption | omega)) (by decide) rfl (by decide) (Nat.le_of_ble_eq_true rfl) (c_X12_isNot (k := 5) ?_)
            refine v_zret dX12_lend_84 (by first | rfl | exact bI_n _) rfl rfl rfl rfl ?_
            have hk : k_lend F (S 0) (nI m) (nI p) (nI d) (nI d2) = 5 := by rw [k_lend, if_pos hcc, if_neg (by omega), em, ep, ed, ed2, ← aup_okL (m := m) (p := p) hK hdd, hc76]; rfl
            exact (hQ0 (by rw [hk]; decide)).fin (rf_tr h (by decide)) (fun x hx => by simp only [ui_ne (show x ≠ 157 by omega)]) (fun _ _ => rfl) hk.symm rfl
        · (try rw [nI_eq (by omega) (by omega)] at hc50)
          refine v_aload_0 dX12_lend_53 ?_
          refine v_iconst (v := nI 3) dX12_lend_54 (by decide) ?_
          refine u_callV_1 dX12_lend_55 ml_X12_423 mv_X12_isNot (by first | assumption | rfl | exact led_1 (by assumption) | exact led_2 (by assumption) | exact bk_m (by assumption) (by first | assumption | omega) | exact bk_p (by assumption) (by first | assumption | omega) | exact bk_o (by assumption) (by first | assumption | omega) | exact bk_s (by assumption) (by first | assumption | omega) | exact bk_1 (by assumption) | exact bk_2 (by assumption) | exact bk_3 (by assumption) | exact bk_4 (by assumption) | exact bk_5 (by assumption) | exact bk_6 (by assumption) | exact bk_7 (by assumption) | exact bk_8 (by assumption) | exact sh_ring _ (by first | assumption | omega) | exact sh_imgs _ (by first | assumption | omega)) (by decide) rfl (by decide) (Nat.le_of_ble_eq_true rfl) (c_X12_isNot (k := 3) ?_)
          refine v_zret dX12_lend_58 (by first | rfl | exact bI_n _) rfl rfl rfl rfl ?_
          have hk : k_lend F (S 0) (nI m) (nI p) (nI d) (nI d2) = 3 := by rw [k_lend, if_pos hcc, if_pos (by omega)]
          exact (hQ0 (by rw [hk]; decide)).fin (rf_tr h (by decide)) (fun x hx => by simp only [ui_ne (show x ≠ 157 by omega)]) (fun _ _ => rfl) hk.symm rfl
      · (first | rw [bI_0, Bool.not_eq_false] at hc33 | rw [bI_0] at hc33 | rw [show (0 : Int32) = nI 0 from rfl, nI_eq (by omega) (by omega)] at hc33 | skip)
        refine v_aload_0 dX12_lend_36 ?_
        refine v_iconst (v := nI 2) dX12_lend_37 (by decide) ?_
        refine u_callV_1 dX12_lend_38 ml_X12_423 mv_X12_isNot (by first | assumption | rfl | exact led_1 (by assumption) | exact led_2 (by assumption) | exact bk_m (by assumption) (by first | assumption | omega) | exact bk_p (by assumption) (by first | assumption | omega) | exact bk_o (by assumption) (by first | assumption | omega) | exact bk_s (by assumption) (by first | assumption | omega) | exact bk_1 (by assumption) | exact bk_2 (by assumption) | exact bk_3 (by assumption) | exact bk_4 (by assumption) | exact bk_5 (by assumption) | exact bk_6 (by assumption) | exact bk_7 (by assumption) | exact bk_8 (by assumption) | exact sh_ring _ (by first | assumption | omega) | exact sh_imgs _ (by first | assumption | omega)) (by decide) rfl (by decide) (Nat.le_of_ble_eq_true rfl) (c_X12_isNot (k := 2) ?_)
        refine v_zret dX12_lend_41 (by first | rfl | exact bI_n _) rfl rfl rfl rfl ?_
        have hk : k_lend F (S 0) x y z w = 2 := by rw [k_lend, hc9, hc17, hc33]; rfl
        exact (hQ0 (by rw [hk]; decide)).fin (rf_tr h (by decide)) (fun x hx => by simp only [ui_ne (show x ≠ 157 by omega)]) (fun _ _ => rfl) hk.symm rfl
    · (first | rw [bI_0, Bool.not_eq_false] at hc17 | rw [bI_0] at hc17 | rw [show (0 : Int32) = nI 0 from rfl, nI_eq (by omega) (by omega)] at hc17 | skip)
      refine v_aload_0 dX12_lend_20 ?_
      refine v_iconst (v := nI 1) dX12_lend_21 (by decide) ?_
      refine u_callV_1 dX12_lend_22 ml_X12_423 mv_X12_isNot (by first | assumption | rfl | exact led_1 (by assumption) | exact led_2 (by assumption) | exact bk_m (by assumption) (by first | assumption | omega) | exact bk_p (by assumption) (by first | assumption | omega) | exact bk_o (by assumption) (by first | assumption | omega) | exact bk_s (by assumption) (by first | assumption | omega) | exact bk_1 (by assumption) | exact bk_2 (by assumption) | exact bk_3 (by assumption) | exact bk_4 (by assumption) | exact bk_5 (by assumption) | exact bk_6 (by assumption) | exact bk_7 (by assumption) | exact bk_8 (by assumption) | exact sh_ring _ (by first | assumption | omega) | exact sh_imgs _ (by first | assumption | omega)) (by decide) rfl (by decide) (Nat.le_of_ble_eq_true rfl) (c_X12_isNot (k := 1) ?_)
      refine v_zret dX12_lend_25 (by first | rfl | exact bI_n _) rfl rfl rfl rfl ?_
      have hk : k_lend F (S 0) x y z w = 1 := by first | simp [k_lend, trc, hc9, hc17] | simp [k_lend, trc, hc9]
      exact (hQ0 (by rw [hk]; decide)).fin (rf_tr h (by decide)) (fun x hx => by simp only [ui_ne (show x ≠ 157 by omega)]) (fun _ _ => rfl) hk.symm rfl
theorem r_breaking {x : Int32} {y : Int32} {z : Bool} (hR : RO R) (h : RefB I tp nt tr fa pl F S u r im ic) (hl : ∀ k, live u r k → LOK F (S k)) (hQ0 : k_breaking F (S 0) x y z ≠ 0 → YQ I L R tp nt (k_breaking F (S 0) x y z) fa pl F S u r im ic 0 Q) (hQ1 : k_breaking F (S 0) x y z = 0 → YQ I L R tp nt 0 fa pl F (stepS S (flipS (S 0) (tN x) (tN y))) (upU u) 0 im ic 1 Q) : KK 8 mX12_breaking b ad [.ref (b + 157), .int x, .int y, .int (bI z)] I L R Q := by
  have hO := h.2.2.1.1.2.2.1
  have o0 := hO.1
  have o1 := hO.2.1
  have o2 := hO.2.2.1
  have o3 := hO.2.2.2.1
  have o4 := hO.2.2.2.2.1
  have o5 := hO.2.2.2.2.2.1
  have o6 := hO.2.2.2.2.2.2.1
  have hK := h.2.2.1.2.2
  have hn20 := hK.1
  have hok : ∀ i, i < (S 0).1 → ok4 ((S 0).2.1 i) := fun i hi => (hK.2.1 i hi).1
  refine K.of (M := mX12_breaking) (lv := [some (.ref (b + 157)), some (.int x), some (.int y), some (.int (bI z))]) (by decide) (Nat.le_of_ble_eq_true rfl) rfl ?_
  refine v_aload_0 dX12_breaking_0 ?_
  refine u_callV_0 dX12_breaking_1 ml_X12_173 mv_X12_good (by first | assumption | rfl | exact led_1 (by assumption) | exact led_2 (by assumption) | exact bk_m (by assumption) (by first | assumption | omega) | exact bk_p (by assumption) (by first | assumption | omega) | exact bk_o (by assumption) (by first | assumption | omega) | exact bk_s (by assumption) (by first | assumption | omega) | exact bk_1 (by assumption) | exact bk_2 (by assumption) | exact bk_3 (by assumption) | exact bk_4 (by assumption) | exact bk_5 (by assumption) | exact bk_6 (by assumption) | exact bk_7 (by assumption) | exact bk_8 (by assumption) | exact sh_ring _ (by first | assumption | omega) | exact sh_imgs _ (by first | assumption | omega)) (by decide) rfl (by decide) (Nat.le_of_ble_eq_true rfl) (c_X12_good ?_)
  have h := rf_good h
  have hr : RfI _ F (S 0) := h.2.2.1
  have hS := hr.2.1
  refine v_aload_0 dX12_breaking_4 ?_
  refine v_iload_1 dX12_breaking_5 ?_
  refine u_callV_1 dX12_breaking_6 ml_X12_310 mv_X12_isPerson (by first | assumption | rfl | exact led_1 (by assumption) | exact led_2 (by assumption) | exact bk_m (by assumption) (by first | assumption | omega) | exact bk_p (by assumption) (by first | assumption | omega) | exact bk_o (by assumption) (by first | assumption | omega) | exact bk_s (by assumption) (by first | assumption | omega) | exact bk_1 (by assumption) | exact bk_2 (by assumption) | exact bk_3 (by assumption) | exact bk_4 (by assumption) | exact bk_5 (by assumption) | exact bk_6 (by assumption) | exact bk_7 (by assumption) | exact bk_8 (by assumption) | exact sh_ring _ (by first | assumption | omega) | exact sh_imgs _ (by first | assumption | omega)) (by decide) rfl (by decide) (Nat.le_of_ble_eq_true rfl) (c_X12_isPerson hR hr.1 ?_)
  refine v_if_ne (tgt := 18) dX12_breaking_9 (by decide) (fun hc9 => ?_) (fun hc9 => ?_)
  · (first | rw [bI_0, Bool.not_eq_false] at hc9 | rw [bI_0] at hc9 | rw [show (0 : Int32) = nI 0 from rfl, nI_eq (by omega) (by omega)] at hc9 | skip)
    refine v_aload_0 dX12_breaking_18 ?_
    refine v_iload_2 dX12_breaking_19 ?_
    refine u_callV_1 dX12_breaking_20 ml_X12_313 mv_X12_isDay (by first | assumption | rfl | exact led_1 (by assumption) | exact led_2 (by assumption) | exact bk_m (by assumption) (by first | assumption | omega) | exact bk_p (by assumption) (by first | assumption | omega) | exact bk_o (by assumption) (by first | assumption | omega) | exact bk_s (by assumption) (by first | assumption | omega) | exact bk_1 (by assumption) | exact bk_2 (by assumption) | exact bk_3 (by assumption) | exact bk_4 (by assumption) | exact bk_5 (by assumption) | exact bk_6 (by assumption) | exact bk_7 (by assumption) | exact bk_8 (by assumption) | exact sh_ring _ (by first | assumption | omega) | exact sh_imgs _ (by first | assumption | omega)) (by decide) rfl (by decide) (Nat.le_of_ble_eq_true rfl) (c_X12_isDay hR hr.1 ?_)
    refine v_if_ne (tgt := 32) dX12_breaking_23 (by decide) (fun hc23 => ?_) (fun hc23 => ?_)
    · (first | rw [bI_0, Bool.not_eq_false] at hc23 | rw [bI_0] at hc23 | rw [show (0 : Int32) = nI 0 from rfl, nI_eq (by omega) (by omega)] at hc23 | skip)
      obtain ⟨p, rfl, hp⟩ := inb_ex (by omega) hc9
      have ep : tN (nI p) = p := tN_nI (by omega)
      obtain ⟨d, rfl, hd1, hd⟩ := ind_ex (by omega) hc23
      have ed : tN (nI d) = d := tN_nI (by omega)
      refine v_aload_0 dX12_breaking_32 ?_
      refine v_iload_1 dX12_breaking_33 ?_
      refine v_iload_2 dX12_breaking_34 ?_
      refine u_callV_2 dX12_breaking_35 ml_X12_325 mv_X12_isBroken (by first | assumption | rfl | exact led_1 (by assumption) | exact led_2 (by assumption) | exact bk_m (by assumption) (by first | assumption | omega) | exact bk_p (by assumption) (by first | assumption | omega) | exact bk_o (by assumption) (by first | assumption | omega) | exact bk_s (by assumption) (by first | assumption | omega) | exact bk_1 (by assumption) | exact bk_2 (by assumption) | exact bk_3 (by assumption) | exact bk_4 (by assumption) | exact bk_5 (by assumption) | exact bk_6 (by assumption) | exact bk_7 (by assumption) | exact bk_8 (by assumption) | exact sh_ring _ (by first | assumption | omega) | exact sh_imgs _ (by first | assumption | omega)) (by decide) rfl (by decide) (Nat.le_of_ble_eq_true rfl) (c_X12_isBroken hR hr (by omega) (by omega) ?_)
      refine v_iload_3 dX12_breaking_38 ?_
      refine v_icmp_ne (tgt := 48) dX12_breaking_39 (by decide) (fun hc39 => ?_) (fun hc39 => ?_)
      · rw [bI_inj] at hc39
        refine v_aload_0 dX12_breaking_48 ?_
        refine u_getR dX12_breaking_49 gf_X12_26 (by first | assumption | rfl | exact led_1 (by assumption) | exact led_2 (by assumption) | exact bk_m (by assumption) (by first | assumption | omega) | exact bk_p (by assumption) (by first | assumption | omega) | exact bk_o (by assumption) (by first | assumption | omega) | exact bk_s (by assumption) (by first | assumption | omega) | exact bk_1 (by assumption) | exact bk_2 (by assumption) | exact bk_3 (by assumption) | exact bk_4 (by assumption) | exact bk_5 (by assumption) | exact bk_6 (by assumption) | exact bk_7 (by assumption) | exact bk_8 (by assumption) | exact sh_ring _ (by first | assumption | omega) | exact sh_imgs _ (by first | assumption | omega)) (ro_X12_17 (by assumption)) ?_
        refine v_iconst (v := nI 0) dX12_breaking_52 (by decide) ?_
        refine v_aload_0 dX12_breaking_53 ?_
        refine u_getR dX12_breaking_54 gf_X12_32 (by first | assumption | rfl | exact led_1 (by assumption) | exact led_2 (by assumption) | exact bk_m (by assumption) (by first | assumption | omega) | exact bk_p (by assumption) (by first | assumption | omega) | exact bk_o (by assumption) (by first | assumption | omega) | exact bk_s (by assumption) (by first | assumption | omega) | exact bk_1 (by assumption) | exact bk_2 (by assumption) | exact bk_3 (by assumption) | exact bk_4 (by assumption) | exact bk_5 (by assumption) | exact bk_6 (by assumption) | exact bk_7 (by assumption) | exact bk_8 (by assumption) | exact sh_ring _ (by first | assumption | omega) | exact sh_imgs _ (by first | assumption | omega)) (ro_X12_19 (by assumption)) ?_
        refine v_iconst (v := nI 0) dX12_breaking_57 (by decide) ?_
        refine v_bipush (v := nI 87) dX12_breaking_58 (by decide) ?_
        refine u_callS_5 dX12_breaking_60 ml_X12_182 ms_X12_copy (by decide) (Nat.le_of_ble_eq_true rfl) (c_X12_copy (i0 := 0) (j0 := 0) (m := 87) rfl rfl (by decide) (by decide) (by decide) (by decide) (by decide) (fun J1 q1 q2 => ?_))
        refine v_aload_0 dX12_breaking_63 ?_
        refine u_getR dX12_breaking_64 gf_X12_26 (by first | assumption | rfl | exact led_1 (by assumption) | exact led_2 (by assumption) | exact bk_m (by assumption) (by first | assumption | omega) | exact bk_p (by assumption) (by first | assumption | omega) | exact bk_o (by assumption) (by first | assumption | omega) | exact bk_s (by assumption) (by first | assumption | omega) | exact bk_1 (by assumption) | exact bk_2 (by assumption) | exact bk_3 (by assumption) | exact bk_4 (by assumption) | exact bk_5 (by assumption) | exact bk_6 (by assumption) | exact bk_7 (by assumption) | exact bk_8 (by assumption) | exact sh_ring _ (by first | assumption | omega) | exact sh_imgs _ (by first | assumption | omega)) (ro_X12_17 (by assumption)) ?_
        refine v_bipush (v := nI 81) dX12_breaking_67 (by decide) ?_
        refine v_iload_1 dX12_breaking_69 ?_
        refine v_iadd dX12_breaking_70 ?_
        refine v_dup2 dX12_breaking_71 rfl rfl ?_
        refine u_iald dX12_breaking_72 (by first | assumption | rfl | exact led_1 (by assumption) | exact led_2 (by assumption) | exact bk_m (by assumption) (by first | assumption | omega) | exact bk_p (by assumption) (by first | assumption | omega) | exact bk_o (by assumption) (by first | assumption | omega) | exact bk_s (by assumption) (by first | assumption | omega) | exact bk_1 (by assumption) | exact bk_2 (by assumption) | exact bk_3 (by assumption) | exact bk_4 (by assumption) | exact bk_5 (by assumption) | exact bk_6 (by assumption) | exact bk_7 (by assumption) | exact bk_8 (by assumption) | exact sh_ring _ (by first | assumption | omega) | exact sh_imgs _ (by first | assumption | omega)) (by first | with_reducible rfl | (simp only [nlit, nI_add, pk_mul]; with_reducible rfl) | rfl) (by first | assumption | omega) (by first | assumption | decide) ?_
        rw [q2 162 (by decide), hS.b (p := p) (by omega) (by omega)]
        refine v_iconst (v := nI 1) dX12_breaking_73 (by decide) ?_
        refine v_iload_2 dX12_breaking_74 ?_
        refine v_ishl dX12_breaking_75 ?_
        skip
        refine v_ixor dX12_breaking_76 ?_
        rw [flip_b (by omega)]
        refine u_iast dX12_breaking_77 (by first | assumption | rfl | exact led_1 (by assumption) | exact led_2 (by assumption) | exact bk_m (by assumption) (by first | assumption | omega) | exact bk_p (by assumption) (by first | assumption | omega) | exact bk_o (by assumption) (by first | assumption | omega) | exact bk_s (by assumption) (by first | assumption | omega) | exact bk_1 (by assumption) | exact bk_2 (by assumption) | exact bk_3 (by assumption) | exact bk_4 (by assumption) | exact bk_5 (by assumption) | exact bk_6 (by assumption) | exact bk_7 (by assumption) | exact bk_8 (by assumption) | exact sh_ring _ (by first | assumption | omega) | exact sh_imgs _ (by first | assumption | omega)) (by first | with_reducible rfl | (simp only [nlit, nI_add, pk_mul]; with_reducible rfl) | rfl) (by first | assumption | omega) (by first | assumption | decide) ?_
        refine v_aload_0 dX12_breaking_78 ?_
        refine u_callV_0 dX12_breaking_79 ml_X12_426 mv_X12_did (by first | assumption | rfl | exact led_1 (by assumption) | exact led_2 (by assumption) | exact bk_m (by assumption) (by first | assumption | omega) | exact bk_p (by assumption) (by first | assumption | omega) | exact bk_o (by assumption) (by first | assumption | omega) | exact bk_s (by assumption) (by first | assumption | omega) | exact bk_1 (by assumption) | exact bk_2 (by assumption) | exact bk_3 (by assumption) | exact bk_4 (by assumption) | exact bk_5 (by assumption) | exact bk_6 (by assumption) | exact bk_7 (by assumption) | exact bk_8 (by assumption) | exact sh_ring _ (by first | assumption | omega) | exact sh_imgs _ (by first | assumption | omega)) (by decide) rfl (by decide) (Nat.le_of_ble_eq_true rfl) (c_X12_did (u := u) hR (by rw [ui_ne (by decide), q2 157 (by decide)]; exact h.2.2.2.1.1) (by have := h.2.2.2.1.2.2.1; omega) (fun J3 p1 p2 p3 p4 p5 => ?_))
        refine v_zret dX12_breaking_82 (by first | rfl | exact bI_n _) rfl rfl rfl rfl ?_
        have hk : k_breaking F (S 0) (nI p) (nI d) z = 0 := by simp [k_breaking, hc9, hc23, ep, ed, hc39]
        have hfin := hQ1 hk
        rw [ep, ed] at hfin
        have hsN : StI J3 162 0 (flipS (S 0) p d) := by
          refine StI.fr (I := ui J1 162 (81 + p) (nI ((S 0).2.2 p ^^^ 2 ^ d))) ?_ (p5 162 (by decide) (by decide))
          have hS1 := hS.fr (q2 162 (by decide))
          refine ⟨by rw [ui_o (by omega)]; exact hS1.1, fun i hi => ?_, fun z hz => ?_⟩
          · have hi : i < (S 0).1 := hi
            rw [ui_o (by omega), ui_o (by omega), ui_o (by omega), ui_o (by omega)]; exact hS1.2.1 i hi
          · show _ = nI ((flipS (S 0) p d).2.2 z)
            unfold flipS
            by_cases hzp : z = p
            · subst hzp; rw [Nat.zero_add, ui_s]; simp only [if_true]
            · rw [ui_o (by omega)]; simp only [hzp, if_false]; exact hS1.2.2 z hz
        exact hfin.fin (rf_step (W := fun k => J1 164 k) h (by omega) hl (fun k hk => by rw [p1 k hk]; simp only [ui_ne (show (165:Nat) ≠ 162 by decide), ui_ne (show (164:Nat) ≠ 162 by decide), q2 165 (by decide)]) (fun k hk => by show J1 164 k = _; rw [q1 k, if_pos ⟨Nat.zero_le _, by omega⟩, Nat.zero_add, Nat.sub_zero]) (hsN) (lok_flip hK (by omega)) p2 p3 (by rw [p4 11 (by decide) (by decide), ui_ne (by decide), q2 157 (by decide), ui_s]) (fun j hj => by rw [p4 j (by omega) (by omega), ui_ne (by decide), q2 157 (by decide)]) (fun x hx => by rw [p5 x (by omega) (by omega), ui_ne (by omega), q2 x (by omega)])) (fun x hx => by rw [p5 x (by omega) (by omega), ui_ne (by omega), q2 x (by omega)]; simp only [ui_ne (show x ≠ 157 by omega)]) (fun _ _ => rfl) rfl rfl
      · rw [bI_inj] at hc39
        refine v_aload_0 dX12_breaking_42 ?_
        refine v_iconst (v := nI 5) dX12_breaking_43 (by decide) ?_
        refine u_callV_1 dX12_breaking_44 ml_X12_423 mv_X12_isNot (by first | assumption | rfl | exact led_1 (by assumption) | exact led_2 (by assumption) | exact bk_m (by assumption) (by first | assumption | omega) | exact bk_p (by assumption) (by first | assumption | omega) | exact bk_o (by assumption) (by first | assumption | omega) | exact bk_s (by assumption) (by first | assumption | omega) | exact bk_1 (by assumption) | exact bk_2 (by assumption) | exact bk_3 (by assumption) | exact bk_4 (by assumption) | exact bk_5 (by assumption) | exact bk_6 (by assumption) | exact bk_7 (by assumption) | exact bk_8 (by assumption) | exact sh_ring _ (by first | assumption | omega) | exact sh_imgs _ (by first | assumption | omega)) (by decide) rfl (by decide) (Nat.le_of_ble_eq_true rfl) (c_X12_isNot (k := 5) ?_)
        refine v_zret dX12_breaking_47 (by first | rfl | exact bI_n _) rfl rfl rfl rfl ?_
        have hk : k_breaking F (S 0) (nI p) (nI d) z = 5 := by simp [k_breaking, hc9, hc23, ep, ed, hc39]
        exact (hQ0 (by rw [hk]; decide)).fin (rf_tr h (by decide)) (fun x hx => by simp only [ui_ne (show x ≠ 157 by omega)]) (fun _ _ => rfl) hk.symm rfl
    · (first | rw [bI_0, Bool.not_eq_false] at hc23 | rw [bI_0] at hc23 | rw [show (0 : Int32) = nI 0 from rfl, nI_eq (by omega) (by omega)] at hc23 | skip)
      refine v_aload_0 dX12_breaking_26 ?_
      refine v_iconst (v := nI 2) dX12_breaking_27 (by decide) ?_
      refine u_callV_1 dX12_breaking_28 ml_X12_423 mv_X12_isNot (by first | assumption | rfl | exact led_1 (by assumption) | exact led_2 (by assumption) | exact bk_m (by assumption) (by first | assumption | omega) | exact bk_p (by assumption) (by first | assumption | omega) | exact bk_o (by assumption) (by first | assumption | omega) | exact bk_s (by assumption) (by first | assumption | omega) | exact bk_1 (by assumption) | exact bk_2 (by assumption) | exact bk_3 (by assumption) | exact bk_4 (by assumption) | exact bk_5 (by assumption) | exact bk_6 (by assumption) | exact bk_7 (by assumption) | exact bk_8 (by assumption) | exact sh_ring _ (by first | assumption | omega) | exact sh_imgs _ (by first | assumption | omega)) (by decide) rfl (by decide) (Nat.le_of_ble_eq_true rfl) (c_X12_isNot (k := 2) ?_)
      refine v_zret dX12_breaking_31 (by first | rfl | exact bI_n _) rfl rfl rfl rfl ?_
      have hk : k_breaking F (S 0) x y z = 2 := by simp [k_breaking, trc, hc9, hc23]
      exact (hQ0 (by rw [hk]; decide)).fin (rf_tr h (by decide)) (fun x hx => by simp only [ui_ne (show x ≠ 157 by omega)]) (fun _ _ => rfl) hk.symm rfl
  · (first | rw [bI_0, Bool.not_eq_false] at hc9 | rw [bI_0] at hc9 | rw [show (0 : Int32) = nI 0 from rfl, nI_eq (by omega) (by omega)] at hc9 | skip)
    refine v_aload_0 dX12_breaking_12 ?_
    refine v_iconst (v := nI 1) dX12_breaking_13 (by decide) ?_
    refine u_callV_1 dX12_breaking_14 ml_X12_423 mv_X12_isNot (by first | assumption | rfl | exact led_1 (by assumption) | exact led_2 (by assumption) | exact bk_m (by assumption) (by first | assumption | omega) | exact bk_p (by assumption) (by first | assumption | omega) | exact bk_o (by assumption) (by first | assumption | omega) | exact bk_s (by assumption) (by first | assumption | omega) | exact bk_1 (by assumption) | exact bk_2 (by assumption) | exact bk_3 (by assumption) | exact bk_4 (by assumption) | exact bk_5 (by assumption) | exact bk_6 (by assumption) | exact bk_7 (by assumption) | exact bk_8 (by assumption) | exact sh_ring _ (by first | assumption | omega) | exact sh_imgs _ (by first | assumption | omega)) (by decide) rfl (by decide) (Nat.le_of_ble_eq_true rfl) (c_X12_isNot (k := 1) ?_)
    refine v_zret dX12_breaking_17 (by first | rfl | exact bI_n _) rfl rfl rfl rfl ?_
    have hk : k_breaking F (S 0) x y z = 1 := by simp [k_breaking, trc, hc9]
    exact (hQ0 (by rw [hk]; decide)).fin (rf_tr h (by decide)) (fun x hx => by simp only [ui_ne (show x ≠ 157 by omega)]) (fun _ _ => rfl) hk.symm rfl
end
