theorem dX12_townLine_0 : decode cX12_townLine 0 = .ok (.aload_n 0, 1) := by decide +kernel
theorem dX12_townLine_1 : decode cX12_townLine 1 = .ok (.getfield 92, 3) := by decide +kernel
theorem dX12_townLine_4 : decode cX12_townLine 4 = .ok (.ifCond .eq 4, 3) := by decide +kernel
theorem dX12_townLine_7 : decode cX12_townLine 7 = .ok (.return_, 1) := by decide +kernel
theorem dX12_townLine_8 : decode cX12_townLine 8 = .ok (.aload_n 0, 1) := by decide +kernel
theorem dX12_townLine_9 : decode cX12_townLine 9 = .ok (.ldc 233, 2) := by decide +kernel
theorem dX12_townLine_11 : decode cX12_townLine 11 = .ok (.iconst 1, 1) := by decide +kernel
theorem dX12_townLine_12 : decode cX12_townLine 12 = .ok (.bipush 20, 2) := by decide +kernel
theorem dX12_townLine_14 : decode cX12_townLine 14 = .ok (.invokevirtual 235, 3) := by decide +kernel
theorem dX12_townLine_17 : decode cX12_townLine 17 = .ok (.istore_n 1, 1) := by decide +kernel
theorem dX12_townLine_18 : decode cX12_townLine 18 = .ok (.aload_n 0, 1) := by decide +kernel
theorem dX12_townLine_19 : decode cX12_townLine 19 = .ok (.getfield 92, 3) := by decide +kernel
theorem dX12_townLine_22 : decode cX12_townLine 22 = .ok (.ifCond .ne 10, 3) := by decide +kernel
theorem dX12_townLine_25 : decode cX12_townLine 25 = .ok (.aload_n 0, 1) := by decide +kernel
theorem dX12_townLine_26 : decode cX12_townLine 26 = .ok (.getfield 23, 3) := by decide +kernel
theorem dX12_townLine_29 : decode cX12_townLine 29 = .ok (.iconst 0, 1) := by decide +kernel
theorem dX12_townLine_30 : decode cX12_townLine 30 = .ok (.iload_n 1, 1) := by decide +kernel
theorem dX12_townLine_31 : decode cX12_townLine 31 = .ok (.iastore, 1) := by decide +kernel
theorem dX12_townLine_32 : decode cX12_townLine 32 = .ok (.return_, 1) := by decide +kernel
theorem dX12_promiseLine_0 : decode cX12_promiseLine 0 = .ok (.aload_n 0, 1) := by decide +kernel
theorem dX12_promiseLine_1 : decode cX12_promiseLine 1 = .ok (.getfield 92, 3) := by decide +kernel
theorem dX12_promiseLine_4 : decode cX12_promiseLine 4 = .ok (.ifCond .eq 4, 3) := by decide +kernel
theorem dX12_promiseLine_7 : decode cX12_promiseLine 7 = .ok (.return_, 1) := by decide +kernel
theorem dX12_promiseLine_8 : decode cX12_promiseLine 8 = .ok (.bipush 56, 2) := by decide +kernel
theorem dX12_promiseLine_10 : decode cX12_promiseLine 10 = .ok (.bipush 6, 2) := by decide +kernel
theorem dX12_promiseLine_12 : decode cX12_promiseLine 12 = .ok (.aload_n 0, 1) := by decide +kernel
theorem dX12_promiseLine_13 : decode cX12_promiseLine 13 = .ok (.getfield 23, 3) := by decide +kernel
theorem dX12_promiseLine_16 : decode cX12_promiseLine 16 = .ok (.iconst 4, 1) := by decide +kernel
theorem dX12_promiseLine_17 : decode cX12_promiseLine 17 = .ok (.iaload, 1) := by decide +kernel
theorem dX12_promiseLine_18 : decode cX12_promiseLine 18 = .ok (.imul, 1) := by decide +kernel
theorem dX12_promiseLine_19 : decode cX12_promiseLine 19 = .ok (.iadd, 1) := by decide +kernel
theorem dX12_promiseLine_20 : decode cX12_promiseLine 20 = .ok (.istore_n 1, 1) := by decide +kernel
theorem dX12_promiseLine_21 : decode cX12_promiseLine 21 = .ok (.aload_n 0, 1) := by decide +kernel
theorem dX12_promiseLine_22 : decode cX12_promiseLine 22 = .ok (.getfield 23, 3) := by decide +kernel
theorem dX12_promiseLine_25 : decode cX12_promiseLine 25 = .ok (.iload_n 1, 1) := by decide +kernel
theorem dX12_promiseLine_26 : decode cX12_promiseLine 26 = .ok (.iconst 0, 1) := by decide +kernel
theorem dX12_promiseLine_27 : decode cX12_promiseLine 27 = .ok (.iadd, 1) := by decide +kernel
theorem dX12_promiseLine_28 : decode cX12_promiseLine 28 = .ok (.aload_n 0, 1) := by decide +kernel
theorem dX12_promiseLine_29 : decode cX12_promiseLine 29 = .ok (.iconst 1, 1) := by decide +kernel
theorem dX12_promiseLine_30 : decode cX12_promiseLine 30 = .ok (.iconst 0, 1) := by decide +kernel
theorem dX12_promiseLine_31 : decode cX12_promiseLine 31 = .ok (.invokevirtual 262, 3) := by decide +kernel
theorem dX12_promiseLine_34 : decode cX12_promiseLine 34 = .ok (.iastore, 1) := by decide +kernel
theorem dX12_promiseLine_35 : decode cX12_promiseLine 35 = .ok (.aload_n 0, 1) := by decide +kernel
theorem dX12_promiseLine_36 : decode cX12_promiseLine 36 = .ok (.getfield 23, 3) := by decide +kernel
theorem dX12_promiseLine_39 : decode cX12_promiseLine 39 = .ok (.iload_n 1, 1) := by decide +kernel
theorem dX12_promiseLine_40 : decode cX12_promiseLine 40 = .ok (.iconst 1, 1) := by decide +kernel
theorem dX12_promiseLine_41 : decode cX12_promiseLine 41 = .ok (.iadd, 1) := by decide +kernel
theorem dX12_promiseLine_42 : decode cX12_promiseLine 42 = .ok (.aload_n 0, 1) := by decide +kernel
theorem dX12_promiseLine_43 : decode cX12_promiseLine 43 = .ok (.iconst 0, 1) := by decide +kernel
theorem dX12_promiseLine_44 : decode cX12_promiseLine 44 = .ok (.iconst 0, 1) := by decide +kernel
theorem dX12_promiseLine_45 : decode cX12_promiseLine 45 = .ok (.invokevirtual 262, 3) := by decide +kernel
theorem dX12_promiseLine_48 : decode cX12_promiseLine 48 = .ok (.iastore, 1) := by decide +kernel
theorem dX12_promiseLine_49 : decode cX12_promiseLine 49 = .ok (.aload_n 0, 1) := by decide +kernel
theorem dX12_promiseLine_50 : decode cX12_promiseLine 50 = .ok (.getfield 23, 3) := by decide +kernel
theorem dX12_promiseLine_53 : decode cX12_promiseLine 53 = .ok (.iload_n 1, 1) := by decide +kernel
theorem dX12_promiseLine_54 : decode cX12_promiseLine 54 = .ok (.iconst 2, 1) := by decide +kernel
theorem dX12_promiseLine_55 : decode cX12_promiseLine 55 = .ok (.iadd, 1) := by decide +kernel
theorem dX12_promiseLine_56 : decode cX12_promiseLine 56 = .ok (.aload_n 0, 1) := by decide +kernel
theorem dX12_promiseLine_57 : decode cX12_promiseLine 57 = .ok (.ldc_w 265, 3) := by decide +kernel
theorem dX12_promiseLine_60 : decode cX12_promiseLine 60 = .ok (.invokevirtual 267, 3) := by decide +kernel
theorem dX12_promiseLine_63 : decode cX12_promiseLine 63 = .ok (.iastore, 1) := by decide +kernel
theorem dX12_promiseLine_64 : decode cX12_promiseLine 64 = .ok (.aload_n 0, 1) := by decide +kernel
theorem dX12_promiseLine_65 : decode cX12_promiseLine 65 = .ok (.getfield 23, 3) := by decide +kernel
theorem dX12_promiseLine_68 : decode cX12_promiseLine 68 = .ok (.iload_n 1, 1) := by decide +kernel
theorem dX12_promiseLine_69 : decode cX12_promiseLine 69 = .ok (.iconst 3, 1) := by decide +kernel
theorem dX12_promiseLine_70 : decode cX12_promiseLine 70 = .ok (.iadd, 1) := by decide +kernel
theorem dX12_promiseLine_71 : decode cX12_promiseLine 71 = .ok (.aload_n 0, 1) := by decide +kernel
theorem dX12_promiseLine_72 : decode cX12_promiseLine 72 = .ok (.ldc_w 271, 3) := by decide +kernel
theorem dX12_promiseLine_75 : decode cX12_promiseLine 75 = .ok (.iconst 0, 1) := by decide +kernel
theorem dX12_promiseLine_76 : decode cX12_promiseLine 76 = .ok (.bipush 99, 2) := by decide +kernel
theorem dX12_promiseLine_78 : decode cX12_promiseLine 78 = .ok (.invokevirtual 235, 3) := by decide +kernel
theorem dX12_promiseLine_81 : decode cX12_promiseLine 81 = .ok (.iastore, 1) := by decide +kernel
theorem dX12_promiseLine_82 : decode cX12_promiseLine 82 = .ok (.aload_n 0, 1) := by decide +kernel
theorem dX12_promiseLine_83 : decode cX12_promiseLine 83 = .ok (.getfield 23, 3) := by decide +kernel
theorem dX12_promiseLine_86 : decode cX12_promiseLine 86 = .ok (.iload_n 1, 1) := by decide +kernel
theorem dX12_promiseLine_87 : decode cX12_promiseLine 87 = .ok (.iconst 4, 1) := by decide +kernel
theorem dX12_promiseLine_88 : decode cX12_promiseLine 88 = .ok (.iadd, 1) := by decide +kernel
theorem dX12_promiseLine_89 : decode cX12_promiseLine 89 = .ok (.aload_n 0, 1) := by decide +kernel
theorem dX12_promiseLine_90 : decode cX12_promiseLine 90 = .ok (.ldc_w 273, 3) := by decide +kernel
theorem dX12_promiseLine_93 : decode cX12_promiseLine 93 = .ok (.iconst 0, 1) := by decide +kernel
theorem dX12_promiseLine_94 : decode cX12_promiseLine 94 = .ok (.bipush 99, 2) := by decide +kernel
theorem dX12_promiseLine_96 : decode cX12_promiseLine 96 = .ok (.invokevirtual 235, 3) := by decide +kernel
theorem dX12_promiseLine_99 : decode cX12_promiseLine 99 = .ok (.iastore, 1) := by decide +kernel
theorem dX12_promiseLine_100 : decode cX12_promiseLine 100 = .ok (.aload_n 0, 1) := by decide +kernel
theorem dX12_promiseLine_101 : decode cX12_promiseLine 101 = .ok (.getfield 23, 3) := by decide +kernel
theorem dX12_promiseLine_104 : decode cX12_promiseLine 104 = .ok (.iload_n 1, 1) := by decide +kernel
theorem dX12_promiseLine_105 : decode cX12_promiseLine 105 = .ok (.iconst 5, 1) := by decide +kernel
theorem dX12_promiseLine_106 : decode cX12_promiseLine 106 = .ok (.iadd, 1) := by decide +kernel
theorem dX12_promiseLine_107 : decode cX12_promiseLine 107 = .ok (.aload_n 0, 1) := by decide +kernel
theorem dX12_promiseLine_108 : decode cX12_promiseLine 108 = .ok (.ldc_w 275, 3) := by decide +kernel
theorem dX12_promiseLine_111 : decode cX12_promiseLine 111 = .ok (.iconst 0, 1) := by decide +kernel
theorem dX12_promiseLine_112 : decode cX12_promiseLine 112 = .ok (.bipush 99, 2) := by decide +kernel
theorem dX12_promiseLine_114 : decode cX12_promiseLine 114 = .ok (.invokevirtual 235, 3) := by decide +kernel
theorem dX12_promiseLine_117 : decode cX12_promiseLine 117 = .ok (.iastore, 1) := by decide +kernel
theorem dX12_promiseLine_118 : decode cX12_promiseLine 118 = .ok (.aload_n 0, 1) := by decide +kernel
theorem dX12_promiseLine_119 : decode cX12_promiseLine 119 = .ok (.getfield 23, 3) := by decide +kernel
theorem dX12_promiseLine_122 : decode cX12_promiseLine 122 = .ok (.iconst 4, 1) := by decide +kernel
theorem dX12_promiseLine_123 : decode cX12_promiseLine 123 = .ok (.dup2, 1) := by decide +kernel
theorem dX12_promiseLine_124 : decode cX12_promiseLine 124 = .ok (.iaload, 1) := by decide +kernel
theorem dX12_promiseLine_125 : decode cX12_promiseLine 125 = .ok (.iconst 1, 1) := by decide +kernel
theorem dX12_promiseLine_126 : decode cX12_promiseLine 126 = .ok (.iadd, 1) := by decide +kernel
theorem dX12_promiseLine_127 : decode cX12_promiseLine 127 = .ok (.iastore, 1) := by decide +kernel
theorem dX12_promiseLine_128 : decode cX12_promiseLine 128 = .ok (.return_, 1) := by decide +kernel
theorem dX12_seenLine_0 : decode cX12_seenLine 0 = .ok (.aload_n 0, 1) := by decide +kernel
theorem dX12_seenLine_1 : decode cX12_seenLine 1 = .ok (.getfield 92, 3) := by decide +kernel
theorem dX12_seenLine_4 : decode cX12_seenLine 4 = .ok (.ifCond .eq 4, 3) := by decide +kernel
theorem dX12_seenLine_7 : decode cX12_seenLine 7 = .ok (.return_, 1) := by decide +kernel
theorem dX12_seenLine_8 : decode cX12_seenLine 8 = .ok (.sipush 128, 3) := by decide +kernel
theorem dX12_seenLine_11 : decode cX12_seenLine 11 = .ok (.iconst 5, 1) := by decide +kernel
theorem dX12_seenLine_12 : decode cX12_seenLine 12 = .ok (.aload_n 0, 1) := by decide +kernel
theorem dX12_seenLine_13 : decode cX12_seenLine 13 = .ok (.getfield 23, 3) := by decide +kernel
theorem dX12_seenLine_16 : decode cX12_seenLine 16 = .ok (.iconst 5, 1) := by decide +kernel
theorem dX12_seenLine_17 : decode cX12_seenLine 17 = .ok (.iaload, 1) := by decide +kernel
theorem dX12_seenLine_18 : decode cX12_seenLine 18 = .ok (.imul, 1) := by decide +kernel
theorem dX12_seenLine_19 : decode cX12_seenLine 19 = .ok (.iadd, 1) := by decide +kernel
theorem dX12_seenLine_20 : decode cX12_seenLine 20 = .ok (.istore_n 1, 1) := by decide +kernel
theorem dX12_seenLine_21 : decode cX12_seenLine 21 = .ok (.aload_n 0, 1) := by decide +kernel
theorem dX12_seenLine_22 : decode cX12_seenLine 22 = .ok (.getfield 23, 3) := by decide +kernel
theorem dX12_seenLine_25 : decode cX12_seenLine 25 = .ok (.iload_n 1, 1) := by decide +kernel
theorem dX12_seenLine_26 : decode cX12_seenLine 26 = .ok (.aload_n 0, 1) := by decide +kernel
theorem dX12_seenLine_27 : decode cX12_seenLine 27 = .ok (.iconst 1, 1) := by decide +kernel
theorem dX12_seenLine_28 : decode cX12_seenLine 28 = .ok (.iconst 0, 1) := by decide +kernel
theorem dX12_seenLine_29 : decode cX12_seenLine 29 = .ok (.invokevirtual 262, 3) := by decide +kernel
theorem dX12_seenLine_32 : decode cX12_seenLine 32 = .ok (.iastore, 1) := by decide +kernel
theorem dX12_seenLine_33 : decode cX12_seenLine 33 = .ok (.aload_n 0, 1) := by decide +kernel
theorem dX12_seenLine_34 : decode cX12_seenLine 34 = .ok (.getfield 23, 3) := by decide +kernel
theorem dX12_seenLine_37 : decode cX12_seenLine 37 = .ok (.iload_n 1, 1) := by decide +kernel
theorem dX12_seenLine_38 : decode cX12_seenLine 38 = .ok (.iconst 1, 1) := by decide +kernel
theorem dX12_seenLine_39 : decode cX12_seenLine 39 = .ok (.iadd, 1) := by decide +kernel
theorem dX12_seenLine_40 : decode cX12_seenLine 40 = .ok (.aload_n 0, 1) := by decide +kernel
theorem dX12_seenLine_41 : decode cX12_seenLine 41 = .ok (.ldc_w 265, 3) := by decide +kernel
theorem dX12_seenLine_44 : decode cX12_seenLine 44 = .ok (.invokevirtual 267, 3) := by decide +kernel
theorem dX12_seenLine_47 : decode cX12_seenLine 47 = .ok (.iastore, 1) := by decide +kernel
theorem dX12_seenLine_48 : decode cX12_seenLine 48 = .ok (.aload_n 0, 1) := by decide +kernel
theorem dX12_seenLine_49 : decode cX12_seenLine 49 = .ok (.getfield 23, 3) := by decide +kernel
theorem dX12_seenLine_52 : decode cX12_seenLine 52 = .ok (.iload_n 1, 1) := by decide +kernel
theorem dX12_seenLine_53 : decode cX12_seenLine 53 = .ok (.iconst 2, 1) := by decide +kernel
theorem dX12_seenLine_54 : decode cX12_seenLine 54 = .ok (.iadd, 1) := by decide +kernel
theorem dX12_seenLine_55 : decode cX12_seenLine 55 = .ok (.aload_n 0, 1) := by decide +kernel
theorem dX12_seenLine_56 : decode cX12_seenLine 56 = .ok (.ldc_w 291, 3) := by decide +kernel
theorem dX12_seenLine_59 : decode cX12_seenLine 59 = .ok (.iconst 0, 1) := by decide +kernel
theorem dX12_seenLine_60 : decode cX12_seenLine 60 = .ok (.bipush 23, 2) := by decide +kernel
theorem dX12_seenLine_62 : decode cX12_seenLine 62 = .ok (.invokevirtual 235, 3) := by decide +kernel
theorem dX12_seenLine_65 : decode cX12_seenLine 65 = .ok (.iastore, 1) := by decide +kernel
theorem dX12_seenLine_66 : decode cX12_seenLine 66 = .ok (.aload_n 0, 1) := by decide +kernel
theorem dX12_seenLine_67 : decode cX12_seenLine 67 = .ok (.getfield 23, 3) := by decide +kernel
theorem dX12_seenLine_70 : decode cX12_seenLine 70 = .ok (.iload_n 1, 1) := by decide +kernel
theorem dX12_seenLine_71 : decode cX12_seenLine 71 = .ok (.iconst 3, 1) := by decide +kernel
theorem dX12_seenLine_72 : decode cX12_seenLine 72 = .ok (.iadd, 1) := by decide +kernel
theorem dX12_seenLine_73 : decode cX12_seenLine 73 = .ok (.aload_n 0, 1) := by decide +kernel
theorem dX12_seenLine_74 : decode cX12_seenLine 74 = .ok (.ldc 147, 2) := by decide +kernel
theorem dX12_seenLine_76 : decode cX12_seenLine 76 = .ok (.iconst 1, 1) := by decide +kernel
theorem dX12_seenLine_77 : decode cX12_seenLine 77 = .ok (.bipush 9, 2) := by decide +kernel
theorem dX12_seenLine_79 : decode cX12_seenLine 79 = .ok (.invokevirtual 235, 3) := by decide +kernel
theorem dX12_seenLine_82 : decode cX12_seenLine 82 = .ok (.iastore, 1) := by decide +kernel
theorem dX12_seenLine_83 : decode cX12_seenLine 83 = .ok (.aload_n 0, 1) := by decide +kernel
theorem dX12_seenLine_84 : decode cX12_seenLine 84 = .ok (.ldc 143, 2) := by decide +kernel
theorem dX12_seenLine_86 : decode cX12_seenLine 86 = .ok (.invokevirtual 116, 3) := by decide +kernel
theorem dX12_seenLine_89 : decode cX12_seenLine 89 = .ok (.ifCond .eq 17, 3) := by decide +kernel
theorem dX12_seenLine_92 : decode cX12_seenLine 92 = .ok (.aload_n 0, 1) := by decide +kernel
theorem dX12_seenLine_93 : decode cX12_seenLine 93 = .ok (.getfield 23, 3) := by decide +kernel
theorem dX12_seenLine_96 : decode cX12_seenLine 96 = .ok (.iload_n 1, 1) := by decide +kernel
theorem dX12_seenLine_97 : decode cX12_seenLine 97 = .ok (.iconst 4, 1) := by decide +kernel
theorem dX12_seenLine_98 : decode cX12_seenLine 98 = .ok (.iadd, 1) := by decide +kernel
theorem dX12_seenLine_99 : decode cX12_seenLine 99 = .ok (.aload_n 0, 1) := by decide +kernel
theorem dX12_seenLine_100 : decode cX12_seenLine 100 = .ok (.iconst 1, 1) := by decide +kernel
theorem dX12_seenLine_101 : decode cX12_seenLine 101 = .ok (.iconst 4, 1) := by decide +kernel
theorem dX12_seenLine_102 : decode cX12_seenLine 102 = .ok (.invokevirtual 170, 3) := by decide +kernel
theorem dX12_seenLine_105 : decode cX12_seenLine 105 = .ok (.iastore, 1) := by decide +kernel
theorem dX12_seenLine_106 : decode cX12_seenLine 106 = .ok (.aload_n 0, 1) := by decide +kernel
theorem dX12_seenLine_107 : decode cX12_seenLine 107 = .ok (.getfield 23, 3) := by decide +kernel
theorem dX12_seenLine_110 : decode cX12_seenLine 110 = .ok (.iconst 5, 1) := by decide +kernel
theorem dX12_seenLine_111 : decode cX12_seenLine 111 = .ok (.dup2, 1) := by decide +kernel
theorem dX12_seenLine_112 : decode cX12_seenLine 112 = .ok (.iaload, 1) := by decide +kernel
theorem dX12_seenLine_113 : decode cX12_seenLine 113 = .ok (.iconst 1, 1) := by decide +kernel
theorem dX12_seenLine_114 : decode cX12_seenLine 114 = .ok (.iadd, 1) := by decide +kernel
theorem dX12_seenLine_115 : decode cX12_seenLine 115 = .ok (.iastore, 1) := by decide +kernel
theorem dX12_seenLine_116 : decode cX12_seenLine 116 = .ok (.return_, 1) := by decide +kernel
theorem dX12_letterLine_0 : decode cX12_letterLine 0 = .ok (.aload_n 0, 1) := by decide +kernel
theorem dX12_letterLine_1 : decode cX12_letterLine 1 = .ok (.getfield 92, 3) := by decide +kernel
theorem dX12_letterLine_4 : decode cX12_letterLine 4 = .ok (.ifCond .eq 4, 3) := by decide +kernel
theorem dX12_letterLine_7 : decode cX12_letterLine 7 = .ok (.return_, 1) := by decide +kernel
theorem dX12_letterLine_8 : decode cX12_letterLine 8 = .ok (.sipush 168, 3) := by decide +kernel
theorem dX12_letterLine_11 : decode cX12_letterLine 11 = .ok (.iconst 3, 1) := by decide +kernel
theorem dX12_letterLine_12 : decode cX12_letterLine 12 = .ok (.aload_n 0, 1) := by decide +kernel
theorem dX12_letterLine_13 : decode cX12_letterLine 13 = .ok (.getfield 23, 3) := by decide +kernel
theorem dX12_letterLine_16 : decode cX12_letterLine 16 = .ok (.bipush 6, 2) := by decide +kernel
theorem dX12_letterLine_18 : decode cX12_letterLine 18 = .ok (.iaload, 1) := by decide +kernel
theorem dX12_letterLine_19 : decode cX12_letterLine 19 = .ok (.imul, 1) := by decide +kernel
theorem dX12_letterLine_20 : decode cX12_letterLine 20 = .ok (.iadd, 1) := by decide +kernel
theorem dX12_letterLine_21 : decode cX12_letterLine 21 = .ok (.istore_n 1, 1) := by decide +kernel
theorem dX12_letterLine_22 : decode cX12_letterLine 22 = .ok (.aload_n 0, 1) := by decide +kernel
theorem dX12_letterLine_23 : decode cX12_letterLine 23 = .ok (.iconst 1, 1) := by decide +kernel
theorem dX12_letterLine_24 : decode cX12_letterLine 24 = .ok (.iconst 0, 1) := by decide +kernel
theorem dX12_letterLine_25 : decode cX12_letterLine 25 = .ok (.invokevirtual 262, 3) := by decide +kernel
theorem dX12_letterLine_28 : decode cX12_letterLine 28 = .ok (.istore_n 2, 1) := by decide +kernel
theorem dX12_letterLine_29 : decode cX12_letterLine 29 = .ok (.aload_n 0, 1) := by decide +kernel
theorem dX12_letterLine_30 : decode cX12_letterLine 30 = .ok (.ldc_w 277, 3) := by decide +kernel
theorem dX12_letterLine_33 : decode cX12_letterLine 33 = .ok (.invokevirtual 166, 3) := by decide +kernel
theorem dX12_letterLine_36 : decode cX12_letterLine 36 = .ok (.aload_n 0, 1) := by decide +kernel
theorem dX12_letterLine_37 : decode cX12_letterLine 37 = .ok (.getfield 23, 3) := by decide +kernel
theorem dX12_letterLine_40 : decode cX12_letterLine 40 = .ok (.iload_n 1, 1) := by decide +kernel
theorem dX12_letterLine_41 : decode cX12_letterLine 41 = .ok (.iload_n 2, 1) := by decide +kernel
theorem dX12_letterLine_42 : decode cX12_letterLine 42 = .ok (.iastore, 1) := by decide +kernel
theorem dX12_letterLine_43 : decode cX12_letterLine 43 = .ok (.aload_n 0, 1) := by decide +kernel
theorem dX12_letterLine_44 : decode cX12_letterLine 44 = .ok (.getfield 23, 3) := by decide +kernel
theorem dX12_letterLine_47 : decode cX12_letterLine 47 = .ok (.iload_n 1, 1) := by decide +kernel
theorem dX12_letterLine_48 : decode cX12_letterLine 48 = .ok (.iconst 1, 1) := by decide +kernel
theorem dX12_letterLine_49 : decode cX12_letterLine 49 = .ok (.iadd, 1) := by decide +kernel
theorem dX12_letterLine_50 : decode cX12_letterLine 50 = .ok (.aload_n 0, 1) := by decide +kernel
theorem dX12_letterLine_51 : decode cX12_letterLine 51 = .ok (.iconst 1, 1) := by decide +kernel
theorem dX12_letterLine_52 : decode cX12_letterLine 52 = .ok (.iconst 1, 1) := by decide +kernel
theorem dX12_letterLine_53 : decode cX12_letterLine 53 = .ok (.iload_n 2, 1) := by decide +kernel
theorem dX12_letterLine_54 : decode cX12_letterLine 54 = .ok (.ishl, 1) := by decide +kernel
theorem dX12_letterLine_55 : decode cX12_letterLine 55 = .ok (.invokevirtual 262, 3) := by decide +kernel
theorem dX12_letterLine_58 : decode cX12_letterLine 58 = .ok (.iastore, 1) := by decide +kernel
theorem dX12_letterLine_59 : decode cX12_letterLine 59 = .ok (.aload_n 0, 1) := by decide +kernel
theorem dX12_letterLine_60 : decode cX12_letterLine 60 = .ok (.getfield 23, 3) := by decide +kernel
theorem dX12_letterLine_63 : decode cX12_letterLine 63 = .ok (.iload_n 1, 1) := by decide +kernel
theorem dX12_letterLine_64 : decode cX12_letterLine 64 = .ok (.iconst 2, 1) := by decide +kernel
theorem dX12_letterLine_65 : decode cX12_letterLine 65 = .ok (.iadd, 1) := by decide +kernel
theorem dX12_letterLine_66 : decode cX12_letterLine 66 = .ok (.aload_n 0, 1) := by decide +kernel
theorem dX12_letterLine_67 : decode cX12_letterLine 67 = .ok (.ldc_w 265, 3) := by decide +kernel
theorem dX12_letterLine_70 : decode cX12_letterLine 70 = .ok (.invokevirtual 267, 3) := by decide +kernel
theorem dX12_letterLine_73 : decode cX12_letterLine 73 = .ok (.iastore, 1) := by decide +kernel
theorem dX12_letterLine_74 : decode cX12_letterLine 74 = .ok (.aload_n 0, 1) := by decide +kernel
theorem dX12_letterLine_75 : decode cX12_letterLine 75 = .ok (.getfield 23, 3) := by decide +kernel
theorem dX12_letterLine_78 : decode cX12_letterLine 78 = .ok (.bipush 6, 2) := by decide +kernel
theorem dX12_letterLine_80 : decode cX12_letterLine 80 = .ok (.dup2, 1) := by decide +kernel
theorem dX12_letterLine_81 : decode cX12_letterLine 81 = .ok (.iaload, 1) := by decide +kernel
theorem dX12_letterLine_82 : decode cX12_letterLine 82 = .ok (.iconst 1, 1) := by decide +kernel
theorem dX12_letterLine_83 : decode cX12_letterLine 83 = .ok (.iadd, 1) := by decide +kernel
theorem dX12_letterLine_84 : decode cX12_letterLine 84 = .ok (.iastore, 1) := by decide +kernel
theorem dX12_letterLine_85 : decode cX12_letterLine 85 = .ok (.return_, 1) := by decide +kernel
section
variable {b : Nat} {ad : Nat → Nat} {I J : HI} {L M : HL} {R : HR} {Q : QT} {tp : Nat → Nat} {sz k e : Nat} {G F : bkF} {l : LSt} {s : PS}
theorem z_X12_townLine (h : I 157 13 = nI 1) (hQ : Q none SH I L R) : KK 9 mX12_townLine b ad [.ref (b + 157)] I L R Q := by
  refine K.of (M := mX12_townLine) (lv := [some (.ref (b + 157)), none]) (by decide) (Nat.le_of_ble_eq_true rfl) rfl ?_
  refine v_aload_0 dX12_townLine_0 ?_
  refine u_getI dX12_townLine_1 gf_X12_92 (by first | assumption | rfl | exact led_1 (by assumption) | exact led_2 (by assumption) | exact bk_m (by assumption) (by first | assumption | omega) | exact bk_p (by assumption) (by first | assumption | omega) | exact bk_o (by assumption) (by first | assumption | omega) | exact bk_s (by assumption) (by first | assumption | omega) | exact bk_1 (by assumption) | exact bk_2 (by assumption) | exact bk_3 (by assumption) | exact bk_4 (by assumption) | exact bk_5 (by assumption) | exact bk_6 (by assumption) | exact bk_7 (by assumption) | exact bk_8 (by assumption) | exact sh_ring _ (by first | assumption | omega) | exact sh_imgs _ (by first | assumption | omega)) ?_
  rw [h]
  refine v_if_eq (tgt := 8) dX12_townLine_4 (by decide) (fun hc4 => ?_) (fun hc4 => ?_)
  · exact absurd hc4 (by decide)
  · (first | rw [bI_0, Bool.not_eq_false] at hc4 | rw [bI_0] at hc4 | rw [show (0 : Int32) = nI 0 from rfl, nI_eq (by omega) (by omega)] at hc4 | skip)
    refine v_vret dX12_townLine_7 rfl rfl rfl rfl ?_
    exact hQ
theorem z_X12_promiseLine (h : I 157 13 = nI 1) (hQ : Q none SH I L R) : KK 9 mX12_promiseLine b ad [.ref (b + 157)] I L R Q := by
  refine K.of (M := mX12_promiseLine) (lv := [some (.ref (b + 157)), none]) (by decide) (Nat.le_of_ble_eq_true rfl) rfl ?_
  refine v_aload_0 dX12_promiseLine_0 ?_
  refine u_getI dX12_promiseLine_1 gf_X12_92 (by first | assumption | rfl | exact led_1 (by assumption) | exact led_2 (by assumption) | exact bk_m (by assumption) (by first | assumption | omega) | exact bk_p (by assumption) (by first | assumption | omega) | exact bk_o (by assumption) (by first | assumption | omega) | exact bk_s (by assumption) (by first | assumption | omega) | exact bk_1 (by assumption) | exact bk_2 (by assumption) | exact bk_3 (by assumption) | exact bk_4 (by assumption) | exact bk_5 (by assumption) | exact bk_6 (by assumption) | exact bk_7 (by assumption) | exact bk_8 (by assumption) | exact sh_ring _ (by first | assumption | omega) | exact sh_imgs _ (by first | assumption | omega)) ?_
  rw [h]
  refine v_if_eq (tgt := 8) dX12_promiseLine_4 (by decide) (fun hc4 => ?_) (fun hc4 => ?_)
  · exact absurd hc4 (by decide)
  · (first | rw [bI_0, Bool.not_eq_false] at hc4 | rw [bI_0] at hc4 | rw [show (0 : Int32) = nI 0 from rfl, nI_eq (by omega) (by omega)] at hc4 | skip)
    refine v_vret dX12_promiseLine_7 rfl rfl rfl rfl ?_
    exact hQ
theorem z_X12_letterLine (h : I 157 13 = nI 1) (hQ : Q none SH I L R) : KK 9 mX12_letterLine b ad [.ref (b + 157)] I L R Q := by
  refine K.of (M := mX12_letterLine) (lv := [some (.ref (b + 157)), none, none]) (by decide) (Nat.le_of_ble_eq_true rfl) rfl ?_
  refine v_aload_0 dX12_letterLine_0 ?_
  refine u_getI dX12_letterLine_1 gf_X12_92 (by first | assumption | rfl | exact led_1 (by assumption) | exact led_2 (by assumption) | exact bk_m (by assumption) (by first | assumption | omega) | exact bk_p (by assumption) (by first | assumption | omega) | exact bk_o (by assumption) (by first | assumption | omega) | exact bk_s (by assumption) (by first | assumption | omega) | exact bk_1 (by assumption) | exact bk_2 (by assumption) | exact bk_3 (by assumption) | exact bk_4 (by assumption) | exact bk_5 (by assumption) | exact bk_6 (by assumption) | exact bk_7 (by assumption) | exact bk_8 (by assumption) | exact sh_ring _ (by first | assumption | omega) | exact sh_imgs _ (by first | assumption | omega)) ?_
  rw [h]
  refine v_if_eq (tgt := 8) dX12_letterLine_4 (by decide) (fun hc4 => ?_) (fun hc4 => ?_)
  · exact absurd hc4 (by decide)
  · (first | rw [bI_0, Bool.not_eq_false] at hc4 | rw [bI_0] at hc4 | rw [show (0 : Int32) = nI 0 from rfl, nI_eq (by omega) (by omega)] at hc4 | skip)
    refine v_vret dX12_letterLine_7 rfl rfl rfl rfl ?_
    exact hQ
theorem z_X12_seenLine (h : I 157 13 = nI 1) (hQ : Q none SH I L R) : KK 9 mX12_seenLine b ad [.ref (b + 157)] I L R Q := by
  refine K.of (M := mX12_seenLine) (lv := [some (.ref (b + 157)), none]) (by decide) (Nat.le_of_ble_eq_true rfl) rfl ?_
  refine v_aload_0 dX12_seenLine_0 ?_
  refine u_getI dX12_seenLine_1 gf_X12_92 (by first | assumption | rfl | exact led_1 (by assumption) | exact led_2 (by assumption) | exact bk_m (by assumption) (by first | assumption | omega) | exact bk_p (by assumption) (by first | assumption | omega) | exact bk_o (by assumption) (by first | assumption | omega) | exact bk_s (by assumption) (by first | assumption | omega) | exact bk_1 (by assumption) | exact bk_2 (by assumption) | exact bk_3 (by assumption) | exact bk_4 (by assumption) | exact bk_5 (by assumption) | exact bk_6 (by assumption) | exact bk_7 (by assumption) | exact bk_8 (by assumption) | exact sh_ring _ (by first | assumption | omega) | exact sh_imgs _ (by first | assumption | omega)) ?_
  rw [h]
  refine v_if_eq (tgt := 8) dX12_seenLine_4 (by decide) (fun hc4 => ?_) (fun hc4 => ?_)
  · exact absurd hc4 (by decide)
  · (first | rw [bI_0, Bool.not_eq_false] at hc4 | rw [bI_0] at hc4 | rw [show (0 : Int32) = nI 0 from rfl, nI_eq (by omega) (by omega)] at hc4 | skip)
    refine v_vret dX12_seenLine_7 rfl rfl rfl rfl ?_
    exact hQ
theorem c_X12_townLine (hR : RO R) (h : LvM I tp sz s.1 s.2.1 s.2.2) (hI : PInv sz s)  (hF : ∀ f p, lTown tp sz s = .inl (f, p) → ∀ J : HI, FlM J f p → FrK I J → Q none SH J L R) (hY : ∀ u, lTown tp sz s = .inr u → ∀ J : HI, LvM J tp sz u.1 u.2.1 u.2.2 → FrK I J → Q none SH J L R) : KK 9 mX12_townLine b ad [.ref (b + 157)] I L R Q := by
  have hL := h
  have hG : NmE s.2.1 s.2.1 := NmE.refl
  have jk : FrK I I := FrK.refl
  have hO := hI.2.1
  have o0 := hO.1
  have o1 := hO.2.1
  have o2 := hO.2.2.1
  have o3 := hO.2.2.2.1
  have o4 := hO.2.2.2.2.1
  have o5 := hO.2.2.2.2.2.1
  have o6 := hO.2.2.2.2.2.2.1
  have es0 : s.2 = s.2 := rfl
  refine K.of (M := mX12_townLine) (lv := [some (.ref (b + 157)), none]) (by decide) (Nat.le_of_ble_eq_true rfl) rfl ?_
  refine v_aload_0 dX12_townLine_0 ?_
  refine u_getI dX12_townLine_1 gf_X12_92 (by first | assumption | rfl | exact led_1 (by assumption) | exact led_2 (by assumption) | exact bk_m (by assumption) (by first | assumption | omega) | exact bk_p (by assumption) (by first | assumption | omega) | exact bk_o (by assumption) (by first | assumption | omega) | exact bk_s (by assumption) (by first | assumption | omega) | exact bk_1 (by assumption) | exact bk_2 (by assumption) | exact bk_3 (by assumption) | exact bk_4 (by assumption) | exact bk_5 (by assumption) | exact bk_6 (by assumption) | exact bk_7 (by assumption) | exact bk_8 (by assumption) | exact sh_ring _ (by first | assumption | omega) | exact sh_imgs _ (by first | assumption | omega)) ?_
  rw [hL.2.2.1]
  refine v_if_eq (tgt := 8) dX12_townLine_4 (by decide) (fun hc4 => ?_) (fun hc4 => ?_)
  · (first | rw [bI_0, Bool.not_eq_false] at hc4 | rw [bI_0] at hc4 | rw [show (0 : Int32) = nI 0 from rfl, nI_eq (by omega) (by omega)] at hc4 | skip)
    refine v_aload_0 dX12_townLine_8 ?_
    refine v_ldcS (i := 29) dX12_townLine_9 (by decide) rfl rfl ?_
    refine v_iconst (v := nI 1) dX12_townLine_11 (by decide) ?_
    refine v_bipush (v := nI 20) dX12_townLine_12 (by decide) ?_
    refine u_callV_3 dX12_townLine_14 ml_X12_235 mv_X12_told (by first | assumption | rfl | exact led_1 (by assumption) | exact led_2 (by assumption) | exact bk_m (by assumption) (by first | assumption | omega) | exact bk_p (by assumption) (by first | assumption | omega) | exact bk_o (by assumption) (by first | assumption | omega) | exact bk_s (by assumption) (by first | assumption | omega) | exact bk_1 (by assumption) | exact bk_2 (by assumption) | exact bk_3 (by assumption) | exact bk_4 (by assumption) | exact bk_5 (by assumption) | exact bk_6 (by assumption) | exact bk_7 (by assumption) | exact bk_8 (by assumption) | exact sh_ring _ (by first | assumption | omega) | exact sh_imgs _ (by first | assumption | omega)) (by decide) rfl (by decide) (Nat.le_of_ble_eq_true rfl) (c_X12_told (i := 29) (lo := 1) (hi := 20) (s := s) (by decide) (by omega) (by omega) hR hL (fun f p q J j1 j2 => ?_) (fun v1 u1 q1 e1 g1 h1 w1 J1 j11 j12 => ?_))
    · have q : qWhole tp sz (wd 13) 1 20 s = .inl (f, p) := q
      have jf := jk.trans j2.k
      refine v_istore_1 rfl dX12_townLine_17 ?_
      refine v_aload_0 dX12_townLine_18 ?_
      refine u_getI dX12_townLine_19 gf_X12_92 (by first | assumption | rfl | exact led_1 (by assumption) | exact led_2 (by assumption) | exact bk_m (by assumption) (by first | assumption | omega) | exact bk_p (by assumption) (by first | assumption | omega) | exact bk_o (by assumption) (by first | assumption | omega) | exact bk_s (by assumption) (by first | assumption | omega) | exact bk_1 (by assumption) | exact bk_2 (by assumption) | exact bk_3 (by assumption) | exact bk_4 (by assumption) | exact bk_5 (by assumption) | exact bk_6 (by assumption) | exact bk_7 (by assumption) | exact bk_8 (by assumption) | exact sh_ring _ (by first | assumption | omega) | exact sh_imgs _ (by first | assumption | omega)) ?_
      (try simp only [ui_ne (show (157 : Nat) ≠ 161 by decide)])
      rw [j1.1]
      refine v_if_ne (tgt := 32) dX12_townLine_22 (by decide) (fun hc22 => ?_) (fun hc22 => ?_)
      · (first | rw [bI_0, Bool.not_eq_false] at hc22 | rw [bI_0] at hc22 | rw [show (0 : Int32) = nI 0 from rfl, nI_eq (by omega) (by omega)] at hc22 | skip)
        refine v_vret dX12_townLine_32 rfl rfl rfl rfl ?_
        refine hF f p (by rw [lTown, bnd_l q]) _ ?_ ?_
        · (repeat (first | exact j1 | apply FlM.put))
        · (repeat (first | exact jf | apply FrK.up))
      · exact absurd hc22 (by decide)
    · have q1 : qWhole tp sz (wd 13) 1 20 s = .inr (v1, u1) := q1
      have es1 : u1.2 = s.2 := e1.trans es0
      have hL := j11
      have jk := jk.trans j12.k
      refine v_istore_1 rfl dX12_townLine_17 ?_
      refine v_aload_0 dX12_townLine_18 ?_
      refine u_getI dX12_townLine_19 gf_X12_92 (by first | assumption | rfl | exact led_1 (by assumption) | exact led_2 (by assumption) | exact bk_m (by assumption) (by first | assumption | omega) | exact bk_p (by assumption) (by first | assumption | omega) | exact bk_o (by assumption) (by first | assumption | omega) | exact bk_s (by assumption) (by first | assumption | omega) | exact bk_1 (by assumption) | exact bk_2 (by assumption) | exact bk_3 (by assumption) | exact bk_4 (by assumption) | exact bk_5 (by assumption) | exact bk_6 (by assumption) | exact bk_7 (by assumption) | exact bk_8 (by assumption) | exact sh_ring _ (by first | assumption | omega) | exact sh_imgs _ (by first | assumption | omega)) ?_
      rw [hL.2.2.1]
      refine v_if_ne (tgt := 32) dX12_townLine_22 (by decide) (fun hc22 => ?_) (fun hc22 => ?_)
      · exact absurd rfl hc22
      · (first | rw [bI_0, Bool.not_eq_false] at hc22 | rw [bI_0] at hc22 | rw [show (0 : Int32) = nI 0 from rfl, nI_eq (by omega) (by omega)] at hc22 | skip)
        refine v_aload_0 dX12_townLine_25 ?_
        refine u_getR dX12_townLine_26 gf_X12_23 (by first | assumption | rfl | exact led_1 (by assumption) | exact led_2 (by assumption) | exact bk_m (by assumption) (by first | assumption | omega) | exact bk_p (by assumption) (by first | assumption | omega) | exact bk_o (by assumption) (by first | assumption | omega) | exact bk_s (by assumption) (by first | assumption | omega) | exact bk_1 (by assumption) | exact bk_2 (by assumption) | exact bk_3 (by assumption) | exact bk_4 (by assumption) | exact bk_5 (by assumption) | exact bk_6 (by assumption) | exact bk_7 (by assumption) | exact bk_8 (by assumption) | exact sh_ring _ (by first | assumption | omega) | exact sh_imgs _ (by first | assumption | omega)) (ro_X12_16 (by assumption)) ?_
        refine v_iconst (v := nI 0) dX12_townLine_29 (by decide) ?_
        refine v_iload_1 dX12_townLine_30 ?_
        refine u_iast dX12_townLine_31 (by first | assumption | rfl | exact led_1 (by assumption) | exact led_2 (by assumption) | exact bk_m (by assumption) (by first | assumption | omega) | exact bk_p (by assumption) (by first | assumption | omega) | exact bk_o (by assumption) (by first | assumption | omega) | exact bk_s (by assumption) (by first | assumption | omega) | exact bk_1 (by assumption) | exact bk_2 (by assumption) | exact bk_3 (by assumption) | exact bk_4 (by assumption) | exact bk_5 (by assumption) | exact bk_6 (by assumption) | exact bk_7 (by assumption) | exact bk_8 (by assumption) | exact sh_ring _ (by first | assumption | omega) | exact sh_imgs _ (by first | assumption | omega)) (by first | with_reducible rfl | (simp only [nlit, nI_add, pk_mul]; with_reducible rfl) | rfl) (by first | assumption | omega) (by first | assumption | decide) ?_
        have hL := hL.put (j := 0) (v := v1) (by omega)
        have hG := hG.put (j := 0) (v := v1) (by omega)
        have jk := jk.up (j := 0) (v := nI (v1))
        refine v_vret dX12_townLine_32 rfl rfl rfl rfl ?_
        refine hY _ (by rw [lTown, bnd_r q1]) _ ?_ jk
        show LvM _ _ _ _ (setF u1.2.1 0 v1) u1.2.2
        rw [es1]
        exact hL
  · exact absurd rfl hc4
theorem c_X12_promiseLine (hR : RO R) (h : LvM I tp sz s.1 s.2.1 s.2.2) (hI : PInv sz s) (h4 : s.2.1 4 < 12) (hF : ∀ f p, lPromise tp sz s = .inl (f, p) → ∀ J : HI, FlM J f p → FrK I J → Q none SH J L R) (hY : ∀ u, lPromise tp sz s = .inr u → ∀ J : HI, LvM J tp sz u.1 u.2.1 u.2.2 → FrK I J → Q none SH J L R) : KK 9 mX12_promiseLine b ad [.ref (b + 157)] I L R Q := by
  have hL := h
  have hG : NmE s.2.1 s.2.1 := NmE.refl
  have jk : FrK I I := FrK.refl
  have hO := hI.2.1
  have o0 := hO.1
  have o1 := hO.2.1
  have o2 := hO.2.2.1
  have o3 := hO.2.2.2.1
  have o4 := hO.2.2.2.2.1
  have o5 := hO.2.2.2.2.2.1
  have o6 := hO.2.2.2.2.2.2.1
  have es0 : s.2 = s.2 := rfl
  have hc_0 : s.2.1 0 = s.2.1 0 := rfl
  have hc_4 : s.2.1 4 = s.2.1 4 := rfl
  refine K.of (M := mX12_promiseLine) (lv := [some (.ref (b + 157)), none]) (by decide) (Nat.le_of_ble_eq_true rfl) rfl ?_
  refine v_aload_0 dX12_promiseLine_0 ?_
  refine u_getI dX12_promiseLine_1 gf_X12_92 (by first | assumption | rfl | exact led_1 (by assumption) | exact led_2 (by assumption) | exact bk_m (by assumption) (by first | assumption | omega) | exact bk_p (by assumption) (by first | assumption | omega) | exact bk_o (by assumption) (by first | assumption | omega) | exact bk_s (by assumption) (by first | assumption | omega) | exact bk_1 (by assumption) | exact bk_2 (by assumption) | exact bk_3 (by assumption) | exact bk_4 (by assumption) | exact bk_5 (by assumption) | exact bk_6 (by assumption) | exact bk_7 (by assumption) | exact bk_8 (by assumption) | exact sh_ring _ (by first | assumption | omega) | exact sh_imgs _ (by first | assumption | omega)) ?_
  rw [hL.2.2.1]
  refine v_if_eq (tgt := 8) dX12_promiseLine_4 (by decide) (fun hc4 => ?_) (fun hc4 => ?_)
  · (first | rw [bI_0, Bool.not_eq_false] at hc4 | rw [bI_0] at hc4 | rw [show (0 : Int32) = nI 0 from rfl, nI_eq (by omega) (by omega)] at hc4 | skip)
    refine v_bipush (v := nI 56) dX12_promiseLine_8 (by decide) ?_
    refine v_bipush (v := nI 6) dX12_promiseLine_10 (by decide) ?_
    refine v_aload_0 dX12_promiseLine_12 ?_
    refine u_getR dX12_promiseLine_13 gf_X12_23 (by first | assumption | rfl | exact led_1 (by assumption) | exact led_2 (by assumption) | exact bk_m (by assumption) (by first | assumption | omega) | exact bk_p (by assumption) (by first | assumption | omega) | exact bk_o (by assumption) (by first | assumption | omega) | exact bk_s (by assumption) (by first | assumption | omega) | exact bk_1 (by assumption) | exact bk_2 (by assumption) | exact bk_3 (by assumption) | exact bk_4 (by assumption) | exact bk_5 (by assumption) | exact bk_6 (by assumption) | exact bk_7 (by assumption) | exact bk_8 (by assumption) | exact sh_ring _ (by first | assumption | omega) | exact sh_imgs _ (by first | assumption | omega)) (ro_X12_16 (by assumption)) ?_
    refine v_iconst (v := nI 4) dX12_promiseLine_16 (by decide) ?_
    refine u_iald dX12_promiseLine_17 (by first | assumption | rfl | exact led_1 (by assumption) | exact led_2 (by assumption) | exact bk_m (by assumption) (by first | assumption | omega) | exact bk_p (by assumption) (by first | assumption | omega) | exact bk_o (by assumption) (by first | assumption | omega) | exact bk_s (by assumption) (by first | assumption | omega) | exact bk_1 (by assumption) | exact bk_2 (by assumption) | exact bk_3 (by assumption) | exact bk_4 (by assumption) | exact bk_5 (by assumption) | exact bk_6 (by assumption) | exact bk_7 (by assumption) | exact bk_8 (by assumption) | exact sh_ring _ (by first | assumption | omega) | exact sh_imgs _ (by first | assumption | omega)) (by first | with_reducible rfl | (simp only [nlit, nI_add, pk_mul]; with_reducible rfl) | rfl) (by first | assumption | omega) (by first | assumption | decide) ?_
    rw [(hL.2.2.2.2.1 4 (by decide)).1]
    refine v_imul dX12_promiseLine_18 ?_
    refine v_iadd dX12_promiseLine_19 ?_
    rw [pk_mul, nI_add]
    refine v_istore_1 rfl dX12_promiseLine_20 ?_
    refine v_aload_0 dX12_promiseLine_21 ?_
    refine u_getR dX12_promiseLine_22 gf_X12_23 (by first | assumption | rfl | exact led_1 (by assumption) | exact led_2 (by assumption) | exact bk_m (by assumption) (by first | assumption | omega) | exact bk_p (by assumption) (by first | assumption | omega) | exact bk_o (by assumption) (by first | assumption | omega) | exact bk_s (by assumption) (by first | assumption | omega) | exact bk_1 (by assumption) | exact bk_2 (by assumption) | exact bk_3 (by assumption) | exact bk_4 (by assumption) | exact bk_5 (by assumption) | exact bk_6 (by assumption) | exact bk_7 (by assumption) | exact bk_8 (by assumption) | exact sh_ring _ (by first | assumption | omega) | exact sh_imgs _ (by first | assumption | omega)) (ro_X12_16 (by assumption)) ?_
    refine v_iload_1 dX12_promiseLine_25 ?_
    refine v_iconst (v := nI 0) dX12_promiseLine_26 (by decide) ?_
    refine v_iadd dX12_promiseLine_27 ?_
    rw [show nI (56 + 6 * s.2.1 4) + nI 0 = nI (56 + 6 * s.2.1 4) by rw [nI_add]; rfl]
    refine v_aload_0 dX12_promiseLine_28 ?_
    refine v_iconst (v := nI 1) dX12_promiseLine_29 (by decide) ?_
    refine v_iconst (v := nI 0) dX12_promiseLine_30 (by decide) ?_
    refine u_callV_2 dX12_promiseLine_31 ml_X12_262 mv_X12_passed (by first | assumption | rfl | exact led_1 (by assumption) | exact led_2 (by assumption) | exact bk_m (by assumption) (by first | assumption | omega) | exact bk_p (by assumption) (by first | assumption | omega) | exact bk_o (by assumption) (by first | assumption | omega) | exact bk_s (by assumption) (by first | assumption | omega) | exact bk_1 (by assumption) | exact bk_2 (by assumption) | exact bk_3 (by assumption) | exact bk_4 (by assumption) | exact bk_5 (by assumption) | exact bk_6 (by assumption) | exact bk_7 (by assumption) | exact bk_8 (by assumption) | exact sh_ring _ (by first | assumption | omega) | exact sh_imgs _ (by first | assumption | omega)) (by decide) rfl (by decide) (Nat.le_of_ble_eq_true rfl) (c_X12_passed_1 (but := 0) (s := s) (by omega) hR hL (by rw [es0]; exact hG) (fun f p q J j1 j2 => ?_) (fun v1 u1 q1 e1 g1 J1 j11 j12 => ?_))
    · have jf := jk.trans j2.k
      refine u_iast dX12_promiseLine_34 (by first | assumption | rfl | exact led_1 (by assumption) | exact led_2 (by assumption) | exact bk_m (by assumption) (by first | assumption | omega) | exact bk_p (by assumption) (by first | assumption | omega) | exact bk_o (by assumption) (by first | assumption | omega) | exact bk_s (by assumption) (by first | assumption | omega) | exact bk_1 (by assumption) | exact bk_2 (by assumption) | exact bk_3 (by assumption) | exact bk_4 (by assumption) | exact bk_5 (by assumption) | exact bk_6 (by assumption) | exact bk_7 (by assumption) | exact bk_8 (by assumption) | exact sh_ring _ (by first | assumption | omega) | exact sh_imgs _ (by first | assumption | omega)) (by first | with_reducible rfl | (simp only [nlit, nI_add, pk_mul]; with_reducible rfl) | rfl) (by first | assumption | omega) (by first | assumption | decide) ?_
      refine v_aload_0 dX12_promiseLine_35 ?_
      refine u_getR dX12_promiseLine_36 gf_X12_23 (by first | assumption | rfl | exact led_1 (by assumption) | exact led_2 (by assumption) | exact bk_m (by assumption) (by first | assumption | omega) | exact bk_p (by assumption) (by first | assumption | omega) | exact bk_o (by assumption) (by first | assumption | omega) | exact bk_s (by assumption) (by first | assumption | omega) | exact bk_1 (by assumption) | exact bk_2 (by assumption) | exact bk_3 (by assumption) | exact bk_4 (by assumption) | exact bk_5 (by assumption) | exact bk_6 (by assumption) | exact bk_7 (by assumption) | exact bk_8 (by assumption) | exact sh_ring _ (by first | assumption | omega) | exact sh_imgs _ (by first | assumption | omega)) (ro_X12_16 (by assumption)) ?_
      refine v_iload_1 dX12_promiseLine_39 ?_
      refine v_iconst (v := nI 1) dX12_promiseLine_40 (by decide) ?_
      refine v_iadd dX12_promiseLine_41 ?_
      refine v_aload_0 dX12_promiseLine_42 ?_
      refine v_iconst (v := nI 0) dX12_promiseLine_43 (by decide) ?_
      refine v_iconst (v := nI 0) dX12_promiseLine_44 (by decide) ?_
      refine u_callV_2 dX12_promiseLine_45 ml_X12_262 mv_X12_passed (by first | assumption | rfl | exact led_1 (by assumption) | exact led_2 (by assumption) | exact bk_m (by assumption) (by first | assumption | omega) | exact bk_p (by assumption) (by first | assumption | omega) | exact bk_o (by assumption) (by first | assumption | omega) | exact bk_s (by assumption) (by first | assumption | omega) | exact bk_1 (by assumption) | exact bk_2 (by assumption) | exact bk_3 (by assumption) | exact bk_4 (by assumption) | exact bk_5 (by assumption) | exact bk_6 (by assumption) | exact bk_7 (by assumption) | exact bk_8 (by assumption) | exact sh_ring _ (by first | assumption | omega) | exact sh_imgs _ (by first | assumption | omega)) (by decide) rfl (by decide) (Nat.le_of_ble_eq_true rfl) (z_X12_passed (by (try simp only [ui_ne (show (157 : Nat) ≠ 161 by decide)]); exact j1.1) ?_)
      refine u_iast dX12_promiseLine_48 (by first | assumption | rfl | exact led_1 (by assumption) | exact led_2 (by assumption) | exact bk_m (by assumption) (by first | assumption | omega) | exact bk_p (by assumption) (by first | assumption | omega) | exact bk_o (by assumption) (by first | assumption | omega) | exact bk_s (by assumption) (by first | assumption | omega) | exact bk_1 (by assumption) | exact bk_2 (by assumption) | exact bk_3 (by assumption) | exact bk_4 (by assumption) | exact bk_5 (by assumption) | exact bk_6 (by assumption) | exact bk_7 (by assumption) | exact bk_8 (by assumption) | exact sh_ring _ (by first | assumption | omega) | exact sh_imgs _ (by first | assumption | omega)) (by first | with_reducible rfl | (simp only [nlit, nI_add, pk_mul]; with_reducible rfl) | rfl) (by first | assumption | omega) (by first | assumption | decide) ?_
      refine v_aload_0 dX12_promiseLine_49 ?_
      refine u_getR dX12_promiseLine_50 gf_X12_23 (by first | assumption | rfl | exact led_1 (by assumption) | exact led_2 (by assumption) | exact bk_m (by assumption) (by first | assumption | omega) | exact bk_p (by assumption) (by first | assumption | omega) | exact bk_o (by assumption) (by first | assumption | omega) | exact bk_s (by assumption) (by first | assumption | omega) | exact bk_1 (by assumption) | exact bk_2 (by assumption) | exact bk_3 (by assumption) | exact bk_4 (by assumption) | exact bk_5 (by assumption) | exact bk_6 (by assumption) | exact bk_7 (by assumption) | exact bk_8 (by assumption) | exact sh_ring _ (by first | assumption | omega) | exact sh_imgs _ (by first | assumption | omega)) (ro_X12_16 (by assumption)) ?_
      refine v_iload_1 dX12_promiseLine_53 ?_
      refine v_iconst (v := nI 2) dX12_promiseLine_54 (by decide) ?_
      refine v_iadd dX12_promiseLine_55 ?_
      refine v_aload_0 dX12_promiseLine_56 ?_
      refine v_ldcSw (i := 48) dX12_promiseLine_57 (by decide) rfl rfl ?_
      refine u_callV_1 dX12_promiseLine_60 ml_X12_267 mv_X12_day (by first | assumption | rfl | exact led_1 (by assumption) | exact led_2 (by assumption) | exact bk_m (by assumption) (by first | assumption | omega) | exact bk_p (by assumption) (by first | assumption | omega) | exact bk_o (by assumption) (by first | assumption | omega) | exact bk_s (by assumption) (by first | assumption | omega) | exact bk_1 (by assumption) | exact bk_2 (by assumption) | exact bk_3 (by assumption) | exact bk_4 (by assumption) | exact bk_5 (by assumption) | exact bk_6 (by assumption) | exact bk_7 (by assumption) | exact bk_8 (by assumption) | exact sh_ring _ (by first | assumption | omega) | exact sh_imgs _ (by first | assumption | omega)) (by decide) rfl (by decide) (Nat.le_of_ble_eq_true rfl) (z_X12_day hR (by (try simp only [ui_ne (show (157 : Nat) ≠ 161 by decide)]); exact j1.1) ?_)
      refine u_iast dX12_promiseLine_63 (by first | assumption | rfl | exact led_1 (by assumption) | exact led_2 (by assumption) | exact bk_m (by assumption) (by first | assumption | omega) | exact bk_p (by assumption) (by first | assumption | omega) | exact bk_o (by assumption) (by first | assumption | omega) | exact bk_s (by assumption) (by first | assumption | omega) | exact bk_1 (by assumption) | exact bk_2 (by assumption) | exact bk_3 (by assumption) | exact bk_4 (by assumption) | exact bk_5 (by assumption) | exact bk_6 (by assumption) | exact bk_7 (by assumption) | exact bk_8 (by assumption) | exact sh_ring _ (by first | assumption | omega) | exact sh_imgs _ (by first | assumption | omega)) (by first | with_reducible rfl | (simp only [nlit, nI_add, pk_mul]; with_reducible rfl) | rfl) (by first | assumption | omega) (by first | assumption | decide) ?_
      refine v_aload_0 dX12_promiseLine_64 ?_
      refine u_getR dX12_promiseLine_65 gf_X12_23 (by first | assumption | rfl | exact led_1 (by assumption) | exact led_2 (by assumption) | exact bk_m (by assumption) (by first | assumption | omega) | exact bk_p (by assumption) (by first | assumption | omega) | exact bk_o (by assumption) (by first | assumption | omega) | exact bk_s (by assumption) (by first | assumption | omega) | exact bk_1 (by assumption) | exact bk_2 (by assumption) | exact bk_3 (by assumption) | exact bk_4 (by assumption) | exact bk_5 (by assumption) | exact bk_6 (by assumption) | exact bk_7 (by assumption) | exact bk_8 (by assumption) | exact sh_ring _ (by first | assumption | omega) | exact sh_imgs _ (by first | assumption | omega)) (ro_X12_16 (by assumption)) ?_
      refine v_iload_1 dX12_promiseLine_68 ?_
      refine v_iconst (v := nI 3) dX12_promiseLine_69 (by decide) ?_
      refine v_iadd dX12_promiseLine_70 ?_
      refine v_aload_0 dX12_promiseLine_71 ?_
      refine v_ldcSw (i := 49) dX12_promiseLine_72 (by decide) rfl rfl ?_
      refine v_iconst (v := nI 0) dX12_promiseLine_75 (by decide) ?_
      refine v_bipush (v := nI 99) dX12_promiseLine_76 (by decide) ?_
      refine u_callV_3 dX12_promiseLine_78 ml_X12_235 mv_X12_told (by first | assumption | rfl | exact led_1 (by assumption) | exact led_2 (by assumption) | exact bk_m (by assumption) (by first | assumption | omega) | exact bk_p (by assumption) (by first | assumption | omega) | exact bk_o (by assumption) (by first | assumption | omega) | exact bk_s (by assumption) (by first | assumption | omega) | exact bk_1 (by assumption) | exact bk_2 (by assumption) | exact bk_3 (by assumption) | exact bk_4 (by assumption) | exact bk_5 (by assumption) | exact bk_6 (by assumption) | exact bk_7 (by assumption) | exact bk_8 (by assumption) | exact sh_ring _ (by first | assumption | omega) | exact sh_imgs _ (by first | assumption | omega)) (by decide) rfl (by decide) (Nat.le_of_ble_eq_true rfl) (z_X12_told (by (try simp only [ui_ne (show (157 : Nat) ≠ 161 by decide)]); exact j1.1) ?_)
      refine u_iast dX12_promiseLine_81 (by first | assumption | rfl | exact led_1 (by assumption) | exact led_2 (by assumption) | exact bk_m (by assumption) (by first | assumption | omega) | exact bk_p (by assumption) (by first | assumption | omega) | exact bk_o (by assumption) (by first | assumption | omega) | exact bk_s (by assumption) (by first | assumption | omega) | exact bk_1 (by assumption) | exact bk_2 (by assumption) | exact bk_3 (by assumption) | exact bk_4 (by assumption) | exact bk_5 (by assumption) | exact bk_6 (by assumption) | exact bk_7 (by assumption) | exact bk_8 (by assumption) | exact sh_ring _ (by first | assumption | omega) | exact sh_imgs _ (by first | assumption | omega)) (by first | with_reducible rfl | (simp only [nlit, nI_add, pk_mul]; with_reducible rfl) | rfl) (by first | assumption | omega) (by first | assumption | decide) ?_
      refine v_aload_0 dX12_promiseLine_82 ?_
      refine u_getR dX12_promiseLine_83 gf_X12_23 (by first | assumption | rfl | exact led_1 (by assumption) | exact led_2 (by assumption) | exact bk_m (by assumption) (by first | assumption | omega) | exact bk_p (by assumption) (by first | assumption | omega) | exact bk_o (by assumption) (by first | assumption | omega) | exact bk_s (by assumption) (by first | assumption | omega) | exact bk_1 (by assumption) | exact bk_2 (by assumption) | exact bk_3 (by assumption) | exact bk_4 (by assumption) | exact bk_5 (by assumption) | exact bk_6 (by assumption) | exact bk_7 (by assumption) | exact bk_8 (by assumption) | exact sh_ring _ (by first | assumption | omega) | exact sh_imgs _ (by first | assumption | omega)) (ro_X12_16 (by assumption)) ?_
      refine v_iload_1 dX12_promiseLine_86 ?_
      refine v_iconst (v := nI 4) dX12_promiseLine_87 (by decide) ?_
      refine v_iadd dX12_promiseLine_88 ?_
      refine v_aload_0 dX12_promiseLine_89 ?_
      refine v_ldcSw (i := 50) dX12_promiseLine_90 (by decide) rfl rfl ?_
      refine v_iconst (v := nI 0) dX12_promiseLine_93 (by decide) ?_
      refine v_bipush (v := nI 99) dX12_promiseLine_94 (by decide) ?_
      refine u_callV_3 dX12_promiseLine_96 ml_X12_235 mv_X12_told (by first | assumption | rfl | exact led_1 (by assumption) | exact led_2 (by assumption) | exact bk_m (by assumption) (by first | assumption | omega) | exact bk_p (by assumption) (by first | assumption | omega) | exact bk_o (by assumption) (by first | assumption | omega) | exact bk_s (by assumption) (by first | assumption | omega) | exact bk_1 (by assumption) | exact bk_2 (by assumption) | exact bk_3 (by assumption) | exact bk_4 (by assumption) | exact bk_5 (by assumption) | exact bk_6 (by assumption) | exact bk_7 (by assumption) | exact bk_8 (by assumption) | exact sh_ring _ (by first | assumption | omega) | exact sh_imgs _ (by first | assumption | omega)) (by decide) rfl (by decide) (Nat.le_of_ble_eq_true rfl) (z_X12_told (by (try simp only [ui_ne (show (157 : Nat) ≠ 161 by decide)]); exact j1.1) ?_)
      refine u_iast dX12_promiseLine_99 (by first | assumption | rfl | exact led_1 (by assumption) | exact led_2 (by assumption) | exact bk_m (by assumption) (by first | assumption | omega) | exact bk_p (by assumption) (by first | assumption | omega) | exact bk_o (by assumption) (by first | assumption | omega) | exact bk_s (by assumption) (by first | assumption | omega) | exact bk_1 (by assumption) | exact bk_2 (by assumption) | exact bk_3 (by assumption) | exact bk_4 (by assumption) | exact bk_5 (by assumption) | exact bk_6 (by assumption) | exact bk_7 (by assumption) | exact bk_8 (by assumption) | exact sh_ring _ (by first | assumption | omega) | exact sh_imgs _ (by first | assumption | omega)) (by first | with_reducible rfl | (simp only [nlit, nI_add, pk_mul]; with_reducible rfl) | rfl) (by first | assumption | omega) (by first | assumption | decide) ?_
      refine v_aload_0 dX12_promiseLine_100 ?_
      refine u_getR dX12_promiseLine_101 gf_X12_23 (by first | assumption | rfl | exact led_1 (by assumption) | exact led_2 (by assumption) | exact bk_m (by assumption) (by first | assumption | omega) | exact bk_p (by assumption) (by first | assumption | omega) | exact bk_o (by assumption) (by first | assumption | omega) | exact bk_s (by assumption) (by first | assumption | omega) | exact bk_1 (by assumption) | exact bk_2 (by assumption) | exact bk_3 (by assumption) | exact bk_4 (by assumption) | exact bk_5 (by assumption) | exact bk_6 (by assumption) | exact bk_7 (by assumption) | exact bk_8 (by assumption) | exact sh_ring _ (by first | assumption | omega) | exact sh_imgs _ (by first | assumption | omega)) (ro_X12_16 (by assumption)) ?_
      refine v_iload_1 dX12_promiseLine_104 ?_
      refine v_iconst (v := nI 5) dX12_promiseLine_105 (by decide) ?_
      refine v_iadd dX12_promiseLine_106 ?_
      refine v_aload_0 dX12_promiseLine_107 ?_
      refine v_ldcSw (i := 51) dX12_promiseLine_108 (by decide) rfl rfl ?_
      refine v_iconst (v := nI 0) dX12_promiseLine_111 (by decide) ?_
      refine v_bipush (v := nI 99) dX12_promiseLine_112 (by decide) ?_
      refine u_callV_3 dX12_promiseLine_114 ml_X12_235 mv_X12_told (by first | assumption | rfl | exact led_1 (by assumption) | exact led_2 (by assumption) | exact bk_m (by assumption) (by first | assumption | omega) | exact bk_p (by assumption) (by first | assumption | omega) | exact bk_o (by assumption) (by first | assumption | omega) | exact bk_s (by assumption) (by first | assumption | omega) | exact bk_1 (by assumption) | exact bk_2 (by assumption) | exact bk_3 (by assumption) | exact bk_4 (by assumption) | exact bk_5 (by assumption) | exact bk_6 (by assumption) | exact bk_7 (by assumption) | exact bk_8 (by assumption) | exact sh_ring _ (by first | assumption | omega) | exact sh_imgs _ (by first | assumption | omega)) (by decide) rfl (by decide) (Nat.le_of_ble_eq_true rfl) (z_X12_told (by (try simp only [ui_ne (show (157 : Nat) ≠ 161 by decide)]); exact j1.1) ?_)
      refine u_iast dX12_promiseLine_117 (by first | assumption | rfl | exact led_1 (by assumption) | exact led_2 (by assumption) | exact bk_m (by assumption) (by first | assumption | omega) | exact bk_p (by assumption) (by first | assumption | omega) | exact bk_o (by assumption) (by first | assumption | omega) | exact bk_s (by assumption) (by first | assumption | omega) | exact bk_1 (by assumption) | exact bk_2 (by assumption) | exact bk_3 (by assumption) | exact bk_4 (by assumption) | exact bk_5 (by assumption) | exact bk_6 (by assumption) | exact bk_7 (by assumption) | exact bk_8 (by assumption) | exact sh_ring _ (by first | assumption | omega) | exact sh_imgs _ (by first | assumption | omega)) (by first | with_reducible rfl | (simp only [nlit, nI_add, pk_mul]; with_reducible rfl) | rfl) (by first | assumption | omega) (by first | assumption | decide) ?_
      refine v_aload_0 dX12_promiseLine_118 ?_
      refine u_getR dX12_promiseLine_119 gf_X12_23 (by first | assumption | rfl | exact led_1 (by assumption) | exact led_2 (by assumption) | exact bk_m (by assumption) (by first | assumption | omega) | exact bk_p (by assumption) (by first | assumption | omega) | exact bk_o (by assumption) (by first | assumption | omega) | exact bk_s (by assumption) (by first | assumption | omega) | exact bk_1 (by assumption) | exact bk_2 (by assumption) | exact bk_3 (by assumption) | exact bk_4 (by assumption) | exact bk_5 (by assumption) | exact bk_6 (by assumption) | exact bk_7 (by assumption) | exact bk_8 (by assumption) | exact sh_ring _ (by first | assumption | omega) | exact sh_imgs _ (by first | assumption | omega)) (ro_X12_16 (by assumption)) ?_
      refine v_iconst (v := nI 4) dX12_promiseLine_122 (by decide) ?_
      refine v_dup2 dX12_promiseLine_123 rfl rfl ?_
      refine u_iald dX12_promiseLine_124 (by first | assumption | rfl | exact led_1 (by assumption) | exact led_2 (by assumption) | exact bk_m (by assumption) (by first | assumption | omega) | exact bk_p (by assumption) (by first | assumption | omega) | exact bk_o (by assumption) (by first | assumption | omega) | exact bk_s (by assumption) (by first | assumption | omega) | exact bk_1 (by assumption) | exact bk_2 (by assumption) | exact bk_3 (by assumption) | exact bk_4 (by assumption) | exact bk_5 (by assumption) | exact bk_6 (by assumption) | exact bk_7 (by assumption) | exact bk_8 (by assumption) | exact sh_ring _ (by first | assumption | omega) | exact sh_imgs _ (by first | assumption | omega)) (by first | with_reducible rfl | (simp only [nlit, nI_add, pk_mul]; with_reducible rfl) | rfl) (by first | assumption | omega) (by first | assumption | decide) ?_
      refine v_iconst (v := nI 1) dX12_promiseLine_125 (by decide) ?_
      refine v_iadd dX12_promiseLine_126 ?_
      refine u_iast dX12_promiseLine_127 (by first | assumption | rfl | exact led_1 (by assumption) | exact led_2 (by assumption) | exact bk_m (by assumption) (by first | assumption | omega) | exact bk_p (by assumption) (by first | assumption | omega) | exact bk_o (by assumption) (by first | assumption | omega) | exact bk_s (by assumption) (by first | assumption | omega) | exact bk_1 (by assumption) | exact bk_2 (by assumption) | exact bk_3 (by assumption) | exact bk_4 (by assumption) | exact bk_5 (by assumption) | exact bk_6 (by assumption) | exact bk_7 (by assumption) | exact bk_8 (by assumption) | exact sh_ring _ (by first | assumption | omega) | exact sh_imgs _ (by first | assumption | omega)) (by first | with_reducible rfl | (simp only [nlit, nI_add, pk_mul]; with_reducible rfl) | rfl) (by first | assumption | omega) (by first | assumption | decide) ?_
      refine v_vret dX12_promiseLine_128 rfl rfl rfl rfl ?_
      refine hF f p (by rw [lPromise, bnd_l q]) _ ?_ ?_
      · (repeat (first | exact j1 | apply FlM.put))
      · (repeat (first | exact jf | apply FrK.up))
    · have e1 : u1.2 = s.2 := by rw [e1]; rfl
      have es1 : u1.2 = s.2 := e1.trans es0
      have hL := j11
      have jk := jk.trans j12.k
      refine u_iast dX12_promiseLine_34 (by first | assumption | rfl | exact led_1 (by assumption) | exact led_2 (by assumption) | exact bk_m (by assumption) (by first | assumption | omega) | exact bk_p (by assumption) (by first | assumption | omega) | exact bk_o (by assumption) (by first | assumption | omega) | exact bk_s (by assumption) (by first | assumption | omega) | exact bk_1 (by assumption) | exact bk_2 (by assumption) | exact bk_3 (by assumption) | exact bk_4 (by assumption) | exact bk_5 (by assumption) | exact bk_6 (by assumption) | exact bk_7 (by assumption) | exact bk_8 (by assumption) | exact sh_ring _ (by first | assumption | omega) | exact sh_imgs _ (by first | assumption | omega)) (by first | with_reducible rfl | (simp only [nlit, nI_add, pk_mul]; with_reducible rfl) | rfl) (by first | assumption | omega) (by first | assumption | decide) ?_
      have hL := hL.put (j := 56 + 6 * s.2.1 4) (v := v1) (by omega)
      have hG := hG.put (j := 56 + 6 * s.2.1 4) (v := v1) (by omega)
      have jk := jk.up (j := 56 + 6 * s.2.1 4) (v := nI (v1))
      have hc_0 := (setF_n (k := 56 + 6 * s.2.1 4) (v := v1) (show 0 ≠ 56 + 6 * s.2.1 4 by omega)).trans hc_0
      have hc_4 := (setF_n (k := 56 + 6 * s.2.1 4) (v := v1) (show 4 ≠ 56 + 6 * s.2.1 4 by omega)).trans hc_4
      refine v_aload_0 dX12_promiseLine_35 ?_
      refine u_getR dX12_promiseLine_36 gf_X12_23 (by first | assumption | rfl | exact led_1 (by assumption) | exact led_2 (by assumption) | exact bk_m (by assumption) (by first | assumption | omega) | exact bk_p (by assumption) (by first | assumption | omega) | exact bk_o (by assumption) (by first | assumption | omega) | exact bk_s (by assumption) (by first | assumption | omega) | exact bk_1 (by assumption) | exact bk_2 (by assumption) | exact bk_3 (by assumption) | exact bk_4 (by assumption) | exact bk_5 (by assumption) | exact bk_6 (by assumption) | exact bk_7 (by assumption) | exact bk_8 (by assumption) | exact sh_ring _ (by first | assumption | omega) | exact sh_imgs _ (by first | assumption | omega)) (ro_X12_16 (by assumption)) ?_
      refine v_iload_1 dX12_promiseLine_39 ?_
      refine v_iconst (v := nI 1) dX12_promiseLine_40 (by decide) ?_
      refine v_iadd dX12_promiseLine_41 ?_
      rw [show nI (56 + 6 * s.2.1 4) + nI 1 = nI (57 + 6 * s.2.1 4) by rw [nI_add]; congr 1; omega]
      refine v_aload_0 dX12_promiseLine_42 ?_
      refine v_iconst (v := nI 0) dX12_promiseLine_43 (by decide) ?_
      refine v_iconst (v := nI 0) dX12_promiseLine_44 (by decide) ?_
      refine u_callV_2 dX12_promiseLine_45 ml_X12_262 mv_X12_passed (by first | assumption | rfl | exact led_1 (by assumption) | exact led_2 (by assumption) | exact bk_m (by assumption) (by first | assumption | omega) | exact bk_p (by assumption) (by first | assumption | omega) | exact bk_o (by assumption) (by first | assumption | omega) | exact bk_s (by assumption) (by first | assumption | omega) | exact bk_1 (by assumption) | exact bk_2 (by assumption) | exact bk_3 (by assumption) | exact bk_4 (by assumption) | exact bk_5 (by assumption) | exact bk_6 (by assumption) | exact bk_7 (by assumption) | exact bk_8 (by assumption) | exact sh_ring _ (by first | assumption | omega) | exact sh_imgs _ (by first | assumption | omega)) (by decide) rfl (by decide) (Nat.le_of_ble_eq_true rfl) (c_X12_passed_0 (but := 0) (s := u1) (by omega) hR hL (by rw [es1]; exact hG) (fun f p q J j1 j2 => ?_) (fun v2 u2 q2 e2 g2 J2 j21 j22 => ?_))
      · have jf := jk.trans j2.k
        refine u_iast dX12_promiseLine_48 (by first | assumption | rfl | exact led_1 (by assumption) | exact led_2 (by assumption) | exact bk_m (by assumption) (by first | assumption | omega) | exact bk_p (by assumption) (by first | assumption | omega) | exact bk_o (by assumption) (by first | assumption | omega) | exact bk_s (by assumption) (by first | assumption | omega) | exact bk_1 (by assumption) | exact bk_2 (by assumption) | exact bk_3 (by assumption) | exact bk_4 (by assumption) | exact bk_5 (by assumption) | exact bk_6 (by assumption) | exact bk_7 (by assumption) | exact bk_8 (by assumption) | exact sh_ring _ (by first | assumption | omega) | exact sh_imgs _ (by first | assumption | omega)) (by first | with_reducible rfl | (simp only [nlit, nI_add, pk_mul]; with_reducible rfl) | rfl) (by first | assumption | omega) (by first | assumption | decide) ?_
        refine v_aload_0 dX12_promiseLine_49 ?_
        refine u_getR dX12_promiseLine_50 gf_X12_23 (by first | assumption | rfl | exact led_1 (by assumption) | exact led_2 (by assumption) | exact bk_m (by assumption) (by first | assumption | omega) | exact bk_p (by assumption) (by first | assumption | omega) | exact bk_o (by assumption) (by first | assumption | omega) | exact bk_s (by assumption) (by first | assumption | omega) | exact bk_1 (by assumption) | exact bk_2 (by assumption) | exact bk_3 (by assumption) | exact bk_4 (by assumption) | exact bk_5 (by assumption) | exact bk_6 (by assumption) | exact bk_7 (by assumption) | exact bk_8 (by assumption) | exact sh_ring _ (by first | assumption | omega) | exact sh_imgs _ (by first | assumption | omega)) (ro_X12_16 (by assumption)) ?_
        refine v_iload_1 dX12_promiseLine_53 ?_
        refine v_iconst (v := nI 2) dX12_promiseLine_54 (by decide) ?_
        refine v_iadd dX12_promiseLine_55 ?_
        refine v_aload_0 dX12_promiseLine_56 ?_
        refine v_ldcSw (i := 48) dX12_promiseLine_57 (by decide) rfl rfl ?_
        refine u_callV_1 dX12_promiseLine_60 ml_X12_267 mv_X12_day (by first | assumption | rfl | exact led_1 (by assumption) | exact led_2 (by assumption) | exact bk_m (by assumption) (by first | assumption | omega) | exact bk_p (by assumption) (by first | assumption | omega) | exact bk_o (by assumption) (by first | assumption | omega) | exact bk_s (by assumption) (by first | assumption | omega) | exact bk_1 (by assumption) | exact bk_2 (by assumption) | exact bk_3 (by assumption) | exact bk_4 (by assumption) | exact bk_5 (by assumption) | exact bk_6 (by assumption) | exact bk_7 (by assumption) | exact bk_8 (by assumption) | exact sh_ring _ (by first | assumption | omega) | exact sh_imgs _ (by first | assumption | omega)) (by decide) rfl (by decide) (Nat.le_of_ble_eq_true rfl) (z_X12_day hR (by (try simp only [ui_ne (show (157 : Nat) ≠ 161 by decide)]); exact j1.1) ?_)
        refine u_iast dX12_promiseLine_63 (by first | assumption | rfl | exact led_1 (by assumption) | exact led_2 (by assumption) | exact bk_m (by assumption) (by first | assumption | omega) | exact bk_p (by assumption) (by first | assumption | omega) | exact bk_o (by assumption) (by first | assumption | omega) | exact bk_s (by assumption) (by first | assumption | omega) | exact bk_1 (by assumption) | exact bk_2 (by assumption) | exact bk_3 (by assumption) | exact bk_4 (by assumption) | exact bk_5 (by assumption) | exact bk_6 (by assumption) | exact bk_7 (by assumption) | exact bk_8 (by assumption) | exact sh_ring _ (by first | assumption | omega) | exact sh_imgs _ (by first | assumption | omega)) (by first | with_reducible rfl | (simp only [nlit, nI_add, pk_mul]; with_reducible rfl) | rfl) (by first | assumption | omega) (by first | assumption | decide) ?_
        refine v_aload_0 dX12_promiseLine_64 ?_
        refine u_getR dX12_promiseLine_65 gf_X12_23 (by first | assumption | rfl | exact led_1 (by assumption) | exact led_2 (by assumption) | exact bk_m (by assumption) (by first | assumption | omega) | exact bk_p (by assumption) (by first | assumption | omega) | exact bk_o (by assumption) (by first | assumption | omega) | exact bk_s (by assumption) (by first | assumption | omega) | exact bk_1 (by assumption) | exact bk_2 (by assumption) | exact bk_3 (by assumption) | exact bk_4 (by assumption) | exact bk_5 (by assumption) | exact bk_6 (by assumption) | exact bk_7 (by assumption) | exact bk_8 (by assumption) | exact sh_ring _ (by first | assumption | omega) | exact sh_imgs _ (by first | assumption | omega)) (ro_X12_16 (by assumption)) ?_
        refine v_iload_1 dX12_promiseLine_68 ?_
        refine v_iconst (v := nI 3) dX12_promiseLine_69 (by decide) ?_
        refine v_iadd dX12_promiseLine_70 ?_
        refine v_aload_0 dX12_promiseLine_71 ?_
        refine v_ldcSw (i := 49) dX12_promiseLine_72 (by decide) rfl rfl ?_
        refine v_iconst (v := nI 0) dX12_promiseLine_75 (by decide) ?_
        refine v_bipush (v := nI 99) dX12_promiseLine_76 (by decide) ?_
        refine u_callV_3 dX12_promiseLine_78 ml_X12_235 mv_X12_told (by first | assumption | rfl | exact led_1 (by assumption) | exact led_2 (by assumption) | exact bk_m (by assumption) (by first | assumption | omega) | exact bk_p (by assumption) (by first | assumption | omega) | exact bk_o (by assumption) (by first | assumption | omega) | exact bk_s (by assumption) (by first | assumption | omega) | exact bk_1 (by assumption) | exact bk_2 (by assumption) | exact bk_3 (by assumption) | exact bk_4 (by assumption) | exact bk_5 (by assumption) | exact bk_6 (by assumption) | exact bk_7 (by assumption) | exact bk_8 (by assumption) | exact sh_ring _ (by first | assumption | omega) | exact sh_imgs _ (by first | assumption | omega)) (by decide) rfl (by decide) (Nat.le_of_ble_eq_true rfl) (z_X12_told (by (try simp only [ui_ne (show (157 : Nat) ≠ 161 by decide)]); exact j1.1) ?_)
        refine u_iast dX12_promiseLine_81 (by first | assumption | rfl | exact led_1 (by assumption) | exact led_2 (by assumption) | exact bk_m (by assumption) (by first | assumption | omega) | exact bk_p (by assumption) (by first | assumption | omega) | exact bk_o (by assumption) (by first | assumption | omega) | exact bk_s (by assumption) (by first | assumption | omega) | exact bk_1 (by assumption) | exact bk_2 (by assumption) | exact bk_3 (by assumption) | exact bk_4 (by assumption) | exact bk_5 (by assumption) | exact bk_6 (by assumption) | exact bk_7 (by assumption) | exact bk_8 (by assumption) | exact sh_ring _ (by first | assumption | omega) | exact sh_imgs _ (by first | assumption | omega)) (by first | with_reducible rfl | (simp only [nlit, nI_add, pk_mul]; with_reducible rfl) | rfl) (by first | assumption | omega) (by first | assumption | decide) ?_
        refine v_aload_0 dX12_promiseLine_82 ?_
        refine u_getR dX12_promiseLine_83 gf_X12_23 (by first | assumption | rfl | exact led_1 (by assumption) | exact led_2 (by assumption) | exact bk_m (by assumption) (by first | assumption | omega) | exact bk_p (by assumption) (by first | assumption | omega) | exact bk_o (by assumption) (by first | assumption | omega) | exact bk_s (by assumption) (by first | assumption | omega) | exact bk_1 (by assumption) | exact bk_2 (by assumption) | exact bk_3 (by assumption) | exact bk_4 (by assumption) | exact bk_5 (by assumption) | exact bk_6 (by assumption) | exact bk_7 (by assumption) | exact bk_8 (by assumption) | exact sh_ring _ (by first | assumption | omega) | exact sh_imgs _ (by first | assumption | omega)) (ro_X12_16 (by assumption)) ?_
        refine v_iload_1 dX12_promiseLine_86 ?_
        refine v_iconst (v := nI 4) dX12_promiseLine_87 (by decide) ?_
        refine v_iadd dX12_promiseLine_88 ?_
        refine v_aload_0 dX12_promiseLine_89 ?_
        refine v_ldcSw (i := 50) dX12_promiseLine_90 (by decide) rfl rfl ?_
        refine v_iconst (v := nI 0) dX12_promiseLine_93 (by decide) ?_
        refine v_bipush (v := nI 99) dX12_promiseLine_94 (by decide) ?_
        refine u_callV_3 dX12_promiseLine_96 ml_X12_235 mv_X12_told (by first | assumption | rfl | exact led_1 (by assumption) | exact led_2 (by assumption) | exact bk_m (by assumption) (by first | assumption | omega) | exact bk_p (by assumption) (by first | assumption | omega) | exact bk_o (by assumption) (by first | assumption | omega) | exact bk_s (by assumption) (by first | assumption | omega) | exact bk_1 (by assumption) | exact bk_2 (by assumption) | exact bk_3 (by assumption) | exact bk_4 (by assumption) | exact bk_5 (by assumption) | exact bk_6 (by assumption) | exact bk_7 (by assumption) | exact bk_8 (by assumption) | exact sh_ring _ (by first | assumption | omega) | exact sh_imgs _ (by first | assumption | omega)) (by decide) rfl (by decide) (Nat.le_of_ble_eq_true rfl) (z_X12_told (by (try simp only [ui_ne (show (157 : Nat) ≠ 161 by decide)]); exact j1.1) ?_)
        refine u_iast dX12_promiseLine_99 (by first | assumption | rfl | exact led_1 (by assumption) | exact led_2 (by assumption) | exact bk_m (by assumption) (by first | assumption | omega) | exact bk_p (by assumption) (by first | assumption | omega) | exact bk_o (by assumption) (by first | assumption | omega) | exact bk_s (by assumption) (by first | assumption | omega) | exact bk_1 (by assumption) | exact bk_2 (by assumption) | exact bk_3 (by assumption) | exact bk_4 (by assumption) | exact bk_5 (by assumption) | exact bk_6 (by assumption) | exact bk_7 (by assumption) | exact bk_8 (by assumption) | exact sh_ring _ (by first | assumption | omega) | exact sh_imgs _ (by first | assumption | omega)) (by first | with_reducible rfl | (simp only [nlit, nI_add, pk_mul]; with_reducible rfl) | rfl) (by first | assumption | omega) (by first | assumption | decide) ?_
        refine v_aload_0 dX12_promiseLine_100 ?_
        refine u_getR dX12_promiseLine_101 gf_X12_23 (by first | assumption | rfl | exact led_1 (by assumption) | exact led_2 (by assumption) | exact bk_m (by assumption) (by first | assumption | omega) | exact bk_p (by assumption) (by first | assumption | omega) | exact bk_o (by assumption) (by first | assumption | omega) | exact bk_s (by assumption) (by first | assumption | omega) | exact bk_1 (by assumption) | exact bk_2 (by assumption) | exact bk_3 (by assumption) | exact bk_4 (by assumption) | exact bk_5 (by assumption) | exact bk_6 (by assumption) | exact bk_7 (by assumption) | exact bk_8 (by assumption) | exact sh_ring _ (by first | assumption | omega) | exact sh_imgs _ (by first | assumption | omega)) (ro_X12_16 (by assumption)) ?_
        refine v_iload_1 dX12_promiseLine_104 ?_
        refine v_iconst (v := nI 5) dX12_promiseLine_105 (by decide) ?_
        refine v_iadd dX12_promiseLine_106 ?_
        refine v_aload_0 dX12_promiseLine_107 ?_
        refine v_ldcSw (i := 51) dX12_promiseLine_108 (by decide) rfl rfl ?_
        refine v_iconst (v := nI 0) dX12_promiseLine_111 (by decide) ?_
        refine v_bipush (v := nI 99) dX12_promiseLine_112 (by decide) ?_
        refine u_callV_3 dX12_promiseLine_114 ml_X12_235 mv_X12_told (by first | assumption | rfl | exact led_1 (by assumption) | exact led_2 (by assumption) | exact bk_m (by assumption) (by first | assumption | omega) | exact bk_p (by assumption) (by first | assumption | omega) | exact bk_o (by assumption) (by first | assumption | omega) | exact bk_s (by assumption) (by first | assumption | omega) | exact bk_1 (by assumption) | exact bk_2 (by assumption) | exact bk_3 (by assumption) | exact bk_4 (by assumption) | exact bk_5 (by assumption) | exact bk_6 (by assumption) | exact bk_7 (by assumption) | exact bk_8 (by assumption) | exact sh_ring _ (by first | assumption | omega) | exact sh_imgs _ (by first | assumption | omega)) (by decide) rfl (by decide) (Nat.le_of_ble_eq_true rfl) (z_X12_told (by (try simp only [ui_ne (show (157 : Nat) ≠ 161 by decide)]); exact j1.1) ?_)
        refine u_iast dX12_promiseLine_117 (by first | assumption | rfl | exact led_1 (by assumption) | exact led_2 (by assumption) | exact bk_m (by assumption) (by first | assumption | omega) | exact bk_p (by assumption) (by first | assumption | omega) | exact bk_o (by assumption) (by first | assumption | omega) | exact bk_s (by assumption) (by first | assumption | omega) | exact bk_1 (by assumption) | exact bk_2 (by assumption) | exact bk_3 (by assumption) | exact bk_4 (by assumption) | exact bk_5 (by assumption) | exact bk_6 (by assumption) | exact bk_7 (by assumption) | exact bk_8 (by assumption) | exact sh_ring _ (by first | assumption | omega) | exact sh_imgs _ (by first | assumption | omega)) (by first | with_reducible rfl | (simp only [nlit, nI_add, pk_mul]; with_reducible rfl) | rfl) (by first | assumption | omega) (by first | assumption | decide) ?_
        refine v_aload_0 dX12_promiseLine_118 ?_
        refine u_getR dX12_promiseLine_119 gf_X12_23 (by first | assumption | rfl | exact led_1 (by assumption) | exact led_2 (by assumption) | exact bk_m (by assumption) (by first | assumption | omega) | exact bk_p (by assumption) (by first | assumption | omega) | exact bk_o (by assumption) (by first | assumption | omega) | exact bk_s (by assumption) (by first | assumption | omega) | exact bk_1 (by assumption) | exact bk_2 (by assumption) | exact bk_3 (by assumption) | exact bk_4 (by assumption) | exact bk_5 (by assumption) | exact bk_6 (by assumption) | exact bk_7 (by assumption) | exact bk_8 (by assumption) | exact sh_ring _ (by first | assumption | omega) | exact sh_imgs _ (by first | assumption | omega)) (ro_X12_16 (by assumption)) ?_
        refine v_iconst (v := nI 4) dX12_promiseLine_122 (by decide) ?_
        refine v_dup2 dX12_promiseLine_123 rfl rfl ?_
        refine u_iald dX12_promiseLine_124 (by first | assumption | rfl | exact led_1 (by assumption) | exact led_2 (by assumption) | exact bk_m (by assumption) (by first | assumption | omega) | exact bk_p (by assumption) (by first | assumption | omega) | exact bk_o (by assumption) (by first | assumption | omega) | exact bk_s (by assumption) (by first | assumption | omega) | exact bk_1 (by assumption) | exact bk_2 (by assumption) | exact bk_3 (by assumption) | exact bk_4 (by assumption) | exact bk_5 (by assumption) | exact bk_6 (by assumption) | exact bk_7 (by assumption) | exact bk_8 (by assumption) | exact sh_ring _ (by first | assumption | omega) | exact sh_imgs _ (by first | assumption | omega)) (by first | with_reducible rfl | (simp only [nlit, nI_add, pk_mul]; with_reducible rfl) | rfl) (by first | assumption | omega) (by first | assumption | decide) ?_
        refine v_iconst (v := nI 1) dX12_promiseLine_125 (by decide) ?_
        refine v_iadd dX12_promiseLine_126 ?_
        refine u_iast dX12_promiseLine_127 (by first | assumption | rfl | exact led_1 (by assumption) | exact led_2 (by assumption) | exact bk_m (by assumption) (by first | assumption | omega) | exact bk_p (by assumption) (by first | assumption | omega) | exact bk_o (by assumption) (by first | assumption | omega) | exact bk_s (by assumption) (by first | assumption | omega) | exact bk_1 (by assumption) | exact bk_2 (by assumption) | exact bk_3 (by assumption) | exact bk_4 (by assumption) | exact bk_5 (by assumption) | exact bk_6 (by assumption) | exact bk_7 (by assumption) | exact bk_8 (by assumption) | exact sh_ring _ (by first | assumption | omega) | exact sh_imgs _ (by first | assumption | omega)) (by first | with_reducible rfl | (simp only [nlit, nI_add, pk_mul]; with_reducible rfl) | rfl) (by first | assumption | omega) (by first | assumption | decide) ?_
        refine v_vret dX12_promiseLine_128 rfl rfl rfl rfl ?_
        refine hF f p (by rw [lPromise, bnd_r q1, bnd_l q]) _ ?_ ?_
        · (repeat (first | exact j1 | apply FlM.put))
        · (repeat (first | exact jf | apply FrK.up))
      · have e2 : u2.2 = u1.2 := by rw [e2]; rfl
        have es2 : u2.2 = s.2 := e2.trans es1
        have hL := j21
        have jk := jk.trans j22.k
        refine u_iast dX12_promiseLine_48 (by first | assumption | rfl | exact led_1 (by assumption) | exact led_2 (by assumption) | exact bk_m (by assumption) (by first | assumption | omega) | exact bk_p (by assumption) (by first | assumption | omega) | exact bk_o (by assumption) (by first | assumption | omega) | exact bk_s (by assumption) (by first | assumption | omega) | exact bk_1 (by assumption) | exact bk_2 (by assumption) | exact bk_3 (by assumption) | exact bk_4 (by assumption) | exact bk_5 (by assumption) | exact bk_6 (by assumption) | exact bk_7 (by assumption) | exact bk_8 (by assumption) | exact sh_ring _ (by first | assumption | omega) | exact sh_imgs _ (by first | assumption | omega)) (by first | with_reducible rfl | (simp only [nlit, nI_add, pk_mul]; with_reducible rfl) | rfl) (by first | assumption | omega) (by first | assumption | decide) ?_
        have hL := hL.put (j := 57 + 6 * s.2.1 4) (v := v2) (by omega)
        have hG := hG.put (j := 57 + 6 * s.2.1 4) (v := v2) (by omega)
        have jk := jk.up (j := 57 + 6 * s.2.1 4) (v := nI (v2))
        have hc_0 := (setF_n (k := 57 + 6 * s.2.1 4) (v := v2) (show 0 ≠ 57 + 6 * s.2.1 4 by omega)).trans hc_0
        have hc_4 := (setF_n (k := 57 + 6 * s.2.1 4) (v := v2) (show 4 ≠ 57 + 6 * s.2.1 4 by omega)).trans hc_4
        refine v_aload_0 dX12_promiseLine_49 ?_
        refine u_getR dX12_promiseLine_50 gf_X12_23 (by first | assumption | rfl | exact led_1 (by assumption) | exact led_2 (by assumption) | exact bk_m (by assumption) (by first | assumption | omega) | exact bk_p (by assumption) (by first | assumption | omega) | exact bk_o (by assumption) (by first | assumption | omega) | exact bk_s (by assumption) (by first | assumption | omega) | exact bk_1 (by assumption) | exact bk_2 (by assumption) | exact bk_3 (by assumption) | exact bk_4 (by assumption) | exact bk_5 (by assumption) | exact bk_6 (by assumption) | exact bk_7 (by assumption) | exact bk_8 (by assumption) | exact sh_ring _ (by first | assumption | omega) | exact sh_imgs _ (by first | assumption | omega)) (ro_X12_16 (by assumption)) ?_
        refine v_iload_1 dX12_promiseLine_53 ?_
        refine v_iconst (v := nI 2) dX12_promiseLine_54 (by decide) ?_
        refine v_iadd dX12_promiseLine_55 ?_
        rw [show nI (56 + 6 * s.2.1 4) + nI 2 = nI (58 + 6 * s.2.1 4) by rw [nI_add]; congr 1; omega]
        refine v_aload_0 dX12_promiseLine_56 ?_
        refine v_ldcSw (i := 48) dX12_promiseLine_57 (by decide) rfl rfl ?_
        refine u_callV_1 dX12_promiseLine_60 ml_X12_267 mv_X12_day (by first | assumption | rfl | exact led_1 (by assumption) | exact led_2 (by assumption) | exact bk_m (by assumption) (by first | assumption | omega) | exact bk_p (by assumption) (by first | assumption | omega) | exact bk_o (by assumption) (by first | assumption | omega) | exact bk_s (by assumption) (by first | assumption | omega) | exact bk_1 (by assumption) | exact bk_2 (by assumption) | exact bk_3 (by assumption) | exact bk_4 (by assumption) | exact bk_5 (by assumption) | exact bk_6 (by assumption) | exact bk_7 (by assumption) | exact bk_8 (by assumption) | exact sh_ring _ (by first | assumption | omega) | exact sh_imgs _ (by first | assumption | omega)) (by decide) rfl (by decide) (Nat.le_of_ble_eq_true rfl) (c_X12_day (i := 48) (d := s.2.1 0) (s := u2) (by decide) hc_0 hR hL (fun f p q J j1 j2 => ?_) (fun v3 u3 q3 e3 g3 h3 w3 J3 j31 j32 => ?_))
        · have q : qWhole tp sz (wd 20) 1 (s.2.1 0) u2 = .inl (f, p) := q
          have jf := jk.trans j2.k
          refine u_iast dX12_promiseLine_63 (by first | assumption | rfl | exact led_1 (by assumption) | exact led_2 (by assumption) | exact bk_m (by assumption) (by first | assumption | omega) | exact bk_p (by assumption) (by first | assumption | omega) | exact bk_o (by assumption) (by first | assumption | omega) | exact bk_s (by assumption) (by first | assumption | omega) | exact bk_1 (by assumption) | exact bk_2 (by assumption) | exact bk_3 (by assumption) | exact bk_4 (by assumption) | exact bk_5 (by assumption) | exact bk_6 (by assumption) | exact bk_7 (by assumption) | exact bk_8 (by assumption) | exact sh_ring _ (by first | assumption | omega) | exact sh_imgs _ (by first | assumption | omega)) (by first | with_reducible rfl | (simp only [nlit, nI_add, pk_mul]; with_reducible rfl) | rfl) (by first | assumption | omega) (by first | assumption | decide) ?_
          refine v_aload_0 dX12_promiseLine_64 ?_
          refine u_getR dX12_promiseLine_65 gf_X12_23 (by first | assumption | rfl | exact led_1 (by assumption) | exact led_2 (by assumption) | exact bk_m (by assumption) (by first | assumption | omega) | exact bk_p (by assumption) (by first | assumption | omega) | exact bk_o (by assumption) (by first | assumption | omega) | exact bk_s (by assumption) (by first | assumption | omega) | exact bk_1 (by assumption) | exact bk_2 (by assumption) | exact bk_3 (by assumption) | exact bk_4 (by assumption) | exact bk_5 (by assumption) | exact bk_6 (by assumption) | exact bk_7 (by assumption) | exact bk_8 (by assumption) | exact sh_ring _ (by first | assumption | omega) | exact sh_imgs _ (by first | assumption | omega)) (ro_X12_16 (by assumption)) ?_
          refine v_iload_1 dX12_promiseLine_68 ?_
          refine v_iconst (v := nI 3) dX12_promiseLine_69 (by decide) ?_
          refine v_iadd dX12_promiseLine_70 ?_
          refine v_aload_0 dX12_promiseLine_71 ?_
          refine v_ldcSw (i := 49) dX12_promiseLine_72 (by decide) rfl rfl ?_
          refine v_iconst (v := nI 0) dX12_promiseLine_75 (by decide) ?_
          refine v_bipush (v := nI 99) dX12_promiseLine_76 (by decide) ?_
          refine u_callV_3 dX12_promiseLine_78 ml_X12_235 mv_X12_told (by first | assumption | rfl | exact led_1 (by assumption) | exact led_2 (by assumption) | exact bk_m (by assumption) (by first | assumption | omega) | exact bk_p (by assumption) (by first | assumption | omega) | exact bk_o (by assumption) (by first | assumption | omega) | exact bk_s (by assumption) (by first | assumption | omega) | exact bk_1 (by assumption) | exact bk_2 (by assumption) | exact bk_3 (by assumption) | exact bk_4 (by assumption) | exact bk_5 (by assumption) | exact bk_6 (by assumption) | exact bk_7 (by assumption) | exact bk_8 (by assumption) | exact sh_ring _ (by first | assumption | omega) | exact sh_imgs _ (by first | assumption | omega)) (by decide) rfl (by decide) (Nat.le_of_ble_eq_true rfl) (z_X12_told (by (try simp only [ui_ne (show (157 : Nat) ≠ 161 by decide)]); exact j1.1) ?_)
          refine u_iast dX12_promiseLine_81 (by first | assumption | rfl | exact led_1 (by assumption) | exact led_2 (by assumption) | exact bk_m (by assumption) (by first | assumption | omega) | exact bk_p (by assumption) (by first | assumption | omega) | exact bk_o (by assumption) (by first | assumption | omega) | exact bk_s (by assumption) (by first | assumption | omega) | exact bk_1 (by assumption) | exact bk_2 (by assumption) | exact bk_3 (by assumption) | exact bk_4 (by assumption) | exact bk_5 (by assumption) | exact bk_6 (by assumption) | exact bk_7 (by assumption) | exact bk_8 (by assumption) | exact sh_ring _ (by first | assumption | omega) | exact sh_imgs _ (by first | assumption | omega)) (by first | with_reducible rfl | (simp only [nlit, nI_add, pk_mul]; with_reducible rfl) | rfl) (by first | assumption | omega) (by first | assumption | decide) ?_
          refine v_aload_0 dX12_promiseLine_82 ?_
          refine u_getR dX12_promiseLine_83 gf_X12_23 (by first | assumption | rfl | exact led_1 (by assumption) | exact led_2 (by assumption) | exact bk_m (by assumption) (by first | assumption | omega) | exact bk_p (by assumption) (by first | assumption | omega) | exact bk_o (by assumption) (by first | assumption | omega) | exact bk_s (by assumption) (by first | assumption | omega) | exact bk_1 (by assumption) | exact bk_2 (by assumption) | exact bk_3 (by assumption) | exact bk_4 (by assumption) | exact bk_5 (by assumption) | exact bk_6 (by assumption) | exact bk_7 (by assumption) | exact bk_8 (by assumption) | exact sh_ring _ (by first | assumption | omega) | exact sh_imgs _ (by first | assumption | omega)) (ro_X12_16 (by assumption)) ?_
          refine v_iload_1 dX12_promiseLine_86 ?_
          refine v_iconst (v := nI 4) dX12_promiseLine_87 (by decide) ?_
          refine v_iadd dX12_promiseLine_88 ?_
          refine v_aload_0 dX12_promiseLine_89 ?_
          refine v_ldcSw (i := 50) dX12_promiseLine_90 (by decide) rfl rfl ?_
          refine v_iconst (v := nI 0) dX12_promiseLine_93 (by decide) ?_
          refine v_bipush (v := nI 99) dX12_promiseLine_94 (by decide) ?_
          refine u_callV_3 dX12_promiseLine_96 ml_X12_235 mv_X12_told (by first | assumption | rfl | exact led_1 (by assumption) | exact led_2 (by assumption) | exact bk_m (by assumption) (by first | assumption | omega) | exact bk_p (by assumption) (by first | assumption | omega) | exact bk_o (by assumption) (by first | assumption | omega) | exact bk_s (by assumption) (by first | assumption | omega) | exact bk_1 (by assumption) | exact bk_2 (by assumption) | exact bk_3 (by assumption) | exact bk_4 (by assumption) | exact bk_5 (by assumption) | exact bk_6 (by assumption) | exact bk_7 (by assumption) | exact bk_8 (by assumption) | exact sh_ring _ (by first | assumption | omega) | exact sh_imgs _ (by first | assumption | omega)) (by decide) rfl (by decide) (Nat.le_of_ble_eq_true rfl) (z_X12_told (by (try simp only [ui_ne (show (157 : Nat) ≠ 161 by decide)]); exact j1.1) ?_)
          refine u_iast dX12_promiseLine_99 (by first | assumption | rfl | exact led_1 (by assumption) | exact led_2 (by assumption) | exact bk_m (by assumption) (by first | assumption | omega) | exact bk_p (by assumption) (by first | assumption | omega) | exact bk_o (by assumption) (by first | assumption | omega) | exact bk_s (by assumption) (by first | assumption | omega) | exact bk_1 (by assumption) | exact bk_2 (by assumption) | exact bk_3 (by assumption) | exact bk_4 (by assumption) | exact bk_5 (by assumption) | exact bk_6 (by assumption) | exact bk_7 (by assumption) | exact bk_8 (by assumption) | exact sh_ring _ (by first | assumption | omega) | exact sh_imgs _ (by first | assumption | omega)) (by first | with_reducible rfl | (simp only [nlit, nI_add, pk_mul]; with_reducible rfl) | rfl) (by first | assumption | omega) (by first | assumption | decide) ?_
          refine v_aload_0 dX12_promiseLine_100 ?_
          refine u_getR dX12_promiseLine_101 gf_X12_23 (by first | assumption | rfl | exact led_1 (by assumption) | exact led_2 (by assumption) | exact bk_m (by assumption) (by first | assumption | omega) | exact bk_p (by assumption) (by first | assumption | omega) | exact bk_o (by assumption) (by first | assumption | omega) | exact bk_s (by assumption) (by first | assumption | omega) | exact bk_1 (by assumption) | exact bk_2 (by assumption) | exact bk_3 (by assumption) | exact bk_4 (by assumption) | exact bk_5 (by assumption) | exact bk_6 (by assumption) | exact bk_7 (by assumption) | exact bk_8 (by assumption) | exact sh_ring _ (by first | assumption | omega) | exact sh_imgs _ (by first | assumption | omega)) (ro_X12_16 (by assumption)) ?_
          refine v_iload_1 dX12_promiseLine_104 ?_
          refine v_iconst (v := nI 5) dX12_promiseLine_105 (by decide) ?_
          refine v_iadd dX12_promiseLine_106 ?_
          refine v_aload_0 dX12_promiseLine_107 ?_
          refine v_ldcSw (i := 51) dX12_promiseLine_108 (by decide) rfl rfl ?_
          refine v_iconst (v := nI 0) dX12_promiseLine_111 (by decide) ?_
          refine v_bipush (v := nI 99) dX12_promiseLine_112 (by decide) ?_
          refine u_callV_3 dX12_promiseLine_114 ml_X12_235 mv_X12_told (by first | assumption | rfl | exact led_1 (by assumption) | exact led_2 (by assumption) | exact bk_m (by assumption) (by first | assumption | omega) | exact bk_p (by assumption) (by first | assumption | omega) | exact bk_o (by assumption) (by first | assumption | omega) | exact bk_s (by assumption) (by first | assumption | omega) | exact bk_1 (by assumption) | exact bk_2 (by assumption) | exact bk_3 (by assumption) | exact bk_4 (by assumption) | exact bk_5 (by assumption) | exact bk_6 (by assumption) | exact bk_7 (by assumption) | exact bk_8 (by assumption) | exact sh_ring _ (by first | assumption | omega) | exact sh_imgs _ (by first | assumption | omega)) (by decide) rfl (by decide) (Nat.le_of_ble_eq_true rfl) (z_X12_told (by (try simp only [ui_ne (show (157 : Nat) ≠ 161 by decide)]); exact j1.1) ?_)
          refine u_iast dX12_promiseLine_117 (by first | assumption | rfl | exact led_1 (by assumption) | exact led_2 (by assumption) | exact bk_m (by assumption) (by first | assumption | omega) | exact bk_p (by assumption) (by first | assumption | omega) | exact bk_o (by assumption) (by first | assumption | omega) | exact bk_s (by assumption) (by first | assumption | omega) | exact bk_1 (by assumption) | exact bk_2 (by assumption) | exact bk_3 (by assumption) | exact bk_4 (by assumption) | exact bk_5 (by assumption) | exact bk_6 (by assumption) | exact bk_7 (by assumption) | exact bk_8 (by assumption) | exact sh_ring _ (by first | assumption | omega) | exact sh_imgs _ (by first | assumption | omega)) (by first | with_reducible rfl | (simp only [nlit, nI_add, pk_mul]; with_reducible rfl) | rfl) (by first | assumption | omega) (by first | assumption | decide) ?_
          refine v_aload_0 dX12_promiseLine_118 ?_
          refine u_getR dX12_promiseLine_119 gf_X12_23 (by first | assumption | rfl | exact led_1 (by assumption) | exact led_2 (by assumption) | exact bk_m (by assumption) (by first | assumption | omega) | exact bk_p (by assumption) (by first | assumption | omega) | exact bk_o (by assumption) (by first | assumption | omega) | exact bk_s (by assumption) (by first | assumption | omega) | exact bk_1 (by assumption) | exact bk_2 (by assumption) | exact bk_3 (by assumption) | exact bk_4 (by assumption) | exact bk_5 (by assumption) | exact bk_6 (by assumption) | exact bk_7 (by assumption) | exact bk_8 (by assumption) | exact sh_ring _ (by first | assumption | omega) | exact sh_imgs _ (by first | assumption | omega)) (ro_X12_16 (by assumption)) ?_
          refine v_iconst (v := nI 4) dX12_promiseLine_122 (by decide) ?_
          refine v_dup2 dX12_promiseLine_123 rfl rfl ?_
          refine u_iald dX12_promiseLine_124 (by first | assumption | rfl | exact led_1 (by assumption) | exact led_2 (by assumption) | exact bk_m (by assumption) (by first | assumption | omega) | exact bk_p (by assumption) (by first | assumption | omega) | exact bk_o (by assumption) (by first | assumption | omega) | exact bk_s (by assumption) (by first | assumption | omega) | exact bk_1 (by assumption) | exact bk_2 (by assumption) | exact bk_3 (by assumption) | exact bk_4 (by assumption) | exact bk_5 (by assumption) | exact bk_6 (by assumption) | exact bk_7 (by assumption) | exact bk_8 (by assumption) | exact sh_ring _ (by first | assumption | omega) | exact sh_imgs _ (by first | assumption | omega)) (by first | with_reducible rfl | (simp only [nlit, nI_add, pk_mul]; with_reducible rfl) | rfl) (by first | assumption | omega) (by first | assumption | decide) ?_
          refine v_iconst (v := nI 1) dX12_promiseLine_125 (by decide) ?_
          refine v_iadd dX12_promiseLine_126 ?_
          refine u_iast dX12_promiseLine_127 (by first | assumption | rfl | exact led_1 (by assumption) | exact led_2 (by assumption) | exact bk_m (by assumption) (by first | assumption | omega) | exact bk_p (by assumption) (by first | assumption | omega) | exact bk_o (by assumption) (by first | assumption | omega) | exact bk_s (by assumption) (by first | assumption | omega) | exact bk_1 (by assumption) | exact bk_2 (by assumption) | exact bk_3 (by assumption) | exact bk_4 (by assumption) | exact bk_5 (by assumption) | exact bk_6 (by assumption) | exact bk_7 (by assumption) | exact bk_8 (by assumption) | exact sh_ring _ (by first | assumption | omega) | exact sh_imgs _ (by first | assumption | omega)) (by first | with_reducible rfl | (simp only [nlit, nI_add, pk_mul]; with_reducible rfl) | rfl) (by first | assumption | omega) (by first | assumption | decide) ?_
          refine v_vret dX12_promiseLine_128 rfl rfl rfl rfl ?_
          refine hF f p (by rw [lPromise, bnd_r q1, bnd_r q2, bnd_l q]) _ ?_ ?_
          · (repeat (first | exact j1 | apply FlM.put))
          · (repeat (first | exact jf | apply FrK.up))
        · have q3 : qWhole tp sz (wd 20) 1 (s.2.1 0) u2 = .inr (v3, u3) := q3
          have es3 : u3.2 = s.2 := e3.trans es2
          have hL := j31
          have jk := jk.trans j32.k
          refine u_iast dX12_promiseLine_63 (by first | assumption | rfl | exact led_1 (by assumption) | exact led_2 (by assumption) | exact bk_m (by assumption) (by first | assumption | omega) | exact bk_p (by assumption) (by first | assumption | omega) | exact bk_o (by assumption) (by first | assumption | omega) | exact bk_s (by assumption) (by first | assumption | omega) | exact bk_1 (by assumption) | exact bk_2 (by assumption) | exact bk_3 (by assumption) | exact bk_4 (by assumption) | exact bk_5 (by assumption) | exact bk_6 (by assumption) | exact bk_7 (by assumption) | exact bk_8 (by assumption) | exact sh_ring _ (by first | assumption | omega) | exact sh_imgs _ (by first | assumption | omega)) (by first | with_reducible rfl | (simp only [nlit, nI_add, pk_mul]; with_reducible rfl) | rfl) (by first | assumption | omega) (by first | assumption | decide) ?_
          have hL := hL.put (j := 58 + 6 * s.2.1 4) (v := v3) (by omega)
          have hG := hG.put (j := 58 + 6 * s.2.1 4) (v := v3) (by omega)
          have jk := jk.up (j := 58 + 6 * s.2.1 4) (v := nI (v3))
          have hc_0 := (setF_n (k := 58 + 6 * s.2.1 4) (v := v3) (show 0 ≠ 58 + 6 * s.2.1 4 by omega)).trans hc_0
          have hc_4 := (setF_n (k := 58 + 6 * s.2.1 4) (v := v3) (show 4 ≠ 58 + 6 * s.2.1 4 by omega)).trans hc_4
          refine v_aload_0 dX12_promiseLine_64 ?_
          refine u_getR dX12_promiseLine_65 gf_X12_23 (by first | assumption | rfl | exact led_1 (by assumption) | exact led_2 (by assumption) | exact bk_m (by assumption) (by first | assumption | omega) | exact bk_p (by assumption) (by first | assumption | omega) | exact bk_o (by assumption) (by first | assumption | omega) | exact bk_s (by assumption) (by first | assumption | omega) | exact bk_1 (by assumption) | exact bk_2 (by assumption) | exact bk_3 (by assumption) | exact bk_4 (by assumption) | exact bk_5 (by assumption) | exact bk_6 (by assumption) | exact bk_7 (by assumption) | exact bk_8 (by assumption) | exact sh_ring _ (by first | assumption | omega) | exact sh_imgs _ (by first | assumption | omega)) (ro_X12_16 (by assumption)) ?_
          refine v_iload_1 dX12_promiseLine_68 ?_
          refine v_iconst (v := nI 3) dX12_promiseLine_69 (by decide) ?_
          refine v_iadd dX12_promiseLine_70 ?_
          rw [show nI (56 + 6 * s.2.1 4) + nI 3 = nI (59 + 6 * s.2.1 4) by rw [nI_add]; congr 1; omega]
          refine v_aload_0 dX12_promiseLine_71 ?_
          refine v_ldcSw (i := 49) dX12_promiseLine_72 (by decide) rfl rfl ?_
          refine v_iconst (v := nI 0) dX12_promiseLine_75 (by decide) ?_
          refine v_bipush (v := nI 99) dX12_promiseLine_76 (by decide) ?_
          refine u_callV_3 dX12_promiseLine_78 ml_X12_235 mv_X12_told (by first | assumption | rfl | exact led_1 (by assumption) | exact led_2 (by assumption) | exact bk_m (by assumption) (by first | assumption | omega) | exact bk_p (by assumption) (by first | assumption | omega) | exact bk_o (by assumption) (by first | assumption | omega) | exact bk_s (by assumption) (by first | assumption | omega) | exact bk_1 (by assumption) | exact bk_2 (by assumption) | exact bk_3 (by assumption) | exact bk_4 (by assumption) | exact bk_5 (by assumption) | exact bk_6 (by assumption) | exact bk_7 (by assumption) | exact bk_8 (by assumption) | exact sh_ring _ (by first | assumption | omega) | exact sh_imgs _ (by first | assumption | omega)) (by decide) rfl (by decide) (Nat.le_of_ble_eq_true rfl) (c_X12_told (i := 49) (lo := 0) (hi := 99) (s := u3) (by decide) (by omega) (by omega) hR hL (fun f p q J j1 j2 => ?_) (fun v4 u4 q4 e4 g4 h4 w4 J4 j41 j42 => ?_))
          · have q : qWhole tp sz (wd 21) 0 99 u3 = .inl (f, p) := q
            have jf := jk.trans j2.k
            refine u_iast dX12_promiseLine_81 (by first | assumption | rfl | exact led_1 (by assumption) | exact led_2 (by assumption) | exact bk_m (by assumption) (by first | assumption | omega) | exact bk_p (by assumption) (by first | assumption | omega) | exact bk_o (by assumption) (by first | assumption | omega) | exact bk_s (by assumption) (by first | assumption | omega) | exact bk_1 (by assumption) | exact bk_2 (by assumption) | exact bk_3 (by assumption) | exact bk_4 (by assumption) | exact bk_5 (by assumption) | exact bk_6 (by assumption) | exact bk_7 (by assumption) | exact bk_8 (by assumption) | exact sh_ring _ (by first | assumption | omega) | exact sh_imgs _ (by first | assumption | omega)) (by first | with_reducible rfl | (simp only [nlit, nI_add, pk_mul]; with_reducible rfl) | rfl) (by first | assumption | omega) (by first | assumption | decide) ?_
            refine v_aload_0 dX12_promiseLine_82 ?_
            refine u_getR dX12_promiseLine_83 gf_X12_23 (by first | assumption | rfl | exact led_1 (by assumption) | exact led_2 (by assumption) | exact bk_m (by assumption) (by first | assumption | omega) | exact bk_p (by assumption) (by first | assumption | omega) | exact bk_o (by assumption) (by first | assumption | omega) | exact bk_s (by assumption) (by first | assumption | omega) | exact bk_1 (by assumption) | exact bk_2 (by assumption) | exact bk_3 (by assumption) | exact bk_4 (by assumption) | exact bk_5 (by assumption) | exact bk_6 (by assumption) | exact bk_7 (by assumption) | exact bk_8 (by assumption) | exact sh_ring _ (by first | assumption | omega) | exact sh_imgs _ (by first | assumption | omega)) (ro_X12_16 (by assumption)) ?_
            refine v_iload_1 dX12_promiseLine_86 ?_
            refine v_iconst (v := nI 4) dX12_promiseLine_87 (by decide) ?_
            refine v_iadd dX12_promiseLine_88 ?_
            refine v_aload_0 dX12_promiseLine_89 ?_
            refine v_ldcSw (i := 50) dX12_promiseLine_90 (by decide) rfl rfl ?_
            refine v_iconst (v := nI 0) dX12_promiseLine_93 (by decide) ?_
            refine v_bipush (v := nI 99) dX12_promiseLine_94 (by decide) ?_
            refine u_callV_3 dX12_promiseLine_96 ml_X12_235 mv_X12_told (by first | assumption | rfl | exact led_1 (by assumption) | exact led_2 (by assumption) | exact bk_m (by assumption) (by first | assumption | omega) | exact bk_p (by assumption) (by first | assumption | omega) | exact bk_o (by assumption) (by first | assumption | omega) | exact bk_s (by assumption) (by first | assumption | omega) | exact bk_1 (by assumption) | exact bk_2 (by assumption) | exact bk_3 (by assumption) | exact bk_4 (by assumption) | exact bk_5 (by assumption) | exact bk_6 (by assumption) | exact bk_7 (by assumption) | exact bk_8 (by assumption) | exact sh_ring _ (by first | assumption | omega) | exact sh_imgs _ (by first | assumption | omega)) (by decide) rfl (by decide) (Nat.le_of_ble_eq_true rfl) (z_X12_told (by (try simp only [ui_ne (show (157 : Nat) ≠ 161 by decide)]); exact j1.1) ?_)
            refine u_iast dX12_promiseLine_99 (by first | assumption | rfl | exact led_1 (by assumption) | exact led_2 (by assumption) | exact bk_m (by assumption) (by first | assumption | omega) | exact bk_p (by assumption) (by first | assumption | omega) | exact bk_o (by assumption) (by first | assumption | omega) | exact bk_s (by assumption) (by first | assumption | omega) | exact bk_1 (by assumption) | exact bk_2 (by assumption) | exact bk_3 (by assumption) | exact bk_4 (by assumption) | exact bk_5 (by assumption) | exact bk_6 (by assumption) | exact bk_7 (by assumption) | exact bk_8 (by assumption) | exact sh_ring _ (by first | assumption | omega) | exact sh_imgs _ (by first | assumption | omega)) (by first | with_reducible rfl | (simp only [nlit, nI_add, pk_mul]; with_reducible rfl) | rfl) (by first | assumption | omega) (by first | assumption | decide) ?_
            refine v_aload_0 dX12_promiseLine_100 ?_
            refine u_getR dX12_promiseLine_101 gf_X12_23 (by first | assumption | rfl | exact led_1 (by assumption) | exact led_2 (by assumption) | exact bk_m (by assumption) (by first | assumption | omega) | exact bk_p (by assumption) (by first | assumption | omega) | exact bk_o (by assumption) (by first | assumption | omega) | exact bk_s (by assumption) (by first | assumption | omega) | exact bk_1 (by assumption) | exact bk_2 (by assumption) | exact bk_3 (by assumption) | exact bk_4 (by assumption) | exact bk_5 (by assumption) | exact bk_6 (by assumption) | exact bk_7 (by assumption) | exact bk_8 (by assumption) | exact sh_ring _ (by first | assumption | omega) | exact sh_imgs _ (by first | assumption | omega)) (ro_X12_16 (by assumption)) ?_
            refine v_iload_1 dX12_promiseLine_104 ?_
            refine v_iconst (v := nI 5) dX12_promiseLine_105 (by decide) ?_
            refine v_iadd dX12_promiseLine_106 ?_
            refine v_aload_0 dX12_promiseLine_107 ?_
            refine v_ldcSw (i := 51) dX12_promiseLine_108 (by decide) rfl rfl ?_
            refine v_iconst (v := nI 0) dX12_promiseLine_111 (by decide) ?_
            refine v_bipush (v := nI 99) dX12_promiseLine_112 (by decide) ?_
            refine u_callV_3 dX12_promiseLine_114 ml_X12_235 mv_X12_told (by first | assumption | rfl | exact led_1 (by assumption) | exact led_2 (by assumption) | exact bk_m (by assumption) (by first | assumption | omega) | exact bk_p (by assumption) (by first | assumption | omega) | exact bk_o (by assumption) (by first | assumption | omega) | exact bk_s (by assumption) (by first | assumption | omega) | exact bk_1 (by assumption) | exact bk_2 (by assumption) | exact bk_3 (by assumption) | exact bk_4 (by assumption) | exact bk_5 (by assumption) | exact bk_6 (by assumption) | exact bk_7 (by assumption) | exact bk_8 (by assumption) | exact sh_ring _ (by first | assumption | omega) | exact sh_imgs _ (by first | assumption | omega)) (by decide) rfl (by decide) (Nat.le_of_ble_eq_true rfl) (z_X12_told (by (try simp only [ui_ne (show (157 : Nat) ≠ 161 by decide)]); exact j1.1) ?_)
            refine u_iast dX12_promiseLine_117 (by first | assumption | rfl | exact led_1 (by assumption) | exact led_2 (by assumption) | exact bk_m (by assumption) (by first | assumption | omega) | exact bk_p (by assumption) (by first | assumption | omega) | exact bk_o (by assumption) (by first | assumption | omega) | exact bk_s (by assumption) (by first | assumption | omega) | exact bk_1 (by assumption) | exact bk_2 (by assumption) | exact bk_3 (by assumption) | exact bk_4 (by assumption) | exact bk_5 (by assumption) | exact bk_6 (by assumption) | exact bk_7 (by assumption) | exact bk_8 (by assumption) | exact sh_ring _ (by first | assumption | omega) | exact sh_imgs _ (by first | assumption | omega)) (by first | with_reducible rfl | (simp only [nlit, nI_add, pk_mul]; with_reducible rfl) | rfl) (by first | assumption | omega) (by first | assumption | decide) ?_
            refine v_aload_0 dX12_promiseLine_118 ?_
            refine u_getR dX12_promiseLine_119 gf_X12_23 (by first | assumption | rfl | exact led_1 (by assumption) | exact led_2 (by assumption) | exact bk_m (by assumption) (by first | assumption | omega) | exact bk_p (by assumption) (by first | assumption | omega) | exact bk_o (by assumption) (by first | assumption | omega) | exact bk_s (by assumption) (by first | assumption | omega) | exact bk_1 (by assumption) | exact bk_2 (by assumption) | exact bk_3 (by assumption) | exact bk_4 (by assumption) | exact bk_5 (by assumption) | exact bk_6 (by assumption) | exact bk_7 (by assumption) | exact bk_8 (by assumption) | exact sh_ring _ (by first | assumption | omega) | exact sh_imgs _ (by first | assumption | omega)) (ro_X12_16 (by assumption)) ?_
            refine v_iconst (v := nI 4) dX12_promiseLine_122 (by decide) ?_
            refine v_dup2 dX12_promiseLine_123 rfl rfl ?_
            refine u_iald dX12_promiseLine_124 (by first | assumption | rfl | exact led_1 (by assumption) | exact led_2 (by assumption) | exact bk_m (by assumption) (by first | assumption | omega) | exact bk_p (by assumption) (by first | assumption | omega) | exact bk_o (by assumption) (by first | assumption | omega) | exact bk_s (by assumption) (by first | assumption | omega) | exact bk_1 (by assumption) | exact bk_2 (by assumption) | exact bk_3 (by assumption) | exact bk_4 (by assumption) | exact bk_5 (by assumption) | exact bk_6 (by assumption) | exact bk_7 (by assumption) | exact bk_8 (by assumption) | exact sh_ring _ (by first | assumption | omega) | exact sh_imgs _ (by first | assumption | omega)) (by first | with_reducible rfl | (simp only [nlit, nI_add, pk_mul]; with_reducible rfl) | rfl) (by first | assumption | omega) (by first | assumption | decide) ?_
            refine v_iconst (v := nI 1) dX12_promiseLine_125 (by decide) ?_
            refine v_iadd dX12_promiseLine_126 ?_
            refine u_iast dX12_promiseLine_127 (by first | assumption | rfl | exact led_1 (by assumption) | exact led_2 (by assumption) | exact bk_m (by assumption) (by first | assumption | omega) | exact bk_p (by assumption) (by first | assumption | omega) | exact bk_o (by assumption) (by first | assumption | omega) | exact bk_s (by assumption) (by first | assumption | omega) | exact bk_1 (by assumption) | exact bk_2 (by assumption) | exact bk_3 (by assumption) | exact bk_4 (by assumption) | exact bk_5 (by assumption) | exact bk_6 (by assumption) | exact bk_7 (by assumption) | exact bk_8 (by assumption) | exact sh_ring _ (by first | assumption | omega) | exact sh_imgs _ (by first | assumption | omega)) (by first | with_reducible rfl | (simp only [nlit, nI_add, pk_mul]; with_reducible rfl) | rfl) (by first | assumption | omega) (by first | assumption | decide) ?_
            refine v_vret dX12_promiseLine_128 rfl rfl rfl rfl ?_
            refine hF f p (by rw [lPromise, bnd_r q1, bnd_r q2, bnd_r q3, bnd_l q]) _ ?_ ?_
            · (repeat (first | exact j1 | apply FlM.put))
            · (repeat (first | exact jf | apply FrK.up))
          · have q4 : qWhole tp sz (wd 21) 0 99 u3 = .inr (v4, u4) := q4
            have es4 : u4.2 = s.2 := e4.trans es3
            have hL := j41
            have jk := jk.trans j42.k
            refine u_iast dX12_promiseLine_81 (by first | assumption | rfl | exact led_1 (by assumption) | exact led_2 (by assumption) | exact bk_m (by assumption) (by first | assumption | omega) | exact bk_p (by assumption) (by first | assumption | omega) | exact bk_o (by assumption) (by first | assumption | omega) | exact bk_s (by assumption) (by first | assumption | omega) | exact bk_1 (by assumption) | exact bk_2 (by assumption) | exact bk_3 (by assumption) | exact bk_4 (by assumption) | exact bk_5 (by assumption) | exact bk_6 (by assumption) | exact bk_7 (by assumption) | exact bk_8 (by assumption) | exact sh_ring _ (by first | assumption | omega) | exact sh_imgs _ (by first | assumption | omega)) (by first | with_reducible rfl | (simp only [nlit, nI_add, pk_mul]; with_reducible rfl) | rfl) (by first | assumption | omega) (by first | assumption | decide) ?_
            have hL := hL.put (j := 59 + 6 * s.2.1 4) (v := v4) (by omega)
            have hG := hG.put (j := 59 + 6 * s.2.1 4) (v := v4) (by omega)
            have jk := jk.up (j := 59 + 6 * s.2.1 4) (v := nI (v4))
            have hc_0 := (setF_n (k := 59 + 6 * s.2.1 4) (v := v4) (show 0 ≠ 59 + 6 * s.2.1 4 by omega)).trans hc_0
            have hc_4 := (setF_n (k := 59 + 6 * s.2.1 4) (v := v4) (show 4 ≠ 59 + 6 * s.2.1 4 by omega)).trans hc_4
            refine v_aload_0 dX12_promiseLine_82 ?_
            refine u_getR dX12_promiseLine_83 gf_X12_23 (by first | assumption | rfl | exact led_1 (by assumption) | exact led_2 (by assumption) | exact bk_m (by assumption) (by first | assumption | omega) | exact bk_p (by assumption) (by first | assumption | omega) | exact bk_o (by assumption) (by first | assumption | omega) | exact bk_s (by assumption) (by first | assumption | omega) | exact bk_1 (by assumption) | exact bk_2 (by assumption) | exact bk_3 (by assumption) | exact bk_4 (by assumption) | exact bk_5 (by assumption) | exact bk_6 (by assumption) | exact bk_7 (by assumption) | exact bk_8 (by assumption) | exact sh_ring _ (by first | assumption | omega) | exact sh_imgs _ (by first | assumption | omega)) (ro_X12_16 (by assumption)) ?_
            refine v_iload_1 dX12_promiseLine_86 ?_
            refine v_iconst (v := nI 4) dX12_promiseLine_87 (by decide) ?_
            refine v_iadd dX12_promiseLine_88 ?_
            rw [show nI (56 + 6 * s.2.1 4) + nI 4 = nI (60 + 6 * s.2.1 4) by rw [nI_add]; congr 1; omega]
            refine v_aload_0 dX12_promiseLine_89 ?_
            refine v_ldcSw (i := 50) dX12_promiseLine_90 (by decide) rfl rfl ?_
            refine v_iconst (v := nI 0) dX12_promiseLine_93 (by decide) ?_
            refine v_bipush (v := nI 99) dX12_promiseLine_94 (by decide) ?_
            refine u_callV_3 dX12_promiseLine_96 ml_X12_235 mv_X12_told (by first | assumption | rfl | exact led_1 (by assumption) | exact led_2 (by assumption) | exact bk_m (by assumption) (by first | assumption | omega) | exact bk_p (by assumption) (by first | assumption | omega) | exact bk_o (by assumption) (by first | assumption | omega) | exact bk_s (by assumption) (by first | assumption | omega) | exact bk_1 (by assumption) | exact bk_2 (by assumption) | exact bk_3 (by assumption) | exact bk_4 (by assumption) | exact bk_5 (by assumption) | exact bk_6 (by assumption) | exact bk_7 (by assumption) | exact bk_8 (by assumption) | exact sh_ring _ (by first | assumption | omega) | exact sh_imgs _ (by first | assumption | omega)) (by decide) rfl (by decide) (Nat.le_of_ble_eq_true rfl) (c_X12_told (i := 50) (lo := 0) (hi := 99) (s := u4) (by decide) (by omega) (by omega) hR hL (fun f p q J j1 j2 => ?_) (fun v5 u5 q5 e5 g5 h5 w5 J5 j51 j52 => ?_))
            · have q : qWhole tp sz (wd 22) 0 99 u4 = .inl (f, p) := q
              have jf := jk.trans j2.k
              refine u_iast dX12_promiseLine_99 (by first | assumption | rfl | exact led_1 (by assumption) | exact led_2 (by assumption) | exact bk_m (by assumption) (by first | assumption | omega) | exact bk_p (by assumption) (by first | assumption | omega) | exact bk_o (by assumption) (by first | assumption | omega) | exact bk_s (by assumption) (by first | assumption | omega) | exact bk_1 (by assumption) | exact bk_2 (by assumption) | exact bk_3 (by assumption) | exact bk_4 (by assumption) | exact bk_5 (by assumption) | exact bk_6 (by assumption) | exact bk_7 (by assumption) | exact bk_8 (by assumption) | exact sh_ring _ (by first | assumption | omega) | exact sh_imgs _ (by first | assumption | omega)) (by first | with_reducible rfl | (simp only [nlit, nI_add, pk_mul]; with_reducible rfl) | rfl) (by first | assumption | omega) (by first | assumption | decide) ?_
              refine v_aload_0 dX12_promiseLine_100 ?_
              refine u_getR dX12_promiseLine_101 gf_X12_23 (by first | assumption | rfl | exact led_1 (by assumption) | exact led_2 (by assumption) | exact bk_m (by assumption) (by first | assumption | omega) | exact bk_p (by assumption) (by first | assumption | omega) | exact bk_o (by assumption) (by first | assumption | omega) | exact bk_s (by assumption) (by first | assumption | omega) | exact bk_1 (by assumption) | exact bk_2 (by assumption) | exact bk_3 (by assumption) | exact bk_4 (by assumption) | exact bk_5 (by assumption) | exact bk_6 (by assumption) | exact bk_7 (by assumption) | exact bk_8 (by assumption) | exact sh_ring _ (by first | assumption | omega) | exact sh_imgs _ (by first | assumption | omega)) (ro_X12_16 (by assumption)) ?_
              refine v_iload_1 dX12_promiseLine_104 ?_
              refine v_iconst (v := nI 5) dX12_promiseLine_105 (by decide) ?_
              refine v_iadd dX12_promiseLine_106 ?_
              refine v_aload_0 dX12_promiseLine_107 ?_
              refine v_ldcSw (i := 51) dX12_promiseLine_108 (by decide) rfl rfl ?_
              refine v_iconst (v := nI 0) dX12_promiseLine_111 (by decide) ?_
              refine v_bipush (v := nI 99) dX12_promiseLine_112 (by decide) ?_
              refine u_callV_3 dX12_promiseLine_114 ml_X12_235 mv_X12_told (by first | assumption | rfl | exact led_1 (by assumption) | exact led_2 (by assumption) | exact bk_m (by assumption) (by first | assumption | omega) | exact bk_p (by assumption) (by first | assumption | omega) | exact bk_o (by assumption) (by first | assumption | omega) | exact bk_s (by assumption) (by first | assumption | omega) | exact bk_1 (by assumption) | exact bk_2 (by assumption) | exact bk_3 (by assumption) | exact bk_4 (by assumption) | exact bk_5 (by assumption) | exact bk_6 (by assumption) | exact bk_7 (by assumption) | exact bk_8 (by assumption) | exact sh_ring _ (by first | assumption | omega) | exact sh_imgs _ (by first | assumption | omega)) (by decide) rfl (by decide) (Nat.le_of_ble_eq_true rfl) (z_X12_told (by (try simp only [ui_ne (show (157 : Nat) ≠ 161 by decide)]); exact j1.1) ?_)
              refine u_iast dX12_promiseLine_117 (by first | assumption | rfl | exact led_1 (by assumption) | exact led_2 (by assumption) | exact bk_m (by assumption) (by first | assumption | omega) | exact bk_p (by assumption) (by first | assumption | omega) | exact bk_o (by assumption) (by first | assumption | omega) | exact bk_s (by assumption) (by first | assumption | omega) | exact bk_1 (by assumption) | exact bk_2 (by assumption) | exact bk_3 (by assumption) | exact bk_4 (by assumption) | exact bk_5 (by assumption) | exact bk_6 (by assumption) | exact bk_7 (by assumption) | exact bk_8 (by assumption) | exact sh_ring _ (by first | assumption | omega) | exact sh_imgs _ (by first | assumption | omega)) (by first | with_reducible rfl | (simp only [nlit, nI_add, pk_mul]; with_reducible rfl) | rfl) (by first | assumption | omega) (by first | assumption | decide) ?_
              refine v_aload_0 dX12_promiseLine_118 ?_
              refine u_getR dX12_promiseLine_119 gf_X12_23 (by first | assumption | rfl | exact led_1 (by assumption) | exact led_2 (by assumption) | exact bk_m (by assumption) (by first | assumption | omega) | exact bk_p (by assumption) (by first | assumption | omega) | exact bk_o (by assumption) (by first | assumption | omega) | exact bk_s (by assumption) (by first | assumption | omega) | exact bk_1 (by assumption) | exact bk_2 (by assumption) | exact bk_3 (by assumption) | exact bk_4 (by assumption) | exact bk_5 (by assumption) | exact bk_6 (by assumption) | exact bk_7 (by assumption) | exact bk_8 (by assumption) | exact sh_ring _ (by first | assumption | omega) | exact sh_imgs _ (by first | assumption | omega)) (ro_X12_16 (by assumption)) ?_
              refine v_iconst (v := nI 4) dX12_promiseLine_122 (by decide) ?_
              refine v_dup2 dX12_promiseLine_123 rfl rfl ?_
              refine u_iald dX12_promiseLine_124 (by first | assumption | rfl | exact led_1 (by assumption) | exact led_2 (by assumption) | exact bk_m (by assumption) (by first | assumption | omega) | exact bk_p (by assumption) (by first | assumption | omega) | exact bk_o (by assumption) (by first | assumption | omega) | exact bk_s (by assumption) (by first | assumption | omega) | exact bk_1 (by assumption) | exact bk_2 (by assumption) | exact bk_3 (by assumption) | exact bk_4 (by assumption) | exact bk_5 (by assumption) | exact bk_6 (by assumption) | exact bk_7 (by assumption) | exact bk_8 (by assumption) | exact sh_ring _ (by first | assumption | omega) | exact sh_imgs _ (by first | assumption | omega)) (by first | with_reducible rfl | (simp only [nlit, nI_add, pk_mul]; with_reducible rfl) | rfl) (by first | assumption | omega) (by first | assumption | decide) ?_
              refine v_iconst (v := nI 1) dX12_promiseLine_125 (by decide) ?_
              refine v_iadd dX12_promiseLine_126 ?_
              refine u_iast dX12_promiseLine_127 (by first | assumption | rfl | exact led_1 (by assumption) | exact led_2 (by assumption) | exact bk_m (by assumption) (by first | assumption | omega) | exact bk_p (by assumption) (by first | assumption | omega) | exact bk_o (by assumption) (by first | assumption | omega) | exact bk_s (by assumption) (by first | assumption | omega) | exact bk_1 (by assumption) | exact bk_2 (by assumption) | exact bk_3 (by assumption) | exact bk_4 (by assumption) | exact bk_5 (by assumption) | exact bk_6 (by assumption) | exact bk_7 (by assumption) | exact bk_8 (by assumption) | exact sh_ring _ (by first | assumption | omega) | exact sh_imgs _ (by first | assumption | omega)) (by first | with_reducible rfl | (simp only [nlit, nI_add, pk_mul]; with_reducible rfl) | rfl) (by first | assumption | omega) (by first | assumption | decide) ?_
              refine v_vret dX12_promiseLine_128 rfl rfl rfl rfl ?_
              refine hF f p (by rw [lPromise, bnd_r q1, bnd_r q2, bnd_r q3, bnd_r q4, bnd_l q]) _ ?_ ?_
              · (repeat (first | exact j1 | apply FlM.put))
              · (repeat (first | exact jf | apply FrK.up))
            · have q5 : qWhole tp sz (wd 22) 0 99 u4 = .inr (v5, u5) := q5
              have es5 : u5.2 = s.2 := e5.trans es4
              have hL := j51
              have jk := jk.trans j52.k
              refine u_iast dX12_promiseLine_99 (by first | assumption | rfl | exact led_1 (by assumption) | exact led_2 (by assumption) | exact bk_m (by assumption) (by first | assumption | omega) | exact bk_p (by assumption) (by first | assumption | omega) | exact bk_o (by assumption) (by first | assumption | omega) | exact bk_s (by assumption) (by first | assumption | omega) | exact bk_1 (by assumption) | exact bk_2 (by assumption) | exact bk_3 (by assumption) | exact bk_4 (by assumption) | exact bk_5 (by assumption) | exact bk_6 (by assumption) | exact bk_7 (by assumption) | exact bk_8 (by assumption) | exact sh_ring _ (by first | assumption | omega) | exact sh_imgs _ (by first | assumption | omega)) (by first | with_reducible rfl | (simp only [nlit, nI_add, pk_mul]; with_reducible rfl) | rfl) (by first | assumption | omega) (by first | assumption | decide) ?_
              have hL := hL.put (j := 60 + 6 * s.2.1 4) (v := v5) (by omega)
              have hG := hG.put (j := 60 + 6 * s.2.1 4) (v := v5) (by omega)
              have jk := jk.up (j := 60 + 6 * s.2.1 4) (v := nI (v5))
              have hc_0 := (setF_n (k := 60 + 6 * s.2.1 4) (v := v5) (show 0 ≠ 60 + 6 * s.2.1 4 by omega)).trans hc_0
              have hc_4 := (setF_n (k := 60 + 6 * s.2.1 4) (v := v5) (show 4 ≠ 60 + 6 * s.2.1 4 by omega)).trans hc_4
              refine v_aload_0 dX12_promiseLine_100 ?_
              refine u_getR dX12_promiseLine_101 gf_X12_23 (by first | assumption | rfl | exact led_1 (by assumption) | exact led_2 (by assumption) | exact bk_m (by assumption) (by first | assumption | omega) | exact bk_p (by assumption) (by first | assumption | omega) | exact bk_o (by assumption) (by first | assumption | omega) | exact bk_s (by assumption) (by first | assumption | omega) | exact bk_1 (by assumption) | exact bk_2 (by assumption) | exact bk_3 (by assumption) | exact bk_4 (by assumption) | exact bk_5 (by assumption) | exact bk_6 (by assumption) | exact bk_7 (by assumption) | exact bk_8 (by assumption) | exact sh_ring _ (by first | assumption | omega) | exact sh_imgs _ (by first | assumption | omega)) (ro_X12_16 (by assumption)) ?_
              refine v_iload_1 dX12_promiseLine_104 ?_
              refine v_iconst (v := nI 5) dX12_promiseLine_105 (by decide) ?_
              refine v_iadd dX12_promiseLine_106 ?_
              rw [show nI (56 + 6 * s.2.1 4) + nI 5 = nI (61 + 6 * s.2.1 4) by rw [nI_add]; congr 1; omega]
              refine v_aload_0 dX12_promiseLine_107 ?_
              refine v_ldcSw (i := 51) dX12_promiseLine_108 (by decide) rfl rfl ?_
              refine v_iconst (v := nI 0) dX12_promiseLine_111 (by decide) ?_
              refine v_bipush (v := nI 99) dX12_promiseLine_112 (by decide) ?_
              refine u_callV_3 dX12_promiseLine_114 ml_X12_235 mv_X12_told (by first | assumption | rfl | exact led_1 (by assumption) | exact led_2 (by assumption) | exact bk_m (by assumption) (by first | assumption | omega) | exact bk_p (by assumption) (by first | assumption | omega) | exact bk_o (by assumption) (by first | assumption | omega) | exact bk_s (by assumption) (by first | assumption | omega) | exact bk_1 (by assumption) | exact bk_2 (by assumption) | exact bk_3 (by assumption) | exact bk_4 (by assumption) | exact bk_5 (by assumption) | exact bk_6 (by assumption) | exact bk_7 (by assumption) | exact bk_8 (by assumption) | exact sh_ring _ (by first | assumption | omega) | exact sh_imgs _ (by first | assumption | omega)) (by decide) rfl (by decide) (Nat.le_of_ble_eq_true rfl) (c_X12_told (i := 51) (lo := 0) (hi := 99) (s := u5) (by decide) (by omega) (by omega) hR hL (fun f p q J j1 j2 => ?_) (fun v6 u6 q6 e6 g6 h6 w6 J6 j61 j62 => ?_))
              · have q : qWhole tp sz (wd 23) 0 99 u5 = .inl (f, p) := q
                have jf := jk.trans j2.k
                refine u_iast dX12_promiseLine_117 (by first | assumption | rfl | exact led_1 (by assumption) | exact led_2 (by assumption) | exact bk_m (by assumption) (by first | assumption | omega) | exact bk_p (by assumption) (by first | assumption | omega) | exact bk_o (by assumption) (by first | assumption | omega) | exact bk_s (by assumption) (by first | assumption | omega) | exact bk_1 (by assumption) | exact bk_2 (by assumption) | exact bk_3 (by assumption) | exact bk_4 (by assumption) | exact bk_5 (by assumption) | exact bk_6 (by assumption) | exact bk_7 (by assumption) | exact bk_8 (by assumption) | exact sh_ring _ (by first | assumption | omega) | exact sh_imgs _ (by first | assumption | omega)) (by first | with_reducible rfl | (simp only [nlit, nI_add, pk_mul]; with_reducible rfl) | rfl) (by first | assumption | omega) (by first | assumption | decide) ?_
                refine v_aload_0 dX12_promiseLine_118 ?_
                refine u_getR dX12_promiseLine_119 gf_X12_23 (by first | assumption | rfl | exact led_1 (by assumption) | exact led_2 (by assumption) | exact bk_m (by assumption) (by first | assumption | omega) | exact bk_p (by assumption) (by first | assumption | omega) | exact bk_o (by assumption) (by first | assumption | omega) | exact bk_s (by assumption) (by first | assumption | omega) | exact bk_1 (by assumption) | exact bk_2 (by assumption) | exact bk_3 (by assumption) | exact bk_4 (by assumption) | exact bk_5 (by assumption) | exact bk_6 (by assumption) | exact bk_7 (by assumption) | exact bk_8 (by assumption) | exact sh_ring _ (by first | assumption | omega) | exact sh_imgs _ (by first | assumption | omega)) (ro_X12_16 (by assumption)) ?_
                refine v_iconst (v := nI 4) dX12_promiseLine_122 (by decide) ?_
                refine v_dup2 dX12_promiseLine_123 rfl rfl ?_
                refine u_iald dX12_promiseLine_124 (by first | assumption | rfl | exact led_1 (by assumption) | exact led_2 (by assumption) | exact bk_m (by assumption) (by first | assumption | omega) | exact bk_p (by assumption) (by first | assumption | omega) | exact bk_o (by assumption) (by first | assumption | omega) | exact bk_s (by assumption) (by first | assumption | omega) | exact bk_1 (by assumption) | exact bk_2 (by assumption) | exact bk_3 (by assumption) | exact bk_4 (by assumption) | exact bk_5 (by assumption) | exact bk_6 (by assumption) | exact bk_7 (by assumption) | exact bk_8 (by assumption) | exact sh_ring _ (by first | assumption | omega) | exact sh_imgs _ (by first | assumption | omega)) (by first | with_reducible rfl | (simp only [nlit, nI_add, pk_mul]; with_reducible rfl) | rfl) (by first | assumption | omega) (by first | assumption | decide) ?_
                refine v_iconst (v := nI 1) dX12_promiseLine_125 (by decide) ?_
                refine v_iadd dX12_promiseLine_126 ?_
                refine u_iast dX12_promiseLine_127 (by first | assumption | rfl | exact led_1 (by assumption) | exact led_2 (by assumption) | exact bk_m (by assumption) (by first | assumption | omega) | exact bk_p (by assumption) (by first | assumption | omega) | exact bk_o (by assumption) (by first | assumption | omega) | exact bk_s (by assumption) (by first | assumption | omega) | exact bk_1 (by assumption) | exact bk_2 (by assumption) | exact bk_3 (by assumption) | exact bk_4 (by assumption) | exact bk_5 (by assumption) | exact bk_6 (by assumption) | exact bk_7 (by assumption) | exact bk_8 (by assumption) | exact sh_ring _ (by first | assumption | omega) | exact sh_imgs _ (by first | assumption | omega)) (by first | with_reducible rfl | (simp only [nlit, nI_add, pk_mul]; with_reducible rfl) | rfl) (by first | assumption | omega) (by first | assumption | decide) ?_
                refine v_vret dX12_promiseLine_128 rfl rfl rfl rfl ?_
                refine hF f p (by rw [lPromise, bnd_r q1, bnd_r q2, bnd_r q3, bnd_r q4, bnd_r q5, bnd_l q]) _ ?_ ?_
                · (repeat (first | exact j1 | apply FlM.put))
                · (repeat (first | exact jf | apply FrK.up))
              · have q6 : qWhole tp sz (wd 23) 0 99 u5 = .inr (v6, u6) := q6
                have es6 : u6.2 = s.2 := e6.trans es5
                have hL := j61
                have jk := jk.trans j62.k
                refine u_iast dX12_promiseLine_117 (by first | assumption | rfl | exact led_1 (by assumption) | exact led_2 (by assumption) | exact bk_m (by assumption) (by first | assumption | omega) | exact bk_p (by assumption) (by first | assumption | omega) | exact bk_o (by assumption) (by first | assumption | omega) | exact bk_s (by assumption) (by first | assumption | omega) | exact bk_1 (by assumption) | exact bk_2 (by assumption) | exact bk_3 (by assumption) | exact bk_4 (by assumption) | exact bk_5 (by assumption) | exact bk_6 (by assumption) | exact bk_7 (by assumption) | exact bk_8 (by assumption) | exact sh_ring _ (by first | assumption | omega) | exact sh_imgs _ (by first | assumption | omega)) (by first | with_reducible rfl | (simp only [nlit, nI_add, pk_mul]; with_reducible rfl) | rfl) (by first | assumption | omega) (by first | assumption | decide) ?_
                have hL := hL.put (j := 61 + 6 * s.2.1 4) (v := v6) (by omega)
                have hG := hG.put (j := 61 + 6 * s.2.1 4) (v := v6) (by omega)
                have jk := jk.up (j := 61 + 6 * s.2.1 4) (v := nI (v6))
                have hc_0 := (setF_n (k := 61 + 6 * s.2.1 4) (v := v6) (show 0 ≠ 61 + 6 * s.2.1 4 by omega)).trans hc_0
                have hc_4 := (setF_n (k := 61 + 6 * s.2.1 4) (v := v6) (show 4 ≠ 61 + 6 * s.2.1 4 by omega)).trans hc_4
                refine v_aload_0 dX12_promiseLine_118 ?_
                refine u_getR dX12_promiseLine_119 gf_X12_23 (by first | assumption | rfl | exact led_1 (by assumption) | exact led_2 (by assumption) | exact bk_m (by assumption) (by first | assumption | omega) | exact bk_p (by assumption) (by first | assumption | omega) | exact bk_o (by assumption) (by first | assumption | omega) | exact bk_s (by assumption) (by first | assumption | omega) | exact bk_1 (by assumption) | exact bk_2 (by assumption) | exact bk_3 (by assumption) | exact bk_4 (by assumption) | exact bk_5 (by assumption) | exact bk_6 (by assumption) | exact bk_7 (by assumption) | exact bk_8 (by assumption) | exact sh_ring _ (by first | assumption | omega) | exact sh_imgs _ (by first | assumption | omega)) (ro_X12_16 (by assumption)) ?_
                refine v_iconst (v := nI 4) dX12_promiseLine_122 (by decide) ?_
                refine v_dup2 dX12_promiseLine_123 rfl rfl ?_
                refine u_iald dX12_promiseLine_124 (by first | assumption | rfl | exact led_1 (by assumption) | exact led_2 (by assumption) | exact bk_m (by assumption) (by first | assumption | omega) | exact bk_p (by assumption) (by first | assumption | omega) | exact bk_o (by assumption) (by first | assumption | omega) | exact bk_s (by assumption) (by first | assumption | omega) | exact bk_1 (by assumption) | exact bk_2 (by assumption) | exact bk_3 (by assumption) | exact bk_4 (by assumption) | exact bk_5 (by assumption) | exact bk_6 (by assumption) | exact bk_7 (by assumption) | exact bk_8 (by assumption) | exact sh_ring _ (by first | assumption | omega) | exact sh_imgs _ (by first | assumption | omega)) (by first | with_reducible rfl | (simp only [nlit, nI_add, pk_mul]; with_reducible rfl) | rfl) (by first | assumption | omega) (by first | assumption | decide) ?_
                rw [(hL.2.2.2.2.1 4 (by decide)).1, hc_4]
                refine v_iconst (v := nI 1) dX12_promiseLine_125 (by decide) ?_
                refine v_iadd dX12_promiseLine_126 ?_
                rw [nI_add]
                refine u_iast dX12_promiseLine_127 (by first | assumption | rfl | exact led_1 (by assumption) | exact led_2 (by assumption) | exact bk_m (by assumption) (by first | assumption | omega) | exact bk_p (by assumption) (by first | assumption | omega) | exact bk_o (by assumption) (by first | assumption | omega) | exact bk_s (by assumption) (by first | assumption | omega) | exact bk_1 (by assumption) | exact bk_2 (by assumption) | exact bk_3 (by assumption) | exact bk_4 (by assumption) | exact bk_5 (by assumption) | exact bk_6 (by assumption) | exact bk_7 (by assumption) | exact bk_8 (by assumption) | exact sh_ring _ (by first | assumption | omega) | exact sh_imgs _ (by first | assumption | omega)) (by first | with_reducible rfl | (simp only [nlit, nI_add, pk_mul]; with_reducible rfl) | rfl) (by first | assumption | omega) (by first | assumption | decide) ?_
                have hL := hL.put (j := 4) (v := s.2.1 4 + 1) (by omega)
                have hG := hG.put (j := 4) (v := s.2.1 4 + 1) (by omega)
                have jk := jk.up (j := 4) (v := nI (s.2.1 4 + 1))
                refine v_vret dX12_promiseLine_128 rfl rfl rfl rfl ?_
                refine hY _ (by rw [lPromise, bnd_r q1, bnd_r q2, bnd_r q3, bnd_r q4, bnd_r q5, bnd_r q6]) _ ?_ jk
                show LvM _ _ _ _ (prF u6.2.1 v1 v2 v3 v4 v5 v6) u6.2.2
                rw [es6]
                exact hL
  · exact absurd rfl hc4
end
