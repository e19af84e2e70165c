theorem dX12_isWord_0 : decode cX12_isWord 0 = .ok (.aload_n 0, 1) := by decide +kernel
theorem dX12_isWord_1 : decode cX12_isWord 1 = .ok (.getfield 92, 3) := by decide +kernel
theorem dX12_isWord_4 : decode cX12_isWord 4 = .ok (.ifCond .ne 22, 3) := by decide +kernel
theorem dX12_isWord_7 : decode cX12_isWord 7 = .ok (.aload_n 0, 1) := by decide +kernel
theorem dX12_isWord_8 : decode cX12_isWord 8 = .ok (.getfield 82, 3) := by decide +kernel
theorem dX12_isWord_11 : decode cX12_isWord 11 = .ok (.iconst 2, 1) := by decide +kernel
theorem dX12_isWord_12 : decode cX12_isWord 12 = .ok (.if_icmp .ne 14, 3) := by decide +kernel
theorem dX12_isWord_15 : decode cX12_isWord 15 = .ok (.aload_n 0, 1) := by decide +kernel
theorem dX12_isWord_16 : decode cX12_isWord 16 = .ok (.getfield 76, 3) := by decide +kernel
theorem dX12_isWord_19 : decode cX12_isWord 19 = .ok (.aload_n 1, 1) := by decide +kernel
theorem dX12_isWord_20 : decode cX12_isWord 20 = .ok (.invokevirtual 99, 3) := by decide +kernel
theorem dX12_isWord_23 : decode cX12_isWord 23 = .ok (.if_icmp .eq 5, 3) := by decide +kernel
theorem dX12_isWord_26 : decode cX12_isWord 26 = .ok (.iconst 0, 1) := by decide +kernel
theorem dX12_isWord_27 : decode cX12_isWord 27 = .ok (.ireturn, 1) := by decide +kernel
theorem dX12_isWord_28 : decode cX12_isWord 28 = .ok (.iconst 1, 1) := by decide +kernel
theorem dX12_isWord_29 : decode cX12_isWord 29 = .ok (.istore_n 2, 1) := by decide +kernel
theorem dX12_isWord_30 : decode cX12_isWord 30 = .ok (.iconst 0, 1) := by decide +kernel
theorem dX12_isWord_31 : decode cX12_isWord 31 = .ok (.istore_n 3, 1) := by decide +kernel
theorem dX12_isWord_32 : decode cX12_isWord 32 = .ok (.iload_n 3, 1) := by decide +kernel
theorem dX12_isWord_33 : decode cX12_isWord 33 = .ok (.aload_n 0, 1) := by decide +kernel
theorem dX12_isWord_34 : decode cX12_isWord 34 = .ok (.getfield 76, 3) := by decide +kernel
theorem dX12_isWord_37 : decode cX12_isWord 37 = .ok (.if_icmp .ge 33, 3) := by decide +kernel
theorem dX12_isWord_40 : decode cX12_isWord 40 = .ok (.iload_n 2, 1) := by decide +kernel
theorem dX12_isWord_41 : decode cX12_isWord 41 = .ok (.ifCond .eq 21, 3) := by decide +kernel
theorem dX12_isWord_44 : decode cX12_isWord 44 = .ok (.aload_n 0, 1) := by decide +kernel
theorem dX12_isWord_45 : decode cX12_isWord 45 = .ok (.getfield 17, 3) := by decide +kernel
theorem dX12_isWord_48 : decode cX12_isWord 48 = .ok (.iload_n 3, 1) := by decide +kernel
theorem dX12_isWord_49 : decode cX12_isWord 49 = .ok (.iaload, 1) := by decide +kernel
theorem dX12_isWord_50 : decode cX12_isWord 50 = .ok (.aload_n 1, 1) := by decide +kernel
theorem dX12_isWord_51 : decode cX12_isWord 51 = .ok (.iload_n 3, 1) := by decide +kernel
theorem dX12_isWord_52 : decode cX12_isWord 52 = .ok (.invokevirtual 105, 3) := by decide +kernel
theorem dX12_isWord_55 : decode cX12_isWord 55 = .ok (.if_icmp .ne 7, 3) := by decide +kernel
theorem dX12_isWord_58 : decode cX12_isWord 58 = .ok (.iconst 1, 1) := by decide +kernel
theorem dX12_isWord_59 : decode cX12_isWord 59 = .ok (.goto 4, 3) := by decide +kernel
theorem dX12_isWord_62 : decode cX12_isWord 62 = .ok (.iconst 0, 1) := by decide +kernel
theorem dX12_isWord_63 : decode cX12_isWord 63 = .ok (.istore_n 2, 1) := by decide +kernel
theorem dX12_isWord_64 : decode cX12_isWord 64 = .ok (.iinc 3 1, 3) := by decide +kernel
theorem dX12_isWord_67 : decode cX12_isWord 67 = .ok (.goto (-35), 3) := by decide +kernel
theorem dX12_isWord_70 : decode cX12_isWord 70 = .ok (.iload_n 2, 1) := by decide +kernel
theorem dX12_isWord_71 : decode cX12_isWord 71 = .ok (.ireturn, 1) := by decide +kernel
theorem dX12_takes_0 : decode cX12_takes 0 = .ok (.aload_n 0, 1) := by decide +kernel
theorem dX12_takes_1 : decode cX12_takes 1 = .ok (.aload_n 1, 1) := by decide +kernel
theorem dX12_takes_2 : decode cX12_takes 2 = .ok (.invokevirtual 109, 3) := by decide +kernel
theorem dX12_takes_5 : decode cX12_takes 5 = .ok (.ifCond .ne 5, 3) := by decide +kernel
theorem dX12_takes_8 : decode cX12_takes 8 = .ok (.iconst 0, 1) := by decide +kernel
theorem dX12_takes_9 : decode cX12_takes 9 = .ok (.ireturn, 1) := by decide +kernel
theorem dX12_takes_10 : decode cX12_takes 10 = .ok (.aload_n 0, 1) := by decide +kernel
theorem dX12_takes_11 : decode cX12_takes 11 = .ok (.invokevirtual 113, 3) := by decide +kernel
theorem dX12_takes_14 : decode cX12_takes 14 = .ok (.iconst 1, 1) := by decide +kernel
theorem dX12_takes_15 : decode cX12_takes 15 = .ok (.ireturn, 1) := by decide +kernel
theorem dX12_must_0 : decode cX12_must 0 = .ok (.aload_n 0, 1) := by decide +kernel
theorem dX12_must_1 : decode cX12_must 1 = .ok (.getfield 92, 3) := by decide +kernel
theorem dX12_must_4 : decode cX12_must 4 = .ok (.ifCond .ne 20, 3) := by decide +kernel
theorem dX12_must_7 : decode cX12_must 7 = .ok (.aload_n 0, 1) := by decide +kernel
theorem dX12_must_8 : decode cX12_must 8 = .ok (.aload_n 1, 1) := by decide +kernel
theorem dX12_must_9 : decode cX12_must 9 = .ok (.invokevirtual 116, 3) := by decide +kernel
theorem dX12_must_12 : decode cX12_must 12 = .ok (.ifCond .ne 12, 3) := by decide +kernel
theorem dX12_must_15 : decode cX12_must 15 = .ok (.aload_n 0, 1) := by decide +kernel
theorem dX12_must_16 : decode cX12_must 16 = .ok (.iconst 1, 1) := by decide +kernel
theorem dX12_must_17 : decode cX12_must 17 = .ok (.aload_n 0, 1) := by decide +kernel
theorem dX12_must_18 : decode cX12_must 18 = .ok (.getfield 73, 3) := by decide +kernel
theorem dX12_must_21 : decode cX12_must 21 = .ok (.invokevirtual 119, 3) := by decide +kernel
theorem dX12_must_24 : decode cX12_must 24 = .ok (.return_, 1) := by decide +kernel
theorem dX12_mustName_0 : decode cX12_mustName 0 = .ok (.aload_n 0, 1) := by decide +kernel
theorem dX12_mustName_1 : decode cX12_mustName 1 = .ok (.ldc 123, 2) := by decide +kernel
theorem dX12_mustName_3 : decode cX12_mustName 3 = .ok (.invokevirtual 109, 3) := by decide +kernel
theorem dX12_mustName_6 : decode cX12_mustName 6 = .ok (.ifCond .ne 111, 3) := by decide +kernel
theorem dX12_mustName_9 : decode cX12_mustName 9 = .ok (.aload_n 0, 1) := by decide +kernel
theorem dX12_mustName_10 : decode cX12_mustName 10 = .ok (.ldc 125, 2) := by decide +kernel
theorem dX12_mustName_12 : decode cX12_mustName 12 = .ok (.invokevirtual 109, 3) := by decide +kernel
theorem dX12_mustName_15 : decode cX12_mustName 15 = .ok (.ifCond .ne 102, 3) := by decide +kernel
theorem dX12_mustName_18 : decode cX12_mustName 18 = .ok (.aload_n 0, 1) := by decide +kernel
theorem dX12_mustName_19 : decode cX12_mustName 19 = .ok (.ldc 127, 2) := by decide +kernel
theorem dX12_mustName_21 : decode cX12_mustName 21 = .ok (.invokevirtual 109, 3) := by decide +kernel
theorem dX12_mustName_24 : decode cX12_mustName 24 = .ok (.ifCond .ne 93, 3) := by decide +kernel
theorem dX12_mustName_27 : decode cX12_mustName 27 = .ok (.aload_n 0, 1) := by decide +kernel
theorem dX12_mustName_28 : decode cX12_mustName 28 = .ok (.ldc 129, 2) := by decide +kernel
theorem dX12_mustName_30 : decode cX12_mustName 30 = .ok (.invokevirtual 109, 3) := by decide +kernel
theorem dX12_mustName_33 : decode cX12_mustName 33 = .ok (.ifCond .ne 84, 3) := by decide +kernel
theorem dX12_mustName_36 : decode cX12_mustName 36 = .ok (.aload_n 0, 1) := by decide +kernel
theorem dX12_mustName_37 : decode cX12_mustName 37 = .ok (.ldc 131, 2) := by decide +kernel
theorem dX12_mustName_39 : decode cX12_mustName 39 = .ok (.invokevirtual 109, 3) := by decide +kernel
theorem dX12_mustName_42 : decode cX12_mustName 42 = .ok (.ifCond .ne 75, 3) := by decide +kernel
theorem dX12_mustName_45 : decode cX12_mustName 45 = .ok (.aload_n 0, 1) := by decide +kernel
theorem dX12_mustName_46 : decode cX12_mustName 46 = .ok (.ldc 133, 2) := by decide +kernel
theorem dX12_mustName_48 : decode cX12_mustName 48 = .ok (.invokevirtual 109, 3) := by decide +kernel
theorem dX12_mustName_51 : decode cX12_mustName 51 = .ok (.ifCond .ne 66, 3) := by decide +kernel
theorem dX12_mustName_54 : decode cX12_mustName 54 = .ok (.aload_n 0, 1) := by decide +kernel
theorem dX12_mustName_55 : decode cX12_mustName 55 = .ok (.ldc 135, 2) := by decide +kernel
theorem dX12_mustName_57 : decode cX12_mustName 57 = .ok (.invokevirtual 109, 3) := by decide +kernel
theorem dX12_mustName_60 : decode cX12_mustName 60 = .ok (.ifCond .ne 57, 3) := by decide +kernel
theorem dX12_mustName_63 : decode cX12_mustName 63 = .ok (.aload_n 0, 1) := by decide +kernel
theorem dX12_mustName_64 : decode cX12_mustName 64 = .ok (.ldc 137, 2) := by decide +kernel
theorem dX12_mustName_66 : decode cX12_mustName 66 = .ok (.invokevirtual 109, 3) := by decide +kernel
theorem dX12_mustName_69 : decode cX12_mustName 69 = .ok (.ifCond .ne 48, 3) := by decide +kernel
theorem dX12_mustName_72 : decode cX12_mustName 72 = .ok (.aload_n 0, 1) := by decide +kernel
theorem dX12_mustName_73 : decode cX12_mustName 73 = .ok (.ldc 139, 2) := by decide +kernel
theorem dX12_mustName_75 : decode cX12_mustName 75 = .ok (.invokevirtual 109, 3) := by decide +kernel
theorem dX12_mustName_78 : decode cX12_mustName 78 = .ok (.ifCond .ne 39, 3) := by decide +kernel
theorem dX12_mustName_81 : decode cX12_mustName 81 = .ok (.aload_n 0, 1) := by decide +kernel
theorem dX12_mustName_82 : decode cX12_mustName 82 = .ok (.ldc 141, 2) := by decide +kernel
theorem dX12_mustName_84 : decode cX12_mustName 84 = .ok (.invokevirtual 109, 3) := by decide +kernel
theorem dX12_mustName_87 : decode cX12_mustName 87 = .ok (.ifCond .ne 30, 3) := by decide +kernel
theorem dX12_mustName_90 : decode cX12_mustName 90 = .ok (.aload_n 0, 1) := by decide +kernel
theorem dX12_mustName_91 : decode cX12_mustName 91 = .ok (.ldc 143, 2) := by decide +kernel
theorem dX12_mustName_93 : decode cX12_mustName 93 = .ok (.invokevirtual 109, 3) := by decide +kernel
theorem dX12_mustName_96 : decode cX12_mustName 96 = .ok (.ifCond .ne 21, 3) := by decide +kernel
theorem dX12_mustName_99 : decode cX12_mustName 99 = .ok (.aload_n 0, 1) := by decide +kernel
theorem dX12_mustName_100 : decode cX12_mustName 100 = .ok (.ldc 145, 2) := by decide +kernel
theorem dX12_mustName_102 : decode cX12_mustName 102 = .ok (.invokevirtual 109, 3) := by decide +kernel
theorem dX12_mustName_105 : decode cX12_mustName 105 = .ok (.ifCond .ne 12, 3) := by decide +kernel
theorem dX12_mustName_108 : decode cX12_mustName 108 = .ok (.aload_n 0, 1) := by decide +kernel
theorem dX12_mustName_109 : decode cX12_mustName 109 = .ok (.ldc 147, 2) := by decide +kernel
theorem dX12_mustName_111 : decode cX12_mustName 111 = .ok (.invokevirtual 109, 3) := by decide +kernel
theorem dX12_mustName_114 : decode cX12_mustName 114 = .ok (.ifCond .eq 7, 3) := by decide +kernel
theorem dX12_mustName_117 : decode cX12_mustName 117 = .ok (.iconst 1, 1) := by decide +kernel
theorem dX12_mustName_118 : decode cX12_mustName 118 = .ok (.goto 4, 3) := by decide +kernel
theorem dX12_mustName_121 : decode cX12_mustName 121 = .ok (.iconst 0, 1) := by decide +kernel
theorem dX12_mustName_122 : decode cX12_mustName 122 = .ok (.istore_n 1, 1) := by decide +kernel
theorem dX12_mustName_123 : decode cX12_mustName 123 = .ok (.aload_n 0, 1) := by decide +kernel
theorem dX12_mustName_124 : decode cX12_mustName 124 = .ok (.getfield 82, 3) := by decide +kernel
theorem dX12_mustName_127 : decode cX12_mustName 127 = .ok (.iconst 2, 1) := by decide +kernel
theorem dX12_mustName_128 : decode cX12_mustName 128 = .ok (.if_icmp .ne 7, 3) := by decide +kernel
theorem dX12_mustName_131 : decode cX12_mustName 131 = .ok (.iload_n 1, 1) := by decide +kernel
theorem dX12_mustName_132 : decode cX12_mustName 132 = .ok (.ifCond .eq 12, 3) := by decide +kernel
theorem dX12_mustName_135 : decode cX12_mustName 135 = .ok (.aload_n 0, 1) := by decide +kernel
theorem dX12_mustName_136 : decode cX12_mustName 136 = .ok (.iconst 1, 1) := by decide +kernel
theorem dX12_mustName_137 : decode cX12_mustName 137 = .ok (.aload_n 0, 1) := by decide +kernel
theorem dX12_mustName_138 : decode cX12_mustName 138 = .ok (.getfield 73, 3) := by decide +kernel
theorem dX12_mustName_141 : decode cX12_mustName 141 = .ok (.invokevirtual 119, 3) := by decide +kernel
theorem dX12_mustName_144 : decode cX12_mustName 144 = .ok (.return_, 1) := by decide +kernel
theorem dX12_find_0 : decode cX12_find 0 = .ok (.iconst 0, 1) := by decide +kernel
theorem dX12_find_1 : decode cX12_find 1 = .ok (.istore_n 1, 1) := by decide +kernel
theorem dX12_find_2 : decode cX12_find 2 = .ok (.iload_n 1, 1) := by decide +kernel
theorem dX12_find_3 : decode cX12_find 3 = .ok (.bipush 17, 2) := by decide +kernel
theorem dX12_find_5 : decode cX12_find 5 = .ok (.if_icmp .ge 101, 3) := by decide +kernel
theorem dX12_find_8 : decode cX12_find 8 = .ok (.aload_n 0, 1) := by decide +kernel
theorem dX12_find_9 : decode cX12_find 9 = .ok (.getfield 23, 3) := by decide +kernel
theorem dX12_find_12 : decode cX12_find 12 = .ok (.sipush 192, 3) := by decide +kernel
theorem dX12_find_15 : decode cX12_find 15 = .ok (.iload_n 1, 1) := by decide +kernel
theorem dX12_find_16 : decode cX12_find 16 = .ok (.iadd, 1) := by decide +kernel
theorem dX12_find_17 : decode cX12_find 17 = .ok (.iaload, 1) := by decide +kernel
theorem dX12_find_18 : decode cX12_find 18 = .ok (.ifCond .le 24, 3) := by decide +kernel
theorem dX12_find_21 : decode cX12_find 21 = .ok (.aload_n 0, 1) := by decide +kernel
theorem dX12_find_22 : decode cX12_find 22 = .ok (.getfield 23, 3) := by decide +kernel
theorem dX12_find_25 : decode cX12_find 25 = .ok (.sipush 192, 3) := by decide +kernel
theorem dX12_find_28 : decode cX12_find 28 = .ok (.iload_n 1, 1) := by decide +kernel
theorem dX12_find_29 : decode cX12_find 29 = .ok (.iadd, 1) := by decide +kernel
theorem dX12_find_30 : decode cX12_find 30 = .ok (.iaload, 1) := by decide +kernel
theorem dX12_find_31 : decode cX12_find 31 = .ok (.aload_n 0, 1) := by decide +kernel
theorem dX12_find_32 : decode cX12_find 32 = .ok (.getfield 76, 3) := by decide +kernel
theorem dX12_find_35 : decode cX12_find 35 = .ok (.if_icmp .ne 7, 3) := by decide +kernel
theorem dX12_find_38 : decode cX12_find 38 = .ok (.iconst 1, 1) := by decide +kernel
theorem dX12_find_39 : decode cX12_find 39 = .ok (.goto 4, 3) := by decide +kernel
theorem dX12_find_42 : decode cX12_find 42 = .ok (.iconst 0, 1) := by decide +kernel
theorem dX12_find_43 : decode cX12_find 43 = .ok (.istore_n 2, 1) := by decide +kernel
theorem dX12_find_44 : decode cX12_find 44 = .ok (.iconst 0, 1) := by decide +kernel
theorem dX12_find_45 : decode cX12_find 45 = .ok (.istore_n 3, 1) := by decide +kernel
theorem dX12_find_46 : decode cX12_find 46 = .ok (.iload_n 3, 1) := by decide +kernel
theorem dX12_find_47 : decode cX12_find 47 = .ok (.aload_n 0, 1) := by decide +kernel
theorem dX12_find_48 : decode cX12_find 48 = .ok (.getfield 76, 3) := by decide +kernel
theorem dX12_find_51 : decode cX12_find 51 = .ok (.if_icmp .ge 43, 3) := by decide +kernel
theorem dX12_find_54 : decode cX12_find 54 = .ok (.iload_n 2, 1) := by decide +kernel
theorem dX12_find_55 : decode cX12_find 55 = .ok (.ifCond .eq 39, 3) := by decide +kernel
theorem dX12_find_58 : decode cX12_find 58 = .ok (.aload_n 0, 1) := by decide +kernel
theorem dX12_find_59 : decode cX12_find 59 = .ok (.getfield 23, 3) := by decide +kernel
theorem dX12_find_62 : decode cX12_find 62 = .ok (.sipush 209, 3) := by decide +kernel
theorem dX12_find_65 : decode cX12_find 65 = .ok (.bipush 8, 2) := by decide +kernel
theorem dX12_find_67 : decode cX12_find 67 = .ok (.iload_n 1, 1) := by decide +kernel
theorem dX12_find_68 : decode cX12_find 68 = .ok (.imul, 1) := by decide +kernel
theorem dX12_find_69 : decode cX12_find 69 = .ok (.iadd, 1) := by decide +kernel
theorem dX12_find_70 : decode cX12_find 70 = .ok (.iload_n 3, 1) := by decide +kernel
theorem dX12_find_71 : decode cX12_find 71 = .ok (.iadd, 1) := by decide +kernel
theorem dX12_find_72 : decode cX12_find 72 = .ok (.iaload, 1) := by decide +kernel
theorem dX12_find_73 : decode cX12_find 73 = .ok (.aload_n 0, 1) := by decide +kernel
theorem dX12_find_74 : decode cX12_find 74 = .ok (.getfield 17, 3) := by decide +kernel
theorem dX12_find_77 : decode cX12_find 77 = .ok (.iload_n 3, 1) := by decide +kernel
theorem dX12_find_78 : decode cX12_find 78 = .ok (.iaload, 1) := by decide +kernel
theorem dX12_find_79 : decode cX12_find 79 = .ok (.if_icmp .ne 7, 3) := by decide +kernel
theorem dX12_find_82 : decode cX12_find 82 = .ok (.iconst 1, 1) := by decide +kernel
theorem dX12_find_83 : decode cX12_find 83 = .ok (.goto 4, 3) := by decide +kernel
theorem dX12_find_86 : decode cX12_find 86 = .ok (.iconst 0, 1) := by decide +kernel
theorem dX12_find_87 : decode cX12_find 87 = .ok (.istore_n 2, 1) := by decide +kernel
theorem dX12_find_88 : decode cX12_find 88 = .ok (.iinc 3 1, 3) := by decide +kernel
theorem dX12_find_91 : decode cX12_find 91 = .ok (.goto (-45), 3) := by decide +kernel
theorem dX12_find_94 : decode cX12_find 94 = .ok (.iload_n 2, 1) := by decide +kernel
theorem dX12_find_95 : decode cX12_find 95 = .ok (.ifCond .eq 5, 3) := by decide +kernel
theorem dX12_find_98 : decode cX12_find 98 = .ok (.iload_n 1, 1) := by decide +kernel
theorem dX12_find_99 : decode cX12_find 99 = .ok (.ireturn, 1) := by decide +kernel
theorem dX12_find_100 : decode cX12_find 100 = .ok (.iinc 1 1, 3) := by decide +kernel
theorem dX12_find_103 : decode cX12_find 103 = .ok (.goto (-101), 3) := by decide +kernel
theorem dX12_find_106 : decode cX12_find 106 = .ok (.iconst (-1), 1) := by decide +kernel
theorem dX12_find_107 : decode cX12_find 107 = .ok (.ireturn, 1) := by decide +kernel
theorem dX12_keepName_0 : decode cX12_keepName 0 = .ok (.iconst 0, 1) := by decide +kernel
theorem dX12_keepName_1 : decode cX12_keepName 1 = .ok (.istore_n 2, 1) := by decide +kernel
theorem dX12_keepName_2 : decode cX12_keepName 2 = .ok (.iload_n 2, 1) := by decide +kernel
theorem dX12_keepName_3 : decode cX12_keepName 3 = .ok (.aload_n 0, 1) := by decide +kernel
theorem dX12_keepName_4 : decode cX12_keepName 4 = .ok (.getfield 76, 3) := by decide +kernel
theorem dX12_keepName_7 : decode cX12_keepName 7 = .ok (.if_icmp .ge 30, 3) := by decide +kernel
theorem dX12_keepName_10 : decode cX12_keepName 10 = .ok (.aload_n 0, 1) := by decide +kernel
theorem dX12_keepName_11 : decode cX12_keepName 11 = .ok (.getfield 23, 3) := by decide +kernel
theorem dX12_keepName_14 : decode cX12_keepName 14 = .ok (.sipush 209, 3) := by decide +kernel
theorem dX12_keepName_17 : decode cX12_keepName 17 = .ok (.bipush 8, 2) := by decide +kernel
theorem dX12_keepName_19 : decode cX12_keepName 19 = .ok (.iload_n 1, 1) := by decide +kernel
theorem dX12_keepName_20 : decode cX12_keepName 20 = .ok (.imul, 1) := by decide +kernel
theorem dX12_keepName_21 : decode cX12_keepName 21 = .ok (.iadd, 1) := by decide +kernel
theorem dX12_keepName_22 : decode cX12_keepName 22 = .ok (.iload_n 2, 1) := by decide +kernel
theorem dX12_keepName_23 : decode cX12_keepName 23 = .ok (.iadd, 1) := by decide +kernel
theorem dX12_keepName_24 : decode cX12_keepName 24 = .ok (.aload_n 0, 1) := by decide +kernel
theorem dX12_keepName_25 : decode cX12_keepName 25 = .ok (.getfield 17, 3) := by decide +kernel
theorem dX12_keepName_28 : decode cX12_keepName 28 = .ok (.iload_n 2, 1) := by decide +kernel
theorem dX12_keepName_29 : decode cX12_keepName 29 = .ok (.iaload, 1) := by decide +kernel
theorem dX12_keepName_30 : decode cX12_keepName 30 = .ok (.iastore, 1) := by decide +kernel
theorem dX12_keepName_31 : decode cX12_keepName 31 = .ok (.iinc 2 1, 3) := by decide +kernel
theorem dX12_keepName_34 : decode cX12_keepName 34 = .ok (.goto (-32), 3) := by decide +kernel
theorem dX12_keepName_37 : decode cX12_keepName 37 = .ok (.aload_n 0, 1) := by decide +kernel
theorem dX12_keepName_38 : decode cX12_keepName 38 = .ok (.getfield 23, 3) := by decide +kernel
theorem dX12_keepName_41 : decode cX12_keepName 41 = .ok (.sipush 192, 3) := by decide +kernel
theorem dX12_keepName_44 : decode cX12_keepName 44 = .ok (.iload_n 1, 1) := by decide +kernel
theorem dX12_keepName_45 : decode cX12_keepName 45 = .ok (.iadd, 1) := by decide +kernel
theorem dX12_keepName_46 : decode cX12_keepName 46 = .ok (.aload_n 0, 1) := by decide +kernel
theorem dX12_keepName_47 : decode cX12_keepName 47 = .ok (.getfield 76, 3) := by decide +kernel
theorem dX12_keepName_50 : decode cX12_keepName 50 = .ok (.iastore, 1) := by decide +kernel
theorem dX12_keepName_51 : decode cX12_keepName 51 = .ok (.aload_n 0, 1) := by decide +kernel
theorem dX12_keepName_52 : decode cX12_keepName 52 = .ok (.invokevirtual 113, 3) := by decide +kernel
theorem dX12_keepName_55 : decode cX12_keepName 55 = .ok (.return_, 1) := by decide +kernel
theorem dX12_mustBeNew_0 : decode cX12_mustBeNew 0 = .ok (.aload_n 0, 1) := by decide +kernel
theorem dX12_mustBeNew_1 : decode cX12_mustBeNew 1 = .ok (.invokevirtual 148, 3) := by decide +kernel
theorem dX12_mustBeNew_4 : decode cX12_mustBeNew 4 = .ok (.aload_n 0, 1) := by decide +kernel
theorem dX12_mustBeNew_5 : decode cX12_mustBeNew 5 = .ok (.getfield 92, 3) := by decide +kernel
theorem dX12_mustBeNew_8 : decode cX12_mustBeNew 8 = .ok (.ifCond .ne 19, 3) := by decide +kernel
theorem dX12_mustBeNew_11 : decode cX12_mustBeNew 11 = .ok (.aload_n 0, 1) := by decide +kernel
theorem dX12_mustBeNew_12 : decode cX12_mustBeNew 12 = .ok (.invokevirtual 151, 3) := by decide +kernel
theorem dX12_mustBeNew_15 : decode cX12_mustBeNew 15 = .ok (.ifCond .lt 12, 3) := by decide +kernel
theorem dX12_mustBeNew_18 : decode cX12_mustBeNew 18 = .ok (.aload_n 0, 1) := by decide +kernel
theorem dX12_mustBeNew_19 : decode cX12_mustBeNew 19 = .ok (.iconst 3, 1) := by decide +kernel
theorem dX12_mustBeNew_20 : decode cX12_mustBeNew 20 = .ok (.aload_n 0, 1) := by decide +kernel
theorem dX12_mustBeNew_21 : decode cX12_mustBeNew 21 = .ok (.getfield 73, 3) := by decide +kernel
theorem dX12_mustBeNew_24 : decode cX12_mustBeNew 24 = .ok (.invokevirtual 119, 3) := by decide +kernel
theorem dX12_mustBeNew_27 : decode cX12_mustBeNew 27 = .ok (.return_, 1) := by decide +kernel
theorem dX12_named_0 : decode cX12_named 0 = .ok (.aload_n 0, 1) := by decide +kernel
theorem dX12_named_1 : decode cX12_named 1 = .ok (.getfield 92, 3) := by decide +kernel
theorem dX12_named_4 : decode cX12_named 4 = .ok (.ifCond .eq 5, 3) := by decide +kernel
theorem dX12_named_7 : decode cX12_named 7 = .ok (.iconst 0, 1) := by decide +kernel
theorem dX12_named_8 : decode cX12_named 8 = .ok (.ireturn, 1) := by decide +kernel
theorem dX12_named_9 : decode cX12_named 9 = .ok (.aload_n 0, 1) := by decide +kernel
theorem dX12_named_10 : decode cX12_named 10 = .ok (.invokevirtual 148, 3) := by decide +kernel
theorem dX12_named_13 : decode cX12_named 13 = .ok (.aload_n 0, 1) := by decide +kernel
theorem dX12_named_14 : decode cX12_named 14 = .ok (.getfield 92, 3) := by decide +kernel
theorem dX12_named_17 : decode cX12_named 17 = .ok (.ifCond .eq 5, 3) := by decide +kernel
theorem dX12_named_20 : decode cX12_named 20 = .ok (.iconst 0, 1) := by decide +kernel
theorem dX12_named_21 : decode cX12_named 21 = .ok (.ireturn, 1) := by decide +kernel
theorem dX12_named_22 : decode cX12_named 22 = .ok (.aload_n 0, 1) := by decide +kernel
theorem dX12_named_23 : decode cX12_named 23 = .ok (.invokevirtual 151, 3) := by decide +kernel
theorem dX12_named_26 : decode cX12_named 26 = .ok (.istore_n 3, 1) := by decide +kernel
theorem dX12_named_27 : decode cX12_named 27 = .ok (.iload_n 1, 1) := by decide +kernel
theorem dX12_named_28 : decode cX12_named 28 = .ok (.ifCond .ne 7, 3) := by decide +kernel
theorem dX12_named_31 : decode cX12_named 31 = .ok (.iload_n 3, 1) := by decide +kernel
theorem dX12_named_32 : decode cX12_named 32 = .ok (.goto 20, 3) := by decide +kernel
theorem dX12_named_35 : decode cX12_named 35 = .ok (.iload_n 1, 1) := by decide +kernel
theorem dX12_named_36 : decode cX12_named 36 = .ok (.iconst 1, 1) := by decide +kernel
theorem dX12_named_37 : decode cX12_named 37 = .ok (.if_icmp .ne 9, 3) := by decide +kernel
theorem dX12_named_40 : decode cX12_named 40 = .ok (.iload_n 3, 1) := by decide +kernel
theorem dX12_named_41 : decode cX12_named 41 = .ok (.iconst 5, 1) := by decide +kernel
theorem dX12_named_42 : decode cX12_named 42 = .ok (.isub, 1) := by decide +kernel
theorem dX12_named_43 : decode cX12_named 43 = .ok (.goto 9, 3) := by decide +kernel
theorem dX12_named_46 : decode cX12_named 46 = .ok (.iload_n 3, 1) := by decide +kernel
theorem dX12_named_47 : decode cX12_named 47 = .ok (.iconst 5, 1) := by decide +kernel
theorem dX12_named_48 : decode cX12_named 48 = .ok (.isub, 1) := by decide +kernel
theorem dX12_named_49 : decode cX12_named 49 = .ok (.bipush 6, 2) := by decide +kernel
theorem dX12_named_51 : decode cX12_named 51 = .ok (.isub, 1) := by decide +kernel
theorem dX12_named_52 : decode cX12_named 52 = .ok (.istore 4, 2) := by decide +kernel
theorem dX12_named_54 : decode cX12_named 54 = .ok (.iload_n 1, 1) := by decide +kernel
theorem dX12_named_55 : decode cX12_named 55 = .ok (.ifCond .ne 7, 3) := by decide +kernel
theorem dX12_named_58 : decode cX12_named 58 = .ok (.iconst 5, 1) := by decide +kernel
theorem dX12_named_59 : decode cX12_named 59 = .ok (.goto 5, 3) := by decide +kernel
theorem dX12_named_62 : decode cX12_named 62 = .ok (.bipush 6, 2) := by decide +kernel
theorem dX12_named_64 : decode cX12_named 64 = .ok (.istore 5, 2) := by decide +kernel
theorem dX12_named_66 : decode cX12_named 66 = .ok (.iload_n 3, 1) := by decide +kernel
theorem dX12_named_67 : decode cX12_named 67 = .ok (.ifCond .lt 16, 3) := by decide +kernel
theorem dX12_named_70 : decode cX12_named 70 = .ok (.iload 4, 2) := by decide +kernel
theorem dX12_named_72 : decode cX12_named 72 = .ok (.iconst 0, 1) := by decide +kernel
theorem dX12_named_73 : decode cX12_named 73 = .ok (.iload 5, 2) := by decide +kernel
theorem dX12_named_75 : decode cX12_named 75 = .ok (.iconst 1, 1) := by decide +kernel
theorem dX12_named_76 : decode cX12_named 76 = .ok (.isub, 1) := by decide +kernel
theorem dX12_named_77 : decode cX12_named 77 = .ok (.invokestatic 154, 3) := by decide +kernel
theorem dX12_named_80 : decode cX12_named 80 = .ok (.ifCond .ne 12, 3) := by decide +kernel
theorem dX12_named_83 : decode cX12_named 83 = .ok (.aload_n 0, 1) := by decide +kernel
theorem dX12_named_84 : decode cX12_named 84 = .ok (.iconst 2, 1) := by decide +kernel
theorem dX12_named_85 : decode cX12_named 85 = .ok (.aload_n 0, 1) := by decide +kernel
theorem dX12_named_86 : decode cX12_named 86 = .ok (.getfield 73, 3) := by decide +kernel
theorem dX12_named_89 : decode cX12_named 89 = .ok (.invokevirtual 119, 3) := by decide +kernel
theorem dX12_named_92 : decode cX12_named 92 = .ok (.aload_n 0, 1) := by decide +kernel
theorem dX12_named_93 : decode cX12_named 93 = .ok (.getfield 92, 3) := by decide +kernel
theorem dX12_named_96 : decode cX12_named 96 = .ok (.ifCond .ne 21, 3) := by decide +kernel
theorem dX12_named_99 : decode cX12_named 99 = .ok (.iload_n 2, 1) := by decide +kernel
theorem dX12_named_100 : decode cX12_named 100 = .ok (.iload 4, 2) := by decide +kernel
theorem dX12_named_102 : decode cX12_named 102 = .ok (.invokestatic 158, 3) := by decide +kernel
theorem dX12_named_105 : decode cX12_named 105 = .ok (.ifCond .eq 12, 3) := by decide +kernel
theorem dX12_named_108 : decode cX12_named 108 = .ok (.aload_n 0, 1) := by decide +kernel
theorem dX12_named_109 : decode cX12_named 109 = .ok (.iconst 3, 1) := by decide +kernel
theorem dX12_named_110 : decode cX12_named 110 = .ok (.aload_n 0, 1) := by decide +kernel
theorem dX12_named_111 : decode cX12_named 111 = .ok (.getfield 73, 3) := by decide +kernel
theorem dX12_named_114 : decode cX12_named 114 = .ok (.invokevirtual 119, 3) := by decide +kernel
theorem dX12_named_117 : decode cX12_named 117 = .ok (.aload_n 0, 1) := by decide +kernel
theorem dX12_named_118 : decode cX12_named 118 = .ok (.getfield 92, 3) := by decide +kernel
theorem dX12_named_121 : decode cX12_named 121 = .ok (.ifCond .eq 7, 3) := by decide +kernel
theorem dX12_named_124 : decode cX12_named 124 = .ok (.iconst 0, 1) := by decide +kernel
theorem dX12_named_125 : decode cX12_named 125 = .ok (.goto 5, 3) := by decide +kernel
theorem dX12_named_128 : decode cX12_named 128 = .ok (.iload 4, 2) := by decide +kernel
theorem dX12_named_130 : decode cX12_named 130 = .ok (.ireturn, 1) := by decide +kernel
theorem dX12_passed_0 : decode cX12_passed 0 = .ok (.aload_n 0, 1) := by decide +kernel
theorem dX12_passed_1 : decode cX12_passed 1 = .ok (.iload_n 1, 1) := by decide +kernel
theorem dX12_passed_2 : decode cX12_passed 2 = .ok (.iload_n 2, 1) := by decide +kernel
theorem dX12_passed_3 : decode cX12_passed 3 = .ok (.invokevirtual 162, 3) := by decide +kernel
theorem dX12_passed_6 : decode cX12_passed 6 = .ok (.istore_n 3, 1) := by decide +kernel
theorem dX12_passed_7 : decode cX12_passed 7 = .ok (.aload_n 0, 1) := by decide +kernel
theorem dX12_passed_8 : decode cX12_passed 8 = .ok (.getfield 92, 3) := by decide +kernel
theorem dX12_passed_11 : decode cX12_passed 11 = .ok (.ifCond .ne 7, 3) := by decide +kernel
theorem dX12_passed_14 : decode cX12_passed 14 = .ok (.aload_n 0, 1) := by decide +kernel
theorem dX12_passed_15 : decode cX12_passed 15 = .ok (.invokevirtual 113, 3) := by decide +kernel
theorem dX12_passed_18 : decode cX12_passed 18 = .ok (.iload_n 3, 1) := by decide +kernel
theorem dX12_passed_19 : decode cX12_passed 19 = .ok (.ireturn, 1) := by decide +kernel
theorem dX12_number_0 : decode cX12_number 0 = .ok (.aload_n 0, 1) := by decide +kernel
theorem dX12_number_1 : decode cX12_number 1 = .ok (.getfield 92, 3) := by decide +kernel
theorem dX12_number_4 : decode cX12_number 4 = .ok (.ifCond .eq 5, 3) := by decide +kernel
theorem dX12_number_7 : decode cX12_number 7 = .ok (.iload_n 1, 1) := by decide +kernel
theorem dX12_number_8 : decode cX12_number 8 = .ok (.ireturn, 1) := by decide +kernel
theorem dX12_number_9 : decode cX12_number 9 = .ok (.aload_n 0, 1) := by decide +kernel
theorem dX12_number_10 : decode cX12_number 10 = .ok (.getfield 82, 3) := by decide +kernel
theorem dX12_number_13 : decode cX12_number 13 = .ok (.iconst 3, 1) := by decide +kernel
theorem dX12_number_14 : decode cX12_number 14 = .ok (.if_icmp .eq 14, 3) := by decide +kernel
theorem dX12_number_17 : decode cX12_number 17 = .ok (.aload_n 0, 1) := by decide +kernel
theorem dX12_number_18 : decode cX12_number 18 = .ok (.iconst 1, 1) := by decide +kernel
theorem dX12_number_19 : decode cX12_number 19 = .ok (.aload_n 0, 1) := by decide +kernel
theorem dX12_number_20 : decode cX12_number 20 = .ok (.getfield 73, 3) := by decide +kernel
theorem dX12_number_23 : decode cX12_number 23 = .ok (.invokevirtual 119, 3) := by decide +kernel
theorem dX12_number_26 : decode cX12_number 26 = .ok (.iload_n 1, 1) := by decide +kernel
theorem dX12_number_27 : decode cX12_number 27 = .ok (.ireturn, 1) := by decide +kernel
theorem dX12_number_28 : decode cX12_number 28 = .ok (.aload_n 0, 1) := by decide +kernel
theorem dX12_number_29 : decode cX12_number 29 = .ok (.getfield 79, 3) := by decide +kernel
theorem dX12_number_32 : decode cX12_number 32 = .ok (.istore_n 3, 1) := by decide +kernel
theorem dX12_number_33 : decode cX12_number 33 = .ok (.iload_n 3, 1) := by decide +kernel
theorem dX12_number_34 : decode cX12_number 34 = .ok (.iload_n 1, 1) := by decide +kernel
theorem dX12_number_35 : decode cX12_number 35 = .ok (.iload_n 2, 1) := by decide +kernel
theorem dX12_number_36 : decode cX12_number 36 = .ok (.invokestatic 154, 3) := by decide +kernel
theorem dX12_number_39 : decode cX12_number 39 = .ok (.ifCond .ne 14, 3) := by decide +kernel
theorem dX12_number_42 : decode cX12_number 42 = .ok (.aload_n 0, 1) := by decide +kernel
theorem dX12_number_43 : decode cX12_number 43 = .ok (.iconst 4, 1) := by decide +kernel
theorem dX12_number_44 : decode cX12_number 44 = .ok (.aload_n 0, 1) := by decide +kernel
theorem dX12_number_45 : decode cX12_number 45 = .ok (.getfield 73, 3) := by decide +kernel
theorem dX12_number_48 : decode cX12_number 48 = .ok (.invokevirtual 119, 3) := by decide +kernel
theorem dX12_number_51 : decode cX12_number 51 = .ok (.iload_n 1, 1) := by decide +kernel
theorem dX12_number_52 : decode cX12_number 52 = .ok (.ireturn, 1) := by decide +kernel
theorem dX12_number_53 : decode cX12_number 53 = .ok (.aload_n 0, 1) := by decide +kernel
theorem dX12_number_54 : decode cX12_number 54 = .ok (.invokevirtual 113, 3) := by decide +kernel
theorem dX12_number_57 : decode cX12_number 57 = .ok (.iload_n 3, 1) := by decide +kernel
theorem dX12_number_58 : decode cX12_number 58 = .ok (.ireturn, 1) := by decide +kernel
theorem dX12_told_0 : decode cX12_told 0 = .ok (.aload_n 0, 1) := by decide +kernel
theorem dX12_told_1 : decode cX12_told 1 = .ok (.aload_n 1, 1) := by decide +kernel
theorem dX12_told_2 : decode cX12_told 2 = .ok (.invokevirtual 166, 3) := by decide +kernel
theorem dX12_told_5 : decode cX12_told 5 = .ok (.aload_n 0, 1) := by decide +kernel
theorem dX12_told_6 : decode cX12_told 6 = .ok (.iload_n 2, 1) := by decide +kernel
theorem dX12_told_7 : decode cX12_told 7 = .ok (.iload_n 3, 1) := by decide +kernel
theorem dX12_told_8 : decode cX12_told 8 = .ok (.invokevirtual 170, 3) := by decide +kernel
theorem dX12_told_11 : decode cX12_told 11 = .ok (.ireturn, 1) := by decide +kernel
theorem dX12_comma_0 : decode cX12_comma 0 = .ok (.aload_n 0, 1) := by decide +kernel
theorem dX12_comma_1 : decode cX12_comma 1 = .ok (.getfield 92, 3) := by decide +kernel
theorem dX12_comma_4 : decode cX12_comma 4 = .ok (.ifCond .ne 12, 3) := by decide +kernel
theorem dX12_comma_7 : decode cX12_comma 7 = .ok (.aload_n 0, 1) := by decide +kernel
theorem dX12_comma_8 : decode cX12_comma 8 = .ok (.getfield 82, 3) := by decide +kernel
theorem dX12_comma_11 : decode cX12_comma 11 = .ok (.bipush 44, 2) := by decide +kernel
theorem dX12_comma_13 : decode cX12_comma 13 = .ok (.if_icmp .eq 5, 3) := by decide +kernel
theorem dX12_comma_16 : decode cX12_comma 16 = .ok (.iconst 0, 1) := by decide +kernel
theorem dX12_comma_17 : decode cX12_comma 17 = .ok (.ireturn, 1) := by decide +kernel
theorem dX12_comma_18 : decode cX12_comma 18 = .ok (.aload_n 0, 1) := by decide +kernel
theorem dX12_comma_19 : decode cX12_comma 19 = .ok (.invokevirtual 113, 3) := by decide +kernel
theorem dX12_comma_22 : decode cX12_comma 22 = .ok (.iconst 1, 1) := by decide +kernel
theorem dX12_comma_23 : decode cX12_comma 23 = .ok (.ireturn, 1) := by decide +kernel
theorem dX12_day_0 : decode cX12_day 0 = .ok (.aload_n 0, 1) := by decide +kernel
theorem dX12_day_1 : decode cX12_day 1 = .ok (.aload_n 1, 1) := by decide +kernel
theorem dX12_day_2 : decode cX12_day 2 = .ok (.iconst 1, 1) := by decide +kernel
theorem dX12_day_3 : decode cX12_day 3 = .ok (.aload_n 0, 1) := by decide +kernel
theorem dX12_day_4 : decode cX12_day 4 = .ok (.getfield 23, 3) := by decide +kernel
theorem dX12_day_7 : decode cX12_day 7 = .ok (.iconst 0, 1) := by decide +kernel
theorem dX12_day_8 : decode cX12_day 8 = .ok (.iaload, 1) := by decide +kernel
theorem dX12_day_9 : decode cX12_day 9 = .ok (.invokevirtual 235, 3) := by decide +kernel
theorem dX12_day_12 : decode cX12_day 12 = .ok (.ireturn, 1) := by decide +kernel
/-- the reference in the midst of a text: the token at e, the book, the ledger -/
def LvM (J : HI) (tp : Nat → Nat) (sz e : Nat) (G : bkF) (l : LSt) : Prop := BsM J tp sz ∧ e ≤ sz ∧ J 157 13 = nI 0 ∧ TkM J tp sz e ∧ (∀ k, k < 345 → J 161 k = nI (G k) ∧ G k < 2 ^ 30) ∧ StI J 163 0 l
/-- it has failed -/
def FlM (J : HI) (f p : Nat) : Prop := J 157 13 = nI 1 ∧ J 157 9 = nI f ∧ J 157 10 = nI p
def FrP (I J : HI) : Prop := (∀ x, x ≠ 157 → x ≠ 159 → J x = I x) ∧ ∀ k, (k < 4 ∨ 10 < k ∧ k ≠ 13) → J 157 k = I 157 k
def NmE (G F : bkF) : Prop := ∀ k, 192 ≤ k → k < 345 → G k = F k
theorem FrP.refl {I : HI} : FrP I I := ⟨fun _ _ _ => rfl, fun _ _ => rfl⟩
theorem FrP.trans {I J K : HI} (h : FrP I J) (g : FrP J K) : FrP I K := ⟨fun x a c => (g.1 x a c).trans (h.1 x a c), fun k a => (g.2 k a).trans (h.2 k a)⟩
theorem FrT.p {I J : HI} (h : FrT I J) : FrP I J := ⟨h.1, fun k a => h.2 k (by omega)⟩
theorem LvM.nx {I J : HI} {tp : Nat → Nat} {sz e e' : Nat} {G : bkF} {l : LSt} (h : LvM I tp sz e G l) (he : e' ≤ sz) (ht : TkM J tp sz e') (f : FrT I J) : LvM J tp sz e' G l :=
  ⟨h.1.fr f, he, by rw [f.2 13 (by omega)]; exact h.2.2.1, ht, fun k hk => by rw [f.1 161 (by decide) (by decide)]; exact h.2.2.2.2.1 k hk, h.2.2.2.2.2.fr (f.1 163 (by decide) (by decide))⟩
theorem LvM.by {I : HI} {tp : Nat → Nat} {sz e : Nat} {G : bkF} {l : LSt} (h : LvM I tp sz e G l) : ∀ i, i < sz → tp i < 256 := fun i hi => (h.1.2.2 i hi).2
theorem LvM.E {I : HI} {tp : Nat → Nat} {sz e : Nat} {G : bkF} {l : LSt} (h : LvM I tp sz e G l) : tE tp sz e ≤ sz := (tE_b h.by h.2.1).2.1
theorem wrong_fl {I : HI} {f p : Nat} : FlM (ui (ui (ui I 157 13 (nI 1)) 157 9 (nI f)) 157 10 (nI p)) f p ∧ FrP I (ui (ui (ui I 157 13 (nI 1)) 157 9 (nI f)) 157 10 (nI p)) :=
  ⟨⟨by rw [ui_o (by decide), ui_o (by decide), ui_s], by rw [ui_o (by decide), ui_s], ui_s _ _ _ _⟩, fun x a c => by rw [ui_ne a, ui_ne a, ui_ne a], fun k a => by rw [ui_o (by omega), ui_o (by omega), ui_o (by omega)]⟩
def smw (tp : Nat → Nat) (a : Nat) (w : List Nat) : Nat → Bool
  | 0 => true
  | j + 1 => smw tp a w j && decide (tp (a + j) = w.getD j 0)
theorem smw_iff {tp : Nat → Nat} {a : Nat} {w : List Nat} : ∀ n, smw tp a w n = true ↔ ∀ x, x < n → tp (a + x) = w.getD x 0
  | 0 => ⟨fun _ x h => absurd h (Nat.not_lt_zero x), fun _ => rfl⟩
  | n + 1 => by
    rw [smw, Bool.and_eq_true, decide_eq_true_eq, smw_iff n]
    constructor
    · intro ⟨h1, h2⟩ x hx
      by_cases e : x = n
      · subst e; exact h2
      · exact h1 x (by omega)
    · exact fun h => ⟨fun x hx => h x (by omega), h n (by omega)⟩
theorem lt_c {tp : Nat → Nat} {sz e i : Nat} (hb : ∀ i, i < sz → tp i < 256) (he : e ≤ sz) (hk : tK tp sz e = 2) (hi : i < tE tp sz e - tA tp sz e) : tp (tA tp sz e + i) < 256 := by
  have := (tk_2 hb he hk).2.2.2.2.2 i hi
  omega
section
variable {b : Nat} {ad : Nat → Nat} {I J : HI} {L M : HL} {R : HR} {Q : QT} {tp : Nat → Nat} {sz k e : Nat} {G F : bkF} {l : LSt} {s : PS}
theorem c_X12_isWord {i : Nat} (hi : i < 56) (hR : RO R) (h : LvM I tp sz e G l) (hQ : Q (some (.int (bI (isW tp sz (wd i) e)))) SH I L R) : KK 4 mX12_isWord b ad [.ref (b + 157), .ref (ad i)] I L R Q := by
  obtain ⟨h1, he, h13, ⟨t4, t5, t6, t7, t8⟩, -, -⟩ := h
  have h8 := (wd_ok i hi).1
  have h9 := h1.2.1
  have hby : ∀ i, i < sz → tp i < 256 := fun i hi => (h1.2.2 i hi).2
  have hb := tE_b hby he
  have hk9 : tK tp sz e < 60 := by unfold tK; (repeat' split) <;> omega
  have loop : tK tp sz e = 2 → tE tp sz e - tA tp sz e = (wd i).length → ∀ (n j : Nat), j + n = (wd i).length → VV yX12_isWord cX12_isWord 4 (some .boolean) 4 Q b ad 32 [some (.ref (b + 157)), some (.ref (ad i)), some (.int (bI (smw tp (tA tp sz e) (wd i) j))), some (.int (nI j))] [] I L R := by
    intro hk2 hlen n
    obtain ⟨q8, ql⟩ := t8 hk2
    induction n with
    | zero =>
      intro j hn
      have ew : isW tp sz (wd i) e = smw tp (tA tp sz e) (wd i) j := by
        rw [show j = (wd i).length by omega]
        unfold isW tL
        rw [decide_eq_true hk2, Bool.true_and]
        cases q : smw tp (tA tp sz e) (wd i) (wd i).length with
        | true => exact decide_eq_true (wrd_eq.mpr ⟨hlen, fun x hx => (smw_iff _).mp q x (by omega)⟩)
        | false => exact decide_eq_false (fun w => by rw [(smw_iff _).mpr (fun x hx => (wrd_eq.mp w).2 x (by omega))] at q; cases q)
      rw [ew] at hQ
      refine v_iload_3 dX12_isWord_32 ?_
      refine v_aload_0 dX12_isWord_33 ?_
      refine u_getI dX12_isWord_34 gf_X12_76 (by first | assumption | rfl | exact led_1 (by assumption) | exact led_2 (by assumption) | exact bk_m (by assumption) (by first | assumption | omega) | exact bk_p (by assumption) (by first | assumption | omega) | exact bk_o (by assumption) (by first | assumption | omega) | exact bk_s (by assumption) (by first | assumption | omega) | exact bk_1 (by assumption) | exact bk_2 (by assumption) | exact bk_3 (by assumption) | exact bk_4 (by assumption) | exact bk_5 (by assumption) | exact bk_6 (by assumption) | exact bk_7 (by assumption) | exact bk_8 (by assumption) | exact sh_ring _ (by first | assumption | omega) | exact sh_imgs _ (by first | assumption | omega)) ?_
      rw [q8]
      refine v_icmp_ge (tgt := 70) dX12_isWord_37 (by decide) (fun hc37 => ?_) (fun hc37 => ?_)
      · (try rw [nI_leI (by omega) (by omega)] at hc37)
        refine v_iload_2 dX12_isWord_70 ?_
        refine v_zret dX12_isWord_71 (by first | rfl | exact bI_n _) rfl rfl rfl rfl ?_
        exact hQ
      · exact absurd (nI_le (by omega) (by omega)) hc37
    | succ n ih =>
      intro j hn
      have hj : j < (wd i).length := by omega
      have hc := lt_c hby he hk2 (i := j) (by omega)
      have hcw := wd_c hi hj
      refine v_iload_3 dX12_isWord_32 ?_
      refine v_aload_0 dX12_isWord_33 ?_
      refine u_getI dX12_isWord_34 gf_X12_76 (by first | assumption | rfl | exact led_1 (by assumption) | exact led_2 (by assumption) | exact bk_m (by assumption) (by first | assumption | omega) | exact bk_p (by assumption) (by first | assumption | omega) | exact bk_o (by assumption) (by first | assumption | omega) | exact bk_s (by assumption) (by first | assumption | omega) | exact bk_1 (by assumption) | exact bk_2 (by assumption) | exact bk_3 (by assumption) | exact bk_4 (by assumption) | exact bk_5 (by assumption) | exact bk_6 (by assumption) | exact bk_7 (by assumption) | exact bk_8 (by assumption) | exact sh_ring _ (by first | assumption | omega) | exact sh_imgs _ (by first | assumption | omega)) ?_
      rw [q8]
      refine v_icmp_ge (tgt := 70) dX12_isWord_37 (by decide) (fun hc37 => ?_) (fun hc37 => ?_)
      · exact absurd hc37 (nI_ge (by omega) (by omega))
      · (try rw [nI_leI (by omega) (by omega)] at hc37)
        refine v_iload_2 dX12_isWord_40 ?_
        refine v_if_eq (tgt := 62) dX12_isWord_41 (by decide) (fun hc41 => ?_) (fun hc41 => ?_)
        · (first | rw [bI_0, Bool.not_eq_false] at hc41 | rw [bI_0] at hc41 | rw [show (0 : Int32) = nI 0 from rfl, nI_eq (by omega) (by omega)] at hc41 | skip)
          refine v_iconst (v := nI 0) dX12_isWord_62 (by decide) ?_
          refine v_istore_2 rfl dX12_isWord_63 ?_
          refine v_iinc_3 (v := 1) rfl dX12_isWord_64 (by decide) ?_
          rw [show nI j + 1 = nI (j + 1) from nI_1 j]
          refine v_goto (tgt := 32) dX12_isWord_67 (by decide) ?_
          first
            | (have q : smw tp (tA tp sz e) (wd i) (j + 1) = false := (by rw [smw, hc41, Bool.false_and]); have z := ih (j + 1) (by omega); rw [q] at z; exact z)
            | (have q : smw tp (tA tp sz e) (wd i) (j + 1) = false := (by rw [smw, hc41, Bool.true_and]; exact decide_eq_false hc55); have z := ih (j + 1) (by omega); rw [q] at z; exact z)
            | (have q : smw tp (tA tp sz e) (wd i) (j + 1) = true := (by rw [smw, hc41, Bool.true_and]; exact decide_eq_true hc55); have z := ih (j + 1) (by omega); rw [q] at z; exact z)
        · (first | rw [bI_0, Bool.not_eq_false] at hc41 | rw [bI_0] at hc41 | rw [show (0 : Int32) = nI 0 from rfl, nI_eq (by omega) (by omega)] at hc41 | skip)
          refine v_aload_0 dX12_isWord_44 ?_
          refine u_getR dX12_isWord_45 gf_X12_17 (by first | assumption | rfl | exact led_1 (by assumption) | exact led_2 (by assumption) | exact bk_m (by assumption) (by first | assumption | omega) | exact bk_p (by assumption) (by first | assumption | omega) | exact bk_o (by assumption) (by first | assumption | omega) | exact bk_s (by assumption) (by first | assumption | omega) | exact bk_1 (by assumption) | exact bk_2 (by assumption) | exact bk_3 (by assumption) | exact bk_4 (by assumption) | exact bk_5 (by assumption) | exact bk_6 (by assumption) | exact bk_7 (by assumption) | exact bk_8 (by assumption) | exact sh_ring _ (by first | assumption | omega) | exact sh_imgs _ (by first | assumption | omega)) (ro_X12_12 (by assumption)) ?_
          refine v_iload_3 dX12_isWord_48 ?_
          refine u_iald dX12_isWord_49 (by first | assumption | rfl | exact led_1 (by assumption) | exact led_2 (by assumption) | exact bk_m (by assumption) (by first | assumption | omega) | exact bk_p (by assumption) (by first | assumption | omega) | exact bk_o (by assumption) (by first | assumption | omega) | exact bk_s (by assumption) (by first | assumption | omega) | exact bk_1 (by assumption) | exact bk_2 (by assumption) | exact bk_3 (by assumption) | exact bk_4 (by assumption) | exact bk_5 (by assumption) | exact bk_6 (by assumption) | exact bk_7 (by assumption) | exact bk_8 (by assumption) | exact sh_ring _ (by first | assumption | omega) | exact sh_imgs _ (by first | assumption | omega)) (by first | with_reducible rfl | (simp only [nlit, nI_add, pk_mul]; with_reducible rfl) | rfl) (by first | assumption | omega) (by first | assumption | decide) ?_
          rw [ql j (by omega)]
          refine v_aload_1 dX12_isWord_50 ?_
          refine v_iload_3 dX12_isWord_51 ?_
          refine v_callW_1 dX12_isWord_52 ml_X12_105 mv_J0_charAt_5068e hi rfl (by decide) (Nat.le_refl 0) (Nat.le_refl 0) (Nat.le_of_ble_eq_true rfl) (fun h => h) (c_charAt hi hj ?_)
          refine v_icmp_ne (tgt := 62) dX12_isWord_55 (by decide) (fun hc55 => ?_) (fun hc55 => ?_)
          · rw [nI_eq (by omega) (by omega)] at hc55
            refine v_iconst (v := nI 0) dX12_isWord_62 (by decide) ?_
            refine v_istore_2 rfl dX12_isWord_63 ?_
            refine v_iinc_3 (v := 1) rfl dX12_isWord_64 (by decide) ?_
            rw [show nI j + 1 = nI (j + 1) from nI_1 j]
            refine v_goto (tgt := 32) dX12_isWord_67 (by decide) ?_
            first
              | (have q : smw tp (tA tp sz e) (wd i) (j + 1) = false := (by rw [smw, hc41, Bool.false_and]); have z := ih (j + 1) (by omega); rw [q] at z; exact z)
              | (have q : smw tp (tA tp sz e) (wd i) (j + 1) = false := (by rw [smw, hc41, Bool.true_and]; exact decide_eq_false hc55); have z := ih (j + 1) (by omega); rw [q] at z; exact z)
              | (have q : smw tp (tA tp sz e) (wd i) (j + 1) = true := (by rw [smw, hc41, Bool.true_and]; exact decide_eq_true hc55); have z := ih (j + 1) (by omega); rw [q] at z; exact z)
          · rw [nI_eq (by omega) (by omega)] at hc55
            refine v_iconst (v := nI 1) dX12_isWord_58 (by decide) ?_
            refine v_goto (tgt := 63) dX12_isWord_59 (by decide) ?_
            refine v_istore_2 rfl dX12_isWord_63 ?_
            refine v_iinc_3 (v := 1) rfl dX12_isWord_64 (by decide) ?_
            rw [show nI j + 1 = nI (j + 1) from nI_1 j]
            refine v_goto (tgt := 32) dX12_isWord_67 (by decide) ?_
            first
              | (have q : smw tp (tA tp sz e) (wd i) (j + 1) = false := (by rw [smw, hc41, Bool.false_and]); have z := ih (j + 1) (by omega); rw [q] at z; exact z)
              | (have q : smw tp (tA tp sz e) (wd i) (j + 1) = false := (by rw [smw, hc41, Bool.true_and]; exact decide_eq_false hc55); have z := ih (j + 1) (by omega); rw [q] at z; exact z)
              | (have q : smw tp (tA tp sz e) (wd i) (j + 1) = true := (by rw [smw, hc41, Bool.true_and]; exact decide_eq_true hc55); have z := ih (j + 1) (by omega); rw [q] at z; exact z)
  refine K.of (M := mX12_isWord) (lv := [some (.ref (b + 157)), some (.ref (ad i)), none, none]) (by decide) (Nat.le_of_ble_eq_true rfl) rfl ?_
  refine v_aload_0 dX12_isWord_0 ?_
  refine u_getI dX12_isWord_1 gf_X12_92 (by first | assumption | rfl | exact led_1 (by assumption) | exact led_2 (by assumption) | exact bk_m (by assumption) (by first | assumption | omega) | exact bk_p (by assumption) (by first | assumption | omega) | exact bk_o (by assumption) (by first | assumption | omega) | exact bk_s (by assumption) (by first | assumption | omega) | exact bk_1 (by assumption) | exact bk_2 (by assumption) | exact bk_3 (by assumption) | exact bk_4 (by assumption) | exact bk_5 (by assumption) | exact bk_6 (by assumption) | exact bk_7 (by assumption) | exact bk_8 (by assumption) | exact sh_ring _ (by first | assumption | omega) | exact sh_imgs _ (by first | assumption | omega)) ?_
  rw [h13]
  refine v_if_ne (tgt := 26) dX12_isWord_4 (by decide) (fun hc4 => ?_) (fun hc4 => ?_)
  · exact absurd rfl hc4
  · (first | rw [bI_0, Bool.not_eq_false] at hc4 | rw [bI_0] at hc4 | rw [show (0 : Int32) = nI 0 from rfl, nI_eq (by omega) (by omega)] at hc4 | skip)
    refine v_aload_0 dX12_isWord_7 ?_
    refine u_getI dX12_isWord_8 gf_X12_82 (by first | assumption | rfl | exact led_1 (by assumption) | exact led_2 (by assumption) | exact bk_m (by assumption) (by first | assumption | omega) | exact bk_p (by assumption) (by first | assumption | omega) | exact bk_o (by assumption) (by first | assumption | omega) | exact bk_s (by assumption) (by first | assumption | omega) | exact bk_1 (by assumption) | exact bk_2 (by assumption) | exact bk_3 (by assumption) | exact bk_4 (by assumption) | exact bk_5 (by assumption) | exact bk_6 (by assumption) | exact bk_7 (by assumption) | exact bk_8 (by assumption) | exact sh_ring _ (by first | assumption | omega) | exact sh_imgs _ (by first | assumption | omega)) ?_
    rw [t6]
    refine v_iconst (v := nI 2) dX12_isWord_11 (by decide) ?_
    refine v_icmp_ne (tgt := 26) dX12_isWord_12 (by decide) (fun hc12 => ?_) (fun hc12 => ?_)
    · rw [nI_eq (by omega) (by decide)] at hc12
      refine v_iconst (v := nI 0) dX12_isWord_26 (by decide) ?_
      refine v_zret dX12_isWord_27 (by first | rfl | exact bI_n _) rfl rfl rfl rfl ?_
      first
        | exact absurd hc4 (by decide)
        | (have hw : isW tp sz (wd i) e = false := isW_f (fun q => by first | exact hc12 q.1 | (rw [(t8 q.1).1, nI_eq (by omega) (by omega)] at hc23; exact hc23 (wrd_eq.mp q.2).1)); rw [hw] at hQ; exact hQ)
    · rw [nI_eq (by omega) (by decide)] at hc12
      refine v_aload_0 dX12_isWord_15 ?_
      refine u_getI dX12_isWord_16 gf_X12_76 (by first | assumption | rfl | exact led_1 (by assumption) | exact led_2 (by assumption) | exact bk_m (by assumption) (by first | assumption | omega) | exact bk_p (by assumption) (by first | assumption | omega) | exact bk_o (by assumption) (by first | assumption | omega) | exact bk_s (by assumption) (by first | assumption | omega) | exact bk_1 (by assumption) | exact bk_2 (by assumption) | exact bk_3 (by assumption) | exact bk_4 (by assumption) | exact bk_5 (by assumption) | exact bk_6 (by assumption) | exact bk_7 (by assumption) | exact bk_8 (by assumption) | exact sh_ring _ (by first | assumption | omega) | exact sh_imgs _ (by first | assumption | omega)) ?_
      refine v_aload_1 dX12_isWord_19 ?_
      refine v_callW_0 dX12_isWord_20 ml_X12_99 mv_J0_length_8abf5 hi rfl (by decide) (Nat.le_refl 0) (Nat.le_refl 0) (Nat.le_of_ble_eq_true rfl) (fun h => h) (c_length hi ?_)
      refine v_icmp_eq (tgt := 28) dX12_isWord_23 (by decide) (fun hc23 => ?_) (fun hc23 => ?_)
      · skip
        refine v_iconst (v := nI 1) dX12_isWord_28 (by decide) ?_
        refine v_istore_2 rfl dX12_isWord_29 ?_
        refine v_iconst (v := nI 0) dX12_isWord_30 (by decide) ?_
        refine v_istore_3 rfl dX12_isWord_31 ?_
        rw [(t8 hc12).1, nI_eq (by omega) (by omega)] at hc23
        exact loop hc12 hc23 (wd i).length 0 (by omega)
      · skip
        refine v_iconst (v := nI 0) dX12_isWord_26 (by decide) ?_
        refine v_zret dX12_isWord_27 (by first | rfl | exact bI_n _) rfl rfl rfl rfl ?_
        first
          | exact absurd hc4 (by decide)
          | (have hw : isW tp sz (wd i) e = false := isW_f (fun q => by first | exact hc12 q.1 | (rw [(t8 q.1).1, nI_eq (by omega) (by omega)] at hc23; exact hc23 (wrd_eq.mp q.2).1)); rw [hw] at hQ; exact hQ)
theorem z_X12_isWord {i : Nat} (h : I 157 13 = nI 1) (hQ : Q (some (.int (bI false))) SH I L R) : KK 4 mX12_isWord b ad [.ref (b + 157), .ref (ad i)] I L R Q := by
  refine K.of (M := mX12_isWord) (lv := [some (.ref (b + 157)), some (.ref (ad i)), none, none]) (by decide) (Nat.le_of_ble_eq_true rfl) rfl ?_
  refine v_aload_0 dX12_isWord_0 ?_
  refine u_getI dX12_isWord_1 gf_X12_92 (by first | assumption | rfl | exact led_1 (by assumption) | exact led_2 (by assumption) | exact bk_m (by assumption) (by first | assumption | omega) | exact bk_p (by assumption) (by first | assumption | omega) | exact bk_o (by assumption) (by first | assumption | omega) | exact bk_s (by assumption) (by first | assumption | omega) | exact bk_1 (by assumption) | exact bk_2 (by assumption) | exact bk_3 (by assumption) | exact bk_4 (by assumption) | exact bk_5 (by assumption) | exact bk_6 (by assumption) | exact bk_7 (by assumption) | exact bk_8 (by assumption) | exact sh_ring _ (by first | assumption | omega) | exact sh_imgs _ (by first | assumption | omega)) ?_
  rw [h]
  refine v_if_ne (tgt := 26) dX12_isWord_4 (by decide) (fun hc4 => ?_) (fun hc4 => ?_)
  · (first | rw [bI_0, Bool.not_eq_false] at hc4 | rw [bI_0] at hc4 | rw [show (0 : Int32) = nI 0 from rfl, nI_eq (by omega) (by omega)] at hc4 | skip)
    refine v_iconst (v := nI 0) dX12_isWord_26 (by decide) ?_
    refine v_zret dX12_isWord_27 (by first | rfl | exact bI_n _) rfl rfl rfl rfl ?_
    exact hQ
  · exact absurd hc4 (by decide)
theorem c_X12_takes {i : Nat} (hi : i < 56) (hR : RO R) (h : LvM I tp sz e G l) (hN : isW tp sz (wd i) e = false → Q (some (.int (bI false))) SH I L R) (hY : isW tp sz (wd i) e = true → ∀ J : HI, LvM J tp sz (tE tp sz e) G l → FrP I J → Q (some (.int (bI true))) SH J L R) : KK 5 mX12_takes b ad [.ref (b + 157), .ref (ad i)] I L R Q := by
  refine K.of (M := mX12_takes) (lv := [some (.ref (b + 157)), some (.ref (ad i))]) (by decide) (Nat.le_of_ble_eq_true rfl) rfl ?_
  refine v_aload_0 dX12_takes_0 ?_
  refine v_aload_1 dX12_takes_1 ?_
  refine u_callV_1 dX12_takes_2 ml_X12_109 mv_X12_isWord (by first | assumption | rfl | exact led_1 (by assumption) | exact led_2 (by assumption) | exact bk_m (by assumption) (by first | assumption | omega) | exact bk_p (by assumption) (by first | assumption | omega) | exact bk_o (by assumption) (by first | assumption | omega) | exact bk_s (by assumption) (by first | assumption | omega) | exact bk_1 (by assumption) | exact bk_2 (by assumption) | exact bk_3 (by assumption) | exact bk_4 (by assumption) | exact bk_5 (by assumption) | exact bk_6 (by assumption) | exact bk_7 (by assumption) | exact bk_8 (by assumption) | exact sh_ring _ (by first | assumption | omega) | exact sh_imgs _ (by first | assumption | omega)) (by decide) rfl (by decide) (Nat.le_of_ble_eq_true rfl) (c_X12_isWord hi hR h ?_)
  refine v_if_ne (tgt := 10) dX12_takes_5 (by decide) (fun hc5 => ?_) (fun hc5 => ?_)
  · (first | rw [bI_0, Bool.not_eq_false] at hc5 | rw [bI_0] at hc5 | rw [show (0 : Int32) = nI 0 from rfl, nI_eq (by omega) (by omega)] at hc5 | skip)
    refine v_aload_0 dX12_takes_10 ?_
    refine u_callV_0 dX12_takes_11 ml_X12_113 mv_X12_next (by first | assumption | rfl | exact led_1 (by assumption) | exact led_2 (by assumption) | exact bk_m (by assumption) (by first | assumption | omega) | exact bk_p (by assumption) (by first | assumption | omega) | exact bk_o (by assumption) (by first | assumption | omega) | exact bk_s (by assumption) (by first | assumption | omega) | exact bk_1 (by assumption) | exact bk_2 (by assumption) | exact bk_3 (by assumption) | exact bk_4 (by assumption) | exact bk_5 (by assumption) | exact bk_6 (by assumption) | exact bk_7 (by assumption) | exact bk_8 (by assumption) | exact sh_ring _ (by first | assumption | omega) | exact sh_imgs _ (by first | assumption | omega)) (by decide) rfl (by decide) (Nat.le_of_ble_eq_true rfl) (c_X12_next hR h.1 h.E h.2.2.2.1.2.1 (fun J t1 f1 => ?_))
    refine v_iconst (v := nI 1) dX12_takes_14 (by decide) ?_
    refine v_zret dX12_takes_15 (by first | rfl | exact bI_n _) rfl rfl rfl rfl ?_
    exact hY hc5 J (h.nx h.E t1 f1) f1.p
  · (first | rw [bI_0, Bool.not_eq_false] at hc5 | rw [bI_0] at hc5 | rw [show (0 : Int32) = nI 0 from rfl, nI_eq (by omega) (by omega)] at hc5 | skip)
    refine v_iconst (v := nI 0) dX12_takes_8 (by decide) ?_
    refine v_zret dX12_takes_9 (by first | rfl | exact bI_n _) rfl rfl rfl rfl ?_
    exact hN hc5
theorem z_X12_takes {i : Nat} (h : I 157 13 = nI 1) (hQ : Q (some (.int (bI false))) SH I L R) : KK 5 mX12_takes b ad [.ref (b + 157), .ref (ad i)] I L R Q := by
  refine K.of (M := mX12_takes) (lv := [some (.ref (b + 157)), some (.ref (ad i))]) (by decide) (Nat.le_of_ble_eq_true rfl) rfl ?_
  refine v_aload_0 dX12_takes_0 ?_
  refine v_aload_1 dX12_takes_1 ?_
  refine u_callV_1 dX12_takes_2 ml_X12_109 mv_X12_isWord (by first | assumption | rfl | exact led_1 (by assumption) | exact led_2 (by assumption) | exact bk_m (by assumption) (by first | assumption | omega) | exact bk_p (by assumption) (by first | assumption | omega) | exact bk_o (by assumption) (by first | assumption | omega) | exact bk_s (by assumption) (by first | assumption | omega) | exact bk_1 (by assumption) | exact bk_2 (by assumption) | exact bk_3 (by assumption) | exact bk_4 (by assumption) | exact bk_5 (by assumption) | exact bk_6 (by assumption) | exact bk_7 (by assumption) | exact bk_8 (by assumption) | exact sh_ring _ (by first | assumption | omega) | exact sh_imgs _ (by first | assumption | omega)) (by decide) rfl (by decide) (Nat.le_of_ble_eq_true rfl) (z_X12_isWord h ?_)
  refine v_if_ne (tgt := 10) dX12_takes_5 (by decide) (fun hc5 => ?_) (fun hc5 => ?_)
  · exact absurd rfl hc5
  · (first | rw [bI_0, Bool.not_eq_false] at hc5 | rw [bI_0] at hc5 | rw [show (0 : Int32) = nI 0 from rfl, nI_eq (by omega) (by omega)] at hc5 | skip)
    refine v_iconst (v := nI 0) dX12_takes_8 (by decide) ?_
    refine v_zret dX12_takes_9 (by first | rfl | exact bI_n _) rfl rfl rfl rfl ?_
    exact hQ
theorem c_X12_must {i : Nat} (hi : i < 56) (hR : RO R) (h : LvM I tp sz s.1 G l) (hF : ∀ f p, qWord tp sz (wd i) s = .inl (f, p) → ∀ J : HI, FlM J f p → FrP I J → Q none SH J L R) (hY : ∀ u, qWord tp sz (wd i) s = .inr u → u = nx tp sz s → ∀ J : HI, LvM J tp sz u.1 G l → FrP I J → Q none SH J L R) : KK 6 mX12_must b ad [.ref (b + 157), .ref (ad i)] I L R Q := by
  have h13 := h.2.2.1
  have h4 := h.2.2.2.1.1
  refine K.of (M := mX12_must) (lv := [some (.ref (b + 157)), some (.ref (ad i))]) (by decide) (Nat.le_of_ble_eq_true rfl) rfl ?_
  refine v_aload_0 dX12_must_0 ?_
  refine u_getI dX12_must_1 gf_X12_92 (by first | assumption | rfl | exact led_1 (by assumption) | exact led_2 (by assumption) | exact bk_m (by assumption) (by first | assumption | omega) | exact bk_p (by assumption) (by first | assumption | omega) | exact bk_o (by assumption) (by first | assumption | omega) | exact bk_s (by assumption) (by first | assumption | omega) | exact bk_1 (by assumption) | exact bk_2 (by assumption) | exact bk_3 (by assumption) | exact bk_4 (by assumption) | exact bk_5 (by assumption) | exact bk_6 (by assumption) | exact bk_7 (by assumption) | exact bk_8 (by assumption) | exact sh_ring _ (by first | assumption | omega) | exact sh_imgs _ (by first | assumption | omega)) ?_
  rw [h13]
  refine v_if_ne (tgt := 24) dX12_must_4 (by decide) (fun hc4 => ?_) (fun hc4 => ?_)
  · exact absurd rfl hc4
  · (first | rw [bI_0, Bool.not_eq_false] at hc4 | rw [bI_0] at hc4 | rw [show (0 : Int32) = nI 0 from rfl, nI_eq (by omega) (by omega)] at hc4 | skip)
    refine v_aload_0 dX12_must_7 ?_
    refine v_aload_1 dX12_must_8 ?_
    refine u_callV_1 dX12_must_9 ml_X12_116 mv_X12_takes (by first | assumption | rfl | exact led_1 (by assumption) | exact led_2 (by assumption) | exact bk_m (by assumption) (by first | assumption | omega) | exact bk_p (by assumption) (by first | assumption | omega) | exact bk_o (by assumption) (by first | assumption | omega) | exact bk_s (by assumption) (by first | assumption | omega) | exact bk_1 (by assumption) | exact bk_2 (by assumption) | exact bk_3 (by assumption) | exact bk_4 (by assumption) | exact bk_5 (by assumption) | exact bk_6 (by assumption) | exact bk_7 (by assumption) | exact bk_8 (by assumption) | exact sh_ring _ (by first | assumption | omega) | exact sh_imgs _ (by first | assumption | omega)) (by decide) rfl (by decide) (Nat.le_of_ble_eq_true rfl) (c_X12_takes hi hR h (fun w => ?_) (fun w J j1 j2 => ?_))
    · refine v_if_ne (tgt := 24) dX12_must_12 (by decide) (fun hc12 => ?_) (fun hc12 => ?_)
      · exact absurd rfl hc12
      · (first | rw [bI_0, Bool.not_eq_false] at hc12 | rw [bI_0] at hc12 | rw [show (0 : Int32) = nI 0 from rfl, nI_eq (by omega) (by omega)] at hc12 | skip)
        refine v_aload_0 dX12_must_15 ?_
        refine v_iconst (v := nI 1) dX12_must_16 (by decide) ?_
        refine v_aload_0 dX12_must_17 ?_
        refine u_getI dX12_must_18 gf_X12_73 (by first | assumption | rfl | exact led_1 (by assumption) | exact led_2 (by assumption) | exact bk_m (by assumption) (by first | assumption | omega) | exact bk_p (by assumption) (by first | assumption | omega) | exact bk_o (by assumption) (by first | assumption | omega) | exact bk_s (by assumption) (by first | assumption | omega) | exact bk_1 (by assumption) | exact bk_2 (by assumption) | exact bk_3 (by assumption) | exact bk_4 (by assumption) | exact bk_5 (by assumption) | exact bk_6 (by assumption) | exact bk_7 (by assumption) | exact bk_8 (by assumption) | exact sh_ring _ (by first | assumption | omega) | exact sh_imgs _ (by first | assumption | omega)) ?_
        rw [h4]
        refine u_callV_2 dX12_must_21 ml_X12_119 mv_X12_wrong (by first | assumption | rfl | exact led_1 (by assumption) | exact led_2 (by assumption) | exact bk_m (by assumption) (by first | assumption | omega) | exact bk_p (by assumption) (by first | assumption | omega) | exact bk_o (by assumption) (by first | assumption | omega) | exact bk_s (by assumption) (by first | assumption | omega) | exact bk_1 (by assumption) | exact bk_2 (by assumption) | exact bk_3 (by assumption) | exact bk_4 (by assumption) | exact bk_5 (by assumption) | exact bk_6 (by assumption) | exact bk_7 (by assumption) | exact bk_8 (by assumption) | exact sh_ring _ (by first | assumption | omega) | exact sh_imgs _ (by first | assumption | omega)) (by decide) rfl (by decide) (Nat.le_of_ble_eq_true rfl) (c_X12_wrong h13 ?_)
        refine v_vret dX12_must_24 rfl rfl rfl rfl ?_
        exact hF 1 _ (by unfold qWord; rw [if_neg (by rw [w]; decide)]) _ wrong_fl.1 wrong_fl.2
    · refine v_if_ne (tgt := 24) dX12_must_12 (by decide) (fun hc12 => ?_) (fun hc12 => ?_)
      · (first | rw [bI_0, Bool.not_eq_false] at hc12 | rw [bI_0] at hc12 | rw [show (0 : Int32) = nI 0 from rfl, nI_eq (by omega) (by omega)] at hc12 | skip)
        refine v_vret dX12_must_24 rfl rfl rfl rfl ?_
        exact hY _ (by unfold qWord; rw [if_pos w]) rfl J j1 j2
      · exact absurd hc12 (by decide)
theorem z_X12_must {i : Nat} (h : I 157 13 = nI 1) (hQ : Q none SH I L R) : KK 6 mX12_must b ad [.ref (b + 157), .ref (ad i)] I L R Q := by
  refine K.of (M := mX12_must) (lv := [some (.ref (b + 157)), some (.ref (ad i))]) (by decide) (Nat.le_of_ble_eq_true rfl) rfl ?_
  refine v_aload_0 dX12_must_0 ?_
  refine u_getI dX12_must_1 gf_X12_92 (by first | assumption | rfl | exact led_1 (by assumption) | exact led_2 (by assumption) | exact bk_m (by assumption) (by first | assumption | omega) | exact bk_p (by assumption) (by first | assumption | omega) | exact bk_o (by assumption) (by first | assumption | omega) | exact bk_s (by assumption) (by first | assumption | omega) | exact bk_1 (by assumption) | exact bk_2 (by assumption) | exact bk_3 (by assumption) | exact bk_4 (by assumption) | exact bk_5 (by assumption) | exact bk_6 (by assumption) | exact bk_7 (by assumption) | exact bk_8 (by assumption) | exact sh_ring _ (by first | assumption | omega) | exact sh_imgs _ (by first | assumption | omega)) ?_
  rw [h]
  refine v_if_ne (tgt := 24) dX12_must_4 (by decide) (fun hc4 => ?_) (fun hc4 => ?_)
  · (first | rw [bI_0, Bool.not_eq_false] at hc4 | rw [bI_0] at hc4 | rw [show (0 : Int32) = nI 0 from rfl, nI_eq (by omega) (by omega)] at hc4 | skip)
    refine v_vret dX12_must_24 rfl rfl rfl rfl ?_
    exact hQ
  · exact absurd hc4 (by decide)
theorem c_X12_number {lo hi : Nat} (hlo : lo < 2 ^ 30) (hhi : hi < 2 ^ 30) (hR : RO R) (h : LvM I tp sz s.1 G l) (hF : ∀ f p, qNum tp sz lo hi s = .inl (f, p) → ∀ J : HI, FlM J f p → FrP I J → Q (some (.int (nI lo))) SH J L R) (hY : ∀ v u, qNum tp sz lo hi s = .inr (v, u) → u = nx tp sz s → lo ≤ v → v ≤ hi → v < 1000 → ∀ J : HI, LvM J tp sz u.1 G l → FrP I J → Q (some (.int (nI v))) SH J L R) : KK 2 mX12_number b ad [.ref (b + 157), .int (nI lo), .int (nI hi)] I L R Q := by
  obtain ⟨h1, he, h13, ⟨t4, t5, t6, t7, t8⟩, -, -⟩ := id h
  have hk9 : tK tp sz s.1 < 60 := by unfold tK; (repeat' split) <;> omega
  refine K.of (M := mX12_number) (lv := [some (.ref (b + 157)), some (.int (nI lo)), some (.int (nI hi)), none]) (by decide) (Nat.le_of_ble_eq_true rfl) rfl ?_
  refine v_aload_0 dX12_number_0 ?_
  refine u_getI dX12_number_1 gf_X12_92 (by first | assumption | rfl | exact led_1 (by assumption) | exact led_2 (by assumption) | exact bk_m (by assumption) (by first | assumption | omega) | exact bk_p (by assumption) (by first | assumption | omega) | exact bk_o (by assumption) (by first | assumption | omega) | exact bk_s (by assumption) (by first | assumption | omega) | exact bk_1 (by assumption) | exact bk_2 (by assumption) | exact bk_3 (by assumption) | exact bk_4 (by assumption) | exact bk_5 (by assumption) | exact bk_6 (by assumption) | exact bk_7 (by assumption) | exact bk_8 (by assumption) | exact sh_ring _ (by first | assumption | omega) | exact sh_imgs _ (by first | assumption | omega)) ?_
  rw [h13]
  refine v_if_eq (tgt := 9) dX12_number_4 (by decide) (fun hc4 => ?_) (fun hc4 => ?_)
  · (first | rw [bI_0, Bool.not_eq_false] at hc4 | rw [bI_0] at hc4 | rw [show (0 : Int32) = nI 0 from rfl, nI_eq (by omega) (by omega)] at hc4 | skip)
    refine v_aload_0 dX12_number_9 ?_
    refine u_getI dX12_number_10 gf_X12_82 (by first | assumption | rfl | exact led_1 (by assumption) | exact led_2 (by assumption) | exact bk_m (by assumption) (by first | assumption | omega) | exact bk_p (by assumption) (by first | assumption | omega) | exact bk_o (by assumption) (by first | assumption | omega) | exact bk_s (by assumption) (by first | assumption | omega) | exact bk_1 (by assumption) | exact bk_2 (by assumption) | exact bk_3 (by assumption) | exact bk_4 (by assumption) | exact bk_5 (by assumption) | exact bk_6 (by assumption) | exact bk_7 (by assumption) | exact bk_8 (by assumption) | exact sh_ring _ (by first | assumption | omega) | exact sh_imgs _ (by first | assumption | omega)) ?_
    rw [t6]
    refine v_iconst (v := nI 3) dX12_number_13 (by decide) ?_
    refine v_icmp_eq (tgt := 28) dX12_number_14 (by decide) (fun hc14 => ?_) (fun hc14 => ?_)
    · rw [nI_eq (by omega) (by decide)] at hc14
      refine v_aload_0 dX12_number_28 ?_
      refine u_getI dX12_number_29 gf_X12_79 (by first | assumption | rfl | exact led_1 (by assumption) | exact led_2 (by assumption) | exact bk_m (by assumption) (by first | assumption | omega) | exact bk_p (by assumption) (by first | assumption | omega) | exact bk_o (by assumption) (by first | assumption | omega) | exact bk_s (by assumption) (by first | assumption | omega) | exact bk_1 (by assumption) | exact bk_2 (by assumption) | exact bk_3 (by assumption) | exact bk_4 (by assumption) | exact bk_5 (by assumption) | exact bk_6 (by assumption) | exact bk_7 (by assumption) | exact bk_8 (by assumption) | exact sh_ring _ (by first | assumption | omega) | exact sh_imgs _ (by first | assumption | omega)) ?_
      rw [t7 hc14]
      have hw9 := tW_lt h.by he hc14
      refine v_istore_3 rfl dX12_number_32 ?_
      refine v_iload_3 dX12_number_33 ?_
      refine v_iload_1 dX12_number_34 ?_
      refine v_iload_2 dX12_number_35 ?_
      refine u_callS_3 dX12_number_36 ml_X12_154 ms_X12_within (by decide) (Nat.le_of_ble_eq_true rfl) (c_X12_within ?_)
      refine v_if_ne (tgt := 53) dX12_number_39 (by decide) (fun hc39 => ?_) (fun hc39 => ?_)
      · (first | rw [bI_0, Bool.not_eq_false] at hc39 | rw [bI_0] at hc39 | rw [show (0 : Int32) = nI 0 from rfl, nI_eq (by omega) (by omega)] at hc39 | skip)
        refine v_aload_0 dX12_number_53 ?_
        refine u_callV_0 dX12_number_54 ml_X12_113 mv_X12_next (by first | assumption | rfl | exact led_1 (by assumption) | exact led_2 (by assumption) | exact bk_m (by assumption) (by first | assumption | omega) | exact bk_p (by assumption) (by first | assumption | omega) | exact bk_o (by assumption) (by first | assumption | omega) | exact bk_s (by assumption) (by first | assumption | omega) | exact bk_1 (by assumption) | exact bk_2 (by assumption) | exact bk_3 (by assumption) | exact bk_4 (by assumption) | exact bk_5 (by assumption) | exact bk_6 (by assumption) | exact bk_7 (by assumption) | exact bk_8 (by assumption) | exact sh_ring _ (by first | assumption | omega) | exact sh_imgs _ (by first | assumption | omega)) (by decide) rfl (by decide) (Nat.le_of_ble_eq_true rfl) (c_X12_next hR h.1 h.E h.2.2.2.1.2.1 (fun J tt ff => ?_))
        refine v_iload_3 dX12_number_57 ?_
        refine v_iret dX12_number_58 rfl rfl rfl rfl ?_
        rw [Bool.and_eq_true, decide_eq_true_eq, decide_eq_true_eq, nI_leI (by omega) (by omega), nI_leI (by omega) (by omega)] at hc39
        exact hY _ _ (by unfold qNum; rw [if_pos hc14, if_pos hc39]) rfl hc39.1 hc39.2 hw9 J (h.nx h.E tt ff) ff.p
      · (first | rw [bI_0, Bool.not_eq_false] at hc39 | rw [bI_0] at hc39 | rw [show (0 : Int32) = nI 0 from rfl, nI_eq (by omega) (by omega)] at hc39 | skip)
        refine v_aload_0 dX12_number_42 ?_
        refine v_iconst (v := nI 4) dX12_number_43 (by decide) ?_
        refine v_aload_0 dX12_number_44 ?_
        refine u_getI dX12_number_45 gf_X12_73 (by first | assumption | rfl | exact led_1 (by assumption) | exact led_2 (by assumption) | exact bk_m (by assumption) (by first | assumption | omega) | exact bk_p (by assumption) (by first | assumption | omega) | exact bk_o (by assumption) (by first | assumption | omega) | exact bk_s (by assumption) (by first | assumption | omega) | exact bk_1 (by assumption) | exact bk_2 (by assumption) | exact bk_3 (by assumption) | exact bk_4 (by assumption) | exact bk_5 (by assumption) | exact bk_6 (by assumption) | exact bk_7 (by assumption) | exact bk_8 (by assumption) | exact sh_ring _ (by first | assumption | omega) | exact sh_imgs _ (by first | assumption | omega)) ?_
        rw [t4]
        refine u_callV_2 dX12_number_48 ml_X12_119 mv_X12_wrong (by first | assumption | rfl | exact led_1 (by assumption) | exact led_2 (by assumption) | exact bk_m (by assumption) (by first | assumption | omega) | exact bk_p (by assumption) (by first | assumption | omega) | exact bk_o (by assumption) (by first | assumption | omega) | exact bk_s (by assumption) (by first | assumption | omega) | exact bk_1 (by assumption) | exact bk_2 (by assumption) | exact bk_3 (by assumption) | exact bk_4 (by assumption) | exact bk_5 (by assumption) | exact bk_6 (by assumption) | exact bk_7 (by assumption) | exact bk_8 (by assumption) | exact sh_ring _ (by first | assumption | omega) | exact sh_imgs _ (by first | assumption | omega)) (by decide) rfl (by decide) (Nat.le_of_ble_eq_true rfl) (c_X12_wrong h13 ?_)
        refine v_iload_1 dX12_number_51 ?_
        refine v_iret dX12_number_52 rfl rfl rfl rfl ?_
        exact hF 4 _ (by unfold qNum; rw [if_pos hc14, if_neg (fun w => by rw [decide_eq_true ((nI_leI (by omega) (by omega)).mpr w.1), decide_eq_true ((nI_leI (by omega) (by omega)).mpr w.2)] at hc39; cases hc39)]) _ wrong_fl.1 wrong_fl.2
    · rw [nI_eq (by omega) (by decide)] at hc14
      refine v_aload_0 dX12_number_17 ?_
      refine v_iconst (v := nI 1) dX12_number_18 (by decide) ?_
      refine v_aload_0 dX12_number_19 ?_
      refine u_getI dX12_number_20 gf_X12_73 (by first | assumption | rfl | exact led_1 (by assumption) | exact led_2 (by assumption) | exact bk_m (by assumption) (by first | assumption | omega) | exact bk_p (by assumption) (by first | assumption | omega) | exact bk_o (by assumption) (by first | assumption | omega) | exact bk_s (by assumption) (by first | assumption | omega) | exact bk_1 (by assumption) | exact bk_2 (by assumption) | exact bk_3 (by assumption) | exact bk_4 (by assumption) | exact bk_5 (by assumption) | exact bk_6 (by assumption) | exact bk_7 (by assumption) | exact bk_8 (by assumption) | exact sh_ring _ (by first | assumption | omega) | exact sh_imgs _ (by first | assumption | omega)) ?_
      rw [t4]
      refine u_callV_2 dX12_number_23 ml_X12_119 mv_X12_wrong (by first | assumption | rfl | exact led_1 (by assumption) | exact led_2 (by assumption) | exact bk_m (by assumption) (by first | assumption | omega) | exact bk_p (by assumption) (by first | assumption | omega) | exact bk_o (by assumption) (by first | assumption | omega) | exact bk_s (by assumption) (by first | assumption | omega) | exact bk_1 (by assumption) | exact bk_2 (by assumption) | exact bk_3 (by assumption) | exact bk_4 (by assumption) | exact bk_5 (by assumption) | exact bk_6 (by assumption) | exact bk_7 (by assumption) | exact bk_8 (by assumption) | exact sh_ring _ (by first | assumption | omega) | exact sh_imgs _ (by first | assumption | omega)) (by decide) rfl (by decide) (Nat.le_of_ble_eq_true rfl) (c_X12_wrong h13 ?_)
      refine v_iload_1 dX12_number_26 ?_
      refine v_iret dX12_number_27 rfl rfl rfl rfl ?_
      exact hF 1 _ (by unfold qNum; rw [if_neg hc14]) _ wrong_fl.1 wrong_fl.2
  · exact absurd rfl hc4
theorem z_X12_number {x y : Int32} (h : I 157 13 = nI 1) (hQ : Q (some (.int x)) SH I L R) : KK 2 mX12_number b ad [.ref (b + 157), .int x, .int y] I L R Q := by
  refine K.of (M := mX12_number) (lv := [some (.ref (b + 157)), some (.int x), some (.int y), none]) (by decide) (Nat.le_of_ble_eq_true rfl) rfl ?_
  refine v_aload_0 dX12_number_0 ?_
  refine u_getI dX12_number_1 gf_X12_92 (by first | assumption | rfl | exact led_1 (by assumption) | exact led_2 (by assumption) | exact bk_m (by assumption) (by first | assumption | omega) | exact bk_p (by assumption) (by first | assumption | omega) | exact bk_o (by assumption) (by first | assumption | omega) | exact bk_s (by assumption) (by first | assumption | omega) | exact bk_1 (by assumption) | exact bk_2 (by assumption) | exact bk_3 (by assumption) | exact bk_4 (by assumption) | exact bk_5 (by assumption) | exact bk_6 (by assumption) | exact bk_7 (by assumption) | exact bk_8 (by assumption) | exact sh_ring _ (by first | assumption | omega) | exact sh_imgs _ (by first | assumption | omega)) ?_
  rw [h]
  refine v_if_eq (tgt := 9) dX12_number_4 (by decide) (fun hc4 => ?_) (fun hc4 => ?_)
  · exact absurd hc4 (by decide)
  · (first | rw [bI_0, Bool.not_eq_false] at hc4 | rw [bI_0] at hc4 | rw [show (0 : Int32) = nI 0 from rfl, nI_eq (by omega) (by omega)] at hc4 | skip)
    refine v_iload_1 dX12_number_7 ?_
    refine v_iret dX12_number_8 rfl rfl rfl rfl ?_
    exact hQ
theorem c_X12_told {i lo hi : Nat} (hi5 : i < 56) (hlo : lo < 2 ^ 30) (hhi : hi < 2 ^ 30) (hR : RO R) (h : LvM I tp sz s.1 G l) (hF : ∀ f p, qWhole tp sz (wd i) lo hi s = .inl (f, p) → ∀ J : HI, FlM J f p → FrP I J → Q (some (.int (nI lo))) SH J L R) (hY : ∀ v u, qWhole tp sz (wd i) lo hi s = .inr (v, u) → u.2 = s.2 → lo ≤ v → v ≤ hi → v < 1000 → ∀ J : HI, LvM J tp sz u.1 G l → FrP I J → Q (some (.int (nI v))) SH J L R) : KK 7 mX12_told b ad [.ref (b + 157), .ref (ad i), .int (nI lo), .int (nI hi)] I L R Q := by
  refine K.of (M := mX12_told) (lv := [some (.ref (b + 157)), some (.ref (ad i)), some (.int (nI lo)), some (.int (nI hi))]) (by decide) (Nat.le_of_ble_eq_true rfl) rfl ?_
  refine v_aload_0 dX12_told_0 ?_
  refine v_aload_1 dX12_told_1 ?_
  refine u_callV_1 dX12_told_2 ml_X12_166 mv_X12_must (by first | assumption | rfl | exact led_1 (by assumption) | exact led_2 (by assumption) | exact bk_m (by assumption) (by first | assumption | omega) | exact bk_p (by assumption) (by first | assumption | omega) | exact bk_o (by assumption) (by first | assumption | omega) | exact bk_s (by assumption) (by first | assumption | omega) | exact bk_1 (by assumption) | exact bk_2 (by assumption) | exact bk_3 (by assumption) | exact bk_4 (by assumption) | exact bk_5 (by assumption) | exact bk_6 (by assumption) | exact bk_7 (by assumption) | exact bk_8 (by assumption) | exact sh_ring _ (by first | assumption | omega) | exact sh_imgs _ (by first | assumption | omega)) (by decide) rfl (by decide) (Nat.le_of_ble_eq_true rfl) (c_X12_must (s := s) hi5 hR h (fun f p q J j1 j2 => ?_) (fun u q eu J j1 j2 => ?_))
  · refine v_aload_0 dX12_told_5 ?_
    refine v_iload_2 dX12_told_6 ?_
    refine v_iload_3 dX12_told_7 ?_
    refine u_callV_2 dX12_told_8 ml_X12_170 mv_X12_number (by first | assumption | rfl | exact led_1 (by assumption) | exact led_2 (by assumption) | exact bk_m (by assumption) (by first | assumption | omega) | exact bk_p (by assumption) (by first | assumption | omega) | exact bk_o (by assumption) (by first | assumption | omega) | exact bk_s (by assumption) (by first | assumption | omega) | exact bk_1 (by assumption) | exact bk_2 (by assumption) | exact bk_3 (by assumption) | exact bk_4 (by assumption) | exact bk_5 (by assumption) | exact bk_6 (by assumption) | exact bk_7 (by assumption) | exact bk_8 (by assumption) | exact sh_ring _ (by first | assumption | omega) | exact sh_imgs _ (by first | assumption | omega)) (by decide) rfl (by decide) (Nat.le_of_ble_eq_true rfl) (z_X12_number j1.1 ?_)
    refine v_iret dX12_told_11 rfl rfl rfl rfl ?_
    exact hF f p (by unfold qWhole; exact bnd_l q) J j1 j2
  · refine v_aload_0 dX12_told_5 ?_
    refine v_iload_2 dX12_told_6 ?_
    refine v_iload_3 dX12_told_7 ?_
    refine u_callV_2 dX12_told_8 ml_X12_170 mv_X12_number (by first | assumption | rfl | exact led_1 (by assumption) | exact led_2 (by assumption) | exact bk_m (by assumption) (by first | assumption | omega) | exact bk_p (by assumption) (by first | assumption | omega) | exact bk_o (by assumption) (by first | assumption | omega) | exact bk_s (by assumption) (by first | assumption | omega) | exact bk_1 (by assumption) | exact bk_2 (by assumption) | exact bk_3 (by assumption) | exact bk_4 (by assumption) | exact bk_5 (by assumption) | exact bk_6 (by assumption) | exact bk_7 (by assumption) | exact bk_8 (by assumption) | exact sh_ring _ (by first | assumption | omega) | exact sh_imgs _ (by first | assumption | omega)) (by decide) rfl (by decide) (Nat.le_of_ble_eq_true rfl) (c_X12_number (s := u) hlo hhi hR j1 (fun f p q2 J2 k1 k2 => ?_) (fun v u2 q2 eu2 g1 g2 g3 J2 k1 k2 => ?_))
    · refine v_iret dX12_told_11 rfl rfl rfl rfl ?_
      exact hF f p (by unfold qWhole; rw [bnd_r q]; exact q2) J2 k1 (j2.trans k2)
    · refine v_iret dX12_told_11 rfl rfl rfl rfl ?_
      exact hY v u2 (by unfold qWhole; rw [bnd_r q]; exact q2) (by rw [eu2, eu]; rfl) g1 g2 g3 J2 k1 (j2.trans k2)
theorem z_X12_told {i : Nat} {x y : Int32} (h : I 157 13 = nI 1) (hQ : Q (some (.int x)) SH I L R) : KK 7 mX12_told b ad [.ref (b + 157), .ref (ad i), .int x, .int y] I L R Q := by
  refine K.of (M := mX12_told) (lv := [some (.ref (b + 157)), some (.ref (ad i)), some (.int x), some (.int y)]) (by decide) (Nat.le_of_ble_eq_true rfl) rfl ?_
  refine v_aload_0 dX12_told_0 ?_
  refine v_aload_1 dX12_told_1 ?_
  refine u_callV_1 dX12_told_2 ml_X12_166 mv_X12_must (by first | assumption | rfl | exact led_1 (by assumption) | exact led_2 (by assumption) | exact bk_m (by assumption) (by first | assumption | omega) | exact bk_p (by assumption) (by first | assumption | omega) | exact bk_o (by assumption) (by first | assumption | omega) | exact bk_s (by assumption) (by first | assumption | omega) | exact bk_1 (by assumption) | exact bk_2 (by assumption) | exact bk_3 (by assumption) | exact bk_4 (by assumption) | exact bk_5 (by assumption) | exact bk_6 (by assumption) | exact bk_7 (by assumption) | exact bk_8 (by assumption) | exact sh_ring _ (by first | assumption | omega) | exact sh_imgs _ (by first | assumption | omega)) (by decide) rfl (by decide) (Nat.le_of_ble_eq_true rfl) (z_X12_must h ?_)
  refine v_aload_0 dX12_told_5 ?_
  refine v_iload_2 dX12_told_6 ?_
  refine v_iload_3 dX12_told_7 ?_
  refine u_callV_2 dX12_told_8 ml_X12_170 mv_X12_number (by first | assumption | rfl | exact led_1 (by assumption) | exact led_2 (by assumption) | exact bk_m (by assumption) (by first | assumption | omega) | exact bk_p (by assumption) (by first | assumption | omega) | exact bk_o (by assumption) (by first | assumption | omega) | exact bk_s (by assumption) (by first | assumption | omega) | exact bk_1 (by assumption) | exact bk_2 (by assumption) | exact bk_3 (by assumption) | exact bk_4 (by assumption) | exact bk_5 (by assumption) | exact bk_6 (by assumption) | exact bk_7 (by assumption) | exact bk_8 (by assumption) | exact sh_ring _ (by first | assumption | omega) | exact sh_imgs _ (by first | assumption | omega)) (by decide) rfl (by decide) (Nat.le_of_ble_eq_true rfl) (z_X12_number h ?_)
  refine v_iret dX12_told_11 rfl rfl rfl rfl ?_
  exact hQ
theorem c_X12_comma (hR : RO R) (h : LvM I tp sz e G l) (hN : tK tp sz e ≠ 44 → Q (some (.int (bI false))) SH I L R) (hY : tK tp sz e = 44 → ∀ J : HI, LvM J tp sz (tE tp sz e) G l → FrP I J → Q (some (.int (bI true))) SH J L R) : KK 2 mX12_comma b ad [.ref (b + 157)] I L R Q := by
  obtain ⟨h1, he, h13, ⟨t4, t5, t6, t7, t8⟩, -, -⟩ := id h
  have hk9 : tK tp sz e < 60 := by unfold tK; (repeat' split) <;> omega
  refine K.of (M := mX12_comma) (lv := [some (.ref (b + 157))]) (by decide) (Nat.le_of_ble_eq_true rfl) rfl ?_
  refine v_aload_0 dX12_comma_0 ?_
  refine u_getI dX12_comma_1 gf_X12_92 (by first | assumption | rfl | exact led_1 (by assumption) | exact led_2 (by assumption) | exact bk_m (by assumption) (by first | assumption | omega) | exact bk_p (by assumption) (by first | assumption | omega) | exact bk_o (by assumption) (by first | assumption | omega) | exact bk_s (by assumption) (by first | assumption | omega) | exact bk_1 (by assumption) | exact bk_2 (by assumption) | exact bk_3 (by assumption) | exact bk_4 (by assumption) | exact bk_5 (by assumption) | exact bk_6 (by assumption) | exact bk_7 (by assumption) | exact bk_8 (by assumption) | exact sh_ring _ (by first | assumption | omega) | exact sh_imgs _ (by first | assumption | omega)) ?_
  rw [h13]
  refine v_if_ne (tgt := 16) dX12_comma_4 (by decide) (fun hc4 => ?_) (fun hc4 => ?_)
  · exact absurd rfl hc4
  · (first | rw [bI_0, Bool.not_eq_false] at hc4 | rw [bI_0] at hc4 | rw [show (0 : Int32) = nI 0 from rfl, nI_eq (by omega) (by omega)] at hc4 | skip)
    refine v_aload_0 dX12_comma_7 ?_
    refine u_getI dX12_comma_8 gf_X12_82 (by first | assumption | rfl | exact led_1 (by assumption) | exact led_2 (by assumption) | exact bk_m (by assumption) (by first | assumption | omega) | exact bk_p (by assumption) (by first | assumption | omega) | exact bk_o (by assumption) (by first | assumption | omega) | exact bk_s (by assumption) (by first | assumption | omega) | exact bk_1 (by assumption) | exact bk_2 (by assumption) | exact bk_3 (by assumption) | exact bk_4 (by assumption) | exact bk_5 (by assumption) | exact bk_6 (by assumption) | exact bk_7 (by assumption) | exact bk_8 (by assumption) | exact sh_ring _ (by first | assumption | omega) | exact sh_imgs _ (by first | assumption | omega)) ?_
    rw [t6]
    refine v_bipush (v := nI 44) dX12_comma_11 (by decide) ?_
    refine v_icmp_eq (tgt := 18) dX12_comma_13 (by decide) (fun hc13 => ?_) (fun hc13 => ?_)
    · rw [nI_eq (by omega) (by decide)] at hc13
      refine v_aload_0 dX12_comma_18 ?_
      refine u_callV_0 dX12_comma_19 ml_X12_113 mv_X12_next (by first | assumption | rfl | exact led_1 (by assumption) | exact led_2 (by assumption) | exact bk_m (by assumption) (by first | assumption | omega) | exact bk_p (by assumption) (by first | assumption | omega) | exact bk_o (by assumption) (by first | assumption | omega) | exact bk_s (by assumption) (by first | assumption | omega) | exact bk_1 (by assumption) | exact bk_2 (by assumption) | exact bk_3 (by assumption) | exact bk_4 (by assumption) | exact bk_5 (by assumption) | exact bk_6 (by assumption) | exact bk_7 (by assumption) | exact bk_8 (by assumption) | exact sh_ring _ (by first | assumption | omega) | exact sh_imgs _ (by first | assumption | omega)) (by decide) rfl (by decide) (Nat.le_of_ble_eq_true rfl) (c_X12_next hR h.1 h.E h.2.2.2.1.2.1 (fun J t1 f1 => ?_))
      refine v_iconst (v := nI 1) dX12_comma_22 (by decide) ?_
      refine v_zret dX12_comma_23 (by first | rfl | exact bI_n _) rfl rfl rfl rfl ?_
      exact hY hc13 J (h.nx h.E t1 f1) f1.p
    · rw [nI_eq (by omega) (by decide)] at hc13
      refine v_iconst (v := nI 0) dX12_comma_16 (by decide) ?_
      refine v_zret dX12_comma_17 (by first | rfl | exact bI_n _) rfl rfl rfl rfl ?_
      exact hN hc13
theorem z_X12_comma (h : I 157 13 = nI 1) (hQ : Q (some (.int (bI false))) SH I L R) : KK 2 mX12_comma b ad [.ref (b + 157)] I L R Q := by
  refine K.of (M := mX12_comma) (lv := [some (.ref (b + 157))]) (by decide) (Nat.le_of_ble_eq_true rfl) rfl ?_
  refine v_aload_0 dX12_comma_0 ?_
  refine u_getI dX12_comma_1 gf_X12_92 (by first | assumption | rfl | exact led_1 (by assumption) | exact led_2 (by assumption) | exact bk_m (by assumption) (by first | assumption | omega) | exact bk_p (by assumption) (by first | assumption | omega) | exact bk_o (by assumption) (by first | assumption | omega) | exact bk_s (by assumption) (by first | assumption | omega) | exact bk_1 (by assumption) | exact bk_2 (by assumption) | exact bk_3 (by assumption) | exact bk_4 (by assumption) | exact bk_5 (by assumption) | exact bk_6 (by assumption) | exact bk_7 (by assumption) | exact bk_8 (by assumption) | exact sh_ring _ (by first | assumption | omega) | exact sh_imgs _ (by first | assumption | omega)) ?_
  rw [h]
  refine v_if_ne (tgt := 16) dX12_comma_4 (by decide) (fun hc4 => ?_) (fun hc4 => ?_)
  · (first | rw [bI_0, Bool.not_eq_false] at hc4 | rw [bI_0] at hc4 | rw [show (0 : Int32) = nI 0 from rfl, nI_eq (by omega) (by omega)] at hc4 | skip)
    refine v_iconst (v := nI 0) dX12_comma_16 (by decide) ?_
    refine v_zret dX12_comma_17 (by first | rfl | exact bI_n _) rfl rfl rfl rfl ?_
    exact hQ
  · exact absurd hc4 (by decide)
end
