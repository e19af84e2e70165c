theorem dX0_init_0 : decode cX0_init 0 = .ok (.aload_n 0, 1) := by decide +kernel
theorem dX0_init_1 : decode cX0_init 1 = .ok (.invokespecial 3, 3) := by decide +kernel
theorem dX0_init_4 : decode cX0_init 4 = .ok (.aload_n 0, 1) := by decide +kernel
theorem dX0_init_5 : decode cX0_init 5 = .ok (.bipush 6, 2) := by decide +kernel
theorem dX0_init_7 : decode cX0_init 7 = .ok (.anewarray 9, 3) := by decide +kernel
theorem dX0_init_10 : decode cX0_init 10 = .ok (.putfield 11, 3) := by decide +kernel
theorem dX0_init_13 : decode cX0_init 13 = .ok (.aload_n 0, 1) := by decide +kernel
theorem dX0_init_14 : decode cX0_init 14 = .ok (.bipush 6, 2) := by decide +kernel
theorem dX0_init_16 : decode cX0_init 16 = .ok (.anewarray 17, 3) := by decide +kernel
theorem dX0_init_19 : decode cX0_init 19 = .ok (.putfield 19, 3) := by decide +kernel
theorem dX0_init_22 : decode cX0_init 22 = .ok (.aload_n 0, 1) := by decide +kernel
theorem dX0_init_23 : decode cX0_init 23 = .ok (.bipush 12, 2) := by decide +kernel
theorem dX0_init_25 : decode cX0_init 25 = .ok (.anewarray 23, 3) := by decide +kernel
theorem dX0_init_28 : decode cX0_init 28 = .ok (.putfield 25, 3) := by decide +kernel
theorem dX0_init_31 : decode cX0_init 31 = .ok (.aload_n 0, 1) := by decide +kernel
theorem dX0_init_32 : decode cX0_init 32 = .ok (.bipush 8, 2) := by decide +kernel
theorem dX0_init_34 : decode cX0_init 34 = .ok (.anewarray 29, 3) := by decide +kernel
theorem dX0_init_37 : decode cX0_init 37 = .ok (.putfield 31, 3) := by decide +kernel
theorem dX0_init_40 : decode cX0_init 40 = .ok (.aload_n 0, 1) := by decide +kernel
theorem dX0_init_41 : decode cX0_init 41 = .ok (.bipush 8, 2) := by decide +kernel
theorem dX0_init_43 : decode cX0_init 43 = .ok (.newarray .int, 2) := by decide +kernel
theorem dX0_init_45 : decode cX0_init 45 = .ok (.putfield 35, 3) := by decide +kernel
theorem dX0_init_48 : decode cX0_init 48 = .ok (.aload_n 0, 1) := by decide +kernel
theorem dX0_init_49 : decode cX0_init 49 = .ok (.bipush 8, 2) := by decide +kernel
theorem dX0_init_51 : decode cX0_init 51 = .ok (.newarray .int, 2) := by decide +kernel
theorem dX0_init_53 : decode cX0_init 53 = .ok (.putfield 39, 3) := by decide +kernel
theorem dX0_init_56 : decode cX0_init 56 = .ok (.aload_n 0, 1) := by decide +kernel
theorem dX0_init_57 : decode cX0_init 57 = .ok (.bipush 8, 2) := by decide +kernel
theorem dX0_init_59 : decode cX0_init 59 = .ok (.newarray .int, 2) := by decide +kernel
theorem dX0_init_61 : decode cX0_init 61 = .ok (.putfield 42, 3) := by decide +kernel
theorem dX0_init_64 : decode cX0_init 64 = .ok (.aload_n 0, 1) := by decide +kernel
theorem dX0_init_65 : decode cX0_init 65 = .ok (.new 45, 3) := by decide +kernel
theorem dX0_init_68 : decode cX0_init 68 = .ok (.dup, 1) := by decide +kernel
theorem dX0_init_69 : decode cX0_init 69 = .ok (.invokespecial 47, 3) := by decide +kernel
theorem dX0_init_72 : decode cX0_init 72 = .ok (.putfield 48, 3) := by decide +kernel
theorem dX0_init_75 : decode cX0_init 75 = .ok (.iconst 0, 1) := by decide +kernel
theorem dX0_init_76 : decode cX0_init 76 = .ok (.istore_n 1, 1) := by decide +kernel
theorem dX0_init_77 : decode cX0_init 77 = .ok (.iload_n 1, 1) := by decide +kernel
theorem dX0_init_78 : decode cX0_init 78 = .ok (.bipush 6, 2) := by decide +kernel
theorem dX0_init_80 : decode cX0_init 80 = .ok (.if_icmp .ge 22, 3) := by decide +kernel
theorem dX0_init_83 : decode cX0_init 83 = .ok (.aload_n 0, 1) := by decide +kernel
theorem dX0_init_84 : decode cX0_init 84 = .ok (.getfield 11, 3) := by decide +kernel
theorem dX0_init_87 : decode cX0_init 87 = .ok (.iload_n 1, 1) := by decide +kernel
theorem dX0_init_88 : decode cX0_init 88 = .ok (.new 9, 3) := by decide +kernel
theorem dX0_init_91 : decode cX0_init 91 = .ok (.dup, 1) := by decide +kernel
theorem dX0_init_92 : decode cX0_init 92 = .ok (.invokespecial 52, 3) := by decide +kernel
theorem dX0_init_95 : decode cX0_init 95 = .ok (.aastore, 1) := by decide +kernel
theorem dX0_init_96 : decode cX0_init 96 = .ok (.iinc 1 1, 3) := by decide +kernel
theorem dX0_init_99 : decode cX0_init 99 = .ok (.goto (-22), 3) := by decide +kernel
theorem dX0_init_102 : decode cX0_init 102 = .ok (.iconst 0, 1) := by decide +kernel
theorem dX0_init_103 : decode cX0_init 103 = .ok (.istore_n 1, 1) := by decide +kernel
theorem dX0_init_104 : decode cX0_init 104 = .ok (.iload_n 1, 1) := by decide +kernel
theorem dX0_init_105 : decode cX0_init 105 = .ok (.bipush 6, 2) := by decide +kernel
theorem dX0_init_107 : decode cX0_init 107 = .ok (.if_icmp .ge 22, 3) := by decide +kernel
theorem dX0_init_110 : decode cX0_init 110 = .ok (.aload_n 0, 1) := by decide +kernel
theorem dX0_init_111 : decode cX0_init 111 = .ok (.getfield 19, 3) := by decide +kernel
theorem dX0_init_114 : decode cX0_init 114 = .ok (.iload_n 1, 1) := by decide +kernel
theorem dX0_init_115 : decode cX0_init 115 = .ok (.new 17, 3) := by decide +kernel
theorem dX0_init_118 : decode cX0_init 118 = .ok (.dup, 1) := by decide +kernel
theorem dX0_init_119 : decode cX0_init 119 = .ok (.invokespecial 53, 3) := by decide +kernel
theorem dX0_init_122 : decode cX0_init 122 = .ok (.aastore, 1) := by decide +kernel
theorem dX0_init_123 : decode cX0_init 123 = .ok (.iinc 1 1, 3) := by decide +kernel
theorem dX0_init_126 : decode cX0_init 126 = .ok (.goto (-22), 3) := by decide +kernel
theorem dX0_init_129 : decode cX0_init 129 = .ok (.iconst 0, 1) := by decide +kernel
theorem dX0_init_130 : decode cX0_init 130 = .ok (.istore_n 1, 1) := by decide +kernel
theorem dX0_init_131 : decode cX0_init 131 = .ok (.iload_n 1, 1) := by decide +kernel
theorem dX0_init_132 : decode cX0_init 132 = .ok (.bipush 12, 2) := by decide +kernel
theorem dX0_init_134 : decode cX0_init 134 = .ok (.if_icmp .ge 22, 3) := by decide +kernel
theorem dX0_init_137 : decode cX0_init 137 = .ok (.aload_n 0, 1) := by decide +kernel
theorem dX0_init_138 : decode cX0_init 138 = .ok (.getfield 25, 3) := by decide +kernel
theorem dX0_init_141 : decode cX0_init 141 = .ok (.iload_n 1, 1) := by decide +kernel
theorem dX0_init_142 : decode cX0_init 142 = .ok (.new 23, 3) := by decide +kernel
theorem dX0_init_145 : decode cX0_init 145 = .ok (.dup, 1) := by decide +kernel
theorem dX0_init_146 : decode cX0_init 146 = .ok (.invokespecial 54, 3) := by decide +kernel
theorem dX0_init_149 : decode cX0_init 149 = .ok (.aastore, 1) := by decide +kernel
theorem dX0_init_150 : decode cX0_init 150 = .ok (.iinc 1 1, 3) := by decide +kernel
theorem dX0_init_153 : decode cX0_init 153 = .ok (.goto (-22), 3) := by decide +kernel
theorem dX0_init_156 : decode cX0_init 156 = .ok (.iconst 0, 1) := by decide +kernel
theorem dX0_init_157 : decode cX0_init 157 = .ok (.istore_n 1, 1) := by decide +kernel
theorem dX0_init_158 : decode cX0_init 158 = .ok (.iload_n 1, 1) := by decide +kernel
theorem dX0_init_159 : decode cX0_init 159 = .ok (.bipush 8, 2) := by decide +kernel
theorem dX0_init_161 : decode cX0_init 161 = .ok (.if_icmp .ge 22, 3) := by decide +kernel
theorem dX0_init_164 : decode cX0_init 164 = .ok (.aload_n 0, 1) := by decide +kernel
theorem dX0_init_165 : decode cX0_init 165 = .ok (.getfield 31, 3) := by decide +kernel
theorem dX0_init_168 : decode cX0_init 168 = .ok (.iload_n 1, 1) := by decide +kernel
theorem dX0_init_169 : decode cX0_init 169 = .ok (.new 29, 3) := by decide +kernel
theorem dX0_init_172 : decode cX0_init 172 = .ok (.dup, 1) := by decide +kernel
theorem dX0_init_173 : decode cX0_init 173 = .ok (.invokespecial 55, 3) := by decide +kernel
theorem dX0_init_176 : decode cX0_init 176 = .ok (.aastore, 1) := by decide +kernel
theorem dX0_init_177 : decode cX0_init 177 = .ok (.iinc 1 1, 3) := by decide +kernel
theorem dX0_init_180 : decode cX0_init 180 = .ok (.goto (-22), 3) := by decide +kernel
theorem dX0_init_183 : decode cX0_init 183 = .ok (.return_, 1) := by decide +kernel
theorem dX1_init_0 : decode cX1_init 0 = .ok (.aload_n 0, 1) := by decide +kernel
theorem dX1_init_1 : decode cX1_init 1 = .ok (.invokespecial 3, 3) := by decide +kernel
theorem dX1_init_4 : decode cX1_init 4 = .ok (.aload_n 0, 1) := by decide +kernel
theorem dX1_init_5 : decode cX1_init 5 = .ok (.bipush 13, 2) := by decide +kernel
theorem dX1_init_7 : decode cX1_init 7 = .ok (.anewarray 11, 3) := by decide +kernel
theorem dX1_init_10 : decode cX1_init 10 = .ok (.putfield 13, 3) := by decide +kernel
theorem dX1_init_13 : decode cX1_init 13 = .ok (.aload_n 0, 1) := by decide +kernel
theorem dX1_init_14 : decode cX1_init 14 = .ok (.iconst 3, 1) := by decide +kernel
theorem dX1_init_15 : decode cX1_init 15 = .ok (.anewarray 11, 3) := by decide +kernel
theorem dX1_init_18 : decode cX1_init 18 = .ok (.putfield 17, 3) := by decide +kernel
theorem dX1_init_21 : decode cX1_init 21 = .ok (.iconst 0, 1) := by decide +kernel
theorem dX1_init_22 : decode cX1_init 22 = .ok (.istore_n 1, 1) := by decide +kernel
theorem dX1_init_23 : decode cX1_init 23 = .ok (.iload_n 1, 1) := by decide +kernel
theorem dX1_init_24 : decode cX1_init 24 = .ok (.bipush 13, 2) := by decide +kernel
theorem dX1_init_26 : decode cX1_init 26 = .ok (.if_icmp .ge 22, 3) := by decide +kernel
theorem dX1_init_29 : decode cX1_init 29 = .ok (.aload_n 0, 1) := by decide +kernel
theorem dX1_init_30 : decode cX1_init 30 = .ok (.getfield 13, 3) := by decide +kernel
theorem dX1_init_33 : decode cX1_init 33 = .ok (.iload_n 1, 1) := by decide +kernel
theorem dX1_init_34 : decode cX1_init 34 = .ok (.new 11, 3) := by decide +kernel
theorem dX1_init_37 : decode cX1_init 37 = .ok (.dup, 1) := by decide +kernel
theorem dX1_init_38 : decode cX1_init 38 = .ok (.invokespecial 20, 3) := by decide +kernel
theorem dX1_init_41 : decode cX1_init 41 = .ok (.aastore, 1) := by decide +kernel
theorem dX1_init_42 : decode cX1_init 42 = .ok (.iinc 1 1, 3) := by decide +kernel
theorem dX1_init_45 : decode cX1_init 45 = .ok (.goto (-22), 3) := by decide +kernel
theorem dX1_init_48 : decode cX1_init 48 = .ok (.iconst 0, 1) := by decide +kernel
theorem dX1_init_49 : decode cX1_init 49 = .ok (.istore_n 1, 1) := by decide +kernel
theorem dX1_init_50 : decode cX1_init 50 = .ok (.iload_n 1, 1) := by decide +kernel
theorem dX1_init_51 : decode cX1_init 51 = .ok (.iconst 3, 1) := by decide +kernel
theorem dX1_init_52 : decode cX1_init 52 = .ok (.if_icmp .ge 22, 3) := by decide +kernel
theorem dX1_init_55 : decode cX1_init 55 = .ok (.aload_n 0, 1) := by decide +kernel
theorem dX1_init_56 : decode cX1_init 56 = .ok (.getfield 17, 3) := by decide +kernel
theorem dX1_init_59 : decode cX1_init 59 = .ok (.iload_n 1, 1) := by decide +kernel
theorem dX1_init_60 : decode cX1_init 60 = .ok (.new 11, 3) := by decide +kernel
theorem dX1_init_63 : decode cX1_init 63 = .ok (.dup, 1) := by decide +kernel
theorem dX1_init_64 : decode cX1_init 64 = .ok (.invokespecial 20, 3) := by decide +kernel
theorem dX1_init_67 : decode cX1_init 67 = .ok (.aastore, 1) := by decide +kernel
theorem dX1_init_68 : decode cX1_init 68 = .ok (.iinc 1 1, 3) := by decide +kernel
theorem dX1_init_71 : decode cX1_init 71 = .ok (.goto (-21), 3) := by decide +kernel
theorem dX1_init_74 : decode cX1_init 74 = .ok (.return_, 1) := by decide +kernel
theorem dX5_init_0 : decode cX5_init 0 = .ok (.aload_n 0, 1) := by decide +kernel
theorem dX5_init_1 : decode cX5_init 1 = .ok (.invokespecial 3, 3) := by decide +kernel
theorem dX5_init_4 : decode cX5_init 4 = .ok (.aload_n 0, 1) := by decide +kernel
theorem dX5_init_5 : decode cX5_init 5 = .ok (.bipush 6, 2) := by decide +kernel
theorem dX5_init_7 : decode cX5_init 7 = .ok (.newarray .int, 2) := by decide +kernel
theorem dX5_init_9 : decode cX5_init 9 = .ok (.putfield 9, 3) := by decide +kernel
theorem dX5_init_12 : decode cX5_init 12 = .ok (.aload_n 0, 1) := by decide +kernel
theorem dX5_init_13 : decode cX5_init 13 = .ok (.bipush 36, 2) := by decide +kernel
theorem dX5_init_15 : decode cX5_init 15 = .ok (.newarray .int, 2) := by decide +kernel
theorem dX5_init_17 : decode cX5_init 17 = .ok (.putfield 15, 3) := by decide +kernel
theorem dX5_init_20 : decode cX5_init 20 = .ok (.aload_n 0, 1) := by decide +kernel
theorem dX5_init_21 : decode cX5_init 21 = .ok (.bipush 6, 2) := by decide +kernel
theorem dX5_init_23 : decode cX5_init 23 = .ok (.newarray .int, 2) := by decide +kernel
theorem dX5_init_25 : decode cX5_init 25 = .ok (.putfield 18, 3) := by decide +kernel
theorem dX5_init_28 : decode cX5_init 28 = .ok (.aload_n 0, 1) := by decide +kernel
theorem dX5_init_29 : decode cX5_init 29 = .ok (.sipush 448, 3) := by decide +kernel
theorem dX5_init_32 : decode cX5_init 32 = .ok (.newarray .int, 2) := by decide +kernel
theorem dX5_init_34 : decode cX5_init 34 = .ok (.putfield 21, 3) := by decide +kernel
theorem dX5_init_37 : decode cX5_init 37 = .ok (.return_, 1) := by decide +kernel
theorem dX7_init_0 : decode cX7_init 0 = .ok (.aload_n 0, 1) := by decide +kernel
theorem dX7_init_1 : decode cX7_init 1 = .ok (.invokespecial 5, 3) := by decide +kernel
theorem dX7_init_4 : decode cX7_init 4 = .ok (.aload_n 0, 1) := by decide +kernel
theorem dX7_init_5 : decode cX7_init 5 = .ok (.new 11, 3) := by decide +kernel
theorem dX7_init_8 : decode cX7_init 8 = .ok (.dup, 1) := by decide +kernel
theorem dX7_init_9 : decode cX7_init 9 = .ok (.invokespecial 13, 3) := by decide +kernel
theorem dX7_init_12 : decode cX7_init 12 = .ok (.putfield 14, 3) := by decide +kernel
theorem dX7_init_15 : decode cX7_init 15 = .ok (.aload_n 0, 1) := by decide +kernel
theorem dX7_init_16 : decode cX7_init 16 = .ok (.bipush 30, 2) := by decide +kernel
theorem dX7_init_18 : decode cX7_init 18 = .ok (.newarray .long, 2) := by decide +kernel
theorem dX7_init_20 : decode cX7_init 20 = .ok (.putfield 18, 3) := by decide +kernel
theorem dX7_init_23 : decode cX7_init 23 = .ok (.aload_n 0, 1) := by decide +kernel
theorem dX7_init_24 : decode cX7_init 24 = .ok (.bipush 30, 2) := by decide +kernel
theorem dX7_init_26 : decode cX7_init 26 = .ok (.newarray .int, 2) := by decide +kernel
theorem dX7_init_28 : decode cX7_init 28 = .ok (.putfield 22, 3) := by decide +kernel
theorem dX7_init_31 : decode cX7_init 31 = .ok (.aload_n 0, 1) := by decide +kernel
theorem dX7_init_32 : decode cX7_init 32 = .ok (.bipush 30, 2) := by decide +kernel
theorem dX7_init_34 : decode cX7_init 34 = .ok (.newarray .int, 2) := by decide +kernel
theorem dX7_init_36 : decode cX7_init 36 = .ok (.putfield 26, 3) := by decide +kernel
theorem dX7_init_39 : decode cX7_init 39 = .ok (.aload_n 0, 1) := by decide +kernel
theorem dX7_init_40 : decode cX7_init 40 = .ok (.ldc 29, 2) := by decide +kernel
theorem dX7_init_42 : decode cX7_init 42 = .ok (.invokevirtual 31, 3) := by decide +kernel
theorem dX7_init_45 : decode cX7_init 45 = .ok (.aload_n 0, 1) := by decide +kernel
theorem dX7_init_46 : decode cX7_init 46 = .ok (.ldc 35, 2) := by decide +kernel
theorem dX7_init_48 : decode cX7_init 48 = .ok (.invokevirtual 31, 3) := by decide +kernel
theorem dX7_init_51 : decode cX7_init 51 = .ok (.aload_n 0, 1) := by decide +kernel
theorem dX7_init_52 : decode cX7_init 52 = .ok (.ldc 37, 2) := by decide +kernel
theorem dX7_init_54 : decode cX7_init 54 = .ok (.invokevirtual 31, 3) := by decide +kernel
theorem dX7_init_57 : decode cX7_init 57 = .ok (.aload_n 0, 1) := by decide +kernel
theorem dX7_init_58 : decode cX7_init 58 = .ok (.ldc 39, 2) := by decide +kernel
theorem dX7_init_60 : decode cX7_init 60 = .ok (.invokevirtual 31, 3) := by decide +kernel
theorem dX7_init_63 : decode cX7_init 63 = .ok (.aload_n 0, 1) := by decide +kernel
theorem dX7_init_64 : decode cX7_init 64 = .ok (.ldc 41, 2) := by decide +kernel
theorem dX7_init_66 : decode cX7_init 66 = .ok (.invokevirtual 31, 3) := by decide +kernel
theorem dX7_init_69 : decode cX7_init 69 = .ok (.aload_n 0, 1) := by decide +kernel
theorem dX7_init_70 : decode cX7_init 70 = .ok (.ldc 43, 2) := by decide +kernel
theorem dX7_init_72 : decode cX7_init 72 = .ok (.invokevirtual 31, 3) := by decide +kernel
theorem dX7_init_75 : decode cX7_init 75 = .ok (.aload_n 0, 1) := by decide +kernel
theorem dX7_init_76 : decode cX7_init 76 = .ok (.ldc 45, 2) := by decide +kernel
theorem dX7_init_78 : decode cX7_init 78 = .ok (.invokevirtual 31, 3) := by decide +kernel
theorem dX7_init_81 : decode cX7_init 81 = .ok (.aload_n 0, 1) := by decide +kernel
theorem dX7_init_82 : decode cX7_init 82 = .ok (.ldc 47, 2) := by decide +kernel
theorem dX7_init_84 : decode cX7_init 84 = .ok (.invokevirtual 31, 3) := by decide +kernel
theorem dX7_init_87 : decode cX7_init 87 = .ok (.aload_n 0, 1) := by decide +kernel
theorem dX7_init_88 : decode cX7_init 88 = .ok (.ldc 49, 2) := by decide +kernel
theorem dX7_init_90 : decode cX7_init 90 = .ok (.invokevirtual 31, 3) := by decide +kernel
theorem dX7_init_93 : decode cX7_init 93 = .ok (.aload_n 0, 1) := by decide +kernel
theorem dX7_init_94 : decode cX7_init 94 = .ok (.ldc 51, 2) := by decide +kernel
theorem dX7_init_96 : decode cX7_init 96 = .ok (.invokevirtual 31, 3) := by decide +kernel
theorem dX7_init_99 : decode cX7_init 99 = .ok (.aload_n 0, 1) := by decide +kernel
theorem dX7_init_100 : decode cX7_init 100 = .ok (.ldc 53, 2) := by decide +kernel
theorem dX7_init_102 : decode cX7_init 102 = .ok (.invokevirtual 31, 3) := by decide +kernel
theorem dX7_init_105 : decode cX7_init 105 = .ok (.aload_n 0, 1) := by decide +kernel
theorem dX7_init_106 : decode cX7_init 106 = .ok (.ldc 55, 2) := by decide +kernel
theorem dX7_init_108 : decode cX7_init 108 = .ok (.invokevirtual 31, 3) := by decide +kernel
theorem dX7_init_111 : decode cX7_init 111 = .ok (.aload_n 0, 1) := by decide +kernel
theorem dX7_init_112 : decode cX7_init 112 = .ok (.ldc 57, 2) := by decide +kernel
theorem dX7_init_114 : decode cX7_init 114 = .ok (.invokevirtual 31, 3) := by decide +kernel
theorem dX7_init_117 : decode cX7_init 117 = .ok (.return_, 1) := by decide +kernel
theorem dX7_reserve_0 : decode cX7_reserve 0 = .ok (.aload_n 0, 1) := by decide +kernel
theorem dX7_reserve_1 : decode cX7_reserve 1 = .ok (.getfield 59, 3) := by decide +kernel
theorem dX7_reserve_4 : decode cX7_reserve 4 = .ok (.bipush 13, 2) := by decide +kernel
theorem dX7_reserve_6 : decode cX7_reserve 6 = .ok (.if_icmp .ge 36, 3) := by decide +kernel
theorem dX7_reserve_9 : decode cX7_reserve 9 = .ok (.aload_n 0, 1) := by decide +kernel
theorem dX7_reserve_10 : decode cX7_reserve 10 = .ok (.getfield 18, 3) := by decide +kernel
theorem dX7_reserve_13 : decode cX7_reserve 13 = .ok (.aload_n 0, 1) := by decide +kernel
theorem dX7_reserve_14 : decode cX7_reserve 14 = .ok (.getfield 59, 3) := by decide +kernel
theorem dX7_reserve_17 : decode cX7_reserve 17 = .ok (.aload_n 1, 1) := by decide +kernel
theorem dX7_reserve_18 : decode cX7_reserve 18 = .ok (.invokestatic 63, 3) := by decide +kernel
theorem dX7_reserve_21 : decode cX7_reserve 21 = .ok (.lastore, 1) := by decide +kernel
theorem dX7_reserve_22 : decode cX7_reserve 22 = .ok (.aload_n 0, 1) := by decide +kernel
theorem dX7_reserve_23 : decode cX7_reserve 23 = .ok (.getfield 22, 3) := by decide +kernel
theorem dX7_reserve_26 : decode cX7_reserve 26 = .ok (.aload_n 0, 1) := by decide +kernel
theorem dX7_reserve_27 : decode cX7_reserve 27 = .ok (.getfield 59, 3) := by decide +kernel
theorem dX7_reserve_30 : decode cX7_reserve 30 = .ok (.iconst 3, 1) := by decide +kernel
theorem dX7_reserve_31 : decode cX7_reserve 31 = .ok (.iastore, 1) := by decide +kernel
theorem dX7_reserve_32 : decode cX7_reserve 32 = .ok (.aload_n 0, 1) := by decide +kernel
theorem dX7_reserve_33 : decode cX7_reserve 33 = .ok (.dup, 1) := by decide +kernel
theorem dX7_reserve_34 : decode cX7_reserve 34 = .ok (.getfield 59, 3) := by decide +kernel
theorem dX7_reserve_37 : decode cX7_reserve 37 = .ok (.iconst 1, 1) := by decide +kernel
theorem dX7_reserve_38 : decode cX7_reserve 38 = .ok (.iadd, 1) := by decide +kernel
theorem dX7_reserve_39 : decode cX7_reserve 39 = .ok (.putfield 59, 3) := by decide +kernel
theorem dX7_reserve_42 : decode cX7_reserve 42 = .ok (.return_, 1) := by decide +kernel
theorem dX9_init_0 : decode cX9_init 0 = .ok (.aload_n 0, 1) := by decide +kernel
theorem dX9_init_1 : decode cX9_init 1 = .ok (.invokespecial 1, 3) := by decide +kernel
theorem dX9_init_4 : decode cX9_init 4 = .ok (.aload_n 0, 1) := by decide +kernel
theorem dX9_init_5 : decode cX9_init 5 = .ok (.iconst 0, 1) := by decide +kernel
theorem dX9_init_6 : decode cX9_init 6 = .ok (.newarray .byte, 2) := by decide +kernel
theorem dX9_init_8 : decode cX9_init 8 = .ok (.putfield 7, 3) := by decide +kernel
theorem dX9_init_11 : decode cX9_init 11 = .ok (.return_, 1) := by decide +kernel
theorem dX10_init_0 : decode cX10_init 0 = .ok (.aload_n 0, 1) := by decide +kernel
theorem dX10_init_1 : decode cX10_init 1 = .ok (.invokespecial 3, 3) := by decide +kernel
theorem dX10_init_4 : decode cX10_init 4 = .ok (.aload_n 0, 1) := by decide +kernel
theorem dX10_init_5 : decode cX10_init 5 = .ok (.bipush 6, 2) := by decide +kernel
theorem dX10_init_7 : decode cX10_init 7 = .ok (.newarray .int, 2) := by decide +kernel
theorem dX10_init_9 : decode cX10_init 9 = .ok (.putfield 9, 3) := by decide +kernel
theorem dX10_init_12 : decode cX10_init 12 = .ok (.aload_n 0, 1) := by decide +kernel
theorem dX10_init_13 : decode cX10_init 13 = .ok (.bipush 6, 2) := by decide +kernel
theorem dX10_init_15 : decode cX10_init 15 = .ok (.newarray .int, 2) := by decide +kernel
theorem dX10_init_17 : decode cX10_init 17 = .ok (.putfield 15, 3) := by decide +kernel
theorem dX10_init_20 : decode cX10_init 20 = .ok (.aload_n 0, 1) := by decide +kernel
theorem dX10_init_21 : decode cX10_init 21 = .ok (.bipush 8, 2) := by decide +kernel
theorem dX10_init_23 : decode cX10_init 23 = .ok (.newarray .int, 2) := by decide +kernel
theorem dX10_init_25 : decode cX10_init 25 = .ok (.putfield 18, 3) := by decide +kernel
theorem dX10_init_28 : decode cX10_init 28 = .ok (.aload_n 0, 1) := by decide +kernel
theorem dX10_init_29 : decode cX10_init 29 = .ok (.bipush 6, 2) := by decide +kernel
theorem dX10_init_31 : decode cX10_init 31 = .ok (.newarray .int, 2) := by decide +kernel
theorem dX10_init_33 : decode cX10_init 33 = .ok (.putfield 21, 3) := by decide +kernel
theorem dX10_init_36 : decode cX10_init 36 = .ok (.aload_n 0, 1) := by decide +kernel
theorem dX10_init_37 : decode cX10_init 37 = .ok (.bipush 6, 2) := by decide +kernel
theorem dX10_init_39 : decode cX10_init 39 = .ok (.newarray .boolean, 2) := by decide +kernel
theorem dX10_init_41 : decode cX10_init 41 = .ok (.putfield 24, 3) := by decide +kernel
theorem dX10_init_44 : decode cX10_init 44 = .ok (.aload_n 0, 1) := by decide +kernel
theorem dX10_init_45 : decode cX10_init 45 = .ok (.bipush 6, 2) := by decide +kernel
theorem dX10_init_47 : decode cX10_init 47 = .ok (.newarray .int, 2) := by decide +kernel
theorem dX10_init_49 : decode cX10_init 49 = .ok (.putfield 28, 3) := by decide +kernel
theorem dX10_init_52 : decode cX10_init 52 = .ok (.return_, 1) := by decide +kernel
theorem dX11_init_0 : decode cX11_init 0 = .ok (.aload_n 0, 1) := by decide +kernel
theorem dX11_init_1 : decode cX11_init 1 = .ok (.invokespecial 1, 3) := by decide +kernel
theorem dX11_init_4 : decode cX11_init 4 = .ok (.aload_n 0, 1) := by decide +kernel
theorem dX11_init_5 : decode cX11_init 5 = .ok (.sipush 900, 3) := by decide +kernel
theorem dX11_init_8 : decode cX11_init 8 = .ok (.newarray .byte, 2) := by decide +kernel
theorem dX11_init_10 : decode cX11_init 10 = .ok (.putfield 9, 3) := by decide +kernel
theorem dX11_init_13 : decode cX11_init 13 = .ok (.aload_n 0, 1) := by decide +kernel
theorem dX11_init_14 : decode cX11_init 14 = .ok (.iconst 0, 1) := by decide +kernel
theorem dX11_init_15 : decode cX11_init 15 = .ok (.putfield 13, 3) := by decide +kernel
theorem dX11_init_18 : decode cX11_init 18 = .ok (.aload_n 0, 1) := by decide +kernel
theorem dX11_init_19 : decode cX11_init 19 = .ok (.iconst 0, 1) := by decide +kernel
theorem dX11_init_20 : decode cX11_init 20 = .ok (.putfield 17, 3) := by decide +kernel
theorem dX11_init_23 : decode cX11_init 23 = .ok (.aload_n 0, 1) := by decide +kernel
theorem dX11_init_24 : decode cX11_init 24 = .ok (.iconst 0, 1) := by decide +kernel
theorem dX11_init_25 : decode cX11_init 25 = .ok (.putfield 20, 3) := by decide +kernel
theorem dX11_init_28 : decode cX11_init 28 = .ok (.aload_n 0, 1) := by decide +kernel
theorem dX11_init_29 : decode cX11_init 29 = .ok (.iconst (-1), 1) := by decide +kernel
theorem dX11_init_30 : decode cX11_init 30 = .ok (.putfield 23, 3) := by decide +kernel
theorem dX11_init_33 : decode cX11_init 33 = .ok (.aload_n 0, 1) := by decide +kernel
theorem dX11_init_34 : decode cX11_init 34 = .ok (.new 26, 3) := by decide +kernel
theorem dX11_init_37 : decode cX11_init 37 = .ok (.dup, 1) := by decide +kernel
theorem dX11_init_38 : decode cX11_init 38 = .ok (.invokespecial 28, 3) := by decide +kernel
theorem dX11_init_41 : decode cX11_init 41 = .ok (.putfield 29, 3) := by decide +kernel
theorem dX11_init_44 : decode cX11_init 44 = .ok (.aload_n 0, 1) := by decide +kernel
theorem dX11_init_45 : decode cX11_init 45 = .ok (.new 26, 3) := by decide +kernel
theorem dX11_init_48 : decode cX11_init 48 = .ok (.dup, 1) := by decide +kernel
theorem dX11_init_49 : decode cX11_init 49 = .ok (.invokespecial 28, 3) := by decide +kernel
theorem dX11_init_52 : decode cX11_init 52 = .ok (.putfield 33, 3) := by decide +kernel
theorem dX11_init_55 : decode cX11_init 55 = .ok (.aload_n 0, 1) := by decide +kernel
theorem dX11_init_56 : decode cX11_init 56 = .ok (.new 36, 3) := by decide +kernel
theorem dX11_init_59 : decode cX11_init 59 = .ok (.dup, 1) := by decide +kernel
theorem dX11_init_60 : decode cX11_init 60 = .ok (.invokespecial 38, 3) := by decide +kernel
theorem dX11_init_63 : decode cX11_init 63 = .ok (.putfield 39, 3) := by decide +kernel
theorem dX11_init_66 : decode cX11_init 66 = .ok (.aload_n 0, 1) := by decide +kernel
theorem dX11_init_67 : decode cX11_init 67 = .ok (.new 43, 3) := by decide +kernel
theorem dX11_init_70 : decode cX11_init 70 = .ok (.dup, 1) := by decide +kernel
theorem dX11_init_71 : decode cX11_init 71 = .ok (.invokespecial 45, 3) := by decide +kernel
theorem dX11_init_74 : decode cX11_init 74 = .ok (.putfield 46, 3) := by decide +kernel
theorem dX11_init_77 : decode cX11_init 77 = .ok (.aload_n 0, 1) := by decide +kernel
theorem dX11_init_78 : decode cX11_init 78 = .ok (.new 50, 3) := by decide +kernel
theorem dX11_init_81 : decode cX11_init 81 = .ok (.dup, 1) := by decide +kernel
theorem dX11_init_82 : decode cX11_init 82 = .ok (.invokespecial 52, 3) := by decide +kernel
theorem dX11_init_85 : decode cX11_init 85 = .ok (.putfield 53, 3) := by decide +kernel
theorem dX11_init_88 : decode cX11_init 88 = .ok (.aload_n 0, 1) := by decide +kernel
theorem dX11_init_89 : decode cX11_init 89 = .ok (.new 57, 3) := by decide +kernel
theorem dX11_init_92 : decode cX11_init 92 = .ok (.dup, 1) := by decide +kernel
theorem dX11_init_93 : decode cX11_init 93 = .ok (.invokespecial 59, 3) := by decide +kernel
theorem dX11_init_96 : decode cX11_init 96 = .ok (.putfield 60, 3) := by decide +kernel
theorem dX11_init_99 : decode cX11_init 99 = .ok (.return_, 1) := by decide +kernel
theorem dX12_init_0 : decode cX12_init 0 = .ok (.aload_n 0, 1) := by decide +kernel
theorem dX12_init_1 : decode cX12_init 1 = .ok (.invokespecial 1, 3) := by decide +kernel
theorem dX12_init_4 : decode cX12_init 4 = .ok (.aload_n 0, 1) := by decide +kernel
theorem dX12_init_5 : decode cX12_init 5 = .ok (.sipush 900, 3) := by decide +kernel
theorem dX12_init_8 : decode cX12_init 8 = .ok (.newarray .int, 2) := by decide +kernel
theorem dX12_init_10 : decode cX12_init 10 = .ok (.putfield 7, 3) := by decide +kernel
theorem dX12_init_13 : decode cX12_init 13 = .ok (.aload_n 0, 1) := by decide +kernel
theorem dX12_init_14 : decode cX12_init 14 = .ok (.iconst (-1), 1) := by decide +kernel
theorem dX12_init_15 : decode cX12_init 15 = .ok (.putfield 13, 3) := by decide +kernel
theorem dX12_init_18 : decode cX12_init 18 = .ok (.aload_n 0, 1) := by decide +kernel
theorem dX12_init_19 : decode cX12_init 19 = .ok (.bipush 8, 2) := by decide +kernel
theorem dX12_init_21 : decode cX12_init 21 = .ok (.newarray .int, 2) := by decide +kernel
theorem dX12_init_23 : decode cX12_init 23 = .ok (.putfield 17, 3) := by decide +kernel
theorem dX12_init_26 : decode cX12_init 26 = .ok (.aload_n 0, 1) := by decide +kernel
theorem dX12_init_27 : decode cX12_init 27 = .ok (.sipush 345, 3) := by decide +kernel
theorem dX12_init_30 : decode cX12_init 30 = .ok (.newarray .int, 2) := by decide +kernel
theorem dX12_init_32 : decode cX12_init 32 = .ok (.putfield 20, 3) := by decide +kernel
theorem dX12_init_35 : decode cX12_init 35 = .ok (.aload_n 0, 1) := by decide +kernel
theorem dX12_init_36 : decode cX12_init 36 = .ok (.sipush 345, 3) := by decide +kernel
theorem dX12_init_39 : decode cX12_init 39 = .ok (.newarray .int, 2) := by decide +kernel
theorem dX12_init_41 : decode cX12_init 41 = .ok (.putfield 23, 3) := by decide +kernel
theorem dX12_init_44 : decode cX12_init 44 = .ok (.aload_n 0, 1) := by decide +kernel
theorem dX12_init_45 : decode cX12_init 45 = .ok (.bipush 87, 2) := by decide +kernel
theorem dX12_init_47 : decode cX12_init 47 = .ok (.newarray .int, 2) := by decide +kernel
theorem dX12_init_49 : decode cX12_init 49 = .ok (.putfield 26, 3) := by decide +kernel
theorem dX12_init_52 : decode cX12_init 52 = .ok (.aload_n 0, 1) := by decide +kernel
theorem dX12_init_53 : decode cX12_init 53 = .ok (.bipush 87, 2) := by decide +kernel
theorem dX12_init_55 : decode cX12_init 55 = .ok (.newarray .int, 2) := by decide +kernel
theorem dX12_init_57 : decode cX12_init 57 = .ok (.putfield 29, 3) := by decide +kernel
theorem dX12_init_60 : decode cX12_init 60 = .ok (.aload_n 0, 1) := by decide +kernel
theorem dX12_init_61 : decode cX12_init 61 = .ok (.bipush 87, 2) := by decide +kernel
theorem dX12_init_63 : decode cX12_init 63 = .ok (.newarray .int, 2) := by decide +kernel
theorem dX12_init_65 : decode cX12_init 65 = .ok (.putfield 32, 3) := by decide +kernel
theorem dX12_init_68 : decode cX12_init 68 = .ok (.aload_n 0, 1) := by decide +kernel
theorem dX12_init_69 : decode cX12_init 69 = .ok (.sipush 1044, 3) := by decide +kernel
theorem dX12_init_72 : decode cX12_init 72 = .ok (.newarray .int, 2) := by decide +kernel
theorem dX12_init_74 : decode cX12_init 74 = .ok (.putfield 35, 3) := by decide +kernel
theorem dX12_init_77 : decode cX12_init 77 = .ok (.aload_n 0, 1) := by decide +kernel
theorem dX12_init_78 : decode cX12_init 78 = .ok (.sipush 1044, 3) := by decide +kernel
theorem dX12_init_81 : decode cX12_init 81 = .ok (.newarray .int, 2) := by decide +kernel
theorem dX12_init_83 : decode cX12_init 83 = .ok (.putfield 38, 3) := by decide +kernel
theorem dX12_init_86 : decode cX12_init 86 = .ok (.aload_n 0, 1) := by decide +kernel
theorem dX12_init_87 : decode cX12_init 87 = .ok (.sipush 261, 3) := by decide +kernel
theorem dX12_init_90 : decode cX12_init 90 = .ok (.newarray .int, 2) := by decide +kernel
theorem dX12_init_92 : decode cX12_init 92 = .ok (.putfield 41, 3) := by decide +kernel
theorem dX12_init_95 : decode cX12_init 95 = .ok (.aload_n 0, 1) := by decide +kernel
theorem dX12_init_96 : decode cX12_init 96 = .ok (.sipush 448, 3) := by decide +kernel
theorem dX12_init_99 : decode cX12_init 99 = .ok (.newarray .int, 2) := by decide +kernel
theorem dX12_init_101 : decode cX12_init 101 = .ok (.putfield 44, 3) := by decide +kernel
theorem dX12_init_104 : decode cX12_init 104 = .ok (.aload_n 0, 1) := by decide +kernel
theorem dX12_init_105 : decode cX12_init 105 = .ok (.bipush 42, 2) := by decide +kernel
theorem dX12_init_107 : decode cX12_init 107 = .ok (.newarray .int, 2) := by decide +kernel
theorem dX12_init_109 : decode cX12_init 109 = .ok (.putfield 47, 3) := by decide +kernel
theorem dX12_init_112 : decode cX12_init 112 = .ok (.aload_n 0, 1) := by decide +kernel
theorem dX12_init_113 : decode cX12_init 113 = .ok (.sipush 448, 3) := by decide +kernel
theorem dX12_init_116 : decode cX12_init 116 = .ok (.newarray .long, 2) := by decide +kernel
theorem dX12_init_118 : decode cX12_init 118 = .ok (.putfield 50, 3) := by decide +kernel
theorem dX12_init_121 : decode cX12_init 121 = .ok (.return_, 1) := by decide +kernel
/-! constructors, in the growing world -/
def Zr (N : Nat) (I : HI) (L : HL) (R : HR) : Prop := ∀ q, N ≤ q → I q = (fun _ => 0) ∧ L q = (fun _ => 0) ∧ R q = (fun _ => none)
theorem Zr.up {N : Nat} {I : HI} {L : HL} {R : HR} (h : Zr N I L R) : Zr (N + 1) I L R := fun q hq => h q (by omega)
theorem Zr.mono {N M : Nat} {I : HI} {L : HL} {R : HR} (h : Zr N I L R) (hm : N ≤ M) : Zr M I L R := fun q hq => h q (by omega)
theorem Zr.ur {N a k : Nat} {v : Option Nat} {I : HI} {L : HL} {R : HR} (h : Zr N I L R) (ha : a < N) : Zr N I L (ur R a k v) := fun q hq => ⟨(h q hq).1, (h q hq).2.1, by rw [ur_ne (show q ≠ a by omega)]; exact (h q hq).2.2⟩
theorem Zr.ui {N a k : Nat} {v : Int32} {I : HI} {L : HL} {R : HR} (h : Zr N I L R) (ha : a < N) : Zr N (ui I a k v) L R := fun q hq => ⟨by rw [ui_ne (by omega)]; exact (h q hq).1, (h q hq).2⟩
theorem Zr.ul {N a k : Nat} {v : Int64} {I : HI} {L : HL} {R : HR} (h : Zr N I L R) (ha : a < N) : Zr N I (ul L a k v) R := fun q hq => ⟨(h q hq).1, by rw [ul_ne (by omega)]; exact (h q hq).2.1, (h q hq).2.2⟩
theorem ur_o {R : HR} {a k j : Nat} {v : Option Nat} (h : j ≠ k) : ur R a k v a j = R a j := by simp [ur, va_up, h]
theorem us_id {N : Nat} {z : Nat ⊕ (Nat × Nat)} (h : SH N = z) : us SH N z = SH := by
  funext x
  unfold us
  by_cases e : x = N
  · rw [if_pos e, e, h]
  · rw [if_neg e]
section
variable {y : MethodName} {cc : ByteArray} {nL : Nat} {ret : Option FieldType} {k mc ms NF : Nat} {Q : QT} {b : Nat} {ad : Nat → Nat} {cu su pc : Nat} {lv tl : List (Option Value)} {st rest : List Value} {N : Nat} {I : HI} {L : HL} {R : HR}
theorem n_new {index c nf : Nat} (hd : decode cc pc = .ok (.new index, 3)) (hc13 : c < 13) (hl : Cond.classLink y.cls index (xq c).1 ∈ UU) (hin : Cond.instantiable (xq c).1 nf ∈ UU) (hini : Cond.initialized (xq c).1 ∈ UU) (hs : SH N = .inl c) (hz : Zr N I L R) (hcu : cu + 1 ≤ mc) (hsu : su + nf ≤ ms) (h : V y cc nL ret k mc ms NF Q b ad true (cu + 1) (su + nf) (pc + 3) lv (.ref (b + N) :: rest) (N + 1) SH I L R) : V y cc nL ret k mc ms NF Q b ad true cu su pc lv rest N SH I L R := by
  have z := hz N (Nat.le_refl N)
  refine v_new (c := c) (nf := nf) (I' := I) (L' := L) (R' := R) hd rfl hc13 hl hin hini hcu hsu (fun _ _ => rfl) (fun _ _ => rfl) (fun _ _ => rfl) z.1 z.2.1 z.2.2 ?_
  rw [us_id hs]; exact h
theorem n_newa {atype : ArrayType} {t len : Nat} {ty : FieldType} {i : Int32} (hd : decode cc pc = .ok (.newarray atype, 2)) (hty : newarray.typeOf atype = ty) (ht : t < 4) (hat9 : atys.getD t .int = ty) (harr : Cond.arrayClass ty ∈ UU) (hi : ¬ i < 0) (hlen : i.toNatClampNeg = len) (hbytes : len * componentBytes ty ≤ 536870912) (hs : SH N = .inr (t, len)) (hz : Zr N I L R) (hcu : cu + 1 ≤ mc) (hsu : su + len ≤ ms) (h : V y cc nL ret k mc ms NF Q b ad true (cu + 1) (su + len) (pc + 2) lv (.ref (b + N) :: rest) (N + 1) SH I L R) : V y cc nL ret k mc ms NF Q b ad true cu su pc lv (.int i :: rest) N SH I L R := by
  have z := hz N (Nat.le_refl N)
  refine v_newa (t := t) (len := len) (I' := I) (L' := L) (R' := R) hd rfl hty ht hat9 harr hi hlen hbytes hcu hsu (fun _ _ => rfl) (fun _ _ => rfl) (fun _ _ => rfl) z.1 z.2.1 z.2.2 ?_
  rw [us_id hs]; exact h
theorem n_newq {index t len c : Nat} {i : Int32} (hd : decode cc pc = .ok (.anewarray index, 3)) (ht : 4 ≤ t) (ht9 : t < 9) (hat9 : atys.getD t .int = .object (xq c).1) (hl : Cond.classLink y.cls index (xq c).1 ∈ UU) (harr : Cond.arrayOver (.object (xq c).1) ∈ UU) (hi : ¬ i < 0) (hlen : i.toNatClampNeg = len) (hbytes : len * 4 ≤ 536870912) (hs : SH N = .inr (t, len)) (hz : Zr N I L R) (hcu : cu + 1 ≤ mc) (hsu : su + len ≤ ms) (h : V y cc nL ret k mc ms NF Q b ad true (cu + 1) (su + len) (pc + 3) lv (.ref (b + N) :: rest) (N + 1) SH I L R) : V y cc nL ret k mc ms NF Q b ad true cu su pc lv (.int i :: rest) N SH I L R := by
  have z := hz N (Nat.le_refl N)
  refine v_newq (t := t) (len := len) (c := c) (I' := I) (L' := L) (R' := R) hd rfl ht ht9 hat9 hl harr hi hlen hbytes hcu hsu (fun _ _ => rfl) (fun _ _ => rfl) (fun _ _ => rfl) z.1 z.2.1 z.2.2 ?_
  rw [us_id hs]; exact h
theorem CI.of {av : List Value} {x : Bool} (hp : plainName y.cls = true) (hl : (lg_sl av).length ≤ nL) (hlv : lvE av nL = lv) (h : V y cc nL ret k mc ms (N + mc) Q b ad x 0 0 0 lv [] N SH I L R) : C k y cc nL ret mc ms b ad x av N SH I L R Q := C.of hp hl (by rw [hlv]; exact h)
end
section
variable {b : Nat} {ad : Nat → Nat} {I : HI} {L : HL} {R : HR} {Q : QT} {a N : Nat}
theorem c_X3_init (hQ : Q none SH I L R) : C 1 yX3_init cX3_init 1 none 0 0 b ad true [.ref (b + a)] N SH I L R Q := by
  refine CI.of (lv := [some (.ref (b + a))]) (by decide) (Nat.le_of_ble_eq_true rfl) rfl ?_
  refine v_aload_0 dX3_init_0 ?_
  refine v_objI dX3_init_1 (uu (i := 182) (by decide +kernel) rfl) (uu (i := 142) (by decide +kernel) rfl) (uu (i := 143) (by decide +kernel) rfl) (by decide) (Nat.le_of_ble_eq_true rfl) ?_
  refine v_vret dX3_init_4 rfl rfl rfl rfl ?_
  exact hQ
theorem c_X4_init (hQ : Q none SH I L R) : C 1 yX4_init cX4_init 1 none 0 0 b ad true [.ref (b + a)] N SH I L R Q := by
  refine CI.of (lv := [some (.ref (b + a))]) (by decide) (Nat.le_of_ble_eq_true rfl) rfl ?_
  refine v_aload_0 dX4_init_0 ?_
  refine v_objI dX4_init_1 (uu (i := 203) (by decide +kernel) rfl) (uu (i := 142) (by decide +kernel) rfl) (uu (i := 143) (by decide +kernel) rfl) (by decide) (Nat.le_of_ble_eq_true rfl) ?_
  refine v_vret dX4_init_4 rfl rfl rfl rfl ?_
  exact hQ
theorem c_X6_init (hQ : Q none SH I L R) : C 1 yX6_init cX6_init 1 none 0 0 b ad true [.ref (b + a)] N SH I L R Q := by
  refine CI.of (lv := [some (.ref (b + a))]) (by decide) (Nat.le_of_ble_eq_true rfl) rfl ?_
  refine v_aload_0 dX6_init_0 ?_
  refine v_objI dX6_init_1 (uu (i := 236) (by decide +kernel) rfl) (uu (i := 142) (by decide +kernel) rfl) (uu (i := 143) (by decide +kernel) rfl) (by decide) (Nat.le_of_ble_eq_true rfl) ?_
  refine v_vret dX6_init_4 rfl rfl rfl rfl ?_
  exact hQ
theorem c_X8_init (hQ : Q none SH I L R) : C 1 yX8_init cX8_init 1 none 0 0 b ad true [.ref (b + a)] N SH I L R Q := by
  refine CI.of (lv := [some (.ref (b + a))]) (by decide) (Nat.le_of_ble_eq_true rfl) rfl ?_
  refine v_aload_0 dX8_init_0 ?_
  refine v_objI dX8_init_1 (uu (i := 270) (by decide +kernel) rfl) (uu (i := 142) (by decide +kernel) rfl) (uu (i := 143) (by decide +kernel) rfl) (by decide) (Nat.le_of_ble_eq_true rfl) ?_
  refine v_vret dX8_init_4 rfl rfl rfl rfl ?_
  exact hQ
theorem c_X2_init (ha : SH a = .inl 2) (hz : Zr (a + 1) I L R) (hQ : Q none SH I L (ur (ur R a 1 (some (a + 1))) a 2 (some (a + 2)))) : C 1 yX2_init cX2_init 1 none 2 26 b ad true [.ref (b + a)] (a + 1) SH I L R Q := by
  refine CI.of (lv := [some (.ref (b + a))]) (by decide) (Nat.le_of_ble_eq_true rfl) rfl ?_
  refine v_aload_0 dX2_init_0 ?_
  refine v_objI dX2_init_1 (uu (i := 163) (by decide +kernel) rfl) (uu (i := 142) (by decide +kernel) rfl) (uu (i := 143) (by decide +kernel) rfl) (by decide) (Nat.le_of_ble_eq_true rfl) ?_
  refine v_aload_0 dX2_init_4 ?_
  refine v_bipush (v := nI 20) dX2_init_5 (by decide) ?_
  refine n_newa (t := 0) (len := 20) dX2_init_7 rfl (by decide) rfl (uu (i := 177) (by decide +kernel) rfl) (by decide) (by decide) (by decide) (by first | assumption | rfl | exact bk_1 (by assumption) | exact bk_2 (by assumption) | exact bk_3 (by assumption) | exact bk_4 (by assumption) | exact bk_5 (by assumption) | exact bk_6 (by assumption) | exact bk_7 (by assumption) | exact bk_8 (by assumption) | exact bk_m (by assumption) (by omega) | exact bk_p (by assumption) (by omega) | exact bk_o (by assumption) (by omega) | exact bk_s (by assumption) (by omega) | exact led_1 (by assumption) | exact led_2 (by assumption) | exact sh_ring _ (by omega) | exact sh_imgs _ (by omega)) (by repeat (first | exact Zr.mono (by assumption) (by first | decide | omega) | refine Zr.ur ?_ (by first | decide | omega) | refine Zr.ul ?_ (by first | decide | omega) | refine Zr.ui ?_ (by first | decide | omega))) (by first | decide | omega) (by first | decide | omega) ?_
  refine v_putR dX2_init_9 gf_X2_9 (by first | assumption | rfl | exact bk_1 (by assumption) | exact bk_2 (by assumption) | exact bk_3 (by assumption) | exact bk_4 (by assumption) | exact bk_5 (by assumption) | exact bk_6 (by assumption) | exact bk_7 (by assumption) | exact bk_8 (by assumption) | exact bk_m (by assumption) (by omega) | exact bk_p (by assumption) (by omega) | exact bk_o (by assumption) (by omega) | exact bk_s (by assumption) (by omega) | exact led_1 (by assumption) | exact led_2 (by assumption) | exact sh_ring _ (by omega) | exact sh_imgs _ (by omega)) (by first | decide | omega) rfl rfl (by first | exact Or.inl rfl | exact Or.inr ⟨rfl, rfl, rfl⟩) ?_
  refine v_aload_0 dX2_init_12 ?_
  refine v_bipush (v := nI 6) dX2_init_13 (by decide) ?_
  refine n_newa (t := 0) (len := 6) dX2_init_15 rfl (by decide) rfl (uu (i := 177) (by decide +kernel) rfl) (by decide) (by decide) (by decide) (by first | assumption | rfl | exact bk_1 (by assumption) | exact bk_2 (by assumption) | exact bk_3 (by assumption) | exact bk_4 (by assumption) | exact bk_5 (by assumption) | exact bk_6 (by assumption) | exact bk_7 (by assumption) | exact bk_8 (by assumption) | exact bk_m (by assumption) (by omega) | exact bk_p (by assumption) (by omega) | exact bk_o (by assumption) (by omega) | exact bk_s (by assumption) (by omega) | exact led_1 (by assumption) | exact led_2 (by assumption) | exact sh_ring _ (by omega) | exact sh_imgs _ (by omega)) (by repeat (first | exact Zr.mono (by assumption) (by first | decide | omega) | refine Zr.ur ?_ (by first | decide | omega) | refine Zr.ul ?_ (by first | decide | omega) | refine Zr.ui ?_ (by first | decide | omega))) (by first | decide | omega) (by first | decide | omega) ?_
  refine v_putR dX2_init_17 gf_X2_15 (by first | assumption | rfl | exact bk_1 (by assumption) | exact bk_2 (by assumption) | exact bk_3 (by assumption) | exact bk_4 (by assumption) | exact bk_5 (by assumption) | exact bk_6 (by assumption) | exact bk_7 (by assumption) | exact bk_8 (by assumption) | exact bk_m (by assumption) (by omega) | exact bk_p (by assumption) (by omega) | exact bk_o (by assumption) (by omega) | exact bk_s (by assumption) (by omega) | exact led_1 (by assumption) | exact led_2 (by assumption) | exact sh_ring _ (by omega) | exact sh_imgs _ (by omega)) (by first | decide | omega) rfl rfl (by first | exact Or.inl rfl | exact Or.inr ⟨rfl, rfl, rfl⟩) ?_
  refine v_vret dX2_init_20 rfl rfl rfl rfl ?_
  exact hQ
theorem c_X9_init (hz : Zr 90 I L R) (hQ : Q none SH I L (ur R 89 0 (some 90))) : C 1 yX9_init cX9_init 1 none 1 0 b ad true [.ref (b + 89)] 90 SH I L R Q := by
  refine CI.of (lv := [some (.ref (b + 89))]) (by decide) (Nat.le_of_ble_eq_true rfl) rfl ?_
  refine v_aload_0 dX9_init_0 ?_
  refine v_objI dX9_init_1 (uu (i := 391) (by decide +kernel) rfl) (uu (i := 142) (by decide +kernel) rfl) (uu (i := 143) (by decide +kernel) rfl) (by decide) (Nat.le_of_ble_eq_true rfl) ?_
  refine v_aload_0 dX9_init_4 ?_
  refine v_iconst (v := nI 0) dX9_init_5 (by decide) ?_
  refine n_newa (t := 2) (len := 0) dX9_init_6 rfl (by decide) rfl (uu (i := 176) (by decide +kernel) rfl) (by decide) (by decide) (by decide) (by first | assumption | rfl | exact bk_1 (by assumption) | exact bk_2 (by assumption) | exact bk_3 (by assumption) | exact bk_4 (by assumption) | exact bk_5 (by assumption) | exact bk_6 (by assumption) | exact bk_7 (by assumption) | exact bk_8 (by assumption) | exact bk_m (by assumption) (by omega) | exact bk_p (by assumption) (by omega) | exact bk_o (by assumption) (by omega) | exact bk_s (by assumption) (by omega) | exact led_1 (by assumption) | exact led_2 (by assumption) | exact sh_ring _ (by omega) | exact sh_imgs _ (by omega)) (by repeat (first | exact Zr.mono (by assumption) (by first | decide | omega) | refine Zr.ur ?_ (by first | decide | omega) | refine Zr.ul ?_ (by first | decide | omega) | refine Zr.ui ?_ (by first | decide | omega))) (by first | decide | omega) (by first | decide | omega) ?_
  refine v_putR dX9_init_8 gf_X9_7 (by first | assumption | rfl | exact bk_1 (by assumption) | exact bk_2 (by assumption) | exact bk_3 (by assumption) | exact bk_4 (by assumption) | exact bk_5 (by assumption) | exact bk_6 (by assumption) | exact bk_7 (by assumption) | exact bk_8 (by assumption) | exact bk_m (by assumption) (by omega) | exact bk_p (by assumption) (by omega) | exact bk_o (by assumption) (by omega) | exact bk_s (by assumption) (by omega) | exact led_1 (by assumption) | exact led_2 (by assumption) | exact sh_ring _ (by omega) | exact sh_imgs _ (by omega)) (by first | decide | omega) rfl rfl (by first | exact Or.inl rfl | exact Or.inr ⟨rfl, rfl, rfl⟩) ?_
  refine v_vret dX9_init_11 rfl rfl rfl rfl ?_
  exact hQ
theorem c_X5_init (hz : Zr 146 I L R) (hQ : Q none SH I L (ur (ur (ur (ur R 145 1 (some 146)) 145 2 (some 147)) 145 3 (some 148)) 145 4 (some 149))) : C 1 yX5_init cX5_init 1 none 4 496 b ad true [.ref (b + 145)] 146 SH I L R Q := by
  refine CI.of (lv := [some (.ref (b + 145))]) (by decide) (Nat.le_of_ble_eq_true rfl) rfl ?_
  refine v_aload_0 dX5_init_0 ?_
  refine v_objI dX5_init_1 (uu (i := 561) (by decide +kernel) rfl) (uu (i := 142) (by decide +kernel) rfl) (uu (i := 143) (by decide +kernel) rfl) (by decide) (Nat.le_of_ble_eq_true rfl) ?_
  refine v_aload_0 dX5_init_4 ?_
  refine v_bipush (v := nI 6) dX5_init_5 (by decide) ?_
  refine n_newa (t := 0) (len := 6) dX5_init_7 rfl (by decide) rfl (uu (i := 177) (by decide +kernel) rfl) (by decide) (by decide) (by decide) (by first | assumption | rfl | exact bk_1 (by assumption) | exact bk_2 (by assumption) | exact bk_3 (by assumption) | exact bk_4 (by assumption) | exact bk_5 (by assumption) | exact bk_6 (by assumption) | exact bk_7 (by assumption) | exact bk_8 (by assumption) | exact bk_m (by assumption) (by omega) | exact bk_p (by assumption) (by omega) | exact bk_o (by assumption) (by omega) | exact bk_s (by assumption) (by omega) | exact led_1 (by assumption) | exact led_2 (by assumption) | exact sh_ring _ (by omega) | exact sh_imgs _ (by omega)) (by repeat (first | exact Zr.mono (by assumption) (by first | decide | omega) | refine Zr.ur ?_ (by first | decide | omega) | refine Zr.ul ?_ (by first | decide | omega) | refine Zr.ui ?_ (by first | decide | omega))) (by first | decide | omega) (by first | decide | omega) ?_
  refine v_putR dX5_init_9 gf_X5_9 (by first | assumption | rfl | exact bk_1 (by assumption) | exact bk_2 (by assumption) | exact bk_3 (by assumption) | exact bk_4 (by assumption) | exact bk_5 (by assumption) | exact bk_6 (by assumption) | exact bk_7 (by assumption) | exact bk_8 (by assumption) | exact bk_m (by assumption) (by omega) | exact bk_p (by assumption) (by omega) | exact bk_o (by assumption) (by omega) | exact bk_s (by assumption) (by omega) | exact led_1 (by assumption) | exact led_2 (by assumption) | exact sh_ring _ (by omega) | exact sh_imgs _ (by omega)) (by first | decide | omega) rfl rfl (by first | exact Or.inl rfl | exact Or.inr ⟨rfl, rfl, rfl⟩) ?_
  refine v_aload_0 dX5_init_12 ?_
  refine v_bipush (v := nI 36) dX5_init_13 (by decide) ?_
  refine n_newa (t := 0) (len := 36) dX5_init_15 rfl (by decide) rfl (uu (i := 177) (by decide +kernel) rfl) (by decide) (by decide) (by decide) (by first | assumption | rfl | exact bk_1 (by assumption) | exact bk_2 (by assumption) | exact bk_3 (by assumption) | exact bk_4 (by assumption) | exact bk_5 (by assumption) | exact bk_6 (by assumption) | exact bk_7 (by assumption) | exact bk_8 (by assumption) | exact bk_m (by assumption) (by omega) | exact bk_p (by assumption) (by omega) | exact bk_o (by assumption) (by omega) | exact bk_s (by assumption) (by omega) | exact led_1 (by assumption) | exact led_2 (by assumption) | exact sh_ring _ (by omega) | exact sh_imgs _ (by omega)) (by repeat (first | exact Zr.mono (by assumption) (by first | decide | omega) | refine Zr.ur ?_ (by first | decide | omega) | refine Zr.ul ?_ (by first | decide | omega) | refine Zr.ui ?_ (by first | decide | omega))) (by first | decide | omega) (by first | decide | omega) ?_
  refine v_putR dX5_init_17 gf_X5_15 (by first | assumption | rfl | exact bk_1 (by assumption) | exact bk_2 (by assumption) | exact bk_3 (by assumption) | exact bk_4 (by assumption) | exact bk_5 (by assumption) | exact bk_6 (by assumption) | exact bk_7 (by assumption) | exact bk_8 (by assumption) | exact bk_m (by assumption) (by omega) | exact bk_p (by assumption) (by omega) | exact bk_o (by assumption) (by omega) | exact bk_s (by assumption) (by omega) | exact led_1 (by assumption) | exact led_2 (by assumption) | exact sh_ring _ (by omega) | exact sh_imgs _ (by omega)) (by first | decide | omega) rfl rfl (by first | exact Or.inl rfl | exact Or.inr ⟨rfl, rfl, rfl⟩) ?_
  refine v_aload_0 dX5_init_20 ?_
  refine v_bipush (v := nI 6) dX5_init_21 (by decide) ?_
  refine n_newa (t := 0) (len := 6) dX5_init_23 rfl (by decide) rfl (uu (i := 177) (by decide +kernel) rfl) (by decide) (by decide) (by decide) (by first | assumption | rfl | exact bk_1 (by assumption) | exact bk_2 (by assumption) | exact bk_3 (by assumption) | exact bk_4 (by assumption) | exact bk_5 (by assumption) | exact bk_6 (by assumption) | exact bk_7 (by assumption) | exact bk_8 (by assumption) | exact bk_m (by assumption) (by omega) | exact bk_p (by assumption) (by omega) | exact bk_o (by assumption) (by omega) | exact bk_s (by assumption) (by omega) | exact led_1 (by assumption) | exact led_2 (by assumption) | exact sh_ring _ (by omega) | exact sh_imgs _ (by omega)) (by repeat (first | exact Zr.mono (by assumption) (by first | decide | omega) | refine Zr.ur ?_ (by first | decide | omega) | refine Zr.ul ?_ (by first | decide | omega) | refine Zr.ui ?_ (by first | decide | omega))) (by first | decide | omega) (by first | decide | omega) ?_
  refine v_putR dX5_init_25 gf_X5_18 (by first | assumption | rfl | exact bk_1 (by assumption) | exact bk_2 (by assumption) | exact bk_3 (by assumption) | exact bk_4 (by assumption) | exact bk_5 (by assumption) | exact bk_6 (by assumption) | exact bk_7 (by assumption) | exact bk_8 (by assumption) | exact bk_m (by assumption) (by omega) | exact bk_p (by assumption) (by omega) | exact bk_o (by assumption) (by omega) | exact bk_s (by assumption) (by omega) | exact led_1 (by assumption) | exact led_2 (by assumption) | exact sh_ring _ (by omega) | exact sh_imgs _ (by omega)) (by first | decide | omega) rfl rfl (by first | exact Or.inl rfl | exact Or.inr ⟨rfl, rfl, rfl⟩) ?_
  refine v_aload_0 dX5_init_28 ?_
  refine v_sipush (v := nI 448) dX5_init_29 (by decide) ?_
  refine n_newa (t := 0) (len := 448) dX5_init_32 rfl (by decide) rfl (uu (i := 177) (by decide +kernel) rfl) (by decide) (by decide) (by decide) (by first | assumption | rfl | exact bk_1 (by assumption) | exact bk_2 (by assumption) | exact bk_3 (by assumption) | exact bk_4 (by assumption) | exact bk_5 (by assumption) | exact bk_6 (by assumption) | exact bk_7 (by assumption) | exact bk_8 (by assumption) | exact bk_m (by assumption) (by omega) | exact bk_p (by assumption) (by omega) | exact bk_o (by assumption) (by omega) | exact bk_s (by assumption) (by omega) | exact led_1 (by assumption) | exact led_2 (by assumption) | exact sh_ring _ (by omega) | exact sh_imgs _ (by omega)) (by repeat (first | exact Zr.mono (by assumption) (by first | decide | omega) | refine Zr.ur ?_ (by first | decide | omega) | refine Zr.ul ?_ (by first | decide | omega) | refine Zr.ui ?_ (by first | decide | omega))) (by first | decide | omega) (by first | decide | omega) ?_
  refine v_putR dX5_init_34 gf_X5_21 (by first | assumption | rfl | exact bk_1 (by assumption) | exact bk_2 (by assumption) | exact bk_3 (by assumption) | exact bk_4 (by assumption) | exact bk_5 (by assumption) | exact bk_6 (by assumption) | exact bk_7 (by assumption) | exact bk_8 (by assumption) | exact bk_m (by assumption) (by omega) | exact bk_p (by assumption) (by omega) | exact bk_o (by assumption) (by omega) | exact bk_s (by assumption) (by omega) | exact led_1 (by assumption) | exact led_2 (by assumption) | exact sh_ring _ (by omega) | exact sh_imgs _ (by omega)) (by first | decide | omega) rfl rfl (by first | exact Or.inl rfl | exact Or.inr ⟨rfl, rfl, rfl⟩) ?_
  refine v_vret dX5_init_37 rfl rfl rfl rfl ?_
  exact hQ
theorem c_X10_init (hz : Zr 151 I L R) (hQ : Q none SH I L (ur (ur (ur (ur (ur (ur R 150 3 (some 151)) 150 4 (some 152)) 150 5 (some 153)) 150 6 (some 154)) 150 7 (some 155)) 150 8 (some 156))) : C 1 yX10_init cX10_init 1 none 6 38 b ad true [.ref (b + 150)] 151 SH I L R Q := by
  refine CI.of (lv := [some (.ref (b + 150))]) (by decide) (Nat.le_of_ble_eq_true rfl) rfl ?_
  refine v_aload_0 dX10_init_0 ?_
  refine v_objI dX10_init_1 (uu (i := 583) (by decide +kernel) rfl) (uu (i := 142) (by decide +kernel) rfl) (uu (i := 143) (by decide +kernel) rfl) (by decide) (Nat.le_of_ble_eq_true rfl) ?_
  refine v_aload_0 dX10_init_4 ?_
  refine v_bipush (v := nI 6) dX10_init_5 (by decide) ?_
  refine n_newa (t := 0) (len := 6) dX10_init_7 rfl (by decide) rfl (uu (i := 177) (by decide +kernel) rfl) (by decide) (by decide) (by decide) (by first | assumption | rfl | exact bk_1 (by assumption) | exact bk_2 (by assumption) | exact bk_3 (by assumption) | exact bk_4 (by assumption) | exact bk_5 (by assumption) | exact bk_6 (by assumption) | exact bk_7 (by assumption) | exact bk_8 (by assumption) | exact bk_m (by assumption) (by omega) | exact bk_p (by assumption) (by omega) | exact bk_o (by assumption) (by omega) | exact bk_s (by assumption) (by omega) | exact led_1 (by assumption) | exact led_2 (by assumption) | exact sh_ring _ (by omega) | exact sh_imgs _ (by omega)) (by repeat (first | exact Zr.mono (by assumption) (by first | decide | omega) | refine Zr.ur ?_ (by first | decide | omega) | refine Zr.ul ?_ (by first | decide | omega) | refine Zr.ui ?_ (by first | decide | omega))) (by first | decide | omega) (by first | decide | omega) ?_
  refine v_putR dX10_init_9 gf_X10_9 (by first | assumption | rfl | exact bk_1 (by assumption) | exact bk_2 (by assumption) | exact bk_3 (by assumption) | exact bk_4 (by assumption) | exact bk_5 (by assumption) | exact bk_6 (by assumption) | exact bk_7 (by assumption) | exact bk_8 (by assumption) | exact bk_m (by assumption) (by omega) | exact bk_p (by assumption) (by omega) | exact bk_o (by assumption) (by omega) | exact bk_s (by assumption) (by omega) | exact led_1 (by assumption) | exact led_2 (by assumption) | exact sh_ring _ (by omega) | exact sh_imgs _ (by omega)) (by first | decide | omega) rfl rfl (by first | exact Or.inl rfl | exact Or.inr ⟨rfl, rfl, rfl⟩) ?_
  refine v_aload_0 dX10_init_12 ?_
  refine v_bipush (v := nI 6) dX10_init_13 (by decide) ?_
  refine n_newa (t := 0) (len := 6) dX10_init_15 rfl (by decide) rfl (uu (i := 177) (by decide +kernel) rfl) (by decide) (by decide) (by decide) (by first | assumption | rfl | exact bk_1 (by assumption) | exact bk_2 (by assumption) | exact bk_3 (by assumption) | exact bk_4 (by assumption) | exact bk_5 (by assumption) | exact bk_6 (by assumption) | exact bk_7 (by assumption) | exact bk_8 (by assumption) | exact bk_m (by assumption) (by omega) | exact bk_p (by assumption) (by omega) | exact bk_o (by assumption) (by omega) | exact bk_s (by assumption) (by omega) | exact led_1 (by assumption) | exact led_2 (by assumption) | exact sh_ring _ (by omega) | exact sh_imgs _ (by omega)) (by repeat (first | exact Zr.mono (by assumption) (by first | decide | omega) | refine Zr.ur ?_ (by first | decide | omega) | refine Zr.ul ?_ (by first | decide | omega) | refine Zr.ui ?_ (by first | decide | omega))) (by first | decide | omega) (by first | decide | omega) ?_
  refine v_putR dX10_init_17 gf_X10_15 (by first | assumption | rfl | exact bk_1 (by assumption) | exact bk_2 (by assumption) | exact bk_3 (by assumption) | exact bk_4 (by assumption) | exact bk_5 (by assumption) | exact bk_6 (by assumption) | exact bk_7 (by assumption) | exact bk_8 (by assumption) | exact bk_m (by assumption) (by omega) | exact bk_p (by assumption) (by omega) | exact bk_o (by assumption) (by omega) | exact bk_s (by assumption) (by omega) | exact led_1 (by assumption) | exact led_2 (by assumption) | exact sh_ring _ (by omega) | exact sh_imgs _ (by omega)) (by first | decide | omega) rfl rfl (by first | exact Or.inl rfl | exact Or.inr ⟨rfl, rfl, rfl⟩) ?_
  refine v_aload_0 dX10_init_20 ?_
  refine v_bipush (v := nI 8) dX10_init_21 (by decide) ?_
  refine n_newa (t := 0) (len := 8) dX10_init_23 rfl (by decide) rfl (uu (i := 177) (by decide +kernel) rfl) (by decide) (by decide) (by decide) (by first | assumption | rfl | exact bk_1 (by assumption) | exact bk_2 (by assumption) | exact bk_3 (by assumption) | exact bk_4 (by assumption) | exact bk_5 (by assumption) | exact bk_6 (by assumption) | exact bk_7 (by assumption) | exact bk_8 (by assumption) | exact bk_m (by assumption) (by omega) | exact bk_p (by assumption) (by omega) | exact bk_o (by assumption) (by omega) | exact bk_s (by assumption) (by omega) | exact led_1 (by assumption) | exact led_2 (by assumption) | exact sh_ring _ (by omega) | exact sh_imgs _ (by omega)) (by repeat (first | exact Zr.mono (by assumption) (by first | decide | omega) | refine Zr.ur ?_ (by first | decide | omega) | refine Zr.ul ?_ (by first | decide | omega) | refine Zr.ui ?_ (by first | decide | omega))) (by first | decide | omega) (by first | decide | omega) ?_
  refine v_putR dX10_init_25 gf_X10_18 (by first | assumption | rfl | exact bk_1 (by assumption) | exact bk_2 (by assumption) | exact bk_3 (by assumption) | exact bk_4 (by assumption) | exact bk_5 (by assumption) | exact bk_6 (by assumption) | exact bk_7 (by assumption) | exact bk_8 (by assumption) | exact bk_m (by assumption) (by omega) | exact bk_p (by assumption) (by omega) | exact bk_o (by assumption) (by omega) | exact bk_s (by assumption) (by omega) | exact led_1 (by assumption) | exact led_2 (by assumption) | exact sh_ring _ (by omega) | exact sh_imgs _ (by omega)) (by first | decide | omega) rfl rfl (by first | exact Or.inl rfl | exact Or.inr ⟨rfl, rfl, rfl⟩) ?_
  refine v_aload_0 dX10_init_28 ?_
  refine v_bipush (v := nI 6) dX10_init_29 (by decide) ?_
  refine n_newa (t := 0) (len := 6) dX10_init_31 rfl (by decide) rfl (uu (i := 177) (by decide +kernel) rfl) (by decide) (by decide) (by decide) (by first | assumption | rfl | exact bk_1 (by assumption) | exact bk_2 (by assumption) | exact bk_3 (by assumption) | exact bk_4 (by assumption) | exact bk_5 (by assumption) | exact bk_6 (by assumption) | exact bk_7 (by assumption) | exact bk_8 (by assumption) | exact bk_m (by assumption) (by omega) | exact bk_p (by assumption) (by omega) | exact bk_o (by assumption) (by omega) | exact bk_s (by assumption) (by omega) | exact led_1 (by assumption) | exact led_2 (by assumption) | exact sh_ring _ (by omega) | exact sh_imgs _ (by omega)) (by repeat (first | exact Zr.mono (by assumption) (by first | decide | omega) | refine Zr.ur ?_ (by first | decide | omega) | refine Zr.ul ?_ (by first | decide | omega) | refine Zr.ui ?_ (by first | decide | omega))) (by first | decide | omega) (by first | decide | omega) ?_
  refine v_putR dX10_init_33 gf_X10_21 (by first | assumption | rfl | exact bk_1 (by assumption) | exact bk_2 (by assumption) | exact bk_3 (by assumption) | exact bk_4 (by assumption) | exact bk_5 (by assumption) | exact bk_6 (by assumption) | exact bk_7 (by assumption) | exact bk_8 (by assumption) | exact bk_m (by assumption) (by omega) | exact bk_p (by assumption) (by omega) | exact bk_o (by assumption) (by omega) | exact bk_s (by assumption) (by omega) | exact led_1 (by assumption) | exact led_2 (by assumption) | exact sh_ring _ (by omega) | exact sh_imgs _ (by omega)) (by first | decide | omega) rfl rfl (by first | exact Or.inl rfl | exact Or.inr ⟨rfl, rfl, rfl⟩) ?_
  refine v_aload_0 dX10_init_36 ?_
  refine v_bipush (v := nI 6) dX10_init_37 (by decide) ?_
  refine n_newa (t := 3) (len := 6) dX10_init_39 rfl (by decide) rfl (uu (i := 613) (by decide +kernel) rfl) (by decide) (by decide) (by decide) (by first | assumption | rfl | exact bk_1 (by assumption) | exact bk_2 (by assumption) | exact bk_3 (by assumption) | exact bk_4 (by assumption) | exact bk_5 (by assumption) | exact bk_6 (by assumption) | exact bk_7 (by assumption) | exact bk_8 (by assumption) | exact bk_m (by assumption) (by omega) | exact bk_p (by assumption) (by omega) | exact bk_o (by assumption) (by omega) | exact bk_s (by assumption) (by omega) | exact led_1 (by assumption) | exact led_2 (by assumption) | exact sh_ring _ (by omega) | exact sh_imgs _ (by omega)) (by repeat (first | exact Zr.mono (by assumption) (by first | decide | omega) | refine Zr.ur ?_ (by first | decide | omega) | refine Zr.ul ?_ (by first | decide | omega) | refine Zr.ui ?_ (by first | decide | omega))) (by first | decide | omega) (by first | decide | omega) ?_
  refine v_putR dX10_init_41 gf_X10_24 (by first | assumption | rfl | exact bk_1 (by assumption) | exact bk_2 (by assumption) | exact bk_3 (by assumption) | exact bk_4 (by assumption) | exact bk_5 (by assumption) | exact bk_6 (by assumption) | exact bk_7 (by assumption) | exact bk_8 (by assumption) | exact bk_m (by assumption) (by omega) | exact bk_p (by assumption) (by omega) | exact bk_o (by assumption) (by omega) | exact bk_s (by assumption) (by omega) | exact led_1 (by assumption) | exact led_2 (by assumption) | exact sh_ring _ (by omega) | exact sh_imgs _ (by omega)) (by first | decide | omega) rfl rfl (by first | exact Or.inl rfl | exact Or.inr ⟨rfl, rfl, rfl⟩) ?_
  refine v_aload_0 dX10_init_44 ?_
  refine v_bipush (v := nI 6) dX10_init_45 (by decide) ?_
  refine n_newa (t := 0) (len := 6) dX10_init_47 rfl (by decide) rfl (uu (i := 177) (by decide +kernel) rfl) (by decide) (by decide) (by decide) (by first | assumption | rfl | exact bk_1 (by assumption) | exact bk_2 (by assumption) | exact bk_3 (by assumption) | exact bk_4 (by assumption) | exact bk_5 (by assumption) | exact bk_6 (by assumption) | exact bk_7 (by assumption) | exact bk_8 (by assumption) | exact bk_m (by assumption) (by omega) | exact bk_p (by assumption) (by omega) | exact bk_o (by assumption) (by omega) | exact bk_s (by assumption) (by omega) | exact led_1 (by assumption) | exact led_2 (by assumption) | exact sh_ring _ (by omega) | exact sh_imgs _ (by omega)) (by repeat (first | exact Zr.mono (by assumption) (by first | decide | omega) | refine Zr.ur ?_ (by first | decide | omega) | refine Zr.ul ?_ (by first | decide | omega) | refine Zr.ui ?_ (by first | decide | omega))) (by first | decide | omega) (by first | decide | omega) ?_
  refine v_putR dX10_init_49 gf_X10_28 (by first | assumption | rfl | exact bk_1 (by assumption) | exact bk_2 (by assumption) | exact bk_3 (by assumption) | exact bk_4 (by assumption) | exact bk_5 (by assumption) | exact bk_6 (by assumption) | exact bk_7 (by assumption) | exact bk_8 (by assumption) | exact bk_m (by assumption) (by omega) | exact bk_p (by assumption) (by omega) | exact bk_o (by assumption) (by omega) | exact bk_s (by assumption) (by omega) | exact led_1 (by assumption) | exact led_2 (by assumption) | exact sh_ring _ (by omega) | exact sh_imgs _ (by omega)) (by first | decide | omega) rfl rfl (by first | exact Or.inl rfl | exact Or.inr ⟨rfl, rfl, rfl⟩) ?_
  refine v_vret dX10_init_52 rfl rfl rfl rfl ?_
  exact hQ
theorem c_X12_init (hz : Zr 158 I L R) (hQ : Q none SH (ui I 157 10 (-1)) L (ur (ur (ur (ur (ur (ur (ur (ur (ur (ur (ur (ur (ur R 157 1 (some 158)) 157 12 (some 159)) 157 15 (some 160)) 157 16 (some 161)) 157 17 (some 162)) 157 18 (some 163)) 157 19 (some 164)) 157 20 (some 165)) 157 21 (some 166)) 157 22 (some 167)) 157 26 (some 168)) 157 27 (some 169)) 157 32 (some 170))) : C 1 yX12_init cX12_init 1 none 13 5146 b ad true [.ref (b + 157)] 158 SH I L R Q := by
  refine CI.of (lv := [some (.ref (b + 157))]) (by decide) (Nat.le_of_ble_eq_true rfl) rfl ?_
  refine v_aload_0 dX12_init_0 ?_
  refine v_objI dX12_init_1 (uu (i := 1418) (by decide +kernel) rfl) (uu (i := 142) (by decide +kernel) rfl) (uu (i := 143) (by decide +kernel) rfl) (by decide) (Nat.le_of_ble_eq_true rfl) ?_
  refine v_aload_0 dX12_init_4 ?_
  refine v_sipush (v := nI 900) dX12_init_5 (by decide) ?_
  refine n_newa (t := 0) (len := 900) dX12_init_8 rfl (by decide) rfl (uu (i := 177) (by decide +kernel) rfl) (by decide) (by decide) (by decide) (by first | assumption | rfl | exact bk_1 (by assumption) | exact bk_2 (by assumption) | exact bk_3 (by assumption) | exact bk_4 (by assumption) | exact bk_5 (by assumption) | exact bk_6 (by assumption) | exact bk_7 (by assumption) | exact bk_8 (by assumption) | exact bk_m (by assumption) (by omega) | exact bk_p (by assumption) (by omega) | exact bk_o (by assumption) (by omega) | exact bk_s (by assumption) (by omega) | exact led_1 (by assumption) | exact led_2 (by assumption) | exact sh_ring _ (by omega) | exact sh_imgs _ (by omega)) (by repeat (first | exact Zr.mono (by assumption) (by first | decide | omega) | refine Zr.ur ?_ (by first | decide | omega) | refine Zr.ul ?_ (by first | decide | omega) | refine Zr.ui ?_ (by first | decide | omega))) (by first | decide | omega) (by first | decide | omega) ?_
  refine v_putR dX12_init_10 gf_X12_7 (by first | assumption | rfl | exact bk_1 (by assumption) | exact bk_2 (by assumption) | exact bk_3 (by assumption) | exact bk_4 (by assumption) | exact bk_5 (by assumption) | exact bk_6 (by assumption) | exact bk_7 (by assumption) | exact bk_8 (by assumption) | exact bk_m (by assumption) (by omega) | exact bk_p (by assumption) (by omega) | exact bk_o (by assumption) (by omega) | exact bk_s (by assumption) (by omega) | exact led_1 (by assumption) | exact led_2 (by assumption) | exact sh_ring _ (by omega) | exact sh_imgs _ (by omega)) (by first | decide | omega) rfl rfl (by first | exact Or.inl rfl | exact Or.inr ⟨rfl, rfl, rfl⟩) ?_
  refine v_aload_0 dX12_init_13 ?_
  refine v_iconst (v := -1) dX12_init_14 (by decide) ?_
  refine v_putI dX12_init_15 gf_X12_13 (by first | assumption | rfl | exact bk_1 (by assumption) | exact bk_2 (by assumption) | exact bk_3 (by assumption) | exact bk_4 (by assumption) | exact bk_5 (by assumption) | exact bk_6 (by assumption) | exact bk_7 (by assumption) | exact bk_8 (by assumption) | exact bk_m (by assumption) (by omega) | exact bk_p (by assumption) (by omega) | exact bk_o (by assumption) (by omega) | exact bk_s (by assumption) (by omega) | exact led_1 (by assumption) | exact led_2 (by assumption) | exact sh_ring _ (by omega) | exact sh_imgs _ (by omega)) (by first | decide | omega) rfl rfl (by first | exact Or.inl rfl | exact Or.inr ⟨rfl, rfl, rfl⟩) ?_
  refine v_aload_0 dX12_init_18 ?_
  refine v_bipush (v := nI 8) dX12_init_19 (by decide) ?_
  refine n_newa (t := 0) (len := 8) dX12_init_21 rfl (by decide) rfl (uu (i := 177) (by decide +kernel) rfl) (by decide) (by decide) (by decide) (by first | assumption | rfl | exact bk_1 (by assumption) | exact bk_2 (by assumption) | exact bk_3 (by assumption) | exact bk_4 (by assumption) | exact bk_5 (by assumption) | exact bk_6 (by assumption) | exact bk_7 (by assumption) | exact bk_8 (by assumption) | exact bk_m (by assumption) (by omega) | exact bk_p (by assumption) (by omega) | exact bk_o (by assumption) (by omega) | exact bk_s (by assumption) (by omega) | exact led_1 (by assumption) | exact led_2 (by assumption) | exact sh_ring _ (by omega) | exact sh_imgs _ (by omega)) (by repeat (first | exact Zr.mono (by assumption) (by first | decide | omega) | refine Zr.ur ?_ (by first | decide | omega) | refine Zr.ul ?_ (by first | decide | omega) | refine Zr.ui ?_ (by first | decide | omega))) (by first | decide | omega) (by first | decide | omega) ?_
  refine v_putR dX12_init_23 gf_X12_17 (by first | assumption | rfl | exact bk_1 (by assumption) | exact bk_2 (by assumption) | exact bk_3 (by assumption) | exact bk_4 (by assumption) | exact bk_5 (by assumption) | exact bk_6 (by assumption) | exact bk_7 (by assumption) | exact bk_8 (by assumption) | exact bk_m (by assumption) (by omega) | exact bk_p (by assumption) (by omega) | exact bk_o (by assumption) (by omega) | exact bk_s (by assumption) (by omega) | exact led_1 (by assumption) | exact led_2 (by assumption) | exact sh_ring _ (by omega) | exact sh_imgs _ (by omega)) (by first | decide | omega) rfl rfl (by first | exact Or.inl rfl | exact Or.inr ⟨rfl, rfl, rfl⟩) ?_
  refine v_aload_0 dX12_init_26 ?_
  refine v_sipush (v := nI 345) dX12_init_27 (by decide) ?_
  refine n_newa (t := 0) (len := 345) dX12_init_30 rfl (by decide) rfl (uu (i := 177) (by decide +kernel) rfl) (by decide) (by decide) (by decide) (by first | assumption | rfl | exact bk_1 (by assumption) | exact bk_2 (by assumption) | exact bk_3 (by assumption) | exact bk_4 (by assumption) | exact bk_5 (by assumption) | exact bk_6 (by assumption) | exact bk_7 (by assumption) | exact bk_8 (by assumption) | exact bk_m (by assumption) (by omega) | exact bk_p (by assumption) (by omega) | exact bk_o (by assumption) (by omega) | exact bk_s (by assumption) (by omega) | exact led_1 (by assumption) | exact led_2 (by assumption) | exact sh_ring _ (by omega) | exact sh_imgs _ (by omega)) (by repeat (first | exact Zr.mono (by assumption) (by first | decide | omega) | refine Zr.ur ?_ (by first | decide | omega) | refine Zr.ul ?_ (by first | decide | omega) | refine Zr.ui ?_ (by first | decide | omega))) (by first | decide | omega) (by first | decide | omega) ?_
  refine v_putR dX12_init_32 gf_X12_20 (by first | assumption | rfl | exact bk_1 (by assumption) | exact bk_2 (by assumption) | exact bk_3 (by assumption) | exact bk_4 (by assumption) | exact bk_5 (by assumption) | exact bk_6 (by assumption) | exact bk_7 (by assumption) | exact bk_8 (by assumption) | exact bk_m (by assumption) (by omega) | exact bk_p (by assumption) (by omega) | exact bk_o (by assumption) (by omega) | exact bk_s (by assumption) (by omega) | exact led_1 (by assumption) | exact led_2 (by assumption) | exact sh_ring _ (by omega) | exact sh_imgs _ (by omega)) (by first | decide | omega) rfl rfl (by first | exact Or.inl rfl | exact Or.inr ⟨rfl, rfl, rfl⟩) ?_
  refine v_aload_0 dX12_init_35 ?_
  refine v_sipush (v := nI 345) dX12_init_36 (by decide) ?_
  refine n_newa (t := 0) (len := 345) dX12_init_39 rfl (by decide) rfl (uu (i := 177) (by decide +kernel) rfl) (by decide) (by decide) (by decide) (by first | assumption | rfl | exact bk_1 (by assumption) | exact bk_2 (by assumption) | exact bk_3 (by assumption) | exact bk_4 (by assumption) | exact bk_5 (by assumption) | exact bk_6 (by assumption) | exact bk_7 (by assumption) | exact bk_8 (by assumption) | exact bk_m (by assumption) (by omega) | exact bk_p (by assumption) (by omega) | exact bk_o (by assumption) (by omega) | exact bk_s (by assumption) (by omega) | exact led_1 (by assumption) | exact led_2 (by assumption) | exact sh_ring _ (by omega) | exact sh_imgs _ (by omega)) (by repeat (first | exact Zr.mono (by assumption) (by first | decide | omega) | refine Zr.ur ?_ (by first | decide | omega) | refine Zr.ul ?_ (by first | decide | omega) | refine Zr.ui ?_ (by first | decide | omega))) (by first | decide | omega) (by first | decide | omega) ?_
  refine v_putR dX12_init_41 gf_X12_23 (by first | assumption | rfl | exact bk_1 (by assumption) | exact bk_2 (by assumption) | exact bk_3 (by assumption) | exact bk_4 (by assumption) | exact bk_5 (by assumption) | exact bk_6 (by assumption) | exact bk_7 (by assumption) | exact bk_8 (by assumption) | exact bk_m (by assumption) (by omega) | exact bk_p (by assumption) (by omega) | exact bk_o (by assumption) (by omega) | exact bk_s (by assumption) (by omega) | exact led_1 (by assumption) | exact led_2 (by assumption) | exact sh_ring _ (by omega) | exact sh_imgs _ (by omega)) (by first | decide | omega) rfl rfl (by first | exact Or.inl rfl | exact Or.inr ⟨rfl, rfl, rfl⟩) ?_
  refine v_aload_0 dX12_init_44 ?_
  refine v_bipush (v := nI 87) dX12_init_45 (by decide) ?_
  refine n_newa (t := 0) (len := 87) dX12_init_47 rfl (by decide) rfl (uu (i := 177) (by decide +kernel) rfl) (by decide) (by decide) (by decide) (by first | assumption | rfl | exact bk_1 (by assumption) | exact bk_2 (by assumption) | exact bk_3 (by assumption) | exact bk_4 (by assumption) | exact bk_5 (by assumption) | exact bk_6 (by assumption) | exact bk_7 (by assumption) | exact bk_8 (by assumption) | exact bk_m (by assumption) (by omega) | exact bk_p (by assumption) (by omega) | exact bk_o (by assumption) (by omega) | exact bk_s (by assumption) (by omega) | exact led_1 (by assumption) | exact led_2 (by assumption) | exact sh_ring _ (by omega) | exact sh_imgs _ (by omega)) (by repeat (first | exact Zr.mono (by assumption) (by first | decide | omega) | refine Zr.ur ?_ (by first | decide | omega) | refine Zr.ul ?_ (by first | decide | omega) | refine Zr.ui ?_ (by first | decide | omega))) (by first | decide | omega) (by first | decide | omega) ?_
  refine v_putR dX12_init_49 gf_X12_26 (by first | assumption | rfl | exact bk_1 (by assumption) | exact bk_2 (by assumption) | exact bk_3 (by assumption) | exact bk_4 (by assumption) | exact bk_5 (by assumption) | exact bk_6 (by assumption) | exact bk_7 (by assumption) | exact bk_8 (by assumption) | exact bk_m (by assumption) (by omega) | exact bk_p (by assumption) (by omega) | exact bk_o (by assumption) (by omega) | exact bk_s (by assumption) (by omega) | exact led_1 (by assumption) | exact led_2 (by assumption) | exact sh_ring _ (by omega) | exact sh_imgs _ (by omega)) (by first | decide | omega) rfl rfl (by first | exact Or.inl rfl | exact Or.inr ⟨rfl, rfl, rfl⟩) ?_
  refine v_aload_0 dX12_init_52 ?_
  refine v_bipush (v := nI 87) dX12_init_53 (by decide) ?_
  refine n_newa (t := 0) (len := 87) dX12_init_55 rfl (by decide) rfl (uu (i := 177) (by decide +kernel) rfl) (by decide) (by decide) (by decide) (by first | assumption | rfl | exact bk_1 (by assumption) | exact bk_2 (by assumption) | exact bk_3 (by assumption) | exact bk_4 (by assumption) | exact bk_5 (by assumption) | exact bk_6 (by assumption) | exact bk_7 (by assumption) | exact bk_8 (by assumption) | exact bk_m (by assumption) (by omega) | exact bk_p (by assumption) (by omega) | exact bk_o (by assumption) (by omega) | exact bk_s (by assumption) (by omega) | exact led_1 (by assumption) | exact led_2 (by assumption) | exact sh_ring _ (by omega) | exact sh_imgs _ (by omega)) (by repeat (first | exact Zr.mono (by assumption) (by first | decide | omega) | refine Zr.ur ?_ (by first | decide | omega) | refine Zr.ul ?_ (by first | decide | omega) | refine Zr.ui ?_ (by first | decide | omega))) (by first | decide | omega) (by first | decide | omega) ?_
  refine v_putR dX12_init_57 gf_X12_29 (by first | assumption | rfl | exact bk_1 (by assumption) | exact bk_2 (by assumption) | exact bk_3 (by assumption) | exact bk_4 (by assumption) | exact bk_5 (by assumption) | exact bk_6 (by assumption) | exact bk_7 (by assumption) | exact bk_8 (by assumption) | exact bk_m (by assumption) (by omega) | exact bk_p (by assumption) (by omega) | exact bk_o (by assumption) (by omega) | exact bk_s (by assumption) (by omega) | exact led_1 (by assumption) | exact led_2 (by assumption) | exact sh_ring _ (by omega) | exact sh_imgs _ (by omega)) (by first | decide | omega) rfl rfl (by first | exact Or.inl rfl | exact Or.inr ⟨rfl, rfl, rfl⟩) ?_
  refine v_aload_0 dX12_init_60 ?_
  refine v_bipush (v := nI 87) dX12_init_61 (by decide) ?_
  refine n_newa (t := 0) (len := 87) dX12_init_63 rfl (by decide) rfl (uu (i := 177) (by decide +kernel) rfl) (by decide) (by decide) (by decide) (by first | assumption | rfl | exact bk_1 (by assumption) | exact bk_2 (by assumption) | exact bk_3 (by assumption) | exact bk_4 (by assumption) | exact bk_5 (by assumption) | exact bk_6 (by assumption) | exact bk_7 (by assumption) | exact bk_8 (by assumption) | exact bk_m (by assumption) (by omega) | exact bk_p (by assumption) (by omega) | exact bk_o (by assumption) (by omega) | exact bk_s (by assumption) (by omega) | exact led_1 (by assumption) | exact led_2 (by assumption) | exact sh_ring _ (by omega) | exact sh_imgs _ (by omega)) (by repeat (first | exact Zr.mono (by assumption) (by first | decide | omega) | refine Zr.ur ?_ (by first | decide | omega) | refine Zr.ul ?_ (by first | decide | omega) | refine Zr.ui ?_ (by first | decide | omega))) (by first | decide | omega) (by first | decide | omega) ?_
  refine v_putR dX12_init_65 gf_X12_32 (by first | assumption | rfl | exact bk_1 (by assumption) | exact bk_2 (by assumption) | exact bk_3 (by assumption) | exact bk_4 (by assumption) | exact bk_5 (by assumption) | exact bk_6 (by assumption) | exact bk_7 (by assumption) | exact bk_8 (by assumption) | exact bk_m (by assumption) (by omega) | exact bk_p (by assumption) (by omega) | exact bk_o (by assumption) (by omega) | exact bk_s (by assumption) (by omega) | exact led_1 (by assumption) | exact led_2 (by assumption) | exact sh_ring _ (by omega) | exact sh_imgs _ (by omega)) (by first | decide | omega) rfl rfl (by first | exact Or.inl rfl | exact Or.inr ⟨rfl, rfl, rfl⟩) ?_
  refine v_aload_0 dX12_init_68 ?_
  refine v_sipush (v := nI 1044) dX12_init_69 (by decide) ?_
  refine n_newa (t := 0) (len := 1044) dX12_init_72 rfl (by decide) rfl (uu (i := 177) (by decide +kernel) rfl) (by decide) (by decide) (by decide) (by first | assumption | rfl | exact bk_1 (by assumption) | exact bk_2 (by assumption) | exact bk_3 (by assumption) | exact bk_4 (by assumption) | exact bk_5 (by assumption) | exact bk_6 (by assumption) | exact bk_7 (by assumption) | exact bk_8 (by assumption) | exact bk_m (by assumption) (by omega) | exact bk_p (by assumption) (by omega) | exact bk_o (by assumption) (by omega) | exact bk_s (by assumption) (by omega) | exact led_1 (by assumption) | exact led_2 (by assumption) | exact sh_ring _ (by omega) | exact sh_imgs _ (by omega)) (by repeat (first | exact Zr.mono (by assumption) (by first | decide | omega) | refine Zr.ur ?_ (by first | decide | omega) | refine Zr.ul ?_ (by first | decide | omega) | refine Zr.ui ?_ (by first | decide | omega))) (by first | decide | omega) (by first | decide | omega) ?_
  refine v_putR dX12_init_74 gf_X12_35 (by first | assumption | rfl | exact bk_1 (by assumption) | exact bk_2 (by assumption) | exact bk_3 (by assumption) | exact bk_4 (by assumption) | exact bk_5 (by assumption) | exact bk_6 (by assumption) | exact bk_7 (by assumption) | exact bk_8 (by assumption) | exact bk_m (by assumption) (by omega) | exact bk_p (by assumption) (by omega) | exact bk_o (by assumption) (by omega) | exact bk_s (by assumption) (by omega) | exact led_1 (by assumption) | exact led_2 (by assumption) | exact sh_ring _ (by omega) | exact sh_imgs _ (by omega)) (by first | decide | omega) rfl rfl (by first | exact Or.inl rfl | exact Or.inr ⟨rfl, rfl, rfl⟩) ?_
  refine v_aload_0 dX12_init_77 ?_
  refine v_sipush (v := nI 1044) dX12_init_78 (by decide) ?_
  refine n_newa (t := 0) (len := 1044) dX12_init_81 rfl (by decide) rfl (uu (i := 177) (by decide +kernel) rfl) (by decide) (by decide) (by decide) (by first | assumption | rfl | exact bk_1 (by assumption) | exact bk_2 (by assumption) | exact bk_3 (by assumption) | exact bk_4 (by assumption) | exact bk_5 (by assumption) | exact bk_6 (by assumption) | exact bk_7 (by assumption) | exact bk_8 (by assumption) | exact bk_m (by assumption) (by omega) | exact bk_p (by assumption) (by omega) | exact bk_o (by assumption) (by omega) | exact bk_s (by assumption) (by omega) | exact led_1 (by assumption) | exact led_2 (by assumption) | exact sh_ring _ (by omega) | exact sh_imgs _ (by omega)) (by repeat (first | exact Zr.mono (by assumption) (by first | decide | omega) | refine Zr.ur ?_ (by first | decide | omega) | refine Zr.ul ?_ (by first | decide | omega) | refine Zr.ui ?_ (by first | decide | omega))) (by first | decide | omega) (by first | decide | omega) ?_
  refine v_putR dX12_init_83 gf_X12_38 (by first | assumption | rfl | exact bk_1 (by assumption) | exact bk_2 (by assumption) | exact bk_3 (by assumption) | exact bk_4 (by assumption) | exact bk_5 (by assumption) | exact bk_6 (by assumption) | exact bk_7 (by assumption) | exact bk_8 (by assumption) | exact bk_m (by assumption) (by omega) | exact bk_p (by assumption) (by omega) | exact bk_o (by assumption) (by omega) | exact bk_s (by assumption) (by omega) | exact led_1 (by assumption) | exact led_2 (by assumption) | exact sh_ring _ (by omega) | exact sh_imgs _ (by omega)) (by first | decide | omega) rfl rfl (by first | exact Or.inl rfl | exact Or.inr ⟨rfl, rfl, rfl⟩) ?_
  refine v_aload_0 dX12_init_86 ?_
  refine v_sipush (v := nI 261) dX12_init_87 (by decide) ?_
  refine n_newa (t := 0) (len := 261) dX12_init_90 rfl (by decide) rfl (uu (i := 177) (by decide +kernel) rfl) (by decide) (by decide) (by decide) (by first | assumption | rfl | exact bk_1 (by assumption) | exact bk_2 (by assumption) | exact bk_3 (by assumption) | exact bk_4 (by assumption) | exact bk_5 (by assumption) | exact bk_6 (by assumption) | exact bk_7 (by assumption) | exact bk_8 (by assumption) | exact bk_m (by assumption) (by omega) | exact bk_p (by assumption) (by omega) | exact bk_o (by assumption) (by omega) | exact bk_s (by assumption) (by omega) | exact led_1 (by assumption) | exact led_2 (by assumption) | exact sh_ring _ (by omega) | exact sh_imgs _ (by omega)) (by repeat (first | exact Zr.mono (by assumption) (by first | decide | omega) | refine Zr.ur ?_ (by first | decide | omega) | refine Zr.ul ?_ (by first | decide | omega) | refine Zr.ui ?_ (by first | decide | omega))) (by first | decide | omega) (by first | decide | omega) ?_
  refine v_putR dX12_init_92 gf_X12_41 (by first | assumption | rfl | exact bk_1 (by assumption) | exact bk_2 (by assumption) | exact bk_3 (by assumption) | exact bk_4 (by assumption) | exact bk_5 (by assumption) | exact bk_6 (by assumption) | exact bk_7 (by assumption) | exact bk_8 (by assumption) | exact bk_m (by assumption) (by omega) | exact bk_p (by assumption) (by omega) | exact bk_o (by assumption) (by omega) | exact bk_s (by assumption) (by omega) | exact led_1 (by assumption) | exact led_2 (by assumption) | exact sh_ring _ (by omega) | exact sh_imgs _ (by omega)) (by first | decide | omega) rfl rfl (by first | exact Or.inl rfl | exact Or.inr ⟨rfl, rfl, rfl⟩) ?_
  refine v_aload_0 dX12_init_95 ?_
  refine v_sipush (v := nI 448) dX12_init_96 (by decide) ?_
  refine n_newa (t := 0) (len := 448) dX12_init_99 rfl (by decide) rfl (uu (i := 177) (by decide +kernel) rfl) (by decide) (by decide) (by decide) (by first | assumption | rfl | exact bk_1 (by assumption) | exact bk_2 (by assumption) | exact bk_3 (by assumption) | exact bk_4 (by assumption) | exact bk_5 (by assumption) | exact bk_6 (by assumption) | exact bk_7 (by assumption) | exact bk_8 (by assumption) | exact bk_m (by assumption) (by omega) | exact bk_p (by assumption) (by omega) | exact bk_o (by assumption) (by omega) | exact bk_s (by assumption) (by omega) | exact led_1 (by assumption) | exact led_2 (by assumption) | exact sh_ring _ (by omega) | exact sh_imgs _ (by omega)) (by repeat (first | exact Zr.mono (by assumption) (by first | decide | omega) | refine Zr.ur ?_ (by first | decide | omega) | refine Zr.ul ?_ (by first | decide | omega) | refine Zr.ui ?_ (by first | decide | omega))) (by first | decide | omega) (by first | decide | omega) ?_
  refine v_putR dX12_init_101 gf_X12_44 (by first | assumption | rfl | exact bk_1 (by assumption) | exact bk_2 (by assumption) | exact bk_3 (by assumption) | exact bk_4 (by assumption) | exact bk_5 (by assumption) | exact bk_6 (by assumption) | exact bk_7 (by assumption) | exact bk_8 (by assumption) | exact bk_m (by assumption) (by omega) | exact bk_p (by assumption) (by omega) | exact bk_o (by assumption) (by omega) | exact bk_s (by assumption) (by omega) | exact led_1 (by assumption) | exact led_2 (by assumption) | exact sh_ring _ (by omega) | exact sh_imgs _ (by omega)) (by first | decide | omega) rfl rfl (by first | exact Or.inl rfl | exact Or.inr ⟨rfl, rfl, rfl⟩) ?_
  refine v_aload_0 dX12_init_104 ?_
  refine v_bipush (v := nI 42) dX12_init_105 (by decide) ?_
  refine n_newa (t := 0) (len := 42) dX12_init_107 rfl (by decide) rfl (uu (i := 177) (by decide +kernel) rfl) (by decide) (by decide) (by decide) (by first | assumption | rfl | exact bk_1 (by assumption) | exact bk_2 (by assumption) | exact bk_3 (by assumption) | exact bk_4 (by assumption) | exact bk_5 (by assumption) | exact bk_6 (by assumption) | exact bk_7 (by assumption) | exact bk_8 (by assumption) | exact bk_m (by assumption) (by omega) | exact bk_p (by assumption) (by omega) | exact bk_o (by assumption) (by omega) | exact bk_s (by assumption) (by omega) | exact led_1 (by assumption) | exact led_2 (by assumption) | exact sh_ring _ (by omega) | exact sh_imgs _ (by omega)) (by repeat (first | exact Zr.mono (by assumption) (by first | decide | omega) | refine Zr.ur ?_ (by first | decide | omega) | refine Zr.ul ?_ (by first | decide | omega) | refine Zr.ui ?_ (by first | decide | omega))) (by first | decide | omega) (by first | decide | omega) ?_
  refine v_putR dX12_init_109 gf_X12_47 (by first | assumption | rfl | exact bk_1 (by assumption) | exact bk_2 (by assumption) | exact bk_3 (by assumption) | exact bk_4 (by assumption) | exact bk_5 (by assumption) | exact bk_6 (by assumption) | exact bk_7 (by assumption) | exact bk_8 (by assumption) | exact bk_m (by assumption) (by omega) | exact bk_p (by assumption) (by omega) | exact bk_o (by assumption) (by omega) | exact bk_s (by assumption) (by omega) | exact led_1 (by assumption) | exact led_2 (by assumption) | exact sh_ring _ (by omega) | exact sh_imgs _ (by omega)) (by first | decide | omega) rfl rfl (by first | exact Or.inl rfl | exact Or.inr ⟨rfl, rfl, rfl⟩) ?_
  refine v_aload_0 dX12_init_112 ?_
  refine v_sipush (v := nI 448) dX12_init_113 (by decide) ?_
  refine n_newa (t := 1) (len := 448) dX12_init_116 rfl (by decide) rfl (uu (i := 523) (by decide +kernel) rfl) (by decide) (by decide) (by decide) (by first | assumption | rfl | exact bk_1 (by assumption) | exact bk_2 (by assumption) | exact bk_3 (by assumption) | exact bk_4 (by assumption) | exact bk_5 (by assumption) | exact bk_6 (by assumption) | exact bk_7 (by assumption) | exact bk_8 (by assumption) | exact bk_m (by assumption) (by omega) | exact bk_p (by assumption) (by omega) | exact bk_o (by assumption) (by omega) | exact bk_s (by assumption) (by omega) | exact led_1 (by assumption) | exact led_2 (by assumption) | exact sh_ring _ (by omega) | exact sh_imgs _ (by omega)) (by repeat (first | exact Zr.mono (by assumption) (by first | decide | omega) | refine Zr.ur ?_ (by first | decide | omega) | refine Zr.ul ?_ (by first | decide | omega) | refine Zr.ui ?_ (by first | decide | omega))) (by first | decide | omega) (by first | decide | omega) ?_
  refine v_putR dX12_init_118 gf_X12_50 (by first | assumption | rfl | exact bk_1 (by assumption) | exact bk_2 (by assumption) | exact bk_3 (by assumption) | exact bk_4 (by assumption) | exact bk_5 (by assumption) | exact bk_6 (by assumption) | exact bk_7 (by assumption) | exact bk_8 (by assumption) | exact bk_m (by assumption) (by omega) | exact bk_p (by assumption) (by omega) | exact bk_o (by assumption) (by omega) | exact bk_s (by assumption) (by omega) | exact led_1 (by assumption) | exact led_2 (by assumption) | exact sh_ring _ (by omega) | exact sh_imgs _ (by omega)) (by first | decide | omega) rfl rfl (by first | exact Or.inl rfl | exact Or.inr ⟨rfl, rfl, rfl⟩) ?_
  refine v_vret dX12_init_121 rfl rfl rfl rfl ?_
  exact hQ
end
