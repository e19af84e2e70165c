theorem dX12_canLend_0 : decode cX12_canLend 0 = .ok (.aload_n 0, 1) := by decide +kernel
theorem dX12_canLend_1 : decode cX12_canLend 1 = .ok (.iload_n 2, 1) := by decide +kernel
theorem dX12_canLend_2 : decode cX12_canLend 2 = .ok (.iload_n 3, 1) := by decide +kernel
theorem dX12_canLend_3 : decode cX12_canLend 3 = .ok (.invokestatic 296, 3) := by decide +kernel
theorem dX12_canLend_6 : decode cX12_canLend 6 = .ok (.istore 7, 2) := by decide +kernel
theorem dX12_canLend_8 : decode cX12_canLend 8 = .ok (.iload 4, 2) := by decide +kernel
theorem dX12_canLend_10 : decode cX12_canLend 10 = .ok (.istore 8, 2) := by decide +kernel
theorem dX12_canLend_12 : decode cX12_canLend 12 = .ok (.iload 8, 2) := by decide +kernel
theorem dX12_canLend_14 : decode cX12_canLend 14 = .ok (.iload 5, 2) := by decide +kernel
theorem dX12_canLend_16 : decode cX12_canLend 16 = .ok (.if_icmp .gt 58, 3) := by decide +kernel
theorem dX12_canLend_19 : decode cX12_canLend 19 = .ok (.iload 7, 2) := by decide +kernel
theorem dX12_canLend_21 : decode cX12_canLend 21 = .ok (.ifCond .eq 53, 3) := by decide +kernel
theorem dX12_canLend_24 : decode cX12_canLend 24 = .ok (.aload_n 1, 1) := by decide +kernel
theorem dX12_canLend_25 : decode cX12_canLend 25 = .ok (.iload_n 3, 1) := by decide +kernel
theorem dX12_canLend_26 : decode cX12_canLend 26 = .ok (.iload 8, 2) := by decide +kernel
theorem dX12_canLend_28 : decode cX12_canLend 28 = .ok (.invokestatic 300, 3) := by decide +kernel
theorem dX12_canLend_31 : decode cX12_canLend 31 = .ok (.istore 9, 2) := by decide +kernel
theorem dX12_canLend_33 : decode cX12_canLend 33 = .ok (.iload 6, 2) := by decide +kernel
theorem dX12_canLend_35 : decode cX12_canLend 35 = .ok (.iload_n 2, 1) := by decide +kernel
theorem dX12_canLend_36 : decode cX12_canLend 36 = .ok (.if_icmp .eq 13, 3) := by decide +kernel
theorem dX12_canLend_39 : decode cX12_canLend 39 = .ok (.aload_n 1, 1) := by decide +kernel
theorem dX12_canLend_40 : decode cX12_canLend 40 = .ok (.iload_n 2, 1) := by decide +kernel
theorem dX12_canLend_41 : decode cX12_canLend 41 = .ok (.iload 8, 2) := by decide +kernel
theorem dX12_canLend_43 : decode cX12_canLend 43 = .ok (.invokestatic 304, 3) := by decide +kernel
theorem dX12_canLend_46 : decode cX12_canLend 46 = .ok (.ifCond .ge 19, 3) := by decide +kernel
theorem dX12_canLend_49 : decode cX12_canLend 49 = .ok (.iload 9, 2) := by decide +kernel
theorem dX12_canLend_51 : decode cX12_canLend 51 = .ok (.ifCond .lt 10, 3) := by decide +kernel
theorem dX12_canLend_54 : decode cX12_canLend 54 = .ok (.iload 9, 2) := by decide +kernel
theorem dX12_canLend_56 : decode cX12_canLend 56 = .ok (.iload 6, 2) := by decide +kernel
theorem dX12_canLend_58 : decode cX12_canLend 58 = .ok (.if_icmp .ne 7, 3) := by decide +kernel
theorem dX12_canLend_61 : decode cX12_canLend 61 = .ok (.iconst 1, 1) := by decide +kernel
theorem dX12_canLend_62 : decode cX12_canLend 62 = .ok (.goto 4, 3) := by decide +kernel
theorem dX12_canLend_65 : decode cX12_canLend 65 = .ok (.iconst 0, 1) := by decide +kernel
theorem dX12_canLend_66 : decode cX12_canLend 66 = .ok (.istore 7, 2) := by decide +kernel
theorem dX12_canLend_68 : decode cX12_canLend 68 = .ok (.iinc 8 1, 3) := by decide +kernel
theorem dX12_canLend_71 : decode cX12_canLend 71 = .ok (.goto (-59), 3) := by decide +kernel
theorem dX12_canLend_74 : decode cX12_canLend 74 = .ok (.iload 7, 2) := by decide +kernel
theorem dX12_canLend_76 : decode cX12_canLend 76 = .ok (.ireturn, 1) := by decide +kernel
theorem dX12_putLending_0 : decode cX12_putLending 0 = .ok (.aload_n 0, 1) := by decide +kernel
theorem dX12_putLending_1 : decode cX12_putLending 1 = .ok (.iconst 0, 1) := by decide +kernel
theorem dX12_putLending_2 : decode cX12_putLending 2 = .ok (.iaload, 1) := by decide +kernel
theorem dX12_putLending_3 : decode cX12_putLending 3 = .ok (.istore 5, 2) := by decide +kernel
theorem dX12_putLending_5 : decode cX12_putLending 5 = .ok (.iload 5, 2) := by decide +kernel
theorem dX12_putLending_7 : decode cX12_putLending 7 = .ok (.ifCond .le 90, 3) := by decide +kernel
theorem dX12_putLending_10 : decode cX12_putLending 10 = .ok (.aload_n 0, 1) := by decide +kernel
theorem dX12_putLending_11 : decode cX12_putLending 11 = .ok (.iconst 1, 1) := by decide +kernel
theorem dX12_putLending_12 : decode cX12_putLending 12 = .ok (.iconst 4, 1) := by decide +kernel
theorem dX12_putLending_13 : decode cX12_putLending 13 = .ok (.iload 5, 2) := by decide +kernel
theorem dX12_putLending_15 : decode cX12_putLending 15 = .ok (.imul, 1) := by decide +kernel
theorem dX12_putLending_16 : decode cX12_putLending 16 = .ok (.iadd, 1) := by decide +kernel
theorem dX12_putLending_17 : decode cX12_putLending 17 = .ok (.iconst 4, 1) := by decide +kernel
theorem dX12_putLending_18 : decode cX12_putLending 18 = .ok (.isub, 1) := by decide +kernel
theorem dX12_putLending_19 : decode cX12_putLending 19 = .ok (.iaload, 1) := by decide +kernel
theorem dX12_putLending_20 : decode cX12_putLending 20 = .ok (.iload_n 1, 1) := by decide +kernel
theorem dX12_putLending_21 : decode cX12_putLending 21 = .ok (.if_icmp .gt 31, 3) := by decide +kernel
theorem dX12_putLending_24 : decode cX12_putLending 24 = .ok (.aload_n 0, 1) := by decide +kernel
theorem dX12_putLending_25 : decode cX12_putLending 25 = .ok (.iconst 1, 1) := by decide +kernel
theorem dX12_putLending_26 : decode cX12_putLending 26 = .ok (.iconst 4, 1) := by decide +kernel
theorem dX12_putLending_27 : decode cX12_putLending 27 = .ok (.iload 5, 2) := by decide +kernel
theorem dX12_putLending_29 : decode cX12_putLending 29 = .ok (.imul, 1) := by decide +kernel
theorem dX12_putLending_30 : decode cX12_putLending 30 = .ok (.iadd, 1) := by decide +kernel
theorem dX12_putLending_31 : decode cX12_putLending 31 = .ok (.iconst 4, 1) := by decide +kernel
theorem dX12_putLending_32 : decode cX12_putLending 32 = .ok (.isub, 1) := by decide +kernel
theorem dX12_putLending_33 : decode cX12_putLending 33 = .ok (.iaload, 1) := by decide +kernel
theorem dX12_putLending_34 : decode cX12_putLending 34 = .ok (.iload_n 1, 1) := by decide +kernel
theorem dX12_putLending_35 : decode cX12_putLending 35 = .ok (.if_icmp .ne 62, 3) := by decide +kernel
theorem dX12_putLending_38 : decode cX12_putLending 38 = .ok (.aload_n 0, 1) := by decide +kernel
theorem dX12_putLending_39 : decode cX12_putLending 39 = .ok (.iconst 1, 1) := by decide +kernel
theorem dX12_putLending_40 : decode cX12_putLending 40 = .ok (.iconst 4, 1) := by decide +kernel
theorem dX12_putLending_41 : decode cX12_putLending 41 = .ok (.iload 5, 2) := by decide +kernel
theorem dX12_putLending_43 : decode cX12_putLending 43 = .ok (.imul, 1) := by decide +kernel
theorem dX12_putLending_44 : decode cX12_putLending 44 = .ok (.iadd, 1) := by decide +kernel
theorem dX12_putLending_45 : decode cX12_putLending 45 = .ok (.iconst 2, 1) := by decide +kernel
theorem dX12_putLending_46 : decode cX12_putLending 46 = .ok (.isub, 1) := by decide +kernel
theorem dX12_putLending_47 : decode cX12_putLending 47 = .ok (.iaload, 1) := by decide +kernel
theorem dX12_putLending_48 : decode cX12_putLending 48 = .ok (.iload_n 3, 1) := by decide +kernel
theorem dX12_putLending_49 : decode cX12_putLending 49 = .ok (.if_icmp .le 48, 3) := by decide +kernel
theorem dX12_putLending_52 : decode cX12_putLending 52 = .ok (.iconst 0, 1) := by decide +kernel
theorem dX12_putLending_53 : decode cX12_putLending 53 = .ok (.istore 6, 2) := by decide +kernel
theorem dX12_putLending_55 : decode cX12_putLending 55 = .ok (.iload 6, 2) := by decide +kernel
theorem dX12_putLending_57 : decode cX12_putLending 57 = .ok (.iconst 4, 1) := by decide +kernel
theorem dX12_putLending_58 : decode cX12_putLending 58 = .ok (.if_icmp .ge 33, 3) := by decide +kernel
theorem dX12_putLending_61 : decode cX12_putLending 61 = .ok (.aload_n 0, 1) := by decide +kernel
theorem dX12_putLending_62 : decode cX12_putLending 62 = .ok (.iconst 1, 1) := by decide +kernel
theorem dX12_putLending_63 : decode cX12_putLending 63 = .ok (.iconst 4, 1) := by decide +kernel
theorem dX12_putLending_64 : decode cX12_putLending 64 = .ok (.iload 5, 2) := by decide +kernel
theorem dX12_putLending_66 : decode cX12_putLending 66 = .ok (.imul, 1) := by decide +kernel
theorem dX12_putLending_67 : decode cX12_putLending 67 = .ok (.iadd, 1) := by decide +kernel
theorem dX12_putLending_68 : decode cX12_putLending 68 = .ok (.iload 6, 2) := by decide +kernel
theorem dX12_putLending_70 : decode cX12_putLending 70 = .ok (.iadd, 1) := by decide +kernel
theorem dX12_putLending_71 : decode cX12_putLending 71 = .ok (.aload_n 0, 1) := by decide +kernel
theorem dX12_putLending_72 : decode cX12_putLending 72 = .ok (.iconst 1, 1) := by decide +kernel
theorem dX12_putLending_73 : decode cX12_putLending 73 = .ok (.iconst 4, 1) := by decide +kernel
theorem dX12_putLending_74 : decode cX12_putLending 74 = .ok (.iload 5, 2) := by decide +kernel
theorem dX12_putLending_76 : decode cX12_putLending 76 = .ok (.imul, 1) := by decide +kernel
theorem dX12_putLending_77 : decode cX12_putLending 77 = .ok (.iadd, 1) := by decide +kernel
theorem dX12_putLending_78 : decode cX12_putLending 78 = .ok (.iconst 4, 1) := by decide +kernel
theorem dX12_putLending_79 : decode cX12_putLending 79 = .ok (.isub, 1) := by decide +kernel
theorem dX12_putLending_80 : decode cX12_putLending 80 = .ok (.iload 6, 2) := by decide +kernel
theorem dX12_putLending_82 : decode cX12_putLending 82 = .ok (.iadd, 1) := by decide +kernel
theorem dX12_putLending_83 : decode cX12_putLending 83 = .ok (.iaload, 1) := by decide +kernel
theorem dX12_putLending_84 : decode cX12_putLending 84 = .ok (.iastore, 1) := by decide +kernel
theorem dX12_putLending_85 : decode cX12_putLending 85 = .ok (.iinc 6 1, 3) := by decide +kernel
theorem dX12_putLending_88 : decode cX12_putLending 88 = .ok (.goto (-33), 3) := by decide +kernel
theorem dX12_putLending_91 : decode cX12_putLending 91 = .ok (.iinc 5 (-1), 3) := by decide +kernel
theorem dX12_putLending_94 : decode cX12_putLending 94 = .ok (.goto (-89), 3) := by decide +kernel
theorem dX12_putLending_97 : decode cX12_putLending 97 = .ok (.aload_n 0, 1) := by decide +kernel
theorem dX12_putLending_98 : decode cX12_putLending 98 = .ok (.iconst 1, 1) := by decide +kernel
theorem dX12_putLending_99 : decode cX12_putLending 99 = .ok (.iconst 4, 1) := by decide +kernel
theorem dX12_putLending_100 : decode cX12_putLending 100 = .ok (.iload 5, 2) := by decide +kernel
theorem dX12_putLending_102 : decode cX12_putLending 102 = .ok (.imul, 1) := by decide +kernel
theorem dX12_putLending_103 : decode cX12_putLending 103 = .ok (.iadd, 1) := by decide +kernel
theorem dX12_putLending_104 : decode cX12_putLending 104 = .ok (.iload_n 1, 1) := by decide +kernel
theorem dX12_putLending_105 : decode cX12_putLending 105 = .ok (.iastore, 1) := by decide +kernel
theorem dX12_putLending_106 : decode cX12_putLending 106 = .ok (.aload_n 0, 1) := by decide +kernel
theorem dX12_putLending_107 : decode cX12_putLending 107 = .ok (.iconst 1, 1) := by decide +kernel
theorem dX12_putLending_108 : decode cX12_putLending 108 = .ok (.iconst 4, 1) := by decide +kernel
theorem dX12_putLending_109 : decode cX12_putLending 109 = .ok (.iload 5, 2) := by decide +kernel
theorem dX12_putLending_111 : decode cX12_putLending 111 = .ok (.imul, 1) := by decide +kernel
theorem dX12_putLending_112 : decode cX12_putLending 112 = .ok (.iadd, 1) := by decide +kernel
theorem dX12_putLending_113 : decode cX12_putLending 113 = .ok (.iconst 1, 1) := by decide +kernel
theorem dX12_putLending_114 : decode cX12_putLending 114 = .ok (.iadd, 1) := by decide +kernel
theorem dX12_putLending_115 : decode cX12_putLending 115 = .ok (.iload_n 2, 1) := by decide +kernel
theorem dX12_putLending_116 : decode cX12_putLending 116 = .ok (.iastore, 1) := by decide +kernel
theorem dX12_putLending_117 : decode cX12_putLending 117 = .ok (.aload_n 0, 1) := by decide +kernel
theorem dX12_putLending_118 : decode cX12_putLending 118 = .ok (.iconst 1, 1) := by decide +kernel
theorem dX12_putLending_119 : decode cX12_putLending 119 = .ok (.iconst 4, 1) := by decide +kernel
theorem dX12_putLending_120 : decode cX12_putLending 120 = .ok (.iload 5, 2) := by decide +kernel
theorem dX12_putLending_122 : decode cX12_putLending 122 = .ok (.imul, 1) := by decide +kernel
theorem dX12_putLending_123 : decode cX12_putLending 123 = .ok (.iadd, 1) := by decide +kernel
theorem dX12_putLending_124 : decode cX12_putLending 124 = .ok (.iconst 2, 1) := by decide +kernel
theorem dX12_putLending_125 : decode cX12_putLending 125 = .ok (.iadd, 1) := by decide +kernel
theorem dX12_putLending_126 : decode cX12_putLending 126 = .ok (.iload_n 3, 1) := by decide +kernel
theorem dX12_putLending_127 : decode cX12_putLending 127 = .ok (.iastore, 1) := by decide +kernel
theorem dX12_putLending_128 : decode cX12_putLending 128 = .ok (.aload_n 0, 1) := by decide +kernel
theorem dX12_putLending_129 : decode cX12_putLending 129 = .ok (.iconst 1, 1) := by decide +kernel
theorem dX12_putLending_130 : decode cX12_putLending 130 = .ok (.iconst 4, 1) := by decide +kernel
theorem dX12_putLending_131 : decode cX12_putLending 131 = .ok (.iload 5, 2) := by decide +kernel
theorem dX12_putLending_133 : decode cX12_putLending 133 = .ok (.imul, 1) := by decide +kernel
theorem dX12_putLending_134 : decode cX12_putLending 134 = .ok (.iadd, 1) := by decide +kernel
theorem dX12_putLending_135 : decode cX12_putLending 135 = .ok (.iconst 3, 1) := by decide +kernel
theorem dX12_putLending_136 : decode cX12_putLending 136 = .ok (.iadd, 1) := by decide +kernel
theorem dX12_putLending_137 : decode cX12_putLending 137 = .ok (.iload 4, 2) := by decide +kernel
theorem dX12_putLending_139 : decode cX12_putLending 139 = .ok (.iastore, 1) := by decide +kernel
theorem dX12_putLending_140 : decode cX12_putLending 140 = .ok (.aload_n 0, 1) := by decide +kernel
theorem dX12_putLending_141 : decode cX12_putLending 141 = .ok (.iconst 0, 1) := by decide +kernel
theorem dX12_putLending_142 : decode cX12_putLending 142 = .ok (.dup2, 1) := by decide +kernel
theorem dX12_putLending_143 : decode cX12_putLending 143 = .ok (.iaload, 1) := by decide +kernel
theorem dX12_putLending_144 : decode cX12_putLending 144 = .ok (.iconst 1, 1) := by decide +kernel
theorem dX12_putLending_145 : decode cX12_putLending 145 = .ok (.iadd, 1) := by decide +kernel
theorem dX12_putLending_146 : decode cX12_putLending 146 = .ok (.iastore, 1) := by decide +kernel
theorem dX12_putLending_147 : decode cX12_putLending 147 = .ok (.return_, 1) := by decide +kernel
theorem dX12_dropLending_0 : decode cX12_dropLending 0 = .ok (.iconst 1, 1) := by decide +kernel
theorem dX12_dropLending_1 : decode cX12_dropLending 1 = .ok (.iconst 4, 1) := by decide +kernel
theorem dX12_dropLending_2 : decode cX12_dropLending 2 = .ok (.iload_n 1, 1) := by decide +kernel
theorem dX12_dropLending_3 : decode cX12_dropLending 3 = .ok (.imul, 1) := by decide +kernel
theorem dX12_dropLending_4 : decode cX12_dropLending 4 = .ok (.iadd, 1) := by decide +kernel
theorem dX12_dropLending_5 : decode cX12_dropLending 5 = .ok (.istore_n 2, 1) := by decide +kernel
theorem dX12_dropLending_6 : decode cX12_dropLending 6 = .ok (.iload_n 2, 1) := by decide +kernel
theorem dX12_dropLending_7 : decode cX12_dropLending 7 = .ok (.iconst 4, 1) := by decide +kernel
theorem dX12_dropLending_8 : decode cX12_dropLending 8 = .ok (.iadd, 1) := by decide +kernel
theorem dX12_dropLending_9 : decode cX12_dropLending 9 = .ok (.iconst 1, 1) := by decide +kernel
theorem dX12_dropLending_10 : decode cX12_dropLending 10 = .ok (.iconst 4, 1) := by decide +kernel
theorem dX12_dropLending_11 : decode cX12_dropLending 11 = .ok (.aload_n 0, 1) := by decide +kernel
theorem dX12_dropLending_12 : decode cX12_dropLending 12 = .ok (.iconst 0, 1) := by decide +kernel
theorem dX12_dropLending_13 : decode cX12_dropLending 13 = .ok (.iaload, 1) := by decide +kernel
theorem dX12_dropLending_14 : decode cX12_dropLending 14 = .ok (.imul, 1) := by decide +kernel
theorem dX12_dropLending_15 : decode cX12_dropLending 15 = .ok (.iadd, 1) := by decide +kernel
theorem dX12_dropLending_16 : decode cX12_dropLending 16 = .ok (.if_icmp .ge 17, 3) := by decide +kernel
theorem dX12_dropLending_19 : decode cX12_dropLending 19 = .ok (.aload_n 0, 1) := by decide +kernel
theorem dX12_dropLending_20 : decode cX12_dropLending 20 = .ok (.iload_n 2, 1) := by decide +kernel
theorem dX12_dropLending_21 : decode cX12_dropLending 21 = .ok (.aload_n 0, 1) := by decide +kernel
theorem dX12_dropLending_22 : decode cX12_dropLending 22 = .ok (.iload_n 2, 1) := by decide +kernel
theorem dX12_dropLending_23 : decode cX12_dropLending 23 = .ok (.iconst 4, 1) := by decide +kernel
theorem dX12_dropLending_24 : decode cX12_dropLending 24 = .ok (.iadd, 1) := by decide +kernel
theorem dX12_dropLending_25 : decode cX12_dropLending 25 = .ok (.iaload, 1) := by decide +kernel
theorem dX12_dropLending_26 : decode cX12_dropLending 26 = .ok (.iastore, 1) := by decide +kernel
theorem dX12_dropLending_27 : decode cX12_dropLending 27 = .ok (.iinc 2 1, 3) := by decide +kernel
theorem dX12_dropLending_30 : decode cX12_dropLending 30 = .ok (.goto (-24), 3) := by decide +kernel
theorem dX12_dropLending_33 : decode cX12_dropLending 33 = .ok (.aload_n 0, 1) := by decide +kernel
theorem dX12_dropLending_34 : decode cX12_dropLending 34 = .ok (.iconst 0, 1) := by decide +kernel
theorem dX12_dropLending_35 : decode cX12_dropLending 35 = .ok (.dup2, 1) := by decide +kernel
theorem dX12_dropLending_36 : decode cX12_dropLending 36 = .ok (.iaload, 1) := by decide +kernel
theorem dX12_dropLending_37 : decode cX12_dropLending 37 = .ok (.iconst 1, 1) := by decide +kernel
theorem dX12_dropLending_38 : decode cX12_dropLending 38 = .ok (.isub, 1) := by decide +kernel
theorem dX12_dropLending_39 : decode cX12_dropLending 39 = .ok (.iastore, 1) := by decide +kernel
theorem dX12_dropLending_40 : decode cX12_dropLending 40 = .ok (.iconst 0, 1) := by decide +kernel
theorem dX12_dropLending_41 : decode cX12_dropLending 41 = .ok (.istore_n 2, 1) := by decide +kernel
theorem dX12_dropLending_42 : decode cX12_dropLending 42 = .ok (.iload_n 2, 1) := by decide +kernel
theorem dX12_dropLending_43 : decode cX12_dropLending 43 = .ok (.iconst 4, 1) := by decide +kernel
theorem dX12_dropLending_44 : decode cX12_dropLending 44 = .ok (.if_icmp .ge 21, 3) := by decide +kernel
theorem dX12_dropLending_47 : decode cX12_dropLending 47 = .ok (.aload_n 0, 1) := by decide +kernel
theorem dX12_dropLending_48 : decode cX12_dropLending 48 = .ok (.iconst 1, 1) := by decide +kernel
theorem dX12_dropLending_49 : decode cX12_dropLending 49 = .ok (.iconst 4, 1) := by decide +kernel
theorem dX12_dropLending_50 : decode cX12_dropLending 50 = .ok (.aload_n 0, 1) := by decide +kernel
theorem dX12_dropLending_51 : decode cX12_dropLending 51 = .ok (.iconst 0, 1) := by decide +kernel
theorem dX12_dropLending_52 : decode cX12_dropLending 52 = .ok (.iaload, 1) := by decide +kernel
theorem dX12_dropLending_53 : decode cX12_dropLending 53 = .ok (.imul, 1) := by decide +kernel
theorem dX12_dropLending_54 : decode cX12_dropLending 54 = .ok (.iadd, 1) := by decide +kernel
theorem dX12_dropLending_55 : decode cX12_dropLending 55 = .ok (.iload_n 2, 1) := by decide +kernel
theorem dX12_dropLending_56 : decode cX12_dropLending 56 = .ok (.iadd, 1) := by decide +kernel
theorem dX12_dropLending_57 : decode cX12_dropLending 57 = .ok (.iconst 0, 1) := by decide +kernel
theorem dX12_dropLending_58 : decode cX12_dropLending 58 = .ok (.iastore, 1) := by decide +kernel
theorem dX12_dropLending_59 : decode cX12_dropLending 59 = .ok (.iinc 2 1, 3) := by decide +kernel
theorem dX12_dropLending_62 : decode cX12_dropLending 62 = .ok (.goto (-20), 3) := by decide +kernel
theorem dX12_dropLending_65 : decode cX12_dropLending 65 = .ok (.return_, 1) := by decide +kernel
theorem dX12_keep_0 : decode cX12_keep 0 = .ok (.iload_n 1, 1) := by decide +kernel
theorem dX12_keep_1 : decode cX12_keep 1 = .ok (.istore_n 3, 1) := by decide +kernel
theorem dX12_keep_2 : decode cX12_keep 2 = .ok (.iload_n 3, 1) := by decide +kernel
theorem dX12_keep_3 : decode cX12_keep 3 = .ok (.bipush 12, 2) := by decide +kernel
theorem dX12_keep_5 : decode cX12_keep 5 = .ok (.if_icmp .ne 34, 3) := by decide +kernel
theorem dX12_keep_8 : decode cX12_keep 8 = .ok (.iconst 0, 1) := by decide +kernel
theorem dX12_keep_9 : decode cX12_keep 9 = .ok (.istore 4, 2) := by decide +kernel
theorem dX12_keep_11 : decode cX12_keep 11 = .ok (.iload 4, 2) := by decide +kernel
theorem dX12_keep_13 : decode cX12_keep 13 = .ok (.sipush 957, 3) := by decide +kernel
theorem dX12_keep_16 : decode cX12_keep 16 = .ok (.if_icmp .ge 20, 3) := by decide +kernel
theorem dX12_keep_19 : decode cX12_keep 19 = .ok (.aload_n 0, 1) := by decide +kernel
theorem dX12_keep_20 : decode cX12_keep 20 = .ok (.iload 4, 2) := by decide +kernel
theorem dX12_keep_22 : decode cX12_keep 22 = .ok (.aload_n 0, 1) := by decide +kernel
theorem dX12_keep_23 : decode cX12_keep 23 = .ok (.iload 4, 2) := by decide +kernel
theorem dX12_keep_25 : decode cX12_keep 25 = .ok (.bipush 87, 2) := by decide +kernel
theorem dX12_keep_27 : decode cX12_keep 27 = .ok (.iadd, 1) := by decide +kernel
theorem dX12_keep_28 : decode cX12_keep 28 = .ok (.iaload, 1) := by decide +kernel
theorem dX12_keep_29 : decode cX12_keep 29 = .ok (.iastore, 1) := by decide +kernel
theorem dX12_keep_30 : decode cX12_keep 30 = .ok (.iinc 4 1, 3) := by decide +kernel
theorem dX12_keep_33 : decode cX12_keep 33 = .ok (.goto (-22), 3) := by decide +kernel
theorem dX12_keep_36 : decode cX12_keep 36 = .ok (.iinc 3 (-1), 3) := by decide +kernel
theorem dX12_keep_39 : decode cX12_keep 39 = .ok (.aload_n 2, 1) := by decide +kernel
theorem dX12_keep_40 : decode cX12_keep 40 = .ok (.iconst 0, 1) := by decide +kernel
theorem dX12_keep_41 : decode cX12_keep 41 = .ok (.aload_n 0, 1) := by decide +kernel
theorem dX12_keep_42 : decode cX12_keep 42 = .ok (.bipush 87, 2) := by decide +kernel
theorem dX12_keep_44 : decode cX12_keep 44 = .ok (.iload_n 3, 1) := by decide +kernel
theorem dX12_keep_45 : decode cX12_keep 45 = .ok (.imul, 1) := by decide +kernel
theorem dX12_keep_46 : decode cX12_keep 46 = .ok (.bipush 87, 2) := by decide +kernel
theorem dX12_keep_48 : decode cX12_keep 48 = .ok (.invokestatic 182, 3) := by decide +kernel
theorem dX12_keep_51 : decode cX12_keep 51 = .ok (.iload_n 3, 1) := by decide +kernel
theorem dX12_keep_52 : decode cX12_keep 52 = .ok (.iconst 1, 1) := by decide +kernel
theorem dX12_keep_53 : decode cX12_keep 53 = .ok (.iadd, 1) := by decide +kernel
theorem dX12_keep_54 : decode cX12_keep 54 = .ok (.ireturn, 1) := by decide +kernel
/-! day by day, and at once -/
theorem fup_nn {p : Nat → Bool} {n : Nat} : (fup p 0 n).isNone = true ↔ ∀ i, i < n → p i = false := by
  constructor
  · exact fup_isNone
  · intro h; rw [fup_no h]; rfl
def pdN (s : LSt) (m p d : Nat) : Bool := (fup (hitm s.2.1 m d d) 0 s.1).isNone && (fup (hitp s.2.1 p d d) 0 s.1).isNone
def pdM (s : LSt) (m p d : Nat) : Bool := match fup (hitp s.2.1 p d d) 0 s.1 with
  | none => true
  | some i => decide ((s.2.1 i).1 = m)
theorem aup_okL {F : bkF} {s : LSt} {m p f u : Nat} (h : LOK F s) (hfu : f ≤ u) : (fitF F m p && aup (pdN s m p) f (u + 1 - f)) = okL F s m p f u := by
  unfold okL
  rw [Bool.and_assoc]
  congr 1
  rw [Bool.eq_iff_iff, aup_iff, Bool.and_eq_true, fup_nn, fup_nn]
  constructor
  · intro q
    have key : ∀ i, i < s.1 → ∀ d, f ≤ d → d ≤ u → ¬ ((s.2.1 i).2.2.1 ≤ d ∧ d ≤ (s.2.1 i).2.2.2 ∧ ((s.2.1 i).1 = m ∨ (s.2.1 i).2.1 = p)) := by
      intro i hi d h1 h2 ⟨q1, q2, q3⟩
      have := q d h1 (by omega)
      unfold pdN at this
      rw [Bool.and_eq_true, fup_nn, fup_nn] at this
      rcases q3 with q3 | q3
      · have z := this.1 i hi
        simp [hitm, ovl, q1, q2, q3] at z
      · have z := this.2 i hi
        simp [hitp, ovl, q1, q2, q3] at z
    refine ⟨fun i hi => ?_, fun i hi => ?_⟩
    all_goals
      have hk := (h.2.1 i hi).1.2.2.2.1
      by_cases hf : (s.2.1 i).2.2.1 ≤ f
    · have := key i hi f (Nat.le_refl _) hfu
      simp only [hitm, ovl, Bool.and_eq_false_iff, decide_eq_false_iff_not]; omega
    · by_cases hu : (s.2.1 i).2.2.1 ≤ u
      · have := key i hi (s.2.1 i).2.2.1 (by omega) hu
        simp only [hitm, ovl, Bool.and_eq_false_iff, decide_eq_false_iff_not]; omega
      · simp only [hitm, ovl, Bool.and_eq_false_iff, decide_eq_false_iff_not]; omega
    · have := key i hi f (Nat.le_refl _) hfu
      simp only [hitp, ovl, Bool.and_eq_false_iff, decide_eq_false_iff_not]; omega
    · by_cases hu : (s.2.1 i).2.2.1 ≤ u
      · have := key i hi (s.2.1 i).2.2.1 (by omega) hu
        simp only [hitp, ovl, Bool.and_eq_false_iff, decide_eq_false_iff_not]; omega
      · simp only [hitp, ovl, Bool.and_eq_false_iff, decide_eq_false_iff_not]; omega
  · intro ⟨q1, q2⟩ d h1 h2
    unfold pdN
    rw [Bool.and_eq_true, fup_nn, fup_nn]
    refine ⟨fun i hi => ?_, fun i hi => ?_⟩
    · have := q1 i hi
      simp only [hitm, ovl, Bool.and_eq_false_iff, decide_eq_false_iff_not] at this ⊢; omega
    · have := q2 i hi
      simp only [hitp, ovl, Bool.and_eq_false_iff, decide_eq_false_iff_not] at this ⊢; omega
/-- a mask that is passed on: its own lending stands in no one else's way -/
theorem aup_pass {F : bkF} {s : LSt} {m p d i : Nat} (h : LOK F s) (hi : i < s.1) (hm : (s.2.1 i).1 = m) (h1 : (s.2.1 i).2.2.1 ≤ d) (h2 : d ≤ (s.2.1 i).2.2.2) (hp : (s.2.1 i).2.1 ≠ p) : aup (pdM s m p) d ((s.2.1 i).2.2.2 + 1 - d) = (fup (hitp s.2.1 p d (s.2.1 i).2.2.2) 0 s.1).isNone := by
  have same : ∀ j, j < s.1 → j ≠ i → (s.2.1 j).1 = m → (s.2.1 j).2.2.2 < (s.2.1 i).2.2.1 ∨ (s.2.1 i).2.2.2 < (s.2.1 j).2.2.1 := by
    intro j hj hne hjm
    rcases Nat.lt_or_gt_of_ne hne with q | q
    · have := (h.rel q hi).1; omega
    · have := (h.rel q hj).1; omega
  rw [Bool.eq_iff_iff, aup_iff, fup_nn]
  constructor
  · intro q j hj
    have hk := (h.2.1 j hj).1.2.2.2.1
    have key : ∀ e, d ≤ e → e ≤ (s.2.1 i).2.2.2 → ¬ ((s.2.1 j).2.1 = p ∧ (s.2.1 j).2.2.1 ≤ e ∧ e ≤ (s.2.1 j).2.2.2) := by
      intro e e1 e2 ⟨z1, z2, z3⟩
      have hq := q e e1 (by omega)
      unfold pdM at hq
      cases hf : fup (hitp s.2.1 p e e) 0 s.1 with
      | none =>
        have := fup_none hf j (Nat.zero_le _) (by omega)
        simp [hitp, ovl, z1, z2, z3] at this
      | some k =>
        rw [hf] at hq
        obtain ⟨-, k2, k3⟩ := fup_some hf
        simp only [hitp, ovl, Bool.and_eq_true, decide_eq_true_eq] at k3
        have hkm : (s.2.1 k).1 = m := of_decide_eq_true hq
        by_cases hki : k = i
        · rw [hki] at k3; exact hp k3.1
        · have := same k (by omega) hki hkm; omega
    by_cases hf : (s.2.1 j).2.2.1 ≤ d
    · have := key d (Nat.le_refl _) h2
      simp only [hitp, ovl, Bool.and_eq_false_iff, decide_eq_false_iff_not]; omega
    · by_cases hu : (s.2.1 j).2.2.1 ≤ (s.2.1 i).2.2.2
      · have := key (s.2.1 j).2.2.1 (by omega) hu
        simp only [hitp, ovl, Bool.and_eq_false_iff, decide_eq_false_iff_not]; omega
      · simp only [hitp, ovl, Bool.and_eq_false_iff, decide_eq_false_iff_not]; omega
  · intro q e e1 e2
    unfold pdM
    cases hf : fup (hitp s.2.1 p e e) 0 s.1 with
    | none => rfl
    | some k =>
      obtain ⟨-, k2, k3⟩ := fup_some hf
      have := q k (by omega)
      simp only [hitp, ovl, Bool.and_eq_true, decide_eq_true_eq, Bool.and_eq_false_iff, decide_eq_false_iff_not] at k3 this
      omega
section
variable {b : Nat} {ad : Nat → Nat} {I J : HI} {L M : HL} {R : HR} {Q : QT} {F : bkF} {s : LSt} {a o : Nat}
variable {c : Nat}
theorem c_X12_canLendN {m p f u : Nat} (hr : FI I a F) (hO : FOK F) (hc : SH c = .inr (0, 87)) (hS : StI I c 0 s) (hK : LOK F s) (hm : m < F 2) (hp : p < F 3) (hf : f ≤ u) (hu : u < 2 ^ 30) (hQ : Q (some (.int (bI (fitF F m p && aup (pdN s m p) f (u + 1 - f))))) SH I L R) : KK 2 mX12_canLend b ad [.ref (b + a), .ref (b + c), .int (nI m), .int (nI p), .int (nI f), .int (nI u), .int (-1)] I L R Q := by
  have o2 := hO.2.2.1
  have o3 := hO.2.2.2.1
  have hn20 := hK.1
  have hok : ∀ i, i < s.1 → ok4 (s.2.1 i) := fun i hi => (hK.2.1 i hi).1
  have loop : ∀ (j d : Nat) (w : Bool) (q : Option Value), lc q = true → d + j = u + 1 → (w && aup (pdN s m p) d j) = (fitF F m p && aup (pdN s m p) f (u + 1 - f)) → VV yX12_canLend cX12_canLend 10 (some .boolean) 2 Q b ad 12 [some (.ref (b + a)), some (.ref (b + c)), some (.int (nI m)), some (.int (nI p)), some (.int (nI f)), some (.int (nI u)), some (.int (-1)), some (.int (bI w)), some (.int (nI d)), q] [] I L R := by
    intro j
    induction j with
    | zero =>
      intro d w q hq hd he
      have he : w = _ := (Bool.and_true w).symm.trans he
      subst he
      refine v_iload_8 dX12_canLend_12 ?_
      refine v_iload_5 dX12_canLend_14 ?_
      refine v_icmp_gt (tgt := 74) dX12_canLend_16 (by decide) (fun hc16 => ?_) (fun hc16 => ?_)
      · (try rw [nI_ltI (by omega) (by omega)] at hc16)
        refine v_iload_7 dX12_canLend_74 ?_
        refine v_zret dX12_canLend_76 (by first | rfl | exact bI_n _) rfl rfl rfl rfl ?_
        exact hQ
      · exact absurd (nI_lt (by omega) (by omega)) hc16
    | succ j ih =>
      intro d w q hq hd he
      cases w with
      | false =>
        refine v_iload_8 dX12_canLend_12 ?_
        refine v_iload_5 dX12_canLend_14 ?_
        refine v_icmp_gt (tgt := 74) dX12_canLend_16 (by decide) (fun hc16 => ?_) (fun hc16 => ?_)
        · exact absurd hc16 (nI_nlt (by omega) (by omega))
        · (try rw [nI_ltI (by omega) (by omega)] at hc16)
          refine v_iload_7 dX12_canLend_19 ?_
          refine v_if_eq (tgt := 74) dX12_canLend_21 (by decide) (fun hc21 => ?_) (fun hc21 => ?_)
          · skip
            refine v_iload_7 dX12_canLend_74 ?_
            refine v_zret dX12_canLend_76 (by first | rfl | exact bI_n _) rfl rfl rfl rfl ?_
            rw [← he, Bool.false_and] at hQ
            exact hQ
          · exact absurd rfl hc21
      | true =>
        cases hB : fup (hitp s.2.1 p d d) 0 s.1 with
        | none =>
          cases hA : fup (hitm s.2.1 m d d) 0 s.1 with
          | none =>
            refine v_iload_8 dX12_canLend_12 ?_
            refine v_iload_5 dX12_canLend_14 ?_
            refine v_icmp_gt (tgt := 74) dX12_canLend_16 (by decide) (fun hc16 => ?_) (fun hc16 => ?_)
            · exact absurd hc16 (nI_nlt (by omega) (by omega))
            · (try rw [nI_ltI (by omega) (by omega)] at hc16)
              refine v_iload_7 dX12_canLend_19 ?_
              refine v_if_eq (tgt := 74) dX12_canLend_21 (by decide) (fun hc21 => ?_) (fun hc21 => ?_)
              · exact absurd hc21 (by decide)
              · skip
                refine v_aload_1 dX12_canLend_24 ?_
                refine v_iload_3 dX12_canLend_25 ?_
                refine v_iload_8 dX12_canLend_26 ?_
                refine u_callS_3 dX12_canLend_28 ml_X12_300 ms_X12_maskOf (by decide) (Nat.le_of_ble_eq_true rfl) (c_X12_maskOf (s := s) hc hS hn20 hok (by omega) (by omega) ?_)
                rw [hB, show eO (Option.map (fun i => (s.2.1 i).1) none) = -1 from rfl]
                refine v_istore_9 rfl dX12_canLend_31 ?_
                refine v_iload_6 dX12_canLend_33 ?_
                refine v_iload_2 dX12_canLend_35 ?_
                refine v_icmp_eq (tgt := 49) dX12_canLend_36 (by decide) (fun hc36 => ?_) (fun hc36 => ?_)
                · exact absurd hc36 (fun q => by have h0 := nI_pos (n := m) (by omega); rw [← q] at h0; exact h0 (by decide))
                · skip
                  refine v_aload_1 dX12_canLend_39 ?_
                  refine v_iload_2 dX12_canLend_40 ?_
                  refine v_iload_8 dX12_canLend_41 ?_
                  refine u_callS_3 dX12_canLend_43 ml_X12_304 ms_X12_lendingOf (by decide) (Nat.le_of_ble_eq_true rfl) (c_X12_lendingOf (s := s) hc hS hn20 hok (by omega) (by omega) ?_)
                  rw [hA]
                  refine v_if_ge (tgt := 65) dX12_canLend_46 (by decide) (fun hc46 => ?_) (fun hc46 => ?_)
                  · exact absurd hc46 (by decide)
                  · skip
                    refine v_iload_9 dX12_canLend_49 ?_
                    refine v_if_lt (tgt := 61) dX12_canLend_51 (by decide) (fun hc51 => ?_) (fun hc51 => ?_)
                    · skip
                      refine v_iconst (v := nI 1) dX12_canLend_61 (by decide) ?_
                      refine v_goto (tgt := 66) dX12_canLend_62 (by decide) ?_
                      refine v_istore_7 rfl dX12_canLend_66 ?_
                      refine v_iinc_8 (v := 1) rfl dX12_canLend_68 (by decide) ?_
                      rw [show nI d + 1 = nI (d + 1) from nI_1 d]
                      refine v_goto (tgt := 12) dX12_canLend_71 (by decide) ?_
                      refine ih (d + 1) true _ rfl (by omega) ?_
                      rw [← he]
                      show (true && aup (pdN s m p) (d + 1) j) = (true && (pdN s m p d && aup (pdN s m p) (d + 1) j))
                      rw [show pdN s m p d = true from by unfold pdN; rw [hA, hB]; rfl]
                      rfl
                    · exact absurd (by decide) hc51
          | some z =>
            have hz9 : z < s.1 := by have := fup_some hA; omega
            refine v_iload_8 dX12_canLend_12 ?_
            refine v_iload_5 dX12_canLend_14 ?_
            refine v_icmp_gt (tgt := 74) dX12_canLend_16 (by decide) (fun hc16 => ?_) (fun hc16 => ?_)
            · exact absurd hc16 (nI_nlt (by omega) (by omega))
            · (try rw [nI_ltI (by omega) (by omega)] at hc16)
              refine v_iload_7 dX12_canLend_19 ?_
              refine v_if_eq (tgt := 74) dX12_canLend_21 (by decide) (fun hc21 => ?_) (fun hc21 => ?_)
              · exact absurd hc21 (by decide)
              · skip
                refine v_aload_1 dX12_canLend_24 ?_
                refine v_iload_3 dX12_canLend_25 ?_
                refine v_iload_8 dX12_canLend_26 ?_
                refine u_callS_3 dX12_canLend_28 ml_X12_300 ms_X12_maskOf (by decide) (Nat.le_of_ble_eq_true rfl) (c_X12_maskOf (s := s) hc hS hn20 hok (by omega) (by omega) ?_)
                rw [hB, show eO (Option.map (fun i => (s.2.1 i).1) none) = -1 from rfl]
                refine v_istore_9 rfl dX12_canLend_31 ?_
                refine v_iload_6 dX12_canLend_33 ?_
                refine v_iload_2 dX12_canLend_35 ?_
                refine v_icmp_eq (tgt := 49) dX12_canLend_36 (by decide) (fun hc36 => ?_) (fun hc36 => ?_)
                · exact absurd hc36 (fun q => by have h0 := nI_pos (n := m) (by omega); rw [← q] at h0; exact h0 (by decide))
                · skip
                  refine v_aload_1 dX12_canLend_39 ?_
                  refine v_iload_2 dX12_canLend_40 ?_
                  refine v_iload_8 dX12_canLend_41 ?_
                  refine u_callS_3 dX12_canLend_43 ml_X12_304 ms_X12_lendingOf (by decide) (Nat.le_of_ble_eq_true rfl) (c_X12_lendingOf (s := s) hc hS hn20 hok (by omega) (by omega) ?_)
                  rw [hA]
                  refine v_if_ge (tgt := 65) dX12_canLend_46 (by decide) (fun hc46 => ?_) (fun hc46 => ?_)
                  · skip
                    refine v_iconst (v := nI 0) dX12_canLend_65 (by decide) ?_
                    refine v_istore_7 rfl dX12_canLend_66 ?_
                    refine v_iinc_8 (v := 1) rfl dX12_canLend_68 (by decide) ?_
                    rw [show nI d + 1 = nI (d + 1) from nI_1 d]
                    refine v_goto (tgt := 12) dX12_canLend_71 (by decide) ?_
                    refine ih (d + 1) false _ rfl (by omega) ?_
                    rw [← he]
                    show (false && aup (pdN s m p) (d + 1) j) = (true && (pdN s m p d && aup (pdN s m p) (d + 1) j))
                    rw [show pdN s m p d = false from by unfold pdN; rw [hA, hB]; rfl]
                    rfl
                  · exact absurd (nI_pos2 (by omega)) hc46
        | some k =>
          have hk6 := (hok k (by have := fup_some hB; omega)).1
          cases hA : fup (hitm s.2.1 m d d) 0 s.1 with
          | none =>
            refine v_iload_8 dX12_canLend_12 ?_
            refine v_iload_5 dX12_canLend_14 ?_
            refine v_icmp_gt (tgt := 74) dX12_canLend_16 (by decide) (fun hc16 => ?_) (fun hc16 => ?_)
            · exact absurd hc16 (nI_nlt (by omega) (by omega))
            · (try rw [nI_ltI (by omega) (by omega)] at hc16)
              refine v_iload_7 dX12_canLend_19 ?_
              refine v_if_eq (tgt := 74) dX12_canLend_21 (by decide) (fun hc21 => ?_) (fun hc21 => ?_)
              · exact absurd hc21 (by decide)
              · skip
                refine v_aload_1 dX12_canLend_24 ?_
                refine v_iload_3 dX12_canLend_25 ?_
                refine v_iload_8 dX12_canLend_26 ?_
                refine u_callS_3 dX12_canLend_28 ml_X12_300 ms_X12_maskOf (by decide) (Nat.le_of_ble_eq_true rfl) (c_X12_maskOf (s := s) hc hS hn20 hok (by omega) (by omega) ?_)
                rw [hB, show eO (Option.map (fun i => (s.2.1 i).1) (some k)) = nI (s.2.1 k).1 from rfl]
                refine v_istore_9 rfl dX12_canLend_31 ?_
                refine v_iload_6 dX12_canLend_33 ?_
                refine v_iload_2 dX12_canLend_35 ?_
                refine v_icmp_eq (tgt := 49) dX12_canLend_36 (by decide) (fun hc36 => ?_) (fun hc36 => ?_)
                · exact absurd hc36 (fun q => by have h0 := nI_pos (n := m) (by omega); rw [← q] at h0; exact h0 (by decide))
                · skip
                  refine v_aload_1 dX12_canLend_39 ?_
                  refine v_iload_2 dX12_canLend_40 ?_
                  refine v_iload_8 dX12_canLend_41 ?_
                  refine u_callS_3 dX12_canLend_43 ml_X12_304 ms_X12_lendingOf (by decide) (Nat.le_of_ble_eq_true rfl) (c_X12_lendingOf (s := s) hc hS hn20 hok (by omega) (by omega) ?_)
                  rw [hA]
                  refine v_if_ge (tgt := 65) dX12_canLend_46 (by decide) (fun hc46 => ?_) (fun hc46 => ?_)
                  · exact absurd hc46 (by decide)
                  · skip
                    refine v_iload_9 dX12_canLend_49 ?_
                    refine v_if_lt (tgt := 61) dX12_canLend_51 (by decide) (fun hc51 => ?_) (fun hc51 => ?_)
                    · exact absurd hc51 (nI_pos (by omega))
                    · skip
                      refine v_iload_9 dX12_canLend_54 ?_
                      refine v_iload_6 dX12_canLend_56 ?_
                      refine v_icmp_ne (tgt := 65) dX12_canLend_58 (by decide) (fun hc58 => ?_) (fun hc58 => ?_)
                      · skip
                        refine v_iconst (v := nI 0) dX12_canLend_65 (by decide) ?_
                        refine v_istore_7 rfl dX12_canLend_66 ?_
                        refine v_iinc_8 (v := 1) rfl dX12_canLend_68 (by decide) ?_
                        rw [show nI d + 1 = nI (d + 1) from nI_1 d]
                        refine v_goto (tgt := 12) dX12_canLend_71 (by decide) ?_
                        refine ih (d + 1) false _ rfl (by omega) ?_
                        rw [← he]
                        show (false && aup (pdN s m p) (d + 1) j) = (true && (pdN s m p d && aup (pdN s m p) (d + 1) j))
                        rw [show pdN s m p d = false from by unfold pdN; rw [hA, hB]; rfl]
                        rfl
                      · exact absurd hc58 (fun q => by have h0 := nI_pos (n := (s.2.1 k).1) (by omega); rw [q] at h0; exact h0 (by decide))
          | some z =>
            have hz9 : z < s.1 := by have := fup_some hA; omega
            refine v_iload_8 dX12_canLend_12 ?_
            refine v_iload_5 dX12_canLend_14 ?_
            refine v_icmp_gt (tgt := 74) dX12_canLend_16 (by decide) (fun hc16 => ?_) (fun hc16 => ?_)
            · exact absurd hc16 (nI_nlt (by omega) (by omega))
            · (try rw [nI_ltI (by omega) (by omega)] at hc16)
              refine v_iload_7 dX12_canLend_19 ?_
              refine v_if_eq (tgt := 74) dX12_canLend_21 (by decide) (fun hc21 => ?_) (fun hc21 => ?_)
              · exact absurd hc21 (by decide)
              · skip
                refine v_aload_1 dX12_canLend_24 ?_
                refine v_iload_3 dX12_canLend_25 ?_
                refine v_iload_8 dX12_canLend_26 ?_
                refine u_callS_3 dX12_canLend_28 ml_X12_300 ms_X12_maskOf (by decide) (Nat.le_of_ble_eq_true rfl) (c_X12_maskOf (s := s) hc hS hn20 hok (by omega) (by omega) ?_)
                rw [hB, show eO (Option.map (fun i => (s.2.1 i).1) (some k)) = nI (s.2.1 k).1 from rfl]
                refine v_istore_9 rfl dX12_canLend_31 ?_
                refine v_iload_6 dX12_canLend_33 ?_
                refine v_iload_2 dX12_canLend_35 ?_
                refine v_icmp_eq (tgt := 49) dX12_canLend_36 (by decide) (fun hc36 => ?_) (fun hc36 => ?_)
                · exact absurd hc36 (fun q => by have h0 := nI_pos (n := m) (by omega); rw [← q] at h0; exact h0 (by decide))
                · skip
                  refine v_aload_1 dX12_canLend_39 ?_
                  refine v_iload_2 dX12_canLend_40 ?_
                  refine v_iload_8 dX12_canLend_41 ?_
                  refine u_callS_3 dX12_canLend_43 ml_X12_304 ms_X12_lendingOf (by decide) (Nat.le_of_ble_eq_true rfl) (c_X12_lendingOf (s := s) hc hS hn20 hok (by omega) (by omega) ?_)
                  rw [hA]
                  refine v_if_ge (tgt := 65) dX12_canLend_46 (by decide) (fun hc46 => ?_) (fun hc46 => ?_)
                  · skip
                    refine v_iconst (v := nI 0) dX12_canLend_65 (by decide) ?_
                    refine v_istore_7 rfl dX12_canLend_66 ?_
                    refine v_iinc_8 (v := 1) rfl dX12_canLend_68 (by decide) ?_
                    rw [show nI d + 1 = nI (d + 1) from nI_1 d]
                    refine v_goto (tgt := 12) dX12_canLend_71 (by decide) ?_
                    refine ih (d + 1) false _ rfl (by omega) ?_
                    rw [← he]
                    show (false && aup (pdN s m p) (d + 1) j) = (true && (pdN s m p d && aup (pdN s m p) (d + 1) j))
                    rw [show pdN s m p d = false from by unfold pdN; rw [hA, hB]; rfl]
                    rfl
                  · exact absurd (nI_pos2 (by omega)) hc46
  refine K.of (M := mX12_canLend) (lv := [some (.ref (b + a)), some (.ref (b + c)), some (.int (nI m)), some (.int (nI p)), some (.int (nI f)), some (.int (nI u)), some (.int (-1)), none, none, none]) (by decide) (Nat.le_of_ble_eq_true rfl) rfl ?_
  refine v_aload_0 dX12_canLend_0 ?_
  refine v_iload_2 dX12_canLend_1 ?_
  refine v_iload_3 dX12_canLend_2 ?_
  refine u_callS_3 dX12_canLend_3 ml_X12_296 ms_X12_doesFit (by decide) (Nat.le_of_ble_eq_true rfl) (c_X12_doesFit hr hO hm hp ?_)
  refine v_istore_7 rfl dX12_canLend_6 ?_
  refine v_iload_4 dX12_canLend_8 ?_
  refine v_istore_8 rfl dX12_canLend_10 ?_
  exact loop (u + 1 - f) f _ _ rfl (by omega) rfl
theorem c_X12_canLendM {m p f u : Nat} (hr : FI I a F) (hO : FOK F) (hc : SH c = .inr (0, 87)) (hS : StI I c 0 s) (hK : LOK F s) (hm : m < F 2) (hp : p < F 3) (hf : f ≤ u) (hu : u < 2 ^ 30) (hQ : Q (some (.int (bI (fitF F m p && aup (pdM s m p) f (u + 1 - f))))) SH I L R) : KK 2 mX12_canLend b ad [.ref (b + a), .ref (b + c), .int (nI m), .int (nI p), .int (nI f), .int (nI u), .int (nI m)] I L R Q := by
  have o2 := hO.2.2.1
  have o3 := hO.2.2.2.1
  have hn20 := hK.1
  have hok : ∀ i, i < s.1 → ok4 (s.2.1 i) := fun i hi => (hK.2.1 i hi).1
  have loop : ∀ (j d : Nat) (w : Bool) (q : Option Value), lc q = true → d + j = u + 1 → (w && aup (pdM s m p) d j) = (fitF F m p && aup (pdM s m p) f (u + 1 - f)) → VV yX12_canLend cX12_canLend 10 (some .boolean) 2 Q b ad 12 [some (.ref (b + a)), some (.ref (b + c)), some (.int (nI m)), some (.int (nI p)), some (.int (nI f)), some (.int (nI u)), some (.int (nI m)), some (.int (bI w)), some (.int (nI d)), q] [] I L R := by
    intro j
    induction j with
    | zero =>
      intro d w q hq hd he
      have he : w = _ := (Bool.and_true w).symm.trans he
      subst he
      refine v_iload_8 dX12_canLend_12 ?_
      refine v_iload_5 dX12_canLend_14 ?_
      refine v_icmp_gt (tgt := 74) dX12_canLend_16 (by decide) (fun hc16 => ?_) (fun hc16 => ?_)
      · (try rw [nI_ltI (by omega) (by omega)] at hc16)
        refine v_iload_7 dX12_canLend_74 ?_
        refine v_zret dX12_canLend_76 (by first | rfl | exact bI_n _) rfl rfl rfl rfl ?_
        exact hQ
      · exact absurd (nI_lt (by omega) (by omega)) hc16
    | succ j ih =>
      intro d w q hq hd he
      cases w with
      | false =>
        refine v_iload_8 dX12_canLend_12 ?_
        refine v_iload_5 dX12_canLend_14 ?_
        refine v_icmp_gt (tgt := 74) dX12_canLend_16 (by decide) (fun hc16 => ?_) (fun hc16 => ?_)
        · exact absurd hc16 (nI_nlt (by omega) (by omega))
        · (try rw [nI_ltI (by omega) (by omega)] at hc16)
          refine v_iload_7 dX12_canLend_19 ?_
          refine v_if_eq (tgt := 74) dX12_canLend_21 (by decide) (fun hc21 => ?_) (fun hc21 => ?_)
          · skip
            refine v_iload_7 dX12_canLend_74 ?_
            refine v_zret dX12_canLend_76 (by first | rfl | exact bI_n _) rfl rfl rfl rfl ?_
            rw [← he, Bool.false_and] at hQ
            exact hQ
          · exact absurd rfl hc21
      | true =>
        cases hB : fup (hitp s.2.1 p d d) 0 s.1 with
        | none =>
          refine v_iload_8 dX12_canLend_12 ?_
          refine v_iload_5 dX12_canLend_14 ?_
          refine v_icmp_gt (tgt := 74) dX12_canLend_16 (by decide) (fun hc16 => ?_) (fun hc16 => ?_)
          · exact absurd hc16 (nI_nlt (by omega) (by omega))
          · (try rw [nI_ltI (by omega) (by omega)] at hc16)
            refine v_iload_7 dX12_canLend_19 ?_
            refine v_if_eq (tgt := 74) dX12_canLend_21 (by decide) (fun hc21 => ?_) (fun hc21 => ?_)
            · exact absurd hc21 (by decide)
            · skip
              refine v_aload_1 dX12_canLend_24 ?_
              refine v_iload_3 dX12_canLend_25 ?_
              refine v_iload_8 dX12_canLend_26 ?_
              refine u_callS_3 dX12_canLend_28 ml_X12_300 ms_X12_maskOf (by decide) (Nat.le_of_ble_eq_true rfl) (c_X12_maskOf (s := s) hc hS hn20 hok (by omega) (by omega) ?_)
              rw [hB, show eO (Option.map (fun i => (s.2.1 i).1) none) = -1 from rfl]
              refine v_istore_9 rfl dX12_canLend_31 ?_
              refine v_iload_6 dX12_canLend_33 ?_
              refine v_iload_2 dX12_canLend_35 ?_
              refine v_icmp_eq (tgt := 49) dX12_canLend_36 (by decide) (fun hc36 => ?_) (fun hc36 => ?_)
              · skip
                refine v_iload_9 dX12_canLend_49 ?_
                refine v_if_lt (tgt := 61) dX12_canLend_51 (by decide) (fun hc51 => ?_) (fun hc51 => ?_)
                · skip
                  refine v_iconst (v := nI 1) dX12_canLend_61 (by decide) ?_
                  refine v_goto (tgt := 66) dX12_canLend_62 (by decide) ?_
                  refine v_istore_7 rfl dX12_canLend_66 ?_
                  refine v_iinc_8 (v := 1) rfl dX12_canLend_68 (by decide) ?_
                  rw [show nI d + 1 = nI (d + 1) from nI_1 d]
                  refine v_goto (tgt := 12) dX12_canLend_71 (by decide) ?_
                  refine ih (d + 1) true _ rfl (by omega) ?_
                  rw [← he]
                  show (true && aup (pdM s m p) (d + 1) j) = (true && (pdM s m p d && aup (pdM s m p) (d + 1) j))
                  rw [show pdM s m p d = true from by unfold pdM; rw [hB]]
                  rfl
                · exact absurd (by decide) hc51
              · exact absurd rfl hc36
        | some k =>
          have hk6 := (hok k (by have := fup_some hB; omega)).1
          refine v_iload_8 dX12_canLend_12 ?_
          refine v_iload_5 dX12_canLend_14 ?_
          refine v_icmp_gt (tgt := 74) dX12_canLend_16 (by decide) (fun hc16 => ?_) (fun hc16 => ?_)
          · exact absurd hc16 (nI_nlt (by omega) (by omega))
          · (try rw [nI_ltI (by omega) (by omega)] at hc16)
            refine v_iload_7 dX12_canLend_19 ?_
            refine v_if_eq (tgt := 74) dX12_canLend_21 (by decide) (fun hc21 => ?_) (fun hc21 => ?_)
            · exact absurd hc21 (by decide)
            · skip
              refine v_aload_1 dX12_canLend_24 ?_
              refine v_iload_3 dX12_canLend_25 ?_
              refine v_iload_8 dX12_canLend_26 ?_
              refine u_callS_3 dX12_canLend_28 ml_X12_300 ms_X12_maskOf (by decide) (Nat.le_of_ble_eq_true rfl) (c_X12_maskOf (s := s) hc hS hn20 hok (by omega) (by omega) ?_)
              rw [hB, show eO (Option.map (fun i => (s.2.1 i).1) (some k)) = nI (s.2.1 k).1 from rfl]
              refine v_istore_9 rfl dX12_canLend_31 ?_
              refine v_iload_6 dX12_canLend_33 ?_
              refine v_iload_2 dX12_canLend_35 ?_
              refine v_icmp_eq (tgt := 49) dX12_canLend_36 (by decide) (fun hc36 => ?_) (fun hc36 => ?_)
              · skip
                refine v_iload_9 dX12_canLend_49 ?_
                refine v_if_lt (tgt := 61) dX12_canLend_51 (by decide) (fun hc51 => ?_) (fun hc51 => ?_)
                · exact absurd hc51 (nI_pos (by omega))
                · skip
                  refine v_iload_9 dX12_canLend_54 ?_
                  refine v_iload_6 dX12_canLend_56 ?_
                  refine v_icmp_ne (tgt := 65) dX12_canLend_58 (by decide) (fun hc58 => ?_) (fun hc58 => ?_)
                  · rw [nI_eq (show (s.2.1 k).1 < 2 ^ 31 by omega) (by omega)] at hc58
                    refine v_iconst (v := nI 0) dX12_canLend_65 (by decide) ?_
                    refine v_istore_7 rfl dX12_canLend_66 ?_
                    refine v_iinc_8 (v := 1) rfl dX12_canLend_68 (by decide) ?_
                    rw [show nI d + 1 = nI (d + 1) from nI_1 d]
                    refine v_goto (tgt := 12) dX12_canLend_71 (by decide) ?_
                    first
                      | (refine ih (d + 1) true _ rfl (by omega) ?_; rw [← he]; show (true && aup (pdM s m p) (d + 1) j) = (true && (pdM s m p d && aup (pdM s m p) (d + 1) j)); rw [show pdM s m p d = true from (by unfold pdM; rw [hB]; exact decide_eq_true hc58)]; rfl)
                      | (refine ih (d + 1) false _ rfl (by omega) ?_; rw [← he]; show (false && aup (pdM s m p) (d + 1) j) = (true && (pdM s m p d && aup (pdM s m p) (d + 1) j)); rw [show pdM s m p d = false from (by unfold pdM; rw [hB]; exact decide_eq_false hc58)]; rfl)
                  · rw [nI_eq (show (s.2.1 k).1 < 2 ^ 31 by omega) (by omega)] at hc58
                    refine v_iconst (v := nI 1) dX12_canLend_61 (by decide) ?_
                    refine v_goto (tgt := 66) dX12_canLend_62 (by decide) ?_
                    refine v_istore_7 rfl dX12_canLend_66 ?_
                    refine v_iinc_8 (v := 1) rfl dX12_canLend_68 (by decide) ?_
                    rw [show nI d + 1 = nI (d + 1) from nI_1 d]
                    refine v_goto (tgt := 12) dX12_canLend_71 (by decide) ?_
                    first
                      | (refine ih (d + 1) true _ rfl (by omega) ?_; rw [← he]; show (true && aup (pdM s m p) (d + 1) j) = (true && (pdM s m p d && aup (pdM s m p) (d + 1) j)); rw [show pdM s m p d = true from (by unfold pdM; rw [hB]; exact decide_eq_true hc58)]; rfl)
                      | (refine ih (d + 1) false _ rfl (by omega) ?_; rw [← he]; show (false && aup (pdM s m p) (d + 1) j) = (true && (pdM s m p d && aup (pdM s m p) (d + 1) j)); rw [show pdM s m p d = false from (by unfold pdM; rw [hB]; exact decide_eq_false hc58)]; rfl)
              · exact absurd rfl hc36
  refine K.of (M := mX12_canLend) (lv := [some (.ref (b + a)), some (.ref (b + c)), some (.int (nI m)), some (.int (nI p)), some (.int (nI f)), some (.int (nI u)), some (.int (nI m)), none, none, none]) (by decide) (Nat.le_of_ble_eq_true rfl) rfl ?_
  refine v_aload_0 dX12_canLend_0 ?_
  refine v_iload_2 dX12_canLend_1 ?_
  refine v_iload_3 dX12_canLend_2 ?_
  refine u_callS_3 dX12_canLend_3 ml_X12_296 ms_X12_doesFit (by decide) (Nat.le_of_ble_eq_true rfl) (c_X12_doesFit hr hO hm hp ?_)
  refine v_istore_7 rfl dX12_canLend_6 ?_
  refine v_iload_4 dX12_canLend_8 ?_
  refine v_istore_8 rfl dX12_canLend_10 ?_
  exact loop (u + 1 - f) f _ _ rfl (by omega) rfl
end
