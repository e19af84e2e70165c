theorem dX9_open_0 : decode cX9_open 0 = .ok (.aload_n 0, 1) := by decide +kernel
theorem dX9_open_1 : decode cX9_open 1 = .ok (.aload_n 1, 1) := by decide +kernel
theorem dX9_open_2 : decode cX9_open 2 = .ok (.putfield 7, 3) := by decide +kernel
theorem dX9_open_5 : decode cX9_open 5 = .ok (.aload_n 0, 1) := by decide +kernel
theorem dX9_open_6 : decode cX9_open 6 = .ok (.iload_n 2, 1) := by decide +kernel
theorem dX9_open_7 : decode cX9_open 7 = .ok (.aload_n 1, 1) := by decide +kernel
theorem dX9_open_8 : decode cX9_open 8 = .ok (.arraylength, 1) := by decide +kernel
theorem dX9_open_9 : decode cX9_open 9 = .ok (.invokestatic 13, 3) := by decide +kernel
theorem dX9_open_12 : decode cX9_open 12 = .ok (.putfield 19, 3) := by decide +kernel
theorem dX9_open_15 : decode cX9_open 15 = .ok (.aload_n 0, 1) := by decide +kernel
theorem dX9_open_16 : decode cX9_open 16 = .ok (.iconst 0, 1) := by decide +kernel
theorem dX9_open_17 : decode cX9_open 17 = .ok (.putfield 23, 3) := by decide +kernel
theorem dX9_open_20 : decode cX9_open 20 = .ok (.aload_n 0, 1) := by decide +kernel
theorem dX9_open_21 : decode cX9_open 21 = .ok (.iconst 0, 1) := by decide +kernel
theorem dX9_open_22 : decode cX9_open 22 = .ok (.putfield 26, 3) := by decide +kernel
theorem dX9_open_25 : decode cX9_open 25 = .ok (.return_, 1) := by decide +kernel
theorem dX9_advance_0 : decode cX9_advance 0 = .ok (.aload_n 0, 1) := by decide +kernel
theorem dX9_advance_1 : decode cX9_advance 1 = .ok (.aload_n 0, 1) := by decide +kernel
theorem dX9_advance_2 : decode cX9_advance 2 = .ok (.getfield 26, 3) := by decide +kernel
theorem dX9_advance_5 : decode cX9_advance 5 = .ok (.putfield 29, 3) := by decide +kernel
theorem dX9_advance_8 : decode cX9_advance 8 = .ok (.aload_n 0, 1) := by decide +kernel
theorem dX9_advance_9 : decode cX9_advance 9 = .ok (.getfield 23, 3) := by decide +kernel
theorem dX9_advance_12 : decode cX9_advance 12 = .ok (.aload_n 0, 1) := by decide +kernel
theorem dX9_advance_13 : decode cX9_advance 13 = .ok (.getfield 19, 3) := by decide +kernel
theorem dX9_advance_16 : decode cX9_advance 16 = .ok (.if_icmp .ge 30, 3) := by decide +kernel
theorem dX9_advance_19 : decode cX9_advance 19 = .ok (.aload_n 0, 1) := by decide +kernel
theorem dX9_advance_20 : decode cX9_advance 20 = .ok (.getfield 7, 3) := by decide +kernel
theorem dX9_advance_23 : decode cX9_advance 23 = .ok (.aload_n 0, 1) := by decide +kernel
theorem dX9_advance_24 : decode cX9_advance 24 = .ok (.getfield 23, 3) := by decide +kernel
theorem dX9_advance_27 : decode cX9_advance 27 = .ok (.baload, 1) := by decide +kernel
theorem dX9_advance_28 : decode cX9_advance 28 = .ok (.bipush 32, 2) := by decide +kernel
theorem dX9_advance_30 : decode cX9_advance 30 = .ok (.if_icmp .ne 16, 3) := by decide +kernel
theorem dX9_advance_33 : decode cX9_advance 33 = .ok (.aload_n 0, 1) := by decide +kernel
theorem dX9_advance_34 : decode cX9_advance 34 = .ok (.dup, 1) := by decide +kernel
theorem dX9_advance_35 : decode cX9_advance 35 = .ok (.getfield 23, 3) := by decide +kernel
theorem dX9_advance_38 : decode cX9_advance 38 = .ok (.iconst 1, 1) := by decide +kernel
theorem dX9_advance_39 : decode cX9_advance 39 = .ok (.iadd, 1) := by decide +kernel
theorem dX9_advance_40 : decode cX9_advance 40 = .ok (.putfield 23, 3) := by decide +kernel
theorem dX9_advance_43 : decode cX9_advance 43 = .ok (.goto (-35), 3) := by decide +kernel
theorem dX9_advance_46 : decode cX9_advance 46 = .ok (.aload_n 0, 1) := by decide +kernel
theorem dX9_advance_47 : decode cX9_advance 47 = .ok (.aload_n 0, 1) := by decide +kernel
theorem dX9_advance_48 : decode cX9_advance 48 = .ok (.getfield 23, 3) := by decide +kernel
theorem dX9_advance_51 : decode cX9_advance 51 = .ok (.putfield 26, 3) := by decide +kernel
theorem dX9_advance_54 : decode cX9_advance 54 = .ok (.aload_n 0, 1) := by decide +kernel
theorem dX9_advance_55 : decode cX9_advance 55 = .ok (.getfield 23, 3) := by decide +kernel
theorem dX9_advance_58 : decode cX9_advance 58 = .ok (.aload_n 0, 1) := by decide +kernel
theorem dX9_advance_59 : decode cX9_advance 59 = .ok (.getfield 19, 3) := by decide +kernel
theorem dX9_advance_62 : decode cX9_advance 62 = .ok (.if_icmp .ge 15, 3) := by decide +kernel
theorem dX9_advance_65 : decode cX9_advance 65 = .ok (.aload_n 0, 1) := by decide +kernel
theorem dX9_advance_66 : decode cX9_advance 66 = .ok (.getfield 7, 3) := by decide +kernel
theorem dX9_advance_69 : decode cX9_advance 69 = .ok (.aload_n 0, 1) := by decide +kernel
theorem dX9_advance_70 : decode cX9_advance 70 = .ok (.getfield 23, 3) := by decide +kernel
theorem dX9_advance_73 : decode cX9_advance 73 = .ok (.baload, 1) := by decide +kernel
theorem dX9_advance_74 : decode cX9_advance 74 = .ok (.goto 4, 3) := by decide +kernel
theorem dX9_advance_77 : decode cX9_advance 77 = .ok (.iconst (-1), 1) := by decide +kernel
theorem dX9_advance_78 : decode cX9_advance 78 = .ok (.istore_n 1, 1) := by decide +kernel
theorem dX9_advance_79 : decode cX9_advance 79 = .ok (.aload_n 0, 1) := by decide +kernel
theorem dX9_advance_80 : decode cX9_advance 80 = .ok (.getfield 23, 3) := by decide +kernel
theorem dX9_advance_83 : decode cX9_advance 83 = .ok (.aload_n 0, 1) := by decide +kernel
theorem dX9_advance_84 : decode cX9_advance 84 = .ok (.getfield 19, 3) := by decide +kernel
theorem dX9_advance_87 : decode cX9_advance 87 = .ok (.if_icmp .lt 11, 3) := by decide +kernel
theorem dX9_advance_90 : decode cX9_advance 90 = .ok (.aload_n 0, 1) := by decide +kernel
theorem dX9_advance_91 : decode cX9_advance 91 = .ok (.iconst 0, 1) := by decide +kernel
theorem dX9_advance_92 : decode cX9_advance 92 = .ok (.putfield 32, 3) := by decide +kernel
theorem dX9_advance_95 : decode cX9_advance 95 = .ok (.goto 76, 3) := by decide +kernel
theorem dX9_advance_98 : decode cX9_advance 98 = .ok (.iload_n 1, 1) := by decide +kernel
theorem dX9_advance_99 : decode cX9_advance 99 = .ok (.bipush 97, 2) := by decide +kernel
theorem dX9_advance_101 : decode cX9_advance 101 = .ok (.if_icmp .lt 16, 3) := by decide +kernel
theorem dX9_advance_104 : decode cX9_advance 104 = .ok (.iload_n 1, 1) := by decide +kernel
theorem dX9_advance_105 : decode cX9_advance 105 = .ok (.bipush 122, 2) := by decide +kernel
theorem dX9_advance_107 : decode cX9_advance 107 = .ok (.if_icmp .gt 10, 3) := by decide +kernel
theorem dX9_advance_110 : decode cX9_advance 110 = .ok (.aload_n 0, 1) := by decide +kernel
theorem dX9_advance_111 : decode cX9_advance 111 = .ok (.invokevirtual 35, 3) := by decide +kernel
theorem dX9_advance_114 : decode cX9_advance 114 = .ok (.goto 57, 3) := by decide +kernel
theorem dX9_advance_117 : decode cX9_advance 117 = .ok (.iload_n 1, 1) := by decide +kernel
theorem dX9_advance_118 : decode cX9_advance 118 = .ok (.bipush 48, 2) := by decide +kernel
theorem dX9_advance_120 : decode cX9_advance 120 = .ok (.if_icmp .lt 16, 3) := by decide +kernel
theorem dX9_advance_123 : decode cX9_advance 123 = .ok (.iload_n 1, 1) := by decide +kernel
theorem dX9_advance_124 : decode cX9_advance 124 = .ok (.bipush 57, 2) := by decide +kernel
theorem dX9_advance_126 : decode cX9_advance 126 = .ok (.if_icmp .gt 10, 3) := by decide +kernel
theorem dX9_advance_129 : decode cX9_advance 129 = .ok (.aload_n 0, 1) := by decide +kernel
theorem dX9_advance_130 : decode cX9_advance 130 = .ok (.invokevirtual 38, 3) := by decide +kernel
theorem dX9_advance_133 : decode cX9_advance 133 = .ok (.goto 38, 3) := by decide +kernel
theorem dX9_advance_136 : decode cX9_advance 136 = .ok (.aload_n 0, 1) := by decide +kernel
theorem dX9_advance_137 : decode cX9_advance 137 = .ok (.iload_n 1, 1) := by decide +kernel
theorem dX9_advance_138 : decode cX9_advance 138 = .ok (.bipush 59, 2) := by decide +kernel
theorem dX9_advance_140 : decode cX9_advance 140 = .ok (.if_icmp .ne 7, 3) := by decide +kernel
theorem dX9_advance_143 : decode cX9_advance 143 = .ok (.iconst 3, 1) := by decide +kernel
theorem dX9_advance_144 : decode cX9_advance 144 = .ok (.goto 14, 3) := by decide +kernel
theorem dX9_advance_147 : decode cX9_advance 147 = .ok (.iload_n 1, 1) := by decide +kernel
theorem dX9_advance_148 : decode cX9_advance 148 = .ok (.bipush 44, 2) := by decide +kernel
theorem dX9_advance_150 : decode cX9_advance 150 = .ok (.if_icmp .ne 7, 3) := by decide +kernel
theorem dX9_advance_153 : decode cX9_advance 153 = .ok (.iconst 4, 1) := by decide +kernel
theorem dX9_advance_154 : decode cX9_advance 154 = .ok (.goto 4, 3) := by decide +kernel
theorem dX9_advance_157 : decode cX9_advance 157 = .ok (.iconst 5, 1) := by decide +kernel
theorem dX9_advance_158 : decode cX9_advance 158 = .ok (.putfield 32, 3) := by decide +kernel
theorem dX9_advance_161 : decode cX9_advance 161 = .ok (.aload_n 0, 1) := by decide +kernel
theorem dX9_advance_162 : decode cX9_advance 162 = .ok (.dup, 1) := by decide +kernel
theorem dX9_advance_163 : decode cX9_advance 163 = .ok (.getfield 23, 3) := by decide +kernel
theorem dX9_advance_166 : decode cX9_advance 166 = .ok (.iconst 1, 1) := by decide +kernel
theorem dX9_advance_167 : decode cX9_advance 167 = .ok (.iadd, 1) := by decide +kernel
theorem dX9_advance_168 : decode cX9_advance 168 = .ok (.putfield 23, 3) := by decide +kernel
theorem dX9_advance_171 : decode cX9_advance 171 = .ok (.return_, 1) := by decide +kernel
theorem dX9_readWord_0 : decode cX9_readWord 0 = .ok (.aload_n 0, 1) := by decide +kernel
theorem dX9_readWord_1 : decode cX9_readWord 1 = .ok (.lconst 0, 1) := by decide +kernel
theorem dX9_readWord_2 : decode cX9_readWord 2 = .ok (.putfield 41, 3) := by decide +kernel
theorem dX9_readWord_5 : decode cX9_readWord 5 = .ok (.aload_n 0, 1) := by decide +kernel
theorem dX9_readWord_6 : decode cX9_readWord 6 = .ok (.getfield 23, 3) := by decide +kernel
theorem dX9_readWord_9 : decode cX9_readWord 9 = .ok (.aload_n 0, 1) := by decide +kernel
theorem dX9_readWord_10 : decode cX9_readWord 10 = .ok (.getfield 19, 3) := by decide +kernel
theorem dX9_readWord_13 : decode cX9_readWord 13 = .ok (.if_icmp .ge 70, 3) := by decide +kernel
theorem dX9_readWord_16 : decode cX9_readWord 16 = .ok (.aload_n 0, 1) := by decide +kernel
theorem dX9_readWord_17 : decode cX9_readWord 17 = .ok (.getfield 7, 3) := by decide +kernel
theorem dX9_readWord_20 : decode cX9_readWord 20 = .ok (.aload_n 0, 1) := by decide +kernel
theorem dX9_readWord_21 : decode cX9_readWord 21 = .ok (.getfield 23, 3) := by decide +kernel
theorem dX9_readWord_24 : decode cX9_readWord 24 = .ok (.baload, 1) := by decide +kernel
theorem dX9_readWord_25 : decode cX9_readWord 25 = .ok (.bipush 97, 2) := by decide +kernel
theorem dX9_readWord_27 : decode cX9_readWord 27 = .ok (.if_icmp .lt 56, 3) := by decide +kernel
theorem dX9_readWord_30 : decode cX9_readWord 30 = .ok (.aload_n 0, 1) := by decide +kernel
theorem dX9_readWord_31 : decode cX9_readWord 31 = .ok (.getfield 7, 3) := by decide +kernel
theorem dX9_readWord_34 : decode cX9_readWord 34 = .ok (.aload_n 0, 1) := by decide +kernel
theorem dX9_readWord_35 : decode cX9_readWord 35 = .ok (.getfield 23, 3) := by decide +kernel
theorem dX9_readWord_38 : decode cX9_readWord 38 = .ok (.baload, 1) := by decide +kernel
theorem dX9_readWord_39 : decode cX9_readWord 39 = .ok (.bipush 122, 2) := by decide +kernel
theorem dX9_readWord_41 : decode cX9_readWord 41 = .ok (.if_icmp .gt 42, 3) := by decide +kernel
theorem dX9_readWord_44 : decode cX9_readWord 44 = .ok (.aload_n 0, 1) := by decide +kernel
theorem dX9_readWord_45 : decode cX9_readWord 45 = .ok (.aload_n 0, 1) := by decide +kernel
theorem dX9_readWord_46 : decode cX9_readWord 46 = .ok (.getfield 41, 3) := by decide +kernel
theorem dX9_readWord_49 : decode cX9_readWord 49 = .ok (.iconst 5, 1) := by decide +kernel
theorem dX9_readWord_50 : decode cX9_readWord 50 = .ok (.lshl, 1) := by decide +kernel
theorem dX9_readWord_51 : decode cX9_readWord 51 = .ok (.aload_n 0, 1) := by decide +kernel
theorem dX9_readWord_52 : decode cX9_readWord 52 = .ok (.getfield 7, 3) := by decide +kernel
theorem dX9_readWord_55 : decode cX9_readWord 55 = .ok (.aload_n 0, 1) := by decide +kernel
theorem dX9_readWord_56 : decode cX9_readWord 56 = .ok (.getfield 23, 3) := by decide +kernel
theorem dX9_readWord_59 : decode cX9_readWord 59 = .ok (.baload, 1) := by decide +kernel
theorem dX9_readWord_60 : decode cX9_readWord 60 = .ok (.bipush 97, 2) := by decide +kernel
theorem dX9_readWord_62 : decode cX9_readWord 62 = .ok (.isub, 1) := by decide +kernel
theorem dX9_readWord_63 : decode cX9_readWord 63 = .ok (.iconst 1, 1) := by decide +kernel
theorem dX9_readWord_64 : decode cX9_readWord 64 = .ok (.iadd, 1) := by decide +kernel
theorem dX9_readWord_65 : decode cX9_readWord 65 = .ok (.i2l, 1) := by decide +kernel
theorem dX9_readWord_66 : decode cX9_readWord 66 = .ok (.lor, 1) := by decide +kernel
theorem dX9_readWord_67 : decode cX9_readWord 67 = .ok (.putfield 41, 3) := by decide +kernel
theorem dX9_readWord_70 : decode cX9_readWord 70 = .ok (.aload_n 0, 1) := by decide +kernel
theorem dX9_readWord_71 : decode cX9_readWord 71 = .ok (.dup, 1) := by decide +kernel
theorem dX9_readWord_72 : decode cX9_readWord 72 = .ok (.getfield 23, 3) := by decide +kernel
theorem dX9_readWord_75 : decode cX9_readWord 75 = .ok (.iconst 1, 1) := by decide +kernel
theorem dX9_readWord_76 : decode cX9_readWord 76 = .ok (.iadd, 1) := by decide +kernel
theorem dX9_readWord_77 : decode cX9_readWord 77 = .ok (.putfield 23, 3) := by decide +kernel
theorem dX9_readWord_80 : decode cX9_readWord 80 = .ok (.goto (-75), 3) := by decide +kernel
theorem dX9_readWord_83 : decode cX9_readWord 83 = .ok (.aload_n 0, 1) := by decide +kernel
theorem dX9_readWord_84 : decode cX9_readWord 84 = .ok (.aload_n 0, 1) := by decide +kernel
theorem dX9_readWord_85 : decode cX9_readWord 85 = .ok (.getfield 23, 3) := by decide +kernel
theorem dX9_readWord_88 : decode cX9_readWord 88 = .ok (.aload_n 0, 1) := by decide +kernel
theorem dX9_readWord_89 : decode cX9_readWord 89 = .ok (.getfield 26, 3) := by decide +kernel
theorem dX9_readWord_92 : decode cX9_readWord 92 = .ok (.isub, 1) := by decide +kernel
theorem dX9_readWord_93 : decode cX9_readWord 93 = .ok (.bipush 8, 2) := by decide +kernel
theorem dX9_readWord_95 : decode cX9_readWord 95 = .ok (.if_icmp .gt 7, 3) := by decide +kernel
theorem dX9_readWord_98 : decode cX9_readWord 98 = .ok (.iconst 1, 1) := by decide +kernel
theorem dX9_readWord_99 : decode cX9_readWord 99 = .ok (.goto 4, 3) := by decide +kernel
theorem dX9_readWord_102 : decode cX9_readWord 102 = .ok (.iconst 5, 1) := by decide +kernel
theorem dX9_readWord_103 : decode cX9_readWord 103 = .ok (.putfield 32, 3) := by decide +kernel
theorem dX9_readWord_106 : decode cX9_readWord 106 = .ok (.return_, 1) := by decide +kernel
theorem dX9_readWhole_0 : decode cX9_readWhole 0 = .ok (.aload_n 0, 1) := by decide +kernel
theorem dX9_readWhole_1 : decode cX9_readWhole 1 = .ok (.iconst 0, 1) := by decide +kernel
theorem dX9_readWhole_2 : decode cX9_readWhole 2 = .ok (.putfield 54, 3) := by decide +kernel
theorem dX9_readWhole_5 : decode cX9_readWhole 5 = .ok (.aload_n 0, 1) := by decide +kernel
theorem dX9_readWhole_6 : decode cX9_readWhole 6 = .ok (.getfield 23, 3) := by decide +kernel
theorem dX9_readWhole_9 : decode cX9_readWhole 9 = .ok (.aload_n 0, 1) := by decide +kernel
theorem dX9_readWhole_10 : decode cX9_readWhole 10 = .ok (.getfield 19, 3) := by decide +kernel
theorem dX9_readWhole_13 : decode cX9_readWhole 13 = .ok (.if_icmp .ge 68, 3) := by decide +kernel
theorem dX9_readWhole_16 : decode cX9_readWhole 16 = .ok (.aload_n 0, 1) := by decide +kernel
theorem dX9_readWhole_17 : decode cX9_readWhole 17 = .ok (.getfield 7, 3) := by decide +kernel
theorem dX9_readWhole_20 : decode cX9_readWhole 20 = .ok (.aload_n 0, 1) := by decide +kernel
theorem dX9_readWhole_21 : decode cX9_readWhole 21 = .ok (.getfield 23, 3) := by decide +kernel
theorem dX9_readWhole_24 : decode cX9_readWhole 24 = .ok (.baload, 1) := by decide +kernel
theorem dX9_readWhole_25 : decode cX9_readWhole 25 = .ok (.bipush 48, 2) := by decide +kernel
theorem dX9_readWhole_27 : decode cX9_readWhole 27 = .ok (.if_icmp .lt 54, 3) := by decide +kernel
theorem dX9_readWhole_30 : decode cX9_readWhole 30 = .ok (.aload_n 0, 1) := by decide +kernel
theorem dX9_readWhole_31 : decode cX9_readWhole 31 = .ok (.getfield 7, 3) := by decide +kernel
theorem dX9_readWhole_34 : decode cX9_readWhole 34 = .ok (.aload_n 0, 1) := by decide +kernel
theorem dX9_readWhole_35 : decode cX9_readWhole 35 = .ok (.getfield 23, 3) := by decide +kernel
theorem dX9_readWhole_38 : decode cX9_readWhole 38 = .ok (.baload, 1) := by decide +kernel
theorem dX9_readWhole_39 : decode cX9_readWhole 39 = .ok (.bipush 57, 2) := by decide +kernel
theorem dX9_readWhole_41 : decode cX9_readWhole 41 = .ok (.if_icmp .gt 40, 3) := by decide +kernel
theorem dX9_readWhole_44 : decode cX9_readWhole 44 = .ok (.aload_n 0, 1) := by decide +kernel
theorem dX9_readWhole_45 : decode cX9_readWhole 45 = .ok (.aload_n 0, 1) := by decide +kernel
theorem dX9_readWhole_46 : decode cX9_readWhole 46 = .ok (.getfield 54, 3) := by decide +kernel
theorem dX9_readWhole_49 : decode cX9_readWhole 49 = .ok (.bipush 10, 2) := by decide +kernel
theorem dX9_readWhole_51 : decode cX9_readWhole 51 = .ok (.imul, 1) := by decide +kernel
theorem dX9_readWhole_52 : decode cX9_readWhole 52 = .ok (.aload_n 0, 1) := by decide +kernel
theorem dX9_readWhole_53 : decode cX9_readWhole 53 = .ok (.getfield 7, 3) := by decide +kernel
theorem dX9_readWhole_56 : decode cX9_readWhole 56 = .ok (.aload_n 0, 1) := by decide +kernel
theorem dX9_readWhole_57 : decode cX9_readWhole 57 = .ok (.getfield 23, 3) := by decide +kernel
theorem dX9_readWhole_60 : decode cX9_readWhole 60 = .ok (.baload, 1) := by decide +kernel
theorem dX9_readWhole_61 : decode cX9_readWhole 61 = .ok (.iadd, 1) := by decide +kernel
theorem dX9_readWhole_62 : decode cX9_readWhole 62 = .ok (.bipush 48, 2) := by decide +kernel
theorem dX9_readWhole_64 : decode cX9_readWhole 64 = .ok (.isub, 1) := by decide +kernel
theorem dX9_readWhole_65 : decode cX9_readWhole 65 = .ok (.putfield 54, 3) := by decide +kernel
theorem dX9_readWhole_68 : decode cX9_readWhole 68 = .ok (.aload_n 0, 1) := by decide +kernel
theorem dX9_readWhole_69 : decode cX9_readWhole 69 = .ok (.dup, 1) := by decide +kernel
theorem dX9_readWhole_70 : decode cX9_readWhole 70 = .ok (.getfield 23, 3) := by decide +kernel
theorem dX9_readWhole_73 : decode cX9_readWhole 73 = .ok (.iconst 1, 1) := by decide +kernel
theorem dX9_readWhole_74 : decode cX9_readWhole 74 = .ok (.iadd, 1) := by decide +kernel
theorem dX9_readWhole_75 : decode cX9_readWhole 75 = .ok (.putfield 23, 3) := by decide +kernel
theorem dX9_readWhole_78 : decode cX9_readWhole 78 = .ok (.goto (-73), 3) := by decide +kernel
theorem dX9_readWhole_81 : decode cX9_readWhole 81 = .ok (.aload_n 0, 1) := by decide +kernel
theorem dX9_readWhole_82 : decode cX9_readWhole 82 = .ok (.aload_n 0, 1) := by decide +kernel
theorem dX9_readWhole_83 : decode cX9_readWhole 83 = .ok (.getfield 23, 3) := by decide +kernel
theorem dX9_readWhole_86 : decode cX9_readWhole 86 = .ok (.aload_n 0, 1) := by decide +kernel
theorem dX9_readWhole_87 : decode cX9_readWhole 87 = .ok (.getfield 26, 3) := by decide +kernel
theorem dX9_readWhole_90 : decode cX9_readWhole 90 = .ok (.isub, 1) := by decide +kernel
theorem dX9_readWhole_91 : decode cX9_readWhole 91 = .ok (.iconst 3, 1) := by decide +kernel
theorem dX9_readWhole_92 : decode cX9_readWhole 92 = .ok (.if_icmp .gt 7, 3) := by decide +kernel
theorem dX9_readWhole_95 : decode cX9_readWhole 95 = .ok (.iconst 2, 1) := by decide +kernel
theorem dX9_readWhole_96 : decode cX9_readWhole 96 = .ok (.goto 4, 3) := by decide +kernel
theorem dX9_readWhole_99 : decode cX9_readWhole 99 = .ok (.iconst 5, 1) := by decide +kernel
theorem dX9_readWhole_100 : decode cX9_readWhole 100 = .ok (.putfield 32, 3) := by decide +kernel
theorem dX9_readWhole_103 : decode cX9_readWhole 103 = .ok (.return_, 1) := by decide +kernel
theorem ul_ne {L : HL} {a k x : Nat} {v : Int64} (h : x ≠ a) : ul L a k v x = L x := by simp [ul, h]
theorem ul_s {L : HL} {a k : Nat} {v : Int64} : ul L a k v a k = v := by simp [ul, vp_updL]
theorem ul_o {L : HL} {a k j : Nat} {v : Int64} (h : j ≠ k) : ul L a k v a j = L a j := by simp [ul, vp_updL, h]
theorem byt_c : ∀ n, n < 256 → ((byt n < nI 97 ↔ n < 97 ∨ 128 ≤ n) ∧ (nI 122 < byt n ↔ 122 < n ∧ n < 128) ∧ (byt n < nI 48 ↔ n < 48 ∨ 128 ≤ n) ∧ (nI 57 < byt n ↔ 57 < n ∧ n < 128) ∧ (byt n = nI 32 ↔ n = 32) ∧ (byt n = nI 59 ↔ n = 59) ∧ (byt n = nI 44 ↔ n = 44)) := by decide +kernel
theorem byt_n : ∀ n, n < 128 → byt n = nI n := by decide +kernel
/-- where the class's Tokens stand: the text, its length, how far it is read -/
def TkP (I : HI) (R : HR) (tp : Nat → Nat) (sz k : Nat) : Prop := R 89 0 = some 1 ∧ I 89 1 = nI sz ∧ sz ≤ 900 ∧ (∀ i, i < sz → I 1 i = byt (tp i) ∧ tp i < 256) ∧ I 89 2 = nI k ∧ k ≤ sz
def srt (k : Nat) : Nat := if k = 0 then 0 else if k = 2 then 1 else if k = 3 then 2 else if k = 59 then 3 else if k = 44 then 4 else 5
theorem srt_b (k : Nat) : srt k < 6 := by unfold srt; (repeat' split) <;> omega
theorem srt_0 (k : Nat) : srt k = 0 ↔ k = 0 := by unfold srt; (repeat' split) <;> omega
theorem srt_1 (k : Nat) : srt k = 1 ↔ k = 2 := by unfold srt; (repeat' split) <;> omega
theorem srt_2 (k : Nat) : srt k = 2 ↔ k = 3 := by unfold srt; (repeat' split) <;> omega
theorem srt_3 (k : Nat) : srt k = 3 ↔ k = 59 := by unfold srt; (repeat' split) <;> omega
theorem srt_4 (k : Nat) : srt k = 4 ↔ k = 44 := by unfold srt; (repeat' split) <;> omega
/-- the token that was read from e on -/
def TkI (I : HI) (L : HL) (R : HR) (tp : Nat → Nat) (sz e bf : Nat) : Prop := TkP I R tp sz (tE tp sz e) ∧ e ≤ sz ∧ I 89 3 = nI (srt (tK tp sz e)) ∧ I 89 4 = nI (tA tp sz e) ∧ I 89 5 = nI bf ∧ (tK tp sz e = 3 → I 89 6 = nI (tW tp sz e)) ∧ (tK tp sz e = 2 → L 89 7 = l64 (tL tp sz e) 0)
section
variable {b : Nat} {ad : Nat → Nat} {I : HI} {L : HL} {R : HR} {Q : QT} {tp : Nat → Nat} {sz k e bf : Nat}
theorem TkP.up {j : Nat} {v : Int32} (h : TkP I R tp sz k) (h1 : j ≠ 1) (h2 : j ≠ 2) : TkP (ui I 89 j v) R tp sz k :=
  ⟨h.1, by rw [ui_o h1.symm]; exact h.2.1, h.2.2.1, fun i hi => by rw [ui_ne (by decide)]; exact h.2.2.2.1 i hi, by rw [ui_o h2.symm]; exact h.2.2.2.2.1, h.2.2.2.2.2⟩
theorem TkP.nx {k' : Nat} (h : TkP I R tp sz k) (hk : k' ≤ sz) : TkP (ui I 89 2 (nI k')) R tp sz k' :=
  ⟨h.1, by rw [ui_o (by decide)]; exact h.2.1, h.2.2.1, fun i hi => by rw [ui_ne (by decide)]; exact h.2.2.2.1 i hi, ui_s _ _ _ _, hk⟩
theorem c_X9_readWord {a s : Nat} (hR : RO R) (hP : TkP I R tp sz a) (hs : I 89 4 = nI s) (hsa : s ≤ a) (hQ : ∀ (J : HI) (M : HL), TkP J R tp sz (wE tp sz a) → J 89 3 = nI (if 8 < wE tp sz a - s then 5 else 1) → (∀ j, 4 ≤ j → J 89 j = I 89 j) → (∀ x, x ≠ 89 → J x = I x) → M 89 7 = l64 (wrd tp a (wE tp sz a - a)) 0 → (∀ x, x ≠ 89 → M x = L x) → Q none SH J M R) : KK 0 mX9_readWord b ad [.ref (b + 89)] I L R Q := by
  have h9 := hP.2.2.1
  have ha9 := hP.2.2.2.2.2
  have hwb := wE_b (tp := tp) (sz := sz) a ha9
  have tail : ∀ (J : HI) (M : HL), TkP J R tp sz (wE tp sz a) → (∀ j, 4 ≤ j → J 89 j = I 89 j) → (∀ x, x ≠ 89 → J x = I x) → M 89 7 = l64 (wrd tp a (wE tp sz a - a)) 0 → (∀ x, x ≠ 89 → M x = L x) → VV yX9_readWord cX9_readWord 1 none 0 Q b ad 83 [some (.ref (b + 89))] [] J M R := by
    intro J M hP q1 q2 q3 q4
    refine v_aload_0 dX9_readWord_83 ?_
    refine v_aload_0 dX9_readWord_84 ?_
    refine u_getI dX9_readWord_85 gf_X9_23 (by first | assumption | rfl | exact led_1 (by assumption) | exact led_2 (by assumption) | exact bk_m (by assumption) (by first | assumption | omega) | exact bk_p (by assumption) (by first | assumption | omega) | exact bk_o (by assumption) (by first | assumption | omega) | exact bk_s (by assumption) (by first | assumption | omega) | exact bk_1 (by assumption) | exact bk_2 (by assumption) | exact bk_3 (by assumption) | exact bk_4 (by assumption) | exact bk_5 (by assumption) | exact bk_6 (by assumption) | exact bk_7 (by assumption) | exact bk_8 (by assumption) | exact sh_ring _ (by first | assumption | omega) | exact sh_imgs _ (by first | assumption | omega)) ?_
    rw [hP.2.2.2.2.1]
    refine v_aload_0 dX9_readWord_88 ?_
    refine u_getI dX9_readWord_89 gf_X9_26 (by first | assumption | rfl | exact led_1 (by assumption) | exact led_2 (by assumption) | exact bk_m (by assumption) (by first | assumption | omega) | exact bk_p (by assumption) (by first | assumption | omega) | exact bk_o (by assumption) (by first | assumption | omega) | exact bk_s (by assumption) (by first | assumption | omega) | exact bk_1 (by assumption) | exact bk_2 (by assumption) | exact bk_3 (by assumption) | exact bk_4 (by assumption) | exact bk_5 (by assumption) | exact bk_6 (by assumption) | exact bk_7 (by assumption) | exact bk_8 (by assumption) | exact sh_ring _ (by first | assumption | omega) | exact sh_imgs _ (by first | assumption | omega)) ?_
    rw [q1 4 (Nat.le_refl 4), hs]
    refine v_isub dX9_readWord_92 ?_
    rw [pk_sub (by omega)]
    refine v_bipush (v := nI 8) dX9_readWord_93 (by decide) ?_
    refine v_icmp_gt (tgt := 102) dX9_readWord_95 (by decide) (fun hc95 => ?_) (fun hc95 => ?_)
    · (try rw [nI_ltI (by omega) (by omega)] at hc95)
      refine v_iconst (v := nI 5) dX9_readWord_102 (by decide) ?_
      refine u_putI dX9_readWord_103 gf_X9_32 (by first | assumption | rfl | exact led_1 (by assumption) | exact led_2 (by assumption) | exact bk_m (by assumption) (by first | assumption | omega) | exact bk_p (by assumption) (by first | assumption | omega) | exact bk_o (by assumption) (by first | assumption | omega) | exact bk_s (by assumption) (by first | assumption | omega) | exact bk_1 (by assumption) | exact bk_2 (by assumption) | exact bk_3 (by assumption) | exact bk_4 (by assumption) | exact bk_5 (by assumption) | exact bk_6 (by assumption) | exact bk_7 (by assumption) | exact bk_8 (by assumption) | exact sh_ring _ (by first | assumption | omega) | exact sh_imgs _ (by first | assumption | omega)) rfl rfl rfl ?_
      refine v_vret dX9_readWord_106 rfl rfl rfl rfl ?_
      exact hQ _ _ (hP.up (by decide) (by decide)) (by rw [ui_s]; first | rw [if_pos hc95] | rw [if_neg hc95]) (fun j hj => by rw [ui_o (by omega)]; exact q1 j hj) (fun x hx => by rw [ui_ne hx]; exact q2 x hx) q3 q4
    · (try rw [nI_ltI (by omega) (by omega)] at hc95)
      refine v_iconst (v := nI 1) dX9_readWord_98 (by decide) ?_
      refine v_goto (tgt := 103) dX9_readWord_99 (by decide) ?_
      refine u_putI dX9_readWord_103 gf_X9_32 (by first | assumption | rfl | exact led_1 (by assumption) | exact led_2 (by assumption) | exact bk_m (by assumption) (by first | assumption | omega) | exact bk_p (by assumption) (by first | assumption | omega) | exact bk_o (by assumption) (by first | assumption | omega) | exact bk_s (by assumption) (by first | assumption | omega) | exact bk_1 (by assumption) | exact bk_2 (by assumption) | exact bk_3 (by assumption) | exact bk_4 (by assumption) | exact bk_5 (by assumption) | exact bk_6 (by assumption) | exact bk_7 (by assumption) | exact bk_8 (by assumption) | exact sh_ring _ (by first | assumption | omega) | exact sh_imgs _ (by first | assumption | omega)) rfl rfl rfl ?_
      refine v_vret dX9_readWord_106 rfl rfl rfl rfl ?_
      exact hQ _ _ (hP.up (by decide) (by decide)) (by rw [ui_s]; first | rw [if_pos hc95] | rw [if_neg hc95]) (fun j hj => by rw [ui_o (by omega)]; exact q1 j hj) (fun x hx => by rw [ui_ne hx]; exact q2 x hx) q3 q4
  have loop : ∀ (n k : Nat) (J : HI) (M : HL), n = sz - k → TkP J R tp sz k → rn (smlp tp sz) n k = wE tp sz a → (∀ j, 4 ≤ j → J 89 j = I 89 j) → (∀ x, x ≠ 89 → J x = I x) → l64 (wrd tp k (wE tp sz a - k)) (M 89 7) = l64 (wrd tp a (wE tp sz a - a)) 0 → (∀ x, x ≠ 89 → M x = L x) → VV yX9_readWord cX9_readWord 1 none 0 Q b ad 5 [some (.ref (b + 89))] [] J M R := by
    intro n
    induction n with
    | zero =>
      intro k J M hn hP he q1 q2 q3 q4
      have hk9 := hP.2.2.2.2.2
      have he2 : wE tp sz a = k := he.symm
      refine v_aload_0 dX9_readWord_5 ?_
      refine u_getI dX9_readWord_6 gf_X9_23 (by first | assumption | rfl | exact led_1 (by assumption) | exact led_2 (by assumption) | exact bk_m (by assumption) (by first | assumption | omega) | exact bk_p (by assumption) (by first | assumption | omega) | exact bk_o (by assumption) (by first | assumption | omega) | exact bk_s (by assumption) (by first | assumption | omega) | exact bk_1 (by assumption) | exact bk_2 (by assumption) | exact bk_3 (by assumption) | exact bk_4 (by assumption) | exact bk_5 (by assumption) | exact bk_6 (by assumption) | exact bk_7 (by assumption) | exact bk_8 (by assumption) | exact sh_ring _ (by first | assumption | omega) | exact sh_imgs _ (by first | assumption | omega)) ?_
      rw [hP.2.2.2.2.1]
      refine v_aload_0 dX9_readWord_9 ?_
      refine u_getI dX9_readWord_10 gf_X9_19 (by first | assumption | rfl | exact led_1 (by assumption) | exact led_2 (by assumption) | exact bk_m (by assumption) (by first | assumption | omega) | exact bk_p (by assumption) (by first | assumption | omega) | exact bk_o (by assumption) (by first | assumption | omega) | exact bk_s (by assumption) (by first | assumption | omega) | exact bk_1 (by assumption) | exact bk_2 (by assumption) | exact bk_3 (by assumption) | exact bk_4 (by assumption) | exact bk_5 (by assumption) | exact bk_6 (by assumption) | exact bk_7 (by assumption) | exact bk_8 (by assumption) | exact sh_ring _ (by first | assumption | omega) | exact sh_imgs _ (by first | assumption | omega)) ?_
      rw [hP.2.1]
      refine v_icmp_ge (tgt := 83) dX9_readWord_13 (by decide) (fun hc13 => ?_) (fun hc13 => ?_)
      · (try rw [nI_leI (by omega) (by omega)] at hc13)
        exact tail J M (by rw [he2]; exact hP) q1 q2 (by rw [← q3, he2, Nat.sub_self]; rfl) q4
      · exact absurd (nI_le (by omega) (by omega)) hc13
    | succ n ih =>
      intro k J M hn hP he q1 q2 q3 q4
      have hk : k < sz := by omega
      have hb := hP.2.2.2.1 k hk
      have ht := hP.1
      refine v_aload_0 dX9_readWord_5 ?_
      refine u_getI dX9_readWord_6 gf_X9_23 (by first | assumption | rfl | exact led_1 (by assumption) | exact led_2 (by assumption) | exact bk_m (by assumption) (by first | assumption | omega) | exact bk_p (by assumption) (by first | assumption | omega) | exact bk_o (by assumption) (by first | assumption | omega) | exact bk_s (by assumption) (by first | assumption | omega) | exact bk_1 (by assumption) | exact bk_2 (by assumption) | exact bk_3 (by assumption) | exact bk_4 (by assumption) | exact bk_5 (by assumption) | exact bk_6 (by assumption) | exact bk_7 (by assumption) | exact bk_8 (by assumption) | exact sh_ring _ (by first | assumption | omega) | exact sh_imgs _ (by first | assumption | omega)) ?_
      rw [hP.2.2.2.2.1]
      refine v_aload_0 dX9_readWord_9 ?_
      refine u_getI dX9_readWord_10 gf_X9_19 (by first | assumption | rfl | exact led_1 (by assumption) | exact led_2 (by assumption) | exact bk_m (by assumption) (by first | assumption | omega) | exact bk_p (by assumption) (by first | assumption | omega) | exact bk_o (by assumption) (by first | assumption | omega) | exact bk_s (by assumption) (by first | assumption | omega) | exact bk_1 (by assumption) | exact bk_2 (by assumption) | exact bk_3 (by assumption) | exact bk_4 (by assumption) | exact bk_5 (by assumption) | exact bk_6 (by assumption) | exact bk_7 (by assumption) | exact bk_8 (by assumption) | exact sh_ring _ (by first | assumption | omega) | exact sh_imgs _ (by first | assumption | omega)) ?_
      rw [hP.2.1]
      refine v_icmp_ge (tgt := 83) dX9_readWord_13 (by decide) (fun hc13 => ?_) (fun hc13 => ?_)
      · exact absurd hc13 (nI_ge (by omega) (by omega))
      · (try rw [nI_leI (by omega) (by omega)] at hc13)
        refine v_aload_0 dX9_readWord_16 ?_
        refine u_getR dX9_readWord_17 gf_X9_7 (by first | assumption | rfl | exact led_1 (by assumption) | exact led_2 (by assumption) | exact bk_m (by assumption) (by first | assumption | omega) | exact bk_p (by assumption) (by first | assumption | omega) | exact bk_o (by assumption) (by first | assumption | omega) | exact bk_s (by assumption) (by first | assumption | omega) | exact bk_1 (by assumption) | exact bk_2 (by assumption) | exact bk_3 (by assumption) | exact bk_4 (by assumption) | exact bk_5 (by assumption) | exact bk_6 (by assumption) | exact bk_7 (by assumption) | exact bk_8 (by assumption) | exact sh_ring _ (by first | assumption | omega) | exact sh_imgs _ (by first | assumption | omega)) (by assumption) ?_
        refine v_aload_0 dX9_readWord_20 ?_
        refine u_getI dX9_readWord_21 gf_X9_23 (by first | assumption | rfl | exact led_1 (by assumption) | exact led_2 (by assumption) | exact bk_m (by assumption) (by first | assumption | omega) | exact bk_p (by assumption) (by first | assumption | omega) | exact bk_o (by assumption) (by first | assumption | omega) | exact bk_s (by assumption) (by first | assumption | omega) | exact bk_1 (by assumption) | exact bk_2 (by assumption) | exact bk_3 (by assumption) | exact bk_4 (by assumption) | exact bk_5 (by assumption) | exact bk_6 (by assumption) | exact bk_7 (by assumption) | exact bk_8 (by assumption) | exact sh_ring _ (by first | assumption | omega) | exact sh_imgs _ (by first | assumption | omega)) ?_
        rw [hP.2.2.2.2.1]
        first | refine u_bald dX9_readWord_24 (by first | assumption | rfl | exact led_1 (by assumption) | exact led_2 (by assumption) | exact bk_m (by assumption) (by first | assumption | omega) | exact bk_p (by assumption) (by first | assumption | omega) | exact bk_o (by assumption) (by first | assumption | omega) | exact bk_s (by assumption) (by first | assumption | omega) | exact bk_1 (by assumption) | exact bk_2 (by assumption) | exact bk_3 (by assumption) | exact bk_4 (by assumption) | exact bk_5 (by assumption) | exact bk_6 (by assumption) | exact bk_7 (by assumption) | exact bk_8 (by assumption) | exact sh_ring _ (by first | assumption | omega) | exact sh_imgs _ (by first | assumption | omega)) (by first | with_reducible rfl | (simp only [nlit, nI_add, pk_mul]; with_reducible rfl) | rfl) (by first | assumption | omega) (by first | assumption | decide) ?_ | refine u_zald dX9_readWord_24 (by first | assumption | rfl | exact led_1 (by assumption) | exact led_2 (by assumption) | exact bk_m (by assumption) (by first | assumption | omega) | exact bk_p (by assumption) (by first | assumption | omega) | exact bk_o (by assumption) (by first | assumption | omega) | exact bk_s (by assumption) (by first | assumption | omega) | exact bk_1 (by assumption) | exact bk_2 (by assumption) | exact bk_3 (by assumption) | exact bk_4 (by assumption) | exact bk_5 (by assumption) | exact bk_6 (by assumption) | exact bk_7 (by assumption) | exact bk_8 (by assumption) | exact sh_ring _ (by first | assumption | omega) | exact sh_imgs _ (by first | assumption | omega)) (by first | with_reducible rfl | (simp only [nlit, nI_add, pk_mul]; with_reducible rfl) | rfl) (by first | assumption | omega) (by first | assumption | decide) ?_
        rw [hb.1]
        refine v_bipush (v := nI 97) dX9_readWord_25 (by decide) ?_
        refine v_icmp_lt (tgt := 83) dX9_readWord_27 (by decide) (fun hc27 => ?_) (fun hc27 => ?_)
        · rw [(byt_c _ hb.2).1] at hc27
          have he2 : wE tp sz a = k := by rw [← he]; exact rn_f (by unfold smlp; rw [lk_in hk]; unfold isS; simp only [Bool.and_eq_false_iff, decide_eq_false_iff_not]; omega)
          exact tail J M (by rw [he2]; exact hP) q1 q2 (by rw [← q3, he2, Nat.sub_self]; rfl) q4
        · rw [(byt_c _ hb.2).1] at hc27
          refine v_aload_0 dX9_readWord_30 ?_
          refine u_getR dX9_readWord_31 gf_X9_7 (by first | assumption | rfl | exact led_1 (by assumption) | exact led_2 (by assumption) | exact bk_m (by assumption) (by first | assumption | omega) | exact bk_p (by assumption) (by first | assumption | omega) | exact bk_o (by assumption) (by first | assumption | omega) | exact bk_s (by assumption) (by first | assumption | omega) | exact bk_1 (by assumption) | exact bk_2 (by assumption) | exact bk_3 (by assumption) | exact bk_4 (by assumption) | exact bk_5 (by assumption) | exact bk_6 (by assumption) | exact bk_7 (by assumption) | exact bk_8 (by assumption) | exact sh_ring _ (by first | assumption | omega) | exact sh_imgs _ (by first | assumption | omega)) (by assumption) ?_
          refine v_aload_0 dX9_readWord_34 ?_
          refine u_getI dX9_readWord_35 gf_X9_23 (by first | assumption | rfl | exact led_1 (by assumption) | exact led_2 (by assumption) | exact bk_m (by assumption) (by first | assumption | omega) | exact bk_p (by assumption) (by first | assumption | omega) | exact bk_o (by assumption) (by first | assumption | omega) | exact bk_s (by assumption) (by first | assumption | omega) | exact bk_1 (by assumption) | exact bk_2 (by assumption) | exact bk_3 (by assumption) | exact bk_4 (by assumption) | exact bk_5 (by assumption) | exact bk_6 (by assumption) | exact bk_7 (by assumption) | exact bk_8 (by assumption) | exact sh_ring _ (by first | assumption | omega) | exact sh_imgs _ (by first | assumption | omega)) ?_
          rw [hP.2.2.2.2.1]
          first | refine u_bald dX9_readWord_38 (by first | assumption | rfl | exact led_1 (by assumption) | exact led_2 (by assumption) | exact bk_m (by assumption) (by first | assumption | omega) | exact bk_p (by assumption) (by first | assumption | omega) | exact bk_o (by assumption) (by first | assumption | omega) | exact bk_s (by assumption) (by first | assumption | omega) | exact bk_1 (by assumption) | exact bk_2 (by assumption) | exact bk_3 (by assumption) | exact bk_4 (by assumption) | exact bk_5 (by assumption) | exact bk_6 (by assumption) | exact bk_7 (by assumption) | exact bk_8 (by assumption) | exact sh_ring _ (by first | assumption | omega) | exact sh_imgs _ (by first | assumption | omega)) (by first | with_reducible rfl | (simp only [nlit, nI_add, pk_mul]; with_reducible rfl) | rfl) (by first | assumption | omega) (by first | assumption | decide) ?_ | refine u_zald dX9_readWord_38 (by first | assumption | rfl | exact led_1 (by assumption) | exact led_2 (by assumption) | exact bk_m (by assumption) (by first | assumption | omega) | exact bk_p (by assumption) (by first | assumption | omega) | exact bk_o (by assumption) (by first | assumption | omega) | exact bk_s (by assumption) (by first | assumption | omega) | exact bk_1 (by assumption) | exact bk_2 (by assumption) | exact bk_3 (by assumption) | exact bk_4 (by assumption) | exact bk_5 (by assumption) | exact bk_6 (by assumption) | exact bk_7 (by assumption) | exact bk_8 (by assumption) | exact sh_ring _ (by first | assumption | omega) | exact sh_imgs _ (by first | assumption | omega)) (by first | with_reducible rfl | (simp only [nlit, nI_add, pk_mul]; with_reducible rfl) | rfl) (by first | assumption | omega) (by first | assumption | decide) ?_
          rw [hb.1]
          refine v_bipush (v := nI 122) dX9_readWord_39 (by decide) ?_
          refine v_icmp_gt (tgt := 83) dX9_readWord_41 (by decide) (fun hc41 => ?_) (fun hc41 => ?_)
          · rw [(byt_c _ hb.2).2.1] at hc41
            have he2 : wE tp sz a = k := by rw [← he]; exact rn_f (by unfold smlp; rw [lk_in hk]; unfold isS; simp only [Bool.and_eq_false_iff, decide_eq_false_iff_not]; omega)
            exact tail J M (by rw [he2]; exact hP) q1 q2 (by rw [← q3, he2, Nat.sub_self]; rfl) q4
          · rw [(byt_c _ hb.2).2.1] at hc41
            refine v_aload_0 dX9_readWord_44 ?_
            refine v_aload_0 dX9_readWord_45 ?_
            refine u_getL dX9_readWord_46 gf_X9_41 (by first | assumption | rfl | exact led_1 (by assumption) | exact led_2 (by assumption) | exact bk_m (by assumption) (by first | assumption | omega) | exact bk_p (by assumption) (by first | assumption | omega) | exact bk_o (by assumption) (by first | assumption | omega) | exact bk_s (by assumption) (by first | assumption | omega) | exact bk_1 (by assumption) | exact bk_2 (by assumption) | exact bk_3 (by assumption) | exact bk_4 (by assumption) | exact bk_5 (by assumption) | exact bk_6 (by assumption) | exact bk_7 (by assumption) | exact bk_8 (by assumption) | exact sh_ring _ (by first | assumption | omega) | exact sh_imgs _ (by first | assumption | omega)) ?_
            refine v_iconst (v := nI 5) dX9_readWord_49 (by decide) ?_
            refine v_lshl dX9_readWord_50 ?_
            refine v_aload_0 dX9_readWord_51 ?_
            refine u_getR dX9_readWord_52 gf_X9_7 (by first | assumption | rfl | exact led_1 (by assumption) | exact led_2 (by assumption) | exact bk_m (by assumption) (by first | assumption | omega) | exact bk_p (by assumption) (by first | assumption | omega) | exact bk_o (by assumption) (by first | assumption | omega) | exact bk_s (by assumption) (by first | assumption | omega) | exact bk_1 (by assumption) | exact bk_2 (by assumption) | exact bk_3 (by assumption) | exact bk_4 (by assumption) | exact bk_5 (by assumption) | exact bk_6 (by assumption) | exact bk_7 (by assumption) | exact bk_8 (by assumption) | exact sh_ring _ (by first | assumption | omega) | exact sh_imgs _ (by first | assumption | omega)) (by assumption) ?_
            refine v_aload_0 dX9_readWord_55 ?_
            refine u_getI dX9_readWord_56 gf_X9_23 (by first | assumption | rfl | exact led_1 (by assumption) | exact led_2 (by assumption) | exact bk_m (by assumption) (by first | assumption | omega) | exact bk_p (by assumption) (by first | assumption | omega) | exact bk_o (by assumption) (by first | assumption | omega) | exact bk_s (by assumption) (by first | assumption | omega) | exact bk_1 (by assumption) | exact bk_2 (by assumption) | exact bk_3 (by assumption) | exact bk_4 (by assumption) | exact bk_5 (by assumption) | exact bk_6 (by assumption) | exact bk_7 (by assumption) | exact bk_8 (by assumption) | exact sh_ring _ (by first | assumption | omega) | exact sh_imgs _ (by first | assumption | omega)) ?_
            rw [hP.2.2.2.2.1]
            first | refine u_bald dX9_readWord_59 (by first | assumption | rfl | exact led_1 (by assumption) | exact led_2 (by assumption) | exact bk_m (by assumption) (by first | assumption | omega) | exact bk_p (by assumption) (by first | assumption | omega) | exact bk_o (by assumption) (by first | assumption | omega) | exact bk_s (by assumption) (by first | assumption | omega) | exact bk_1 (by assumption) | exact bk_2 (by assumption) | exact bk_3 (by assumption) | exact bk_4 (by assumption) | exact bk_5 (by assumption) | exact bk_6 (by assumption) | exact bk_7 (by assumption) | exact bk_8 (by assumption) | exact sh_ring _ (by first | assumption | omega) | exact sh_imgs _ (by first | assumption | omega)) (by first | with_reducible rfl | (simp only [nlit, nI_add, pk_mul]; with_reducible rfl) | rfl) (by first | assumption | omega) (by first | assumption | decide) ?_ | refine u_zald dX9_readWord_59 (by first | assumption | rfl | exact led_1 (by assumption) | exact led_2 (by assumption) | exact bk_m (by assumption) (by first | assumption | omega) | exact bk_p (by assumption) (by first | assumption | omega) | exact bk_o (by assumption) (by first | assumption | omega) | exact bk_s (by assumption) (by first | assumption | omega) | exact bk_1 (by assumption) | exact bk_2 (by assumption) | exact bk_3 (by assumption) | exact bk_4 (by assumption) | exact bk_5 (by assumption) | exact bk_6 (by assumption) | exact bk_7 (by assumption) | exact bk_8 (by assumption) | exact sh_ring _ (by first | assumption | omega) | exact sh_imgs _ (by first | assumption | omega)) (by first | with_reducible rfl | (simp only [nlit, nI_add, pk_mul]; with_reducible rfl) | rfl) (by first | assumption | omega) (by first | assumption | decide) ?_
            rw [hb.1, byt_n _ (by omega)]
            refine v_bipush (v := nI 97) dX9_readWord_60 (by decide) ?_
            refine v_isub dX9_readWord_62 ?_
            refine v_iconst (v := nI 1) dX9_readWord_63 (by decide) ?_
            refine v_iadd dX9_readWord_64 ?_
            rw [ch_a (by omega)]
            refine v_i2l dX9_readWord_65 ?_
            refine v_lor dX9_readWord_66 ?_
            refine u_putL dX9_readWord_67 gf_X9_41 (by first | assumption | rfl | exact led_1 (by assumption) | exact led_2 (by assumption) | exact bk_m (by assumption) (by first | assumption | omega) | exact bk_p (by assumption) (by first | assumption | omega) | exact bk_o (by assumption) (by first | assumption | omega) | exact bk_s (by assumption) (by first | assumption | omega) | exact bk_1 (by assumption) | exact bk_2 (by assumption) | exact bk_3 (by assumption) | exact bk_4 (by assumption) | exact bk_5 (by assumption) | exact bk_6 (by assumption) | exact bk_7 (by assumption) | exact bk_8 (by assumption) | exact sh_ring _ (by first | assumption | omega) | exact sh_imgs _ (by first | assumption | omega)) rfl rfl rfl ?_
            refine v_aload_0 dX9_readWord_70 ?_
            refine v_dup dX9_readWord_71 rfl ?_
            refine u_getI dX9_readWord_72 gf_X9_23 (by first | assumption | rfl | exact led_1 (by assumption) | exact led_2 (by assumption) | exact bk_m (by assumption) (by first | assumption | omega) | exact bk_p (by assumption) (by first | assumption | omega) | exact bk_o (by assumption) (by first | assumption | omega) | exact bk_s (by assumption) (by first | assumption | omega) | exact bk_1 (by assumption) | exact bk_2 (by assumption) | exact bk_3 (by assumption) | exact bk_4 (by assumption) | exact bk_5 (by assumption) | exact bk_6 (by assumption) | exact bk_7 (by assumption) | exact bk_8 (by assumption) | exact sh_ring _ (by first | assumption | omega) | exact sh_imgs _ (by first | assumption | omega)) ?_
            rw [hP.2.2.2.2.1]
            refine v_iconst (v := nI 1) dX9_readWord_75 (by decide) ?_
            refine v_iadd dX9_readWord_76 ?_
            rw [nI_add]
            refine u_putI dX9_readWord_77 gf_X9_23 (by first | assumption | rfl | exact led_1 (by assumption) | exact led_2 (by assumption) | exact bk_m (by assumption) (by first | assumption | omega) | exact bk_p (by assumption) (by first | assumption | omega) | exact bk_o (by assumption) (by first | assumption | omega) | exact bk_s (by assumption) (by first | assumption | omega) | exact bk_1 (by assumption) | exact bk_2 (by assumption) | exact bk_3 (by assumption) | exact bk_4 (by assumption) | exact bk_5 (by assumption) | exact bk_6 (by assumption) | exact bk_7 (by assumption) | exact bk_8 (by assumption) | exact sh_ring _ (by first | assumption | omega) | exact sh_imgs _ (by first | assumption | omega)) rfl rfl rfl ?_
            refine v_goto (tgt := 5) dX9_readWord_80 (by decide) ?_
            have hr := rn_t (p := smlp tp sz) (n := n) (k := k) (by unfold smlp; rw [lk_in hk]; unfold isS; simp only [Bool.and_eq_true, decide_eq_true_eq]; omega)
            have hb2 := rn_b (smlp tp sz) n (k + 1)
            refine ih (k + 1) _ _ (by omega) (hP.nx (by omega)) (by rw [← hr]; exact he) (fun j hj => by rw [ui_o (by omega)]; exact q1 j hj) (fun x hx => by rw [ui_ne hx]; exact q2 x hx) ?_ (fun x hx => by rw [ul_ne hx]; exact q4 x hx)
            obtain ⟨m, hm⟩ : ∃ m, wE tp sz a - k = m + 1 := ⟨wE tp sz a - k - 1, by omega⟩
            rw [ul_s, ← q3, hm, wrd_cons, show wE tp sz a - (k + 1) = m by omega]
            rfl
  refine K.of (M := mX9_readWord) (lv := [some (.ref (b + 89))]) (by decide) (Nat.le_of_ble_eq_true rfl) rfl ?_
  refine v_aload_0 dX9_readWord_0 ?_
  refine v_lconst (v := 0) dX9_readWord_1 (by decide) ?_
  refine u_putL dX9_readWord_2 gf_X9_41 (by first | assumption | rfl | exact led_1 (by assumption) | exact led_2 (by assumption) | exact bk_m (by assumption) (by first | assumption | omega) | exact bk_p (by assumption) (by first | assumption | omega) | exact bk_o (by assumption) (by first | assumption | omega) | exact bk_s (by assumption) (by first | assumption | omega) | exact bk_1 (by assumption) | exact bk_2 (by assumption) | exact bk_3 (by assumption) | exact bk_4 (by assumption) | exact bk_5 (by assumption) | exact bk_6 (by assumption) | exact bk_7 (by assumption) | exact bk_8 (by assumption) | exact sh_ring _ (by first | assumption | omega) | exact sh_imgs _ (by first | assumption | omega)) rfl rfl rfl ?_
  exact loop (sz - a) a _ _ rfl hP rfl (fun _ _ => rfl) (fun _ _ => rfl) (by rw [ul_s]) (fun x hx => ul_ne hx)
theorem c_X9_readWhole {a s : Nat} (hR : RO R) (hP : TkP I R tp sz a) (hs : I 89 4 = nI s) (hsa : s ≤ a) (hQ : ∀ (J : HI), TkP J R tp sz (dE tp sz a) → J 89 3 = nI (if 3 < dE tp sz a - s then 5 else 2) → J 89 4 = I 89 4 → J 89 5 = I 89 5 → J 89 6 = nI (num tp a (dE tp sz a - a)) → (∀ x, x ≠ 89 → J x = I x) → Q none SH J L R) : KK 0 mX9_readWhole b ad [.ref (b + 89)] I L R Q := by
  have h9 := hP.2.2.1
  have ha9 := hP.2.2.2.2.2
  have hwb := dE_b (tp := tp) (sz := sz) a ha9
  have tail : ∀ (J : HI), TkP J R tp sz (dE tp sz a) → J 89 4 = I 89 4 → J 89 5 = I 89 5 → J 89 6 = nI (num tp a (dE tp sz a - a)) → (∀ x, x ≠ 89 → J x = I x) → VV yX9_readWhole cX9_readWhole 1 none 0 Q b ad 81 [some (.ref (b + 89))] [] J L R := by
    intro J hP q1 q2 q3 q4
    refine v_aload_0 dX9_readWhole_81 ?_
    refine v_aload_0 dX9_readWhole_82 ?_
    refine u_getI dX9_readWhole_83 gf_X9_23 (by first | assumption | rfl | exact led_1 (by assumption) | exact led_2 (by assumption) | exact bk_m (by assumption) (by first | assumption | omega) | exact bk_p (by assumption) (by first | assumption | omega) | exact bk_o (by assumption) (by first | assumption | omega) | exact bk_s (by assumption) (by first | assumption | omega) | exact bk_1 (by assumption) | exact bk_2 (by assumption) | exact bk_3 (by assumption) | exact bk_4 (by assumption) | exact bk_5 (by assumption) | exact bk_6 (by assumption) | exact bk_7 (by assumption) | exact bk_8 (by assumption) | exact sh_ring _ (by first | assumption | omega) | exact sh_imgs _ (by first | assumption | omega)) ?_
    rw [hP.2.2.2.2.1]
    refine v_aload_0 dX9_readWhole_86 ?_
    refine u_getI dX9_readWhole_87 gf_X9_26 (by first | assumption | rfl | exact led_1 (by assumption) | exact led_2 (by assumption) | exact bk_m (by assumption) (by first | assumption | omega) | exact bk_p (by assumption) (by first | assumption | omega) | exact bk_o (by assumption) (by first | assumption | omega) | exact bk_s (by assumption) (by first | assumption | omega) | exact bk_1 (by assumption) | exact bk_2 (by assumption) | exact bk_3 (by assumption) | exact bk_4 (by assumption) | exact bk_5 (by assumption) | exact bk_6 (by assumption) | exact bk_7 (by assumption) | exact bk_8 (by assumption) | exact sh_ring _ (by first | assumption | omega) | exact sh_imgs _ (by first | assumption | omega)) ?_
    rw [q1, hs]
    refine v_isub dX9_readWhole_90 ?_
    rw [pk_sub (by omega)]
    refine v_iconst (v := nI 3) dX9_readWhole_91 (by decide) ?_
    refine v_icmp_gt (tgt := 99) dX9_readWhole_92 (by decide) (fun hc92 => ?_) (fun hc92 => ?_)
    · (try rw [nI_ltI (by omega) (by omega)] at hc92)
      refine v_iconst (v := nI 5) dX9_readWhole_99 (by decide) ?_
      refine u_putI dX9_readWhole_100 gf_X9_32 (by first | assumption | rfl | exact led_1 (by assumption) | exact led_2 (by assumption) | exact bk_m (by assumption) (by first | assumption | omega) | exact bk_p (by assumption) (by first | assumption | omega) | exact bk_o (by assumption) (by first | assumption | omega) | exact bk_s (by assumption) (by first | assumption | omega) | exact bk_1 (by assumption) | exact bk_2 (by assumption) | exact bk_3 (by assumption) | exact bk_4 (by assumption) | exact bk_5 (by assumption) | exact bk_6 (by assumption) | exact bk_7 (by assumption) | exact bk_8 (by assumption) | exact sh_ring _ (by first | assumption | omega) | exact sh_imgs _ (by first | assumption | omega)) rfl rfl rfl ?_
      refine v_vret dX9_readWhole_103 rfl rfl rfl rfl ?_
      exact hQ _ (hP.up (by decide) (by decide)) (by rw [ui_s]; first | rw [if_pos hc92] | rw [if_neg hc92]) (by rw [ui_o (by decide)]; exact q1) (by rw [ui_o (by decide)]; exact q2) (by rw [ui_o (by decide)]; exact q3) (fun x hx => by rw [ui_ne hx]; exact q4 x hx)
    · (try rw [nI_ltI (by omega) (by omega)] at hc92)
      refine v_iconst (v := nI 2) dX9_readWhole_95 (by decide) ?_
      refine v_goto (tgt := 100) dX9_readWhole_96 (by decide) ?_
      refine u_putI dX9_readWhole_100 gf_X9_32 (by first | assumption | rfl | exact led_1 (by assumption) | exact led_2 (by assumption) | exact bk_m (by assumption) (by first | assumption | omega) | exact bk_p (by assumption) (by first | assumption | omega) | exact bk_o (by assumption) (by first | assumption | omega) | exact bk_s (by assumption) (by first | assumption | omega) | exact bk_1 (by assumption) | exact bk_2 (by assumption) | exact bk_3 (by assumption) | exact bk_4 (by assumption) | exact bk_5 (by assumption) | exact bk_6 (by assumption) | exact bk_7 (by assumption) | exact bk_8 (by assumption) | exact sh_ring _ (by first | assumption | omega) | exact sh_imgs _ (by first | assumption | omega)) rfl rfl rfl ?_
      refine v_vret dX9_readWhole_103 rfl rfl rfl rfl ?_
      exact hQ _ (hP.up (by decide) (by decide)) (by rw [ui_s]; first | rw [if_pos hc92] | rw [if_neg hc92]) (by rw [ui_o (by decide)]; exact q1) (by rw [ui_o (by decide)]; exact q2) (by rw [ui_o (by decide)]; exact q3) (fun x hx => by rw [ui_ne hx]; exact q4 x hx)
  have loop : ∀ (n k : Nat) (J : HI), n = sz - k → TkP J R tp sz k → rn (dgt tp sz) n k = dE tp sz a → a ≤ k → J 89 4 = I 89 4 → J 89 5 = I 89 5 → J 89 6 = nI (num tp a (k - a)) → (∀ x, x ≠ 89 → J x = I x) → VV yX9_readWhole cX9_readWhole 1 none 0 Q b ad 5 [some (.ref (b + 89))] [] J L R := by
    intro n
    induction n with
    | zero =>
      intro k J hn hP he hak q1 q2 q3 q4
      have hk9 := hP.2.2.2.2.2
      have he2 : dE tp sz a = k := he.symm
      refine v_aload_0 dX9_readWhole_5 ?_
      refine u_getI dX9_readWhole_6 gf_X9_23 (by first | assumption | rfl | exact led_1 (by assumption) | exact led_2 (by assumption) | exact bk_m (by assumption) (by first | assumption | omega) | exact bk_p (by assumption) (by first | assumption | omega) | exact bk_o (by assumption) (by first | assumption | omega) | exact bk_s (by assumption) (by first | assumption | omega) | exact bk_1 (by assumption) | exact bk_2 (by assumption) | exact bk_3 (by assumption) | exact bk_4 (by assumption) | exact bk_5 (by assumption) | exact bk_6 (by assumption) | exact bk_7 (by assumption) | exact bk_8 (by assumption) | exact sh_ring _ (by first | assumption | omega) | exact sh_imgs _ (by first | assumption | omega)) ?_
      rw [hP.2.2.2.2.1]
      refine v_aload_0 dX9_readWhole_9 ?_
      refine u_getI dX9_readWhole_10 gf_X9_19 (by first | assumption | rfl | exact led_1 (by assumption) | exact led_2 (by assumption) | exact bk_m (by assumption) (by first | assumption | omega) | exact bk_p (by assumption) (by first | assumption | omega) | exact bk_o (by assumption) (by first | assumption | omega) | exact bk_s (by assumption) (by first | assumption | omega) | exact bk_1 (by assumption) | exact bk_2 (by assumption) | exact bk_3 (by assumption) | exact bk_4 (by assumption) | exact bk_5 (by assumption) | exact bk_6 (by assumption) | exact bk_7 (by assumption) | exact bk_8 (by assumption) | exact sh_ring _ (by first | assumption | omega) | exact sh_imgs _ (by first | assumption | omega)) ?_
      rw [hP.2.1]
      refine v_icmp_ge (tgt := 81) dX9_readWhole_13 (by decide) (fun hc13 => ?_) (fun hc13 => ?_)
      · (try rw [nI_leI (by omega) (by omega)] at hc13)
        exact tail J (by rw [he2]; exact hP) q1 q2 (by rw [he2]; exact q3) q4
      · exact absurd (nI_le (by omega) (by omega)) hc13
    | succ n ih =>
      intro k J hn hP he hak q1 q2 q3 q4
      have hk : k < sz := by omega
      have hb := hP.2.2.2.1 k hk
      have ht := hP.1
      refine v_aload_0 dX9_readWhole_5 ?_
      refine u_getI dX9_readWhole_6 gf_X9_23 (by first | assumption | rfl | exact led_1 (by assumption) | exact led_2 (by assumption) | exact bk_m (by assumption) (by first | assumption | omega) | exact bk_p (by assumption) (by first | assumption | omega) | exact bk_o (by assumption) (by first | assumption | omega) | exact bk_s (by assumption) (by first | assumption | omega) | exact bk_1 (by assumption) | exact bk_2 (by assumption) | exact bk_3 (by assumption) | exact bk_4 (by assumption) | exact bk_5 (by assumption) | exact bk_6 (by assumption) | exact bk_7 (by assumption) | exact bk_8 (by assumption) | exact sh_ring _ (by first | assumption | omega) | exact sh_imgs _ (by first | assumption | omega)) ?_
      rw [hP.2.2.2.2.1]
      refine v_aload_0 dX9_readWhole_9 ?_
      refine u_getI dX9_readWhole_10 gf_X9_19 (by first | assumption | rfl | exact led_1 (by assumption) | exact led_2 (by assumption) | exact bk_m (by assumption) (by first | assumption | omega) | exact bk_p (by assumption) (by first | assumption | omega) | exact bk_o (by assumption) (by first | assumption | omega) | exact bk_s (by assumption) (by first | assumption | omega) | exact bk_1 (by assumption) | exact bk_2 (by assumption) | exact bk_3 (by assumption) | exact bk_4 (by assumption) | exact bk_5 (by assumption) | exact bk_6 (by assumption) | exact bk_7 (by assumption) | exact bk_8 (by assumption) | exact sh_ring _ (by first | assumption | omega) | exact sh_imgs _ (by first | assumption | omega)) ?_
      rw [hP.2.1]
      refine v_icmp_ge (tgt := 81) dX9_readWhole_13 (by decide) (fun hc13 => ?_) (fun hc13 => ?_)
      · exact absurd hc13 (nI_ge (by omega) (by omega))
      · (try rw [nI_leI (by omega) (by omega)] at hc13)
        refine v_aload_0 dX9_readWhole_16 ?_
        refine u_getR dX9_readWhole_17 gf_X9_7 (by first | assumption | rfl | exact led_1 (by assumption) | exact led_2 (by assumption) | exact bk_m (by assumption) (by first | assumption | omega) | exact bk_p (by assumption) (by first | assumption | omega) | exact bk_o (by assumption) (by first | assumption | omega) | exact bk_s (by assumption) (by first | assumption | omega) | exact bk_1 (by assumption) | exact bk_2 (by assumption) | exact bk_3 (by assumption) | exact bk_4 (by assumption) | exact bk_5 (by assumption) | exact bk_6 (by assumption) | exact bk_7 (by assumption) | exact bk_8 (by assumption) | exact sh_ring _ (by first | assumption | omega) | exact sh_imgs _ (by first | assumption | omega)) (by assumption) ?_
        refine v_aload_0 dX9_readWhole_20 ?_
        refine u_getI dX9_readWhole_21 gf_X9_23 (by first | assumption | rfl | exact led_1 (by assumption) | exact led_2 (by assumption) | exact bk_m (by assumption) (by first | assumption | omega) | exact bk_p (by assumption) (by first | assumption | omega) | exact bk_o (by assumption) (by first | assumption | omega) | exact bk_s (by assumption) (by first | assumption | omega) | exact bk_1 (by assumption) | exact bk_2 (by assumption) | exact bk_3 (by assumption) | exact bk_4 (by assumption) | exact bk_5 (by assumption) | exact bk_6 (by assumption) | exact bk_7 (by assumption) | exact bk_8 (by assumption) | exact sh_ring _ (by first | assumption | omega) | exact sh_imgs _ (by first | assumption | omega)) ?_
        rw [hP.2.2.2.2.1]
        first | refine u_bald dX9_readWhole_24 (by first | assumption | rfl | exact led_1 (by assumption) | exact led_2 (by assumption) | exact bk_m (by assumption) (by first | assumption | omega) | exact bk_p (by assumption) (by first | assumption | omega) | exact bk_o (by assumption) (by first | assumption | omega) | exact bk_s (by assumption) (by first | assumption | omega) | exact bk_1 (by assumption) | exact bk_2 (by assumption) | exact bk_3 (by assumption) | exact bk_4 (by assumption) | exact bk_5 (by assumption) | exact bk_6 (by assumption) | exact bk_7 (by assumption) | exact bk_8 (by assumption) | exact sh_ring _ (by first | assumption | omega) | exact sh_imgs _ (by first | assumption | omega)) (by first | with_reducible rfl | (simp only [nlit, nI_add, pk_mul]; with_reducible rfl) | rfl) (by first | assumption | omega) (by first | assumption | decide) ?_ | refine u_zald dX9_readWhole_24 (by first | assumption | rfl | exact led_1 (by assumption) | exact led_2 (by assumption) | exact bk_m (by assumption) (by first | assumption | omega) | exact bk_p (by assumption) (by first | assumption | omega) | exact bk_o (by assumption) (by first | assumption | omega) | exact bk_s (by assumption) (by first | assumption | omega) | exact bk_1 (by assumption) | exact bk_2 (by assumption) | exact bk_3 (by assumption) | exact bk_4 (by assumption) | exact bk_5 (by assumption) | exact bk_6 (by assumption) | exact bk_7 (by assumption) | exact bk_8 (by assumption) | exact sh_ring _ (by first | assumption | omega) | exact sh_imgs _ (by first | assumption | omega)) (by first | with_reducible rfl | (simp only [nlit, nI_add, pk_mul]; with_reducible rfl) | rfl) (by first | assumption | omega) (by first | assumption | decide) ?_
        rw [hb.1]
        refine v_bipush (v := nI 48) dX9_readWhole_25 (by decide) ?_
        refine v_icmp_lt (tgt := 81) dX9_readWhole_27 (by decide) (fun hc27 => ?_) (fun hc27 => ?_)
        · rw [(byt_c _ hb.2).2.2.1] at hc27
          have he2 : dE tp sz a = k := by rw [← he]; exact rn_f (by unfold dgt; rw [lk_in hk]; unfold isD; simp only [Bool.and_eq_false_iff, decide_eq_false_iff_not]; omega)
          exact tail J (by rw [he2]; exact hP) q1 q2 (by rw [he2]; exact q3) q4
        · rw [(byt_c _ hb.2).2.2.1] at hc27
          refine v_aload_0 dX9_readWhole_30 ?_
          refine u_getR dX9_readWhole_31 gf_X9_7 (by first | assumption | rfl | exact led_1 (by assumption) | exact led_2 (by assumption) | exact bk_m (by assumption) (by first | assumption | omega) | exact bk_p (by assumption) (by first | assumption | omega) | exact bk_o (by assumption) (by first | assumption | omega) | exact bk_s (by assumption) (by first | assumption | omega) | exact bk_1 (by assumption) | exact bk_2 (by assumption) | exact bk_3 (by assumption) | exact bk_4 (by assumption) | exact bk_5 (by assumption) | exact bk_6 (by assumption) | exact bk_7 (by assumption) | exact bk_8 (by assumption) | exact sh_ring _ (by first | assumption | omega) | exact sh_imgs _ (by first | assumption | omega)) (by assumption) ?_
          refine v_aload_0 dX9_readWhole_34 ?_
          refine u_getI dX9_readWhole_35 gf_X9_23 (by first | assumption | rfl | exact led_1 (by assumption) | exact led_2 (by assumption) | exact bk_m (by assumption) (by first | assumption | omega) | exact bk_p (by assumption) (by first | assumption | omega) | exact bk_o (by assumption) (by first | assumption | omega) | exact bk_s (by assumption) (by first | assumption | omega) | exact bk_1 (by assumption) | exact bk_2 (by assumption) | exact bk_3 (by assumption) | exact bk_4 (by assumption) | exact bk_5 (by assumption) | exact bk_6 (by assumption) | exact bk_7 (by assumption) | exact bk_8 (by assumption) | exact sh_ring _ (by first | assumption | omega) | exact sh_imgs _ (by first | assumption | omega)) ?_
          rw [hP.2.2.2.2.1]
          first | refine u_bald dX9_readWhole_38 (by first | assumption | rfl | exact led_1 (by assumption) | exact led_2 (by assumption) | exact bk_m (by assumption) (by first | assumption | omega) | exact bk_p (by assumption) (by first | assumption | omega) | exact bk_o (by assumption) (by first | assumption | omega) | exact bk_s (by assumption) (by first | assumption | omega) | exact bk_1 (by assumption) | exact bk_2 (by assumption) | exact bk_3 (by assumption) | exact bk_4 (by assumption) | exact bk_5 (by assumption) | exact bk_6 (by assumption) | exact bk_7 (by assumption) | exact bk_8 (by assumption) | exact sh_ring _ (by first | assumption | omega) | exact sh_imgs _ (by first | assumption | omega)) (by first | with_reducible rfl | (simp only [nlit, nI_add, pk_mul]; with_reducible rfl) | rfl) (by first | assumption | omega) (by first | assumption | decide) ?_ | refine u_zald dX9_readWhole_38 (by first | assumption | rfl | exact led_1 (by assumption) | exact led_2 (by assumption) | exact bk_m (by assumption) (by first | assumption | omega) | exact bk_p (by assumption) (by first | assumption | omega) | exact bk_o (by assumption) (by first | assumption | omega) | exact bk_s (by assumption) (by first | assumption | omega) | exact bk_1 (by assumption) | exact bk_2 (by assumption) | exact bk_3 (by assumption) | exact bk_4 (by assumption) | exact bk_5 (by assumption) | exact bk_6 (by assumption) | exact bk_7 (by assumption) | exact bk_8 (by assumption) | exact sh_ring _ (by first | assumption | omega) | exact sh_imgs _ (by first | assumption | omega)) (by first | with_reducible rfl | (simp only [nlit, nI_add, pk_mul]; with_reducible rfl) | rfl) (by first | assumption | omega) (by first | assumption | decide) ?_
          rw [hb.1]
          refine v_bipush (v := nI 57) dX9_readWhole_39 (by decide) ?_
          refine v_icmp_gt (tgt := 81) dX9_readWhole_41 (by decide) (fun hc41 => ?_) (fun hc41 => ?_)
          · rw [(byt_c _ hb.2).2.2.2.1] at hc41
            have he2 : dE tp sz a = k := by rw [← he]; exact rn_f (by unfold dgt; rw [lk_in hk]; unfold isD; simp only [Bool.and_eq_false_iff, decide_eq_false_iff_not]; omega)
            exact tail J (by rw [he2]; exact hP) q1 q2 (by rw [he2]; exact q3) q4
          · rw [(byt_c _ hb.2).2.2.2.1] at hc41
            refine v_aload_0 dX9_readWhole_44 ?_
            refine v_aload_0 dX9_readWhole_45 ?_
            refine u_getI dX9_readWhole_46 gf_X9_54 (by first | assumption | rfl | exact led_1 (by assumption) | exact led_2 (by assumption) | exact bk_m (by assumption) (by first | assumption | omega) | exact bk_p (by assumption) (by first | assumption | omega) | exact bk_o (by assumption) (by first | assumption | omega) | exact bk_s (by assumption) (by first | assumption | omega) | exact bk_1 (by assumption) | exact bk_2 (by assumption) | exact bk_3 (by assumption) | exact bk_4 (by assumption) | exact bk_5 (by assumption) | exact bk_6 (by assumption) | exact bk_7 (by assumption) | exact bk_8 (by assumption) | exact sh_ring _ (by first | assumption | omega) | exact sh_imgs _ (by first | assumption | omega)) ?_
            rw [q3]
            refine v_bipush (v := nI 10) dX9_readWhole_49 (by decide) ?_
            refine v_imul dX9_readWhole_51 ?_
            rw [pk_mul]
            refine v_aload_0 dX9_readWhole_52 ?_
            refine u_getR dX9_readWhole_53 gf_X9_7 (by first | assumption | rfl | exact led_1 (by assumption) | exact led_2 (by assumption) | exact bk_m (by assumption) (by first | assumption | omega) | exact bk_p (by assumption) (by first | assumption | omega) | exact bk_o (by assumption) (by first | assumption | omega) | exact bk_s (by assumption) (by first | assumption | omega) | exact bk_1 (by assumption) | exact bk_2 (by assumption) | exact bk_3 (by assumption) | exact bk_4 (by assumption) | exact bk_5 (by assumption) | exact bk_6 (by assumption) | exact bk_7 (by assumption) | exact bk_8 (by assumption) | exact sh_ring _ (by first | assumption | omega) | exact sh_imgs _ (by first | assumption | omega)) (by assumption) ?_
            refine v_aload_0 dX9_readWhole_56 ?_
            skip
            refine u_getI dX9_readWhole_57 gf_X9_23 (by first | assumption | rfl | exact led_1 (by assumption) | exact led_2 (by assumption) | exact bk_m (by assumption) (by first | assumption | omega) | exact bk_p (by assumption) (by first | assumption | omega) | exact bk_o (by assumption) (by first | assumption | omega) | exact bk_s (by assumption) (by first | assumption | omega) | exact bk_1 (by assumption) | exact bk_2 (by assumption) | exact bk_3 (by assumption) | exact bk_4 (by assumption) | exact bk_5 (by assumption) | exact bk_6 (by assumption) | exact bk_7 (by assumption) | exact bk_8 (by assumption) | exact sh_ring _ (by first | assumption | omega) | exact sh_imgs _ (by first | assumption | omega)) ?_
            rw [hP.2.2.2.2.1]
            first | refine u_bald dX9_readWhole_60 (by first | assumption | rfl | exact led_1 (by assumption) | exact led_2 (by assumption) | exact bk_m (by assumption) (by first | assumption | omega) | exact bk_p (by assumption) (by first | assumption | omega) | exact bk_o (by assumption) (by first | assumption | omega) | exact bk_s (by assumption) (by first | assumption | omega) | exact bk_1 (by assumption) | exact bk_2 (by assumption) | exact bk_3 (by assumption) | exact bk_4 (by assumption) | exact bk_5 (by assumption) | exact bk_6 (by assumption) | exact bk_7 (by assumption) | exact bk_8 (by assumption) | exact sh_ring _ (by first | assumption | omega) | exact sh_imgs _ (by first | assumption | omega)) (by first | with_reducible rfl | (simp only [nlit, nI_add, pk_mul]; with_reducible rfl) | rfl) (by first | assumption | omega) (by first | assumption | decide) ?_ | refine u_zald dX9_readWhole_60 (by first | assumption | rfl | exact led_1 (by assumption) | exact led_2 (by assumption) | exact bk_m (by assumption) (by first | assumption | omega) | exact bk_p (by assumption) (by first | assumption | omega) | exact bk_o (by assumption) (by first | assumption | omega) | exact bk_s (by assumption) (by first | assumption | omega) | exact bk_1 (by assumption) | exact bk_2 (by assumption) | exact bk_3 (by assumption) | exact bk_4 (by assumption) | exact bk_5 (by assumption) | exact bk_6 (by assumption) | exact bk_7 (by assumption) | exact bk_8 (by assumption) | exact sh_ring _ (by first | assumption | omega) | exact sh_imgs _ (by first | assumption | omega)) (by first | with_reducible rfl | (simp only [nlit, nI_add, pk_mul]; with_reducible rfl) | rfl) (by first | assumption | omega) (by first | assumption | decide) ?_
            rw [hb.1, byt_n _ (by omega)]
            refine v_iadd dX9_readWhole_61 ?_
            rw [nI_add]
            refine v_bipush (v := nI 48) dX9_readWhole_62 (by decide) ?_
            refine v_isub dX9_readWhole_64 ?_
            rw [pk_sub (by omega)]
            refine u_putI dX9_readWhole_65 gf_X9_54 (by first | assumption | rfl | exact led_1 (by assumption) | exact led_2 (by assumption) | exact bk_m (by assumption) (by first | assumption | omega) | exact bk_p (by assumption) (by first | assumption | omega) | exact bk_o (by assumption) (by first | assumption | omega) | exact bk_s (by assumption) (by first | assumption | omega) | exact bk_1 (by assumption) | exact bk_2 (by assumption) | exact bk_3 (by assumption) | exact bk_4 (by assumption) | exact bk_5 (by assumption) | exact bk_6 (by assumption) | exact bk_7 (by assumption) | exact bk_8 (by assumption) | exact sh_ring _ (by first | assumption | omega) | exact sh_imgs _ (by first | assumption | omega)) rfl rfl rfl ?_
            refine v_aload_0 dX9_readWhole_68 ?_
            refine v_dup dX9_readWhole_69 rfl ?_
            refine u_getI dX9_readWhole_70 gf_X9_23 (by first | assumption | rfl | exact led_1 (by assumption) | exact led_2 (by assumption) | exact bk_m (by assumption) (by first | assumption | omega) | exact bk_p (by assumption) (by first | assumption | omega) | exact bk_o (by assumption) (by first | assumption | omega) | exact bk_s (by assumption) (by first | assumption | omega) | exact bk_1 (by assumption) | exact bk_2 (by assumption) | exact bk_3 (by assumption) | exact bk_4 (by assumption) | exact bk_5 (by assumption) | exact bk_6 (by assumption) | exact bk_7 (by assumption) | exact bk_8 (by assumption) | exact sh_ring _ (by first | assumption | omega) | exact sh_imgs _ (by first | assumption | omega)) ?_
            rw [ui_o (by decide), hP.2.2.2.2.1]
            refine v_iconst (v := nI 1) dX9_readWhole_73 (by decide) ?_
            refine v_iadd dX9_readWhole_74 ?_
            rw [nI_add]
            refine u_putI dX9_readWhole_75 gf_X9_23 (by first | assumption | rfl | exact led_1 (by assumption) | exact led_2 (by assumption) | exact bk_m (by assumption) (by first | assumption | omega) | exact bk_p (by assumption) (by first | assumption | omega) | exact bk_o (by assumption) (by first | assumption | omega) | exact bk_s (by assumption) (by first | assumption | omega) | exact bk_1 (by assumption) | exact bk_2 (by assumption) | exact bk_3 (by assumption) | exact bk_4 (by assumption) | exact bk_5 (by assumption) | exact bk_6 (by assumption) | exact bk_7 (by assumption) | exact bk_8 (by assumption) | exact sh_ring _ (by first | assumption | omega) | exact sh_imgs _ (by first | assumption | omega)) rfl rfl rfl ?_
            refine v_goto (tgt := 5) dX9_readWhole_78 (by decide) ?_
            have hr := rn_t (p := dgt tp sz) (n := n) (k := k) (by unfold dgt; rw [lk_in hk]; unfold isD; simp only [Bool.and_eq_true, decide_eq_true_eq]; omega)
            refine ih (k + 1) _ (by omega) ((hP.up (by decide) (by decide)).nx (by omega)) (by rw [← hr]; exact he) (by omega) (by rw [ui_o (by decide), ui_o (by decide)]; exact q1) (by rw [ui_o (by decide), ui_o (by decide)]; exact q2) ?_ (fun x hx => by rw [ui_ne hx, ui_ne hx]; exact q4 x hx)
            rw [ui_o (by decide), ui_s, show k + 1 - a = (k - a) + 1 by omega, num, show a + (k - a) = k by omega]
            congr 1; omega
  refine K.of (M := mX9_readWhole) (lv := [some (.ref (b + 89))]) (by decide) (Nat.le_of_ble_eq_true rfl) rfl ?_
  refine v_aload_0 dX9_readWhole_0 ?_
  refine v_iconst (v := nI 0) dX9_readWhole_1 (by decide) ?_
  refine u_putI dX9_readWhole_2 gf_X9_54 (by first | assumption | rfl | exact led_1 (by assumption) | exact led_2 (by assumption) | exact bk_m (by assumption) (by first | assumption | omega) | exact bk_p (by assumption) (by first | assumption | omega) | exact bk_o (by assumption) (by first | assumption | omega) | exact bk_s (by assumption) (by first | assumption | omega) | exact bk_1 (by assumption) | exact bk_2 (by assumption) | exact bk_3 (by assumption) | exact bk_4 (by assumption) | exact bk_5 (by assumption) | exact bk_6 (by assumption) | exact bk_7 (by assumption) | exact bk_8 (by assumption) | exact sh_ring _ (by first | assumption | omega) | exact sh_imgs _ (by first | assumption | omega)) rfl rfl rfl ?_
  exact loop (sz - a) a _ rfl (hP.up (by decide) (by decide)) rfl (Nat.le_refl a) (ui_o (by decide)) (ui_o (by decide)) (by rw [ui_s, Nat.sub_self]; rfl) (fun x hx => ui_ne hx)
theorem c_X9_advance {s0 : Nat} (hR : RO R) (hP : TkP I R tp sz e) (hs : I 89 4 = nI s0) (hQ : ∀ (J : HI) (M : HL), TkI J M R tp sz e s0 → (∀ x, x ≠ 89 → J x = I x) → (∀ x, x ≠ 89 → M x = L x) → Q none SH J M R) : KK 1 mX9_advance b ad [.ref (b + 89)] I L R Q := by
  have h9 := hP.2.2.1
  have he := hP.2.2.2.2.2
  have hab := tA_b (tp := tp) he
  have tail : ∀ (J : HI), TkP J R tp sz (tA tp sz e) → J 89 5 = nI s0 → (∀ x, x ≠ 89 → J x = I x) → VV yX9_advance cX9_advance 2 none 1 Q b ad 46 [some (.ref (b + 89)), none] [] J L R := by
    intro J hP q1 q2
    have hP4 := hP.up (j := 4) (v := nI (tA tp sz e)) (by decide) (by decide)
    have ht := hP.1
    by_cases hA : tA tp sz e < sz
    · have hb := hP.2.2.2.1 _ hA
      refine v_aload_0 dX9_advance_46 ?_
      refine v_aload_0 dX9_advance_47 ?_
      refine u_getI dX9_advance_48 gf_X9_23 (by first | assumption | rfl | exact led_1 (by assumption) | exact led_2 (by assumption) | exact bk_m (by assumption) (by first | assumption | omega) | exact bk_p (by assumption) (by first | assumption | omega) | exact bk_o (by assumption) (by first | assumption | omega) | exact bk_s (by assumption) (by first | assumption | omega) | exact bk_1 (by assumption) | exact bk_2 (by assumption) | exact bk_3 (by assumption) | exact bk_4 (by assumption) | exact bk_5 (by assumption) | exact bk_6 (by assumption) | exact bk_7 (by assumption) | exact bk_8 (by assumption) | exact sh_ring _ (by first | assumption | omega) | exact sh_imgs _ (by first | assumption | omega)) ?_
      rw [hP.2.2.2.2.1]
      refine u_putI dX9_advance_51 gf_X9_26 (by first | assumption | rfl | exact led_1 (by assumption) | exact led_2 (by assumption) | exact bk_m (by assumption) (by first | assumption | omega) | exact bk_p (by assumption) (by first | assumption | omega) | exact bk_o (by assumption) (by first | assumption | omega) | exact bk_s (by assumption) (by first | assumption | omega) | exact bk_1 (by assumption) | exact bk_2 (by assumption) | exact bk_3 (by assumption) | exact bk_4 (by assumption) | exact bk_5 (by assumption) | exact bk_6 (by assumption) | exact bk_7 (by assumption) | exact bk_8 (by assumption) | exact sh_ring _ (by first | assumption | omega) | exact sh_imgs _ (by first | assumption | omega)) rfl rfl rfl ?_
      refine v_aload_0 dX9_advance_54 ?_
      refine u_getI dX9_advance_55 gf_X9_23 (by first | assumption | rfl | exact led_1 (by assumption) | exact led_2 (by assumption) | exact bk_m (by assumption) (by first | assumption | omega) | exact bk_p (by assumption) (by first | assumption | omega) | exact bk_o (by assumption) (by first | assumption | omega) | exact bk_s (by assumption) (by first | assumption | omega) | exact bk_1 (by assumption) | exact bk_2 (by assumption) | exact bk_3 (by assumption) | exact bk_4 (by assumption) | exact bk_5 (by assumption) | exact bk_6 (by assumption) | exact bk_7 (by assumption) | exact bk_8 (by assumption) | exact sh_ring _ (by first | assumption | omega) | exact sh_imgs _ (by first | assumption | omega)) ?_
      rw [hP4.2.2.2.2.1]
      refine v_aload_0 dX9_advance_58 ?_
      refine u_getI dX9_advance_59 gf_X9_19 (by first | assumption | rfl | exact led_1 (by assumption) | exact led_2 (by assumption) | exact bk_m (by assumption) (by first | assumption | omega) | exact bk_p (by assumption) (by first | assumption | omega) | exact bk_o (by assumption) (by first | assumption | omega) | exact bk_s (by assumption) (by first | assumption | omega) | exact bk_1 (by assumption) | exact bk_2 (by assumption) | exact bk_3 (by assumption) | exact bk_4 (by assumption) | exact bk_5 (by assumption) | exact bk_6 (by assumption) | exact bk_7 (by assumption) | exact bk_8 (by assumption) | exact sh_ring _ (by first | assumption | omega) | exact sh_imgs _ (by first | assumption | omega)) ?_
      rw [hP4.2.1]
      refine v_icmp_ge (tgt := 77) dX9_advance_62 (by decide) (fun hc62 => ?_) (fun hc62 => ?_)
      · exact absurd hc62 (nI_ge (by omega) (by omega))
      · (try rw [nI_leI (by omega) (by omega)] at hc62)
        refine v_aload_0 dX9_advance_65 ?_
        refine u_getR dX9_advance_66 gf_X9_7 (by first | assumption | rfl | exact led_1 (by assumption) | exact led_2 (by assumption) | exact bk_m (by assumption) (by first | assumption | omega) | exact bk_p (by assumption) (by first | assumption | omega) | exact bk_o (by assumption) (by first | assumption | omega) | exact bk_s (by assumption) (by first | assumption | omega) | exact bk_1 (by assumption) | exact bk_2 (by assumption) | exact bk_3 (by assumption) | exact bk_4 (by assumption) | exact bk_5 (by assumption) | exact bk_6 (by assumption) | exact bk_7 (by assumption) | exact bk_8 (by assumption) | exact sh_ring _ (by first | assumption | omega) | exact sh_imgs _ (by first | assumption | omega)) (by assumption) ?_
        refine v_aload_0 dX9_advance_69 ?_
        refine u_getI dX9_advance_70 gf_X9_23 (by first | assumption | rfl | exact led_1 (by assumption) | exact led_2 (by assumption) | exact bk_m (by assumption) (by first | assumption | omega) | exact bk_p (by assumption) (by first | assumption | omega) | exact bk_o (by assumption) (by first | assumption | omega) | exact bk_s (by assumption) (by first | assumption | omega) | exact bk_1 (by assumption) | exact bk_2 (by assumption) | exact bk_3 (by assumption) | exact bk_4 (by assumption) | exact bk_5 (by assumption) | exact bk_6 (by assumption) | exact bk_7 (by assumption) | exact bk_8 (by assumption) | exact sh_ring _ (by first | assumption | omega) | exact sh_imgs _ (by first | assumption | omega)) ?_
        rw [hP4.2.2.2.2.1]
        first | refine u_bald dX9_advance_73 (by first | assumption | rfl | exact led_1 (by assumption) | exact led_2 (by assumption) | exact bk_m (by assumption) (by first | assumption | omega) | exact bk_p (by assumption) (by first | assumption | omega) | exact bk_o (by assumption) (by first | assumption | omega) | exact bk_s (by assumption) (by first | assumption | omega) | exact bk_1 (by assumption) | exact bk_2 (by assumption) | exact bk_3 (by assumption) | exact bk_4 (by assumption) | exact bk_5 (by assumption) | exact bk_6 (by assumption) | exact bk_7 (by assumption) | exact bk_8 (by assumption) | exact sh_ring _ (by first | assumption | omega) | exact sh_imgs _ (by first | assumption | omega)) (by first | with_reducible rfl | (simp only [nlit, nI_add, pk_mul]; with_reducible rfl) | rfl) (by first | assumption | omega) (by first | assumption | decide) ?_ | refine u_zald dX9_advance_73 (by first | assumption | rfl | exact led_1 (by assumption) | exact led_2 (by assumption) | exact bk_m (by assumption) (by first | assumption | omega) | exact bk_p (by assumption) (by first | assumption | omega) | exact bk_o (by assumption) (by first | assumption | omega) | exact bk_s (by assumption) (by first | assumption | omega) | exact bk_1 (by assumption) | exact bk_2 (by assumption) | exact bk_3 (by assumption) | exact bk_4 (by assumption) | exact bk_5 (by assumption) | exact bk_6 (by assumption) | exact bk_7 (by assumption) | exact bk_8 (by assumption) | exact sh_ring _ (by first | assumption | omega) | exact sh_imgs _ (by first | assumption | omega)) (by first | with_reducible rfl | (simp only [nlit, nI_add, pk_mul]; with_reducible rfl) | rfl) (by first | assumption | omega) (by first | assumption | decide) ?_
        rw [ui_ne (by decide), hb.1]
        refine v_goto (tgt := 78) dX9_advance_74 (by decide) ?_
        refine v_istore_1 rfl dX9_advance_78 ?_
        refine v_aload_0 dX9_advance_79 ?_
        refine u_getI dX9_advance_80 gf_X9_23 (by first | assumption | rfl | exact led_1 (by assumption) | exact led_2 (by assumption) | exact bk_m (by assumption) (by first | assumption | omega) | exact bk_p (by assumption) (by first | assumption | omega) | exact bk_o (by assumption) (by first | assumption | omega) | exact bk_s (by assumption) (by first | assumption | omega) | exact bk_1 (by assumption) | exact bk_2 (by assumption) | exact bk_3 (by assumption) | exact bk_4 (by assumption) | exact bk_5 (by assumption) | exact bk_6 (by assumption) | exact bk_7 (by assumption) | exact bk_8 (by assumption) | exact sh_ring _ (by first | assumption | omega) | exact sh_imgs _ (by first | assumption | omega)) ?_
        rw [hP4.2.2.2.2.1]
        refine v_aload_0 dX9_advance_83 ?_
        refine u_getI dX9_advance_84 gf_X9_19 (by first | assumption | rfl | exact led_1 (by assumption) | exact led_2 (by assumption) | exact bk_m (by assumption) (by first | assumption | omega) | exact bk_p (by assumption) (by first | assumption | omega) | exact bk_o (by assumption) (by first | assumption | omega) | exact bk_s (by assumption) (by first | assumption | omega) | exact bk_1 (by assumption) | exact bk_2 (by assumption) | exact bk_3 (by assumption) | exact bk_4 (by assumption) | exact bk_5 (by assumption) | exact bk_6 (by assumption) | exact bk_7 (by assumption) | exact bk_8 (by assumption) | exact sh_ring _ (by first | assumption | omega) | exact sh_imgs _ (by first | assumption | omega)) ?_
        rw [hP4.2.1]
        refine v_icmp_lt (tgt := 98) dX9_advance_87 (by decide) (fun hc87 => ?_) (fun hc87 => ?_)
        · (try rw [nI_ltI (by omega) (by omega)] at hc87)
          refine v_iload_1 dX9_advance_98 ?_
          refine v_bipush (v := nI 97) dX9_advance_99 (by decide) ?_
          refine v_icmp_lt (tgt := 117) dX9_advance_101 (by decide) (fun hc101 => ?_) (fun hc101 => ?_)
          · rw [(byt_c _ hb.2).1] at hc101
            refine v_iload_1 dX9_advance_117 ?_
            refine v_bipush (v := nI 48) dX9_advance_118 (by decide) ?_
            refine v_icmp_lt (tgt := 136) dX9_advance_120 (by decide) (fun hc120 => ?_) (fun hc120 => ?_)
            · rw [(byt_c _ hb.2).2.2.1] at hc120
              refine v_aload_0 dX9_advance_136 ?_
              refine v_iload_1 dX9_advance_137 ?_
              refine v_bipush (v := nI 59) dX9_advance_138 (by decide) ?_
              refine v_icmp_ne (tgt := 147) dX9_advance_140 (by decide) (fun hc140 => ?_) (fun hc140 => ?_)
              · rw [(byt_c _ hb.2).2.2.2.2.2.1] at hc140
                refine v_iload_1 dX9_advance_147 ?_
                refine v_bipush (v := nI 44) dX9_advance_148 (by decide) ?_
                refine v_icmp_ne (tgt := 157) dX9_advance_150 (by decide) (fun hc150 => ?_) (fun hc150 => ?_)
                · rw [(byt_c _ hb.2).2.2.2.2.2.2] at hc150
                  refine v_iconst (v := nI 5) dX9_advance_157 (by decide) ?_
                  refine u_putI dX9_advance_158 gf_X9_32 (by first | assumption | rfl | exact led_1 (by assumption) | exact led_2 (by assumption) | exact bk_m (by assumption) (by first | assumption | omega) | exact bk_p (by assumption) (by first | assumption | omega) | exact bk_o (by assumption) (by first | assumption | omega) | exact bk_s (by assumption) (by first | assumption | omega) | exact bk_1 (by assumption) | exact bk_2 (by assumption) | exact bk_3 (by assumption) | exact bk_4 (by assumption) | exact bk_5 (by assumption) | exact bk_6 (by assumption) | exact bk_7 (by assumption) | exact bk_8 (by assumption) | exact sh_ring _ (by first | assumption | omega) | exact sh_imgs _ (by first | assumption | omega)) rfl rfl rfl ?_
                  refine v_aload_0 dX9_advance_161 ?_
                  refine v_dup dX9_advance_162 rfl ?_
                  refine u_getI dX9_advance_163 gf_X9_23 (by first | assumption | rfl | exact led_1 (by assumption) | exact led_2 (by assumption) | exact bk_m (by assumption) (by first | assumption | omega) | exact bk_p (by assumption) (by first | assumption | omega) | exact bk_o (by assumption) (by first | assumption | omega) | exact bk_s (by assumption) (by first | assumption | omega) | exact bk_1 (by assumption) | exact bk_2 (by assumption) | exact bk_3 (by assumption) | exact bk_4 (by assumption) | exact bk_5 (by assumption) | exact bk_6 (by assumption) | exact bk_7 (by assumption) | exact bk_8 (by assumption) | exact sh_ring _ (by first | assumption | omega) | exact sh_imgs _ (by first | assumption | omega)) ?_
                  rw [ui_o (by decide), hP4.2.2.2.2.1]
                  refine v_iconst (v := nI 1) dX9_advance_166 (by decide) ?_
                  refine v_iadd dX9_advance_167 ?_
                  rw [nI_add]
                  refine u_putI dX9_advance_168 gf_X9_23 (by first | assumption | rfl | exact led_1 (by assumption) | exact led_2 (by assumption) | exact bk_m (by assumption) (by first | assumption | omega) | exact bk_p (by assumption) (by first | assumption | omega) | exact bk_o (by assumption) (by first | assumption | omega) | exact bk_s (by assumption) (by first | assumption | omega) | exact bk_1 (by assumption) | exact bk_2 (by assumption) | exact bk_3 (by assumption) | exact bk_4 (by assumption) | exact bk_5 (by assumption) | exact bk_6 (by assumption) | exact bk_7 (by assumption) | exact bk_8 (by assumption) | exact sh_ring _ (by first | assumption | omega) | exact sh_imgs _ (by first | assumption | omega)) rfl rfl rfl ?_
                  refine v_vret dX9_advance_171 rfl rfl rfl rfl ?_
                  have hs : isS (tp (tA tp sz e)) = false := by unfold isS; simp only [Bool.and_eq_false_iff, decide_eq_false_iff_not]; omega
                  have hd : isD (tp (tA tp sz e)) = false := by unfold isD; simp only [Bool.and_eq_false_iff, decide_eq_false_iff_not]; omega
                  have hk := tk_sign hA hb.2 hs hd
                  refine hQ _ _ ⟨by rw [hk.1]; exact ((hP.up (by decide) (by decide)).up (by decide) (by decide)).nx (by omega), he, ?_, by rw [ui_o (by decide), ui_o (by decide), ui_s], by rw [ui_o (by decide), ui_o (by decide), ui_o (by decide)]; exact q1, fun q => ?_, fun q => ?_⟩ (fun x hx => by rw [ui_ne hx, ui_ne hx, ui_ne hx]; exact q2 x hx) (fun _ _ => rfl)
                  · rw [ui_o (by decide), ui_s, hk.2]
                    first
                      | (rw [if_pos hc140]; rfl)
                      | (rw [if_neg hc140, if_pos hc150]; rfl)
                      | (rw [if_neg hc140, if_neg hc150]; rfl)
                  · exfalso; rw [hk.2] at q; (repeat' split at q) <;> cases q
                  · exfalso; rw [hk.2] at q; (repeat' split at q) <;> cases q
                · rw [(byt_c _ hb.2).2.2.2.2.2.2] at hc150
                  refine v_iconst (v := nI 4) dX9_advance_153 (by decide) ?_
                  refine v_goto (tgt := 158) dX9_advance_154 (by decide) ?_
                  refine u_putI dX9_advance_158 gf_X9_32 (by first | assumption | rfl | exact led_1 (by assumption) | exact led_2 (by assumption) | exact bk_m (by assumption) (by first | assumption | omega) | exact bk_p (by assumption) (by first | assumption | omega) | exact bk_o (by assumption) (by first | assumption | omega) | exact bk_s (by assumption) (by first | assumption | omega) | exact bk_1 (by assumption) | exact bk_2 (by assumption) | exact bk_3 (by assumption) | exact bk_4 (by assumption) | exact bk_5 (by assumption) | exact bk_6 (by assumption) | exact bk_7 (by assumption) | exact bk_8 (by assumption) | exact sh_ring _ (by first | assumption | omega) | exact sh_imgs _ (by first | assumption | omega)) rfl rfl rfl ?_
                  refine v_aload_0 dX9_advance_161 ?_
                  refine v_dup dX9_advance_162 rfl ?_
                  refine u_getI dX9_advance_163 gf_X9_23 (by first | assumption | rfl | exact led_1 (by assumption) | exact led_2 (by assumption) | exact bk_m (by assumption) (by first | assumption | omega) | exact bk_p (by assumption) (by first | assumption | omega) | exact bk_o (by assumption) (by first | assumption | omega) | exact bk_s (by assumption) (by first | assumption | omega) | exact bk_1 (by assumption) | exact bk_2 (by assumption) | exact bk_3 (by assumption) | exact bk_4 (by assumption) | exact bk_5 (by assumption) | exact bk_6 (by assumption) | exact bk_7 (by assumption) | exact bk_8 (by assumption) | exact sh_ring _ (by first | assumption | omega) | exact sh_imgs _ (by first | assumption | omega)) ?_
                  rw [ui_o (by decide), hP4.2.2.2.2.1]
                  refine v_iconst (v := nI 1) dX9_advance_166 (by decide) ?_
                  refine v_iadd dX9_advance_167 ?_
                  rw [nI_add]
                  refine u_putI dX9_advance_168 gf_X9_23 (by first | assumption | rfl | exact led_1 (by assumption) | exact led_2 (by assumption) | exact bk_m (by assumption) (by first | assumption | omega) | exact bk_p (by assumption) (by first | assumption | omega) | exact bk_o (by assumption) (by first | assumption | omega) | exact bk_s (by assumption) (by first | assumption | omega) | exact bk_1 (by assumption) | exact bk_2 (by assumption) | exact bk_3 (by assumption) | exact bk_4 (by assumption) | exact bk_5 (by assumption) | exact bk_6 (by assumption) | exact bk_7 (by assumption) | exact bk_8 (by assumption) | exact sh_ring _ (by first | assumption | omega) | exact sh_imgs _ (by first | assumption | omega)) rfl rfl rfl ?_
                  refine v_vret dX9_advance_171 rfl rfl rfl rfl ?_
                  have hs : isS (tp (tA tp sz e)) = false := by unfold isS; simp only [Bool.and_eq_false_iff, decide_eq_false_iff_not]; omega
                  have hd : isD (tp (tA tp sz e)) = false := by unfold isD; simp only [Bool.and_eq_false_iff, decide_eq_false_iff_not]; omega
                  have hk := tk_sign hA hb.2 hs hd
                  refine hQ _ _ ⟨by rw [hk.1]; exact ((hP.up (by decide) (by decide)).up (by decide) (by decide)).nx (by omega), he, ?_, by rw [ui_o (by decide), ui_o (by decide), ui_s], by rw [ui_o (by decide), ui_o (by decide), ui_o (by decide)]; exact q1, fun q => ?_, fun q => ?_⟩ (fun x hx => by rw [ui_ne hx, ui_ne hx, ui_ne hx]; exact q2 x hx) (fun _ _ => rfl)
                  · rw [ui_o (by decide), ui_s, hk.2]
                    first
                      | (rw [if_pos hc140]; rfl)
                      | (rw [if_neg hc140, if_pos hc150]; rfl)
                      | (rw [if_neg hc140, if_neg hc150]; rfl)
                  · exfalso; rw [hk.2] at q; (repeat' split at q) <;> cases q
                  · exfalso; rw [hk.2] at q; (repeat' split at q) <;> cases q
              · rw [(byt_c _ hb.2).2.2.2.2.2.1] at hc140
                refine v_iconst (v := nI 3) dX9_advance_143 (by decide) ?_
                refine v_goto (tgt := 158) dX9_advance_144 (by decide) ?_
                refine u_putI dX9_advance_158 gf_X9_32 (by first | assumption | rfl | exact led_1 (by assumption) | exact led_2 (by assumption) | exact bk_m (by assumption) (by first | assumption | omega) | exact bk_p (by assumption) (by first | assumption | omega) | exact bk_o (by assumption) (by first | assumption | omega) | exact bk_s (by assumption) (by first | assumption | omega) | exact bk_1 (by assumption) | exact bk_2 (by assumption) | exact bk_3 (by assumption) | exact bk_4 (by assumption) | exact bk_5 (by assumption) | exact bk_6 (by assumption) | exact bk_7 (by assumption) | exact bk_8 (by assumption) | exact sh_ring _ (by first | assumption | omega) | exact sh_imgs _ (by first | assumption | omega)) rfl rfl rfl ?_
                refine v_aload_0 dX9_advance_161 ?_
                refine v_dup dX9_advance_162 rfl ?_
                refine u_getI dX9_advance_163 gf_X9_23 (by first | assumption | rfl | exact led_1 (by assumption) | exact led_2 (by assumption) | exact bk_m (by assumption) (by first | assumption | omega) | exact bk_p (by assumption) (by first | assumption | omega) | exact bk_o (by assumption) (by first | assumption | omega) | exact bk_s (by assumption) (by first | assumption | omega) | exact bk_1 (by assumption) | exact bk_2 (by assumption) | exact bk_3 (by assumption) | exact bk_4 (by assumption) | exact bk_5 (by assumption) | exact bk_6 (by assumption) | exact bk_7 (by assumption) | exact bk_8 (by assumption) | exact sh_ring _ (by first | assumption | omega) | exact sh_imgs _ (by first | assumption | omega)) ?_
                rw [ui_o (by decide), hP4.2.2.2.2.1]
                refine v_iconst (v := nI 1) dX9_advance_166 (by decide) ?_
                refine v_iadd dX9_advance_167 ?_
                rw [nI_add]
                refine u_putI dX9_advance_168 gf_X9_23 (by first | assumption | rfl | exact led_1 (by assumption) | exact led_2 (by assumption) | exact bk_m (by assumption) (by first | assumption | omega) | exact bk_p (by assumption) (by first | assumption | omega) | exact bk_o (by assumption) (by first | assumption | omega) | exact bk_s (by assumption) (by first | assumption | omega) | exact bk_1 (by assumption) | exact bk_2 (by assumption) | exact bk_3 (by assumption) | exact bk_4 (by assumption) | exact bk_5 (by assumption) | exact bk_6 (by assumption) | exact bk_7 (by assumption) | exact bk_8 (by assumption) | exact sh_ring _ (by first | assumption | omega) | exact sh_imgs _ (by first | assumption | omega)) rfl rfl rfl ?_
                refine v_vret dX9_advance_171 rfl rfl rfl rfl ?_
                have hs : isS (tp (tA tp sz e)) = false := by unfold isS; simp only [Bool.and_eq_false_iff, decide_eq_false_iff_not]; omega
                have hd : isD (tp (tA tp sz e)) = false := by unfold isD; simp only [Bool.and_eq_false_iff, decide_eq_false_iff_not]; omega
                have hk := tk_sign hA hb.2 hs hd
                refine hQ _ _ ⟨by rw [hk.1]; exact ((hP.up (by decide) (by decide)).up (by decide) (by decide)).nx (by omega), he, ?_, by rw [ui_o (by decide), ui_o (by decide), ui_s], by rw [ui_o (by decide), ui_o (by decide), ui_o (by decide)]; exact q1, fun q => ?_, fun q => ?_⟩ (fun x hx => by rw [ui_ne hx, ui_ne hx, ui_ne hx]; exact q2 x hx) (fun _ _ => rfl)
                · rw [ui_o (by decide), ui_s, hk.2]
                  first
                    | (rw [if_pos hc140]; rfl)
                    | (rw [if_neg hc140, if_pos hc150]; rfl)
                    | (rw [if_neg hc140, if_neg hc150]; rfl)
                · exfalso; rw [hk.2] at q; (repeat' split at q) <;> cases q
                · exfalso; rw [hk.2] at q; (repeat' split at q) <;> cases q
            · rw [(byt_c _ hb.2).2.2.1] at hc120
              refine v_iload_1 dX9_advance_123 ?_
              refine v_bipush (v := nI 57) dX9_advance_124 (by decide) ?_
              refine v_icmp_gt (tgt := 136) dX9_advance_126 (by decide) (fun hc126 => ?_) (fun hc126 => ?_)
              · rw [(byt_c _ hb.2).2.2.2.1] at hc126
                refine v_aload_0 dX9_advance_136 ?_
                refine v_iload_1 dX9_advance_137 ?_
                refine v_bipush (v := nI 59) dX9_advance_138 (by decide) ?_
                refine v_icmp_ne (tgt := 147) dX9_advance_140 (by decide) (fun hc140 => ?_) (fun hc140 => ?_)
                · rw [(byt_c _ hb.2).2.2.2.2.2.1] at hc140
                  refine v_iload_1 dX9_advance_147 ?_
                  refine v_bipush (v := nI 44) dX9_advance_148 (by decide) ?_
                  refine v_icmp_ne (tgt := 157) dX9_advance_150 (by decide) (fun hc150 => ?_) (fun hc150 => ?_)
                  · rw [(byt_c _ hb.2).2.2.2.2.2.2] at hc150
                    refine v_iconst (v := nI 5) dX9_advance_157 (by decide) ?_
                    refine u_putI dX9_advance_158 gf_X9_32 (by first | assumption | rfl | exact led_1 (by assumption) | exact led_2 (by assumption) | exact bk_m (by assumption) (by first | assumption | omega) | exact bk_p (by assumption) (by first | assumption | omega) | exact bk_o (by assumption) (by first | assumption | omega) | exact bk_s (by assumption) (by first | assumption | omega) | exact bk_1 (by assumption) | exact bk_2 (by assumption) | exact bk_3 (by assumption) | exact bk_4 (by assumption) | exact bk_5 (by assumption) | exact bk_6 (by assumption) | exact bk_7 (by assumption) | exact bk_8 (by assumption) | exact sh_ring _ (by first | assumption | omega) | exact sh_imgs _ (by first | assumption | omega)) rfl rfl rfl ?_
                    refine v_aload_0 dX9_advance_161 ?_
                    refine v_dup dX9_advance_162 rfl ?_
                    refine u_getI dX9_advance_163 gf_X9_23 (by first | assumption | rfl | exact led_1 (by assumption) | exact led_2 (by assumption) | exact bk_m (by assumption) (by first | assumption | omega) | exact bk_p (by assumption) (by first | assumption | omega) | exact bk_o (by assumption) (by first | assumption | omega) | exact bk_s (by assumption) (by first | assumption | omega) | exact bk_1 (by assumption) | exact bk_2 (by assumption) | exact bk_3 (by assumption) | exact bk_4 (by assumption) | exact bk_5 (by assumption) | exact bk_6 (by assumption) | exact bk_7 (by assumption) | exact bk_8 (by assumption) | exact sh_ring _ (by first | assumption | omega) | exact sh_imgs _ (by first | assumption | omega)) ?_
                    rw [ui_o (by decide), hP4.2.2.2.2.1]
                    refine v_iconst (v := nI 1) dX9_advance_166 (by decide) ?_
                    refine v_iadd dX9_advance_167 ?_
                    rw [nI_add]
                    refine u_putI dX9_advance_168 gf_X9_23 (by first | assumption | rfl | exact led_1 (by assumption) | exact led_2 (by assumption) | exact bk_m (by assumption) (by first | assumption | omega) | exact bk_p (by assumption) (by first | assumption | omega) | exact bk_o (by assumption) (by first | assumption | omega) | exact bk_s (by assumption) (by first | assumption | omega) | exact bk_1 (by assumption) | exact bk_2 (by assumption) | exact bk_3 (by assumption) | exact bk_4 (by assumption) | exact bk_5 (by assumption) | exact bk_6 (by assumption) | exact bk_7 (by assumption) | exact bk_8 (by assumption) | exact sh_ring _ (by first | assumption | omega) | exact sh_imgs _ (by first | assumption | omega)) rfl rfl rfl ?_
                    refine v_vret dX9_advance_171 rfl rfl rfl rfl ?_
                    have hs : isS (tp (tA tp sz e)) = false := by unfold isS; simp only [Bool.and_eq_false_iff, decide_eq_false_iff_not]; omega
                    have hd : isD (tp (tA tp sz e)) = false := by unfold isD; simp only [Bool.and_eq_false_iff, decide_eq_false_iff_not]; omega
                    have hk := tk_sign hA hb.2 hs hd
                    refine hQ _ _ ⟨by rw [hk.1]; exact ((hP.up (by decide) (by decide)).up (by decide) (by decide)).nx (by omega), he, ?_, by rw [ui_o (by decide), ui_o (by decide), ui_s], by rw [ui_o (by decide), ui_o (by decide), ui_o (by decide)]; exact q1, fun q => ?_, fun q => ?_⟩ (fun x hx => by rw [ui_ne hx, ui_ne hx, ui_ne hx]; exact q2 x hx) (fun _ _ => rfl)
                    · rw [ui_o (by decide), ui_s, hk.2]
                      first
                        | (rw [if_pos hc140]; rfl)
                        | (rw [if_neg hc140, if_pos hc150]; rfl)
                        | (rw [if_neg hc140, if_neg hc150]; rfl)
                    · exfalso; rw [hk.2] at q; (repeat' split at q) <;> cases q
                    · exfalso; rw [hk.2] at q; (repeat' split at q) <;> cases q
                  · rw [(byt_c _ hb.2).2.2.2.2.2.2] at hc150
                    refine v_iconst (v := nI 4) dX9_advance_153 (by decide) ?_
                    refine v_goto (tgt := 158) dX9_advance_154 (by decide) ?_
                    refine u_putI dX9_advance_158 gf_X9_32 (by first | assumption | rfl | exact led_1 (by assumption) | exact led_2 (by assumption) | exact bk_m (by assumption) (by first | assumption | omega) | exact bk_p (by assumption) (by first | assumption | omega) | exact bk_o (by assumption) (by first | assumption | omega) | exact bk_s (by assumption) (by first | assumption | omega) | exact bk_1 (by assumption) | exact bk_2 (by assumption) | exact bk_3 (by assumption) | exact bk_4 (by assumption) | exact bk_5 (by assumption) | exact bk_6 (by assumption) | exact bk_7 (by assumption) | exact bk_8 (by assumption) | exact sh_ring _ (by first | assumption | omega) | exact sh_imgs _ (by first | assumption | omega)) rfl rfl rfl ?_
                    refine v_aload_0 dX9_advance_161 ?_
                    refine v_dup dX9_advance_162 rfl ?_
                    refine u_getI dX9_advance_163 gf_X9_23 (by first | assumption | rfl | exact led_1 (by assumption) | exact led_2 (by assumption) | exact bk_m (by assumption) (by first | assumption | omega) | exact bk_p (by assumption) (by first | assumption | omega) | exact bk_o (by assumption) (by first | assumption | omega) | exact bk_s (by assumption) (by first | assumption | omega) | exact bk_1 (by assumption) | exact bk_2 (by assumption) | exact bk_3 (by assumption) | exact bk_4 (by assumption) | exact bk_5 (by assumption) | exact bk_6 (by assumption) | exact bk_7 (by assumption) | exact bk_8 (by assumption) | exact sh_ring _ (by first | assumption | omega) | exact sh_imgs _ (by first | assumption | omega)) ?_
                    rw [ui_o (by decide), hP4.2.2.2.2.1]
                    refine v_iconst (v := nI 1) dX9_advance_166 (by decide) ?_
                    refine v_iadd dX9_advance_167 ?_
                    rw [nI_add]
                    refine u_putI dX9_advance_168 gf_X9_23 (by first | assumption | rfl | exact led_1 (by assumption) | exact led_2 (by assumption) | exact bk_m (by assumption) (by first | assumption | omega) | exact bk_p (by assumption) (by first | assumption | omega) | exact bk_o (by assumption) (by first | assumption | omega) | exact bk_s (by assumption) (by first | assumption | omega) | exact bk_1 (by assumption) | exact bk_2 (by assumption) | exact bk_3 (by assumption) | exact bk_4 (by assumption) | exact bk_5 (by assumption) | exact bk_6 (by assumption) | exact bk_7 (by assumption) | exact bk_8 (by assumption) | exact sh_ring _ (by first | assumption | omega) | exact sh_imgs _ (by first | assumption | omega)) rfl rfl rfl ?_
                    refine v_vret dX9_advance_171 rfl rfl rfl rfl ?_
                    have hs : isS (tp (tA tp sz e)) = false := by unfold isS; simp only [Bool.and_eq_false_iff, decide_eq_false_iff_not]; omega
                    have hd : isD (tp (tA tp sz e)) = false := by unfold isD; simp only [Bool.and_eq_false_iff, decide_eq_false_iff_not]; omega
                    have hk := tk_sign hA hb.2 hs hd
                    refine hQ _ _ ⟨by rw [hk.1]; exact ((hP.up (by decide) (by decide)).up (by decide) (by decide)).nx (by omega), he, ?_, by rw [ui_o (by decide), ui_o (by decide), ui_s], by rw [ui_o (by decide), ui_o (by decide), ui_o (by decide)]; exact q1, fun q => ?_, fun q => ?_⟩ (fun x hx => by rw [ui_ne hx, ui_ne hx, ui_ne hx]; exact q2 x hx) (fun _ _ => rfl)
                    · rw [ui_o (by decide), ui_s, hk.2]
                      first
                        | (rw [if_pos hc140]; rfl)
                        | (rw [if_neg hc140, if_pos hc150]; rfl)
                        | (rw [if_neg hc140, if_neg hc150]; rfl)
                    · exfalso; rw [hk.2] at q; (repeat' split at q) <;> cases q
                    · exfalso; rw [hk.2] at q; (repeat' split at q) <;> cases q
                · rw [(byt_c _ hb.2).2.2.2.2.2.1] at hc140
                  refine v_iconst (v := nI 3) dX9_advance_143 (by decide) ?_
                  refine v_goto (tgt := 158) dX9_advance_144 (by decide) ?_
                  refine u_putI dX9_advance_158 gf_X9_32 (by first | assumption | rfl | exact led_1 (by assumption) | exact led_2 (by assumption) | exact bk_m (by assumption) (by first | assumption | omega) | exact bk_p (by assumption) (by first | assumption | omega) | exact bk_o (by assumption) (by first | assumption | omega) | exact bk_s (by assumption) (by first | assumption | omega) | exact bk_1 (by assumption) | exact bk_2 (by assumption) | exact bk_3 (by assumption) | exact bk_4 (by assumption) | exact bk_5 (by assumption) | exact bk_6 (by assumption) | exact bk_7 (by assumption) | exact bk_8 (by assumption) | exact sh_ring _ (by first | assumption | omega) | exact sh_imgs _ (by first | assumption | omega)) rfl rfl rfl ?_
                  refine v_aload_0 dX9_advance_161 ?_
                  refine v_dup dX9_advance_162 rfl ?_
                  refine u_getI dX9_advance_163 gf_X9_23 (by first | assumption | rfl | exact led_1 (by assumption) | exact led_2 (by assumption) | exact bk_m (by assumption) (by first | assumption | omega) | exact bk_p (by assumption) (by first | assumption | omega) | exact bk_o (by assumption) (by first | assumption | omega) | exact bk_s (by assumption) (by first | assumption | omega) | exact bk_1 (by assumption) | exact bk_2 (by assumption) | exact bk_3 (by assumption) | exact bk_4 (by assumption) | exact bk_5 (by assumption) | exact bk_6 (by assumption) | exact bk_7 (by assumption) | exact bk_8 (by assumption) | exact sh_ring _ (by first | assumption | omega) | exact sh_imgs _ (by first | assumption | omega)) ?_
                  rw [ui_o (by decide), hP4.2.2.2.2.1]
                  refine v_iconst (v := nI 1) dX9_advance_166 (by decide) ?_
                  refine v_iadd dX9_advance_167 ?_
                  rw [nI_add]
                  refine u_putI dX9_advance_168 gf_X9_23 (by first | assumption | rfl | exact led_1 (by assumption) | exact led_2 (by assumption) | exact bk_m (by assumption) (by first | assumption | omega) | exact bk_p (by assumption) (by first | assumption | omega) | exact bk_o (by assumption) (by first | assumption | omega) | exact bk_s (by assumption) (by first | assumption | omega) | exact bk_1 (by assumption) | exact bk_2 (by assumption) | exact bk_3 (by assumption) | exact bk_4 (by assumption) | exact bk_5 (by assumption) | exact bk_6 (by assumption) | exact bk_7 (by assumption) | exact bk_8 (by assumption) | exact sh_ring _ (by first | assumption | omega) | exact sh_imgs _ (by first | assumption | omega)) rfl rfl rfl ?_
                  refine v_vret dX9_advance_171 rfl rfl rfl rfl ?_
                  have hs : isS (tp (tA tp sz e)) = false := by unfold isS; simp only [Bool.and_eq_false_iff, decide_eq_false_iff_not]; omega
                  have hd : isD (tp (tA tp sz e)) = false := by unfold isD; simp only [Bool.and_eq_false_iff, decide_eq_false_iff_not]; omega
                  have hk := tk_sign hA hb.2 hs hd
                  refine hQ _ _ ⟨by rw [hk.1]; exact ((hP.up (by decide) (by decide)).up (by decide) (by decide)).nx (by omega), he, ?_, by rw [ui_o (by decide), ui_o (by decide), ui_s], by rw [ui_o (by decide), ui_o (by decide), ui_o (by decide)]; exact q1, fun q => ?_, fun q => ?_⟩ (fun x hx => by rw [ui_ne hx, ui_ne hx, ui_ne hx]; exact q2 x hx) (fun _ _ => rfl)
                  · rw [ui_o (by decide), ui_s, hk.2]
                    first
                      | (rw [if_pos hc140]; rfl)
                      | (rw [if_neg hc140, if_pos hc150]; rfl)
                      | (rw [if_neg hc140, if_neg hc150]; rfl)
                  · exfalso; rw [hk.2] at q; (repeat' split at q) <;> cases q
                  · exfalso; rw [hk.2] at q; (repeat' split at q) <;> cases q
              · rw [(byt_c _ hb.2).2.2.2.1] at hc126
                refine v_aload_0 dX9_advance_129 ?_
                refine u_callV_0 dX9_advance_130 ml_X9_38 mv_X9_readWhole (by first | assumption | rfl | exact led_1 (by assumption) | exact led_2 (by assumption) | exact bk_m (by assumption) (by first | assumption | omega) | exact bk_p (by assumption) (by first | assumption | omega) | exact bk_o (by assumption) (by first | assumption | omega) | exact bk_s (by assumption) (by first | assumption | omega) | exact bk_1 (by assumption) | exact bk_2 (by assumption) | exact bk_3 (by assumption) | exact bk_4 (by assumption) | exact bk_5 (by assumption) | exact bk_6 (by assumption) | exact bk_7 (by assumption) | exact bk_8 (by assumption) | exact sh_ring _ (by first | assumption | omega) | exact sh_imgs _ (by first | assumption | omega)) (by decide) rfl (by decide) (Nat.le_of_ble_eq_true rfl) (c_X9_readWhole hR (hP.up (by decide) (by decide)) (ui_s _ _ _ _) (Nat.le_refl _) (fun J2 p1 p2 p3 p4 p5 p6 => ?_))
                refine v_goto (tgt := 171) dX9_advance_133 (by decide) ?_
                refine v_vret dX9_advance_171 rfl rfl rfl rfl ?_
                have hs : isS (tp (tA tp sz e)) = false := by unfold isS; simp only [Bool.and_eq_false_iff, decide_eq_false_iff_not]; omega
                have hd : isD (tp (tA tp sz e)) = true := by unfold isD; simp only [Bool.and_eq_true, decide_eq_true_eq]; omega
                have hk := tk_dig hA hb.2 hs hd
                refine hQ _ _ ⟨by rw [hk.1]; exact p1, he, ?_, by rw [p3, ui_s], by rw [p4, ui_o (by decide)]; exact q1, fun q => ?_, fun q => ?_⟩ (fun x hx => by rw [p6 x hx, ui_ne hx]; exact q2 x hx) (fun _ _ => rfl)
                · rw [p2, hk.2]; split <;> rfl
                · unfold tW; rw [hk.1]; exact p5
                · exfalso; rw [hk.2] at q; split at q <;> cases q
          · rw [(byt_c _ hb.2).1] at hc101
            refine v_iload_1 dX9_advance_104 ?_
            refine v_bipush (v := nI 122) dX9_advance_105 (by decide) ?_
            refine v_icmp_gt (tgt := 117) dX9_advance_107 (by decide) (fun hc107 => ?_) (fun hc107 => ?_)
            · rw [(byt_c _ hb.2).2.1] at hc107
              refine v_iload_1 dX9_advance_117 ?_
              refine v_bipush (v := nI 48) dX9_advance_118 (by decide) ?_
              refine v_icmp_lt (tgt := 136) dX9_advance_120 (by decide) (fun hc120 => ?_) (fun hc120 => ?_)
              · rw [(byt_c _ hb.2).2.2.1] at hc120
                refine v_aload_0 dX9_advance_136 ?_
                refine v_iload_1 dX9_advance_137 ?_
                refine v_bipush (v := nI 59) dX9_advance_138 (by decide) ?_
                refine v_icmp_ne (tgt := 147) dX9_advance_140 (by decide) (fun hc140 => ?_) (fun hc140 => ?_)
                · rw [(byt_c _ hb.2).2.2.2.2.2.1] at hc140
                  refine v_iload_1 dX9_advance_147 ?_
                  refine v_bipush (v := nI 44) dX9_advance_148 (by decide) ?_
                  refine v_icmp_ne (tgt := 157) dX9_advance_150 (by decide) (fun hc150 => ?_) (fun hc150 => ?_)
                  · rw [(byt_c _ hb.2).2.2.2.2.2.2] at hc150
                    refine v_iconst (v := nI 5) dX9_advance_157 (by decide) ?_
                    refine u_putI dX9_advance_158 gf_X9_32 (by first | assumption | rfl | exact led_1 (by assumption) | exact led_2 (by assumption) | exact bk_m (by assumption) (by first | assumption | omega) | exact bk_p (by assumption) (by first | assumption | omega) | exact bk_o (by assumption) (by first | assumption | omega) | exact bk_s (by assumption) (by first | assumption | omega) | exact bk_1 (by assumption) | exact bk_2 (by assumption) | exact bk_3 (by assumption) | exact bk_4 (by assumption) | exact bk_5 (by assumption) | exact bk_6 (by assumption) | exact bk_7 (by assumption) | exact bk_8 (by assumption) | exact sh_ring _ (by first | assumption | omega) | exact sh_imgs _ (by first | assumption | omega)) rfl rfl rfl ?_
                    refine v_aload_0 dX9_advance_161 ?_
                    refine v_dup dX9_advance_162 rfl ?_
                    refine u_getI dX9_advance_163 gf_X9_23 (by first | assumption | rfl | exact led_1 (by assumption) | exact led_2 (by assumption) | exact bk_m (by assumption) (by first | assumption | omega) | exact bk_p (by assumption) (by first | assumption | omega) | exact bk_o (by assumption) (by first | assumption | omega) | exact bk_s (by assumption) (by first | assumption | omega) | exact bk_1 (by assumption) | exact bk_2 (by assumption) | exact bk_3 (by assumption) | exact bk_4 (by assumption) | exact bk_5 (by assumption) | exact bk_6 (by assumption) | exact bk_7 (by assumption) | exact bk_8 (by assumption) | exact sh_ring _ (by first | assumption | omega) | exact sh_imgs _ (by first | assumption | omega)) ?_
                    rw [ui_o (by decide), hP4.2.2.2.2.1]
                    refine v_iconst (v := nI 1) dX9_advance_166 (by decide) ?_
                    refine v_iadd dX9_advance_167 ?_
                    rw [nI_add]
                    refine u_putI dX9_advance_168 gf_X9_23 (by first | assumption | rfl | exact led_1 (by assumption) | exact led_2 (by assumption) | exact bk_m (by assumption) (by first | assumption | omega) | exact bk_p (by assumption) (by first | assumption | omega) | exact bk_o (by assumption) (by first | assumption | omega) | exact bk_s (by assumption) (by first | assumption | omega) | exact bk_1 (by assumption) | exact bk_2 (by assumption) | exact bk_3 (by assumption) | exact bk_4 (by assumption) | exact bk_5 (by assumption) | exact bk_6 (by assumption) | exact bk_7 (by assumption) | exact bk_8 (by assumption) | exact sh_ring _ (by first | assumption | omega) | exact sh_imgs _ (by first | assumption | omega)) rfl rfl rfl ?_
                    refine v_vret dX9_advance_171 rfl rfl rfl rfl ?_
                    have hs : isS (tp (tA tp sz e)) = false := by unfold isS; simp only [Bool.and_eq_false_iff, decide_eq_false_iff_not]; omega
                    have hd : isD (tp (tA tp sz e)) = false := by unfold isD; simp only [Bool.and_eq_false_iff, decide_eq_false_iff_not]; omega
                    have hk := tk_sign hA hb.2 hs hd
                    refine hQ _ _ ⟨by rw [hk.1]; exact ((hP.up (by decide) (by decide)).up (by decide) (by decide)).nx (by omega), he, ?_, by rw [ui_o (by decide), ui_o (by decide), ui_s], by rw [ui_o (by decide), ui_o (by decide), ui_o (by decide)]; exact q1, fun q => ?_, fun q => ?_⟩ (fun x hx => by rw [ui_ne hx, ui_ne hx, ui_ne hx]; exact q2 x hx) (fun _ _ => rfl)
                    · rw [ui_o (by decide), ui_s, hk.2]
                      first
                        | (rw [if_pos hc140]; rfl)
                        | (rw [if_neg hc140, if_pos hc150]; rfl)
                        | (rw [if_neg hc140, if_neg hc150]; rfl)
                    · exfalso; rw [hk.2] at q; (repeat' split at q) <;> cases q
                    · exfalso; rw [hk.2] at q; (repeat' split at q) <;> cases q
                  · rw [(byt_c _ hb.2).2.2.2.2.2.2] at hc150
                    refine v_iconst (v := nI 4) dX9_advance_153 (by decide) ?_
                    refine v_goto (tgt := 158) dX9_advance_154 (by decide) ?_
                    refine u_putI dX9_advance_158 gf_X9_32 (by first | assumption | rfl | exact led_1 (by assumption) | exact led_2 (by assumption) | exact bk_m (by assumption) (by first | assumption | omega) | exact bk_p (by assumption) (by first | assumption | omega) | exact bk_o (by assumption) (by first | assumption | omega) | exact bk_s (by assumption) (by first | assumption | omega) | exact bk_1 (by assumption) | exact bk_2 (by assumption) | exact bk_3 (by assumption) | exact bk_4 (by assumption) | exact bk_5 (by assumption) | exact bk_6 (by assumption) | exact bk_7 (by assumption) | exact bk_8 (by assumption) | exact sh_ring _ (by first | assumption | omega) | exact sh_imgs _ (by first | assumption | omega)) rfl rfl rfl ?_
                    refine v_aload_0 dX9_advance_161 ?_
                    refine v_dup dX9_advance_162 rfl ?_
                    refine u_getI dX9_advance_163 gf_X9_23 (by first | assumption | rfl | exact led_1 (by assumption) | exact led_2 (by assumption) | exact bk_m (by assumption) (by first | assumption | omega) | exact bk_p (by assumption) (by first | assumption | omega) | exact bk_o (by assumption) (by first | assumption | omega) | exact bk_s (by assumption) (by first | assumption | omega) | exact bk_1 (by assumption) | exact bk_2 (by assumption) | exact bk_3 (by assumption) | exact bk_4 (by assumption) | exact bk_5 (by assumption) | exact bk_6 (by assumption) | exact bk_7 (by assumption) | exact bk_8 (by assumption) | exact sh_ring _ (by first | assumption | omega) | exact sh_imgs _ (by first | assumption | omega)) ?_
                    rw [ui_o (by decide), hP4.2.2.2.2.1]
                    refine v_iconst (v := nI 1) dX9_advance_166 (by decide) ?_
                    refine v_iadd dX9_advance_167 ?_
                    rw [nI_add]
                    refine u_putI dX9_advance_168 gf_X9_23 (by first | assumption | rfl | exact led_1 (by assumption) | exact led_2 (by assumption) | exact bk_m (by assumption) (by first | assumption | omega) | exact bk_p (by assumption) (by first | assumption | omega) | exact bk_o (by assumption) (by first | assumption | omega) | exact bk_s (by assumption) (by first | assumption | omega) | exact bk_1 (by assumption) | exact bk_2 (by assumption) | exact bk_3 (by assumption) | exact bk_4 (by assumption) | exact bk_5 (by assumption) | exact bk_6 (by assumption) | exact bk_7 (by assumption) | exact bk_8 (by assumption) | exact sh_ring _ (by first | assumption | omega) | exact sh_imgs _ (by first | assumption | omega)) rfl rfl rfl ?_
                    refine v_vret dX9_advance_171 rfl rfl rfl rfl ?_
                    have hs : isS (tp (tA tp sz e)) = false := by unfold isS; simp only [Bool.and_eq_false_iff, decide_eq_false_iff_not]; omega
                    have hd : isD (tp (tA tp sz e)) = false := by unfold isD; simp only [Bool.and_eq_false_iff, decide_eq_false_iff_not]; omega
                    have hk := tk_sign hA hb.2 hs hd
                    refine hQ _ _ ⟨by rw [hk.1]; exact ((hP.up (by decide) (by decide)).up (by decide) (by decide)).nx (by omega), he, ?_, by rw [ui_o (by decide), ui_o (by decide), ui_s], by rw [ui_o (by decide), ui_o (by decide), ui_o (by decide)]; exact q1, fun q => ?_, fun q => ?_⟩ (fun x hx => by rw [ui_ne hx, ui_ne hx, ui_ne hx]; exact q2 x hx) (fun _ _ => rfl)
                    · rw [ui_o (by decide), ui_s, hk.2]
                      first
                        | (rw [if_pos hc140]; rfl)
                        | (rw [if_neg hc140, if_pos hc150]; rfl)
                        | (rw [if_neg hc140, if_neg hc150]; rfl)
                    · exfalso; rw [hk.2] at q; (repeat' split at q) <;> cases q
                    · exfalso; rw [hk.2] at q; (repeat' split at q) <;> cases q
                · rw [(byt_c _ hb.2).2.2.2.2.2.1] at hc140
                  refine v_iconst (v := nI 3) dX9_advance_143 (by decide) ?_
                  refine v_goto (tgt := 158) dX9_advance_144 (by decide) ?_
                  refine u_putI dX9_advance_158 gf_X9_32 (by first | assumption | rfl | exact led_1 (by assumption) | exact led_2 (by assumption) | exact bk_m (by assumption) (by first | assumption | omega) | exact bk_p (by assumption) (by first | assumption | omega) | exact bk_o (by assumption) (by first | assumption | omega) | exact bk_s (by assumption) (by first | assumption | omega) | exact bk_1 (by assumption) | exact bk_2 (by assumption) | exact bk_3 (by assumption) | exact bk_4 (by assumption) | exact bk_5 (by assumption) | exact bk_6 (by assumption) | exact bk_7 (by assumption) | exact bk_8 (by assumption) | exact sh_ring _ (by first | assumption | omega) | exact sh_imgs _ (by first | assumption | omega)) rfl rfl rfl ?_
                  refine v_aload_0 dX9_advance_161 ?_
                  refine v_dup dX9_advance_162 rfl ?_
                  refine u_getI dX9_advance_163 gf_X9_23 (by first | assumption | rfl | exact led_1 (by assumption) | exact led_2 (by assumption) | exact bk_m (by assumption) (by first | assumption | omega) | exact bk_p (by assumption) (by first | assumption | omega) | exact bk_o (by assumption) (by first | assumption | omega) | exact bk_s (by assumption) (by first | assumption | omega) | exact bk_1 (by assumption) | exact bk_2 (by assumption) | exact bk_3 (by assumption) | exact bk_4 (by assumption) | exact bk_5 (by assumption) | exact bk_6 (by assumption) | exact bk_7 (by assumption) | exact bk_8 (by assumption) | exact sh_ring _ (by first | assumption | omega) | exact sh_imgs _ (by first | assumption | omega)) ?_
                  rw [ui_o (by decide), hP4.2.2.2.2.1]
                  refine v_iconst (v := nI 1) dX9_advance_166 (by decide) ?_
                  refine v_iadd dX9_advance_167 ?_
                  rw [nI_add]
                  refine u_putI dX9_advance_168 gf_X9_23 (by first | assumption | rfl | exact led_1 (by assumption) | exact led_2 (by assumption) | exact bk_m (by assumption) (by first | assumption | omega) | exact bk_p (by assumption) (by first | assumption | omega) | exact bk_o (by assumption) (by first | assumption | omega) | exact bk_s (by assumption) (by first | assumption | omega) | exact bk_1 (by assumption) | exact bk_2 (by assumption) | exact bk_3 (by assumption) | exact bk_4 (by assumption) | exact bk_5 (by assumption) | exact bk_6 (by assumption) | exact bk_7 (by assumption) | exact bk_8 (by assumption) | exact sh_ring _ (by first | assumption | omega) | exact sh_imgs _ (by first | assumption | omega)) rfl rfl rfl ?_
                  refine v_vret dX9_advance_171 rfl rfl rfl rfl ?_
                  have hs : isS (tp (tA tp sz e)) = false := by unfold isS; simp only [Bool.and_eq_false_iff, decide_eq_false_iff_not]; omega
                  have hd : isD (tp (tA tp sz e)) = false := by unfold isD; simp only [Bool.and_eq_false_iff, decide_eq_false_iff_not]; omega
                  have hk := tk_sign hA hb.2 hs hd
                  refine hQ _ _ ⟨by rw [hk.1]; exact ((hP.up (by decide) (by decide)).up (by decide) (by decide)).nx (by omega), he, ?_, by rw [ui_o (by decide), ui_o (by decide), ui_s], by rw [ui_o (by decide), ui_o (by decide), ui_o (by decide)]; exact q1, fun q => ?_, fun q => ?_⟩ (fun x hx => by rw [ui_ne hx, ui_ne hx, ui_ne hx]; exact q2 x hx) (fun _ _ => rfl)
                  · rw [ui_o (by decide), ui_s, hk.2]
                    first
                      | (rw [if_pos hc140]; rfl)
                      | (rw [if_neg hc140, if_pos hc150]; rfl)
                      | (rw [if_neg hc140, if_neg hc150]; rfl)
                  · exfalso; rw [hk.2] at q; (repeat' split at q) <;> cases q
                  · exfalso; rw [hk.2] at q; (repeat' split at q) <;> cases q
              · rw [(byt_c _ hb.2).2.2.1] at hc120
                refine v_iload_1 dX9_advance_123 ?_
                refine v_bipush (v := nI 57) dX9_advance_124 (by decide) ?_
                refine v_icmp_gt (tgt := 136) dX9_advance_126 (by decide) (fun hc126 => ?_) (fun hc126 => ?_)
                · rw [(byt_c _ hb.2).2.2.2.1] at hc126
                  refine v_aload_0 dX9_advance_136 ?_
                  refine v_iload_1 dX9_advance_137 ?_
                  refine v_bipush (v := nI 59) dX9_advance_138 (by decide) ?_
                  refine v_icmp_ne (tgt := 147) dX9_advance_140 (by decide) (fun hc140 => ?_) (fun hc140 => ?_)
                  · rw [(byt_c _ hb.2).2.2.2.2.2.1] at hc140
                    refine v_iload_1 dX9_advance_147 ?_
                    refine v_bipush (v := nI 44) dX9_advance_148 (by decide) ?_
                    refine v_icmp_ne (tgt := 157) dX9_advance_150 (by decide) (fun hc150 => ?_) (fun hc150 => ?_)
                    · rw [(byt_c _ hb.2).2.2.2.2.2.2] at hc150
                      refine v_iconst (v := nI 5) dX9_advance_157 (by decide) ?_
                      refine u_putI dX9_advance_158 gf_X9_32 (by first | assumption | rfl | exact led_1 (by assumption) | exact led_2 (by assumption) | exact bk_m (by assumption) (by first | assumption | omega) | exact bk_p (by assumption) (by first | assumption | omega) | exact bk_o (by assumption) (by first | assumption | omega) | exact bk_s (by assumption) (by first | assumption | omega) | exact bk_1 (by assumption) | exact bk_2 (by assumption) | exact bk_3 (by assumption) | exact bk_4 (by assumption) | exact bk_5 (by assumption) | exact bk_6 (by assumption) | exact bk_7 (by assumption) | exact bk_8 (by assumption) | exact sh_ring _ (by first | assumption | omega) | exact sh_imgs _ (by first | assumption | omega)) rfl rfl rfl ?_
                      refine v_aload_0 dX9_advance_161 ?_
                      refine v_dup dX9_advance_162 rfl ?_
                      refine u_getI dX9_advance_163 gf_X9_23 (by first | assumption | rfl | exact led_1 (by assumption) | exact led_2 (by assumption) | exact bk_m (by assumption) (by first | assumption | omega) | exact bk_p (by assumption) (by first | assumption | omega) | exact bk_o (by assumption) (by first | assumption | omega) | exact bk_s (by assumption) (by first | assumption | omega) | exact bk_1 (by assumption) | exact bk_2 (by assumption) | exact bk_3 (by assumption) | exact bk_4 (by assumption) | exact bk_5 (by assumption) | exact bk_6 (by assumption) | exact bk_7 (by assumption) | exact bk_8 (by assumption) | exact sh_ring _ (by first | assumption | omega) | exact sh_imgs _ (by first | assumption | omega)) ?_
                      rw [ui_o (by decide), hP4.2.2.2.2.1]
                      refine v_iconst (v := nI 1) dX9_advance_166 (by decide) ?_
                      refine v_iadd dX9_advance_167 ?_
                      rw [nI_add]
                      refine u_putI dX9_advance_168 gf_X9_23 (by first | assumption | rfl | exact led_1 (by assumption) | exact led_2 (by assumption) | exact bk_m (by assumption) (by first | assumption | omega) | exact bk_p (by assumption) (by first | assumption | omega) | exact bk_o (by assumption) (by first | assumption | omega) | exact bk_s (by assumption) (by first | assumption | omega) | exact bk_1 (by assumption) | exact bk_2 (by assumption) | exact bk_3 (by assumption) | exact bk_4 (by assumption) | exact bk_5 (by assumption) | exact bk_6 (by assumption) | exact bk_7 (by assumption) | exact bk_8 (by assumption) | exact sh_ring _ (by first | assumption | omega) | exact sh_imgs _ (by first | assumption | omega)) rfl rfl rfl ?_
                      refine v_vret dX9_advance_171 rfl rfl rfl rfl ?_
                      have hs : isS (tp (tA tp sz e)) = false := by unfold isS; simp only [Bool.and_eq_false_iff, decide_eq_false_iff_not]; omega
                      have hd : isD (tp (tA tp sz e)) = false := by unfold isD; simp only [Bool.and_eq_false_iff, decide_eq_false_iff_not]; omega
                      have hk := tk_sign hA hb.2 hs hd
                      refine hQ _ _ ⟨by rw [hk.1]; exact ((hP.up (by decide) (by decide)).up (by decide) (by decide)).nx (by omega), he, ?_, by rw [ui_o (by decide), ui_o (by decide), ui_s], by rw [ui_o (by decide), ui_o (by decide), ui_o (by decide)]; exact q1, fun q => ?_, fun q => ?_⟩ (fun x hx => by rw [ui_ne hx, ui_ne hx, ui_ne hx]; exact q2 x hx) (fun _ _ => rfl)
                      · rw [ui_o (by decide), ui_s, hk.2]
                        first
                          | (rw [if_pos hc140]; rfl)
                          | (rw [if_neg hc140, if_pos hc150]; rfl)
                          | (rw [if_neg hc140, if_neg hc150]; rfl)
                      · exfalso; rw [hk.2] at q; (repeat' split at q) <;> cases q
                      · exfalso; rw [hk.2] at q; (repeat' split at q) <;> cases q
                    · rw [(byt_c _ hb.2).2.2.2.2.2.2] at hc150
                      refine v_iconst (v := nI 4) dX9_advance_153 (by decide) ?_
                      refine v_goto (tgt := 158) dX9_advance_154 (by decide) ?_
                      refine u_putI dX9_advance_158 gf_X9_32 (by first | assumption | rfl | exact led_1 (by assumption) | exact led_2 (by assumption) | exact bk_m (by assumption) (by first | assumption | omega) | exact bk_p (by assumption) (by first | assumption | omega) | exact bk_o (by assumption) (by first | assumption | omega) | exact bk_s (by assumption) (by first | assumption | omega) | exact bk_1 (by assumption) | exact bk_2 (by assumption) | exact bk_3 (by assumption) | exact bk_4 (by assumption) | exact bk_5 (by assumption) | exact bk_6 (by assumption) | exact bk_7 (by assumption) | exact bk_8 (by assumption) | exact sh_ring _ (by first | assumption | omega) | exact sh_imgs _ (by first | assumption | omega)) rfl rfl rfl ?_
                      refine v_aload_0 dX9_advance_161 ?_
                      refine v_dup dX9_advance_162 rfl ?_
                      refine u_getI dX9_advance_163 gf_X9_23 (by first | assumption | rfl | exact led_1 (by assumption) | exact led_2 (by assumption) | exact bk_m (by assumption) (by first | assumption | omega) | exact bk_p (by assumption) (by first | assumption | omega) | exact bk_o (by assumption) (by first | assumption | omega) | exact bk_s (by assumption) (by first | assumption | omega) | exact bk_1 (by assumption) | exact bk_2 (by assumption) | exact bk_3 (by assumption) | exact bk_4 (by assumption) | exact bk_5 (by assumption) | exact bk_6 (by assumption) | exact bk_7 (by assumption) | exact bk_8 (by assumption) | exact sh_ring _ (by first | assumption | omega) | exact sh_imgs _ (by first | assumption | omega)) ?_
                      rw [ui_o (by decide), hP4.2.2.2.2.1]
                      refine v_iconst (v := nI 1) dX9_advance_166 (by decide) ?_
                      refine v_iadd dX9_advance_167 ?_
                      rw [nI_add]
                      refine u_putI dX9_advance_168 gf_X9_23 (by first | assumption | rfl | exact led_1 (by assumption) | exact led_2 (by assumption) | exact bk_m (by assumption) (by first | assumption | omega) | exact bk_p (by assumption) (by first | assumption | omega) | exact bk_o (by assumption) (by first | assumption | omega) | exact bk_s (by assumption) (by first | assumption | omega) | exact bk_1 (by assumption) | exact bk_2 (by assumption) | exact bk_3 (by assumption) | exact bk_4 (by assumption) | exact bk_5 (by assumption) | exact bk_6 (by assumption) | exact bk_7 (by assumption) | exact bk_8 (by assumption) | exact sh_ring _ (by first | assumption | omega) | exact sh_imgs _ (by first | assumption | omega)) rfl rfl rfl ?_
                      refine v_vret dX9_advance_171 rfl rfl rfl rfl ?_
                      have hs : isS (tp (tA tp sz e)) = false := by unfold isS; simp only [Bool.and_eq_false_iff, decide_eq_false_iff_not]; omega
                      have hd : isD (tp (tA tp sz e)) = false := by unfold isD; simp only [Bool.and_eq_false_iff, decide_eq_false_iff_not]; omega
                      have hk := tk_sign hA hb.2 hs hd
                      refine hQ _ _ ⟨by rw [hk.1]; exact ((hP.up (by decide) (by decide)).up (by decide) (by decide)).nx (by omega), he, ?_, by rw [ui_o (by decide), ui_o (by decide), ui_s], by rw [ui_o (by decide), ui_o (by decide), ui_o (by decide)]; exact q1, fun q => ?_, fun q => ?_⟩ (fun x hx => by rw [ui_ne hx, ui_ne hx, ui_ne hx]; exact q2 x hx) (fun _ _ => rfl)
                      · rw [ui_o (by decide), ui_s, hk.2]
                        first
                          | (rw [if_pos hc140]; rfl)
                          | (rw [if_neg hc140, if_pos hc150]; rfl)
                          | (rw [if_neg hc140, if_neg hc150]; rfl)
                      · exfalso; rw [hk.2] at q; (repeat' split at q) <;> cases q
                      · exfalso; rw [hk.2] at q; (repeat' split at q) <;> cases q
                  · rw [(byt_c _ hb.2).2.2.2.2.2.1] at hc140
                    refine v_iconst (v := nI 3) dX9_advance_143 (by decide) ?_
                    refine v_goto (tgt := 158) dX9_advance_144 (by decide) ?_
                    refine u_putI dX9_advance_158 gf_X9_32 (by first | assumption | rfl | exact led_1 (by assumption) | exact led_2 (by assumption) | exact bk_m (by assumption) (by first | assumption | omega) | exact bk_p (by assumption) (by first | assumption | omega) | exact bk_o (by assumption) (by first | assumption | omega) | exact bk_s (by assumption) (by first | assumption | omega) | exact bk_1 (by assumption) | exact bk_2 (by assumption) | exact bk_3 (by assumption) | exact bk_4 (by assumption) | exact bk_5 (by assumption) | exact bk_6 (by assumption) | exact bk_7 (by assumption) | exact bk_8 (by assumption) | exact sh_ring _ (by first | assumption | omega) | exact sh_imgs _ (by first | assumption | omega)) rfl rfl rfl ?_
                    refine v_aload_0 dX9_advance_161 ?_
                    refine v_dup dX9_advance_162 rfl ?_
                    refine u_getI dX9_advance_163 gf_X9_23 (by first | assumption | rfl | exact led_1 (by assumption) | exact led_2 (by assumption) | exact bk_m (by assumption) (by first | assumption | omega) | exact bk_p (by assumption) (by first | assumption | omega) | exact bk_o (by assumption) (by first | assumption | omega) | exact bk_s (by assumption) (by first | assumption | omega) | exact bk_1 (by assumption) | exact bk_2 (by assumption) | exact bk_3 (by assumption) | exact bk_4 (by assumption) | exact bk_5 (by assumption) | exact bk_6 (by assumption) | exact bk_7 (by assumption) | exact bk_8 (by assumption) | exact sh_ring _ (by first | assumption | omega) | exact sh_imgs _ (by first | assumption | omega)) ?_
                    rw [ui_o (by decide), hP4.2.2.2.2.1]
                    refine v_iconst (v := nI 1) dX9_advance_166 (by decide) ?_
                    refine v_iadd dX9_advance_167 ?_
                    rw [nI_add]
                    refine u_putI dX9_advance_168 gf_X9_23 (by first | assumption | rfl | exact led_1 (by assumption) | exact led_2 (by assumption) | exact bk_m (by assumption) (by first | assumption | omega) | exact bk_p (by assumption) (by first | assumption | omega) | exact bk_o (by assumption) (by first | assumption | omega) | exact bk_s (by assumption) (by first | assumption | omega) | exact bk_1 (by assumption) | exact bk_2 (by assumption) | exact bk_3 (by assumption) | exact bk_4 (by assumption) | exact bk_5 (by assumption) | exact bk_6 (by assumption) | exact bk_7 (by assumption) | exact bk_8 (by assumption) | exact sh_ring _ (by first | assumption | omega) | exact sh_imgs _ (by first | assumption | omega)) rfl rfl rfl ?_
                    refine v_vret dX9_advance_171 rfl rfl rfl rfl ?_
                    have hs : isS (tp (tA tp sz e)) = false := by unfold isS; simp only [Bool.and_eq_false_iff, decide_eq_false_iff_not]; omega
                    have hd : isD (tp (tA tp sz e)) = false := by unfold isD; simp only [Bool.and_eq_false_iff, decide_eq_false_iff_not]; omega
                    have hk := tk_sign hA hb.2 hs hd
                    refine hQ _ _ ⟨by rw [hk.1]; exact ((hP.up (by decide) (by decide)).up (by decide) (by decide)).nx (by omega), he, ?_, by rw [ui_o (by decide), ui_o (by decide), ui_s], by rw [ui_o (by decide), ui_o (by decide), ui_o (by decide)]; exact q1, fun q => ?_, fun q => ?_⟩ (fun x hx => by rw [ui_ne hx, ui_ne hx, ui_ne hx]; exact q2 x hx) (fun _ _ => rfl)
                    · rw [ui_o (by decide), ui_s, hk.2]
                      first
                        | (rw [if_pos hc140]; rfl)
                        | (rw [if_neg hc140, if_pos hc150]; rfl)
                        | (rw [if_neg hc140, if_neg hc150]; rfl)
                    · exfalso; rw [hk.2] at q; (repeat' split at q) <;> cases q
                    · exfalso; rw [hk.2] at q; (repeat' split at q) <;> cases q
                · rw [(byt_c _ hb.2).2.2.2.1] at hc126
                  refine v_aload_0 dX9_advance_129 ?_
                  refine u_callV_0 dX9_advance_130 ml_X9_38 mv_X9_readWhole (by first | assumption | rfl | exact led_1 (by assumption) | exact led_2 (by assumption) | exact bk_m (by assumption) (by first | assumption | omega) | exact bk_p (by assumption) (by first | assumption | omega) | exact bk_o (by assumption) (by first | assumption | omega) | exact bk_s (by assumption) (by first | assumption | omega) | exact bk_1 (by assumption) | exact bk_2 (by assumption) | exact bk_3 (by assumption) | exact bk_4 (by assumption) | exact bk_5 (by assumption) | exact bk_6 (by assumption) | exact bk_7 (by assumption) | exact bk_8 (by assumption) | exact sh_ring _ (by first | assumption | omega) | exact sh_imgs _ (by first | assumption | omega)) (by decide) rfl (by decide) (Nat.le_of_ble_eq_true rfl) (c_X9_readWhole hR (hP.up (by decide) (by decide)) (ui_s _ _ _ _) (Nat.le_refl _) (fun J2 p1 p2 p3 p4 p5 p6 => ?_))
                  refine v_goto (tgt := 171) dX9_advance_133 (by decide) ?_
                  refine v_vret dX9_advance_171 rfl rfl rfl rfl ?_
                  have hs : isS (tp (tA tp sz e)) = false := by unfold isS; simp only [Bool.and_eq_false_iff, decide_eq_false_iff_not]; omega
                  have hd : isD (tp (tA tp sz e)) = true := by unfold isD; simp only [Bool.and_eq_true, decide_eq_true_eq]; omega
                  have hk := tk_dig hA hb.2 hs hd
                  refine hQ _ _ ⟨by rw [hk.1]; exact p1, he, ?_, by rw [p3, ui_s], by rw [p4, ui_o (by decide)]; exact q1, fun q => ?_, fun q => ?_⟩ (fun x hx => by rw [p6 x hx, ui_ne hx]; exact q2 x hx) (fun _ _ => rfl)
                  · rw [p2, hk.2]; split <;> rfl
                  · unfold tW; rw [hk.1]; exact p5
                  · exfalso; rw [hk.2] at q; split at q <;> cases q
            · rw [(byt_c _ hb.2).2.1] at hc107
              refine v_aload_0 dX9_advance_110 ?_
              refine u_callV_0 dX9_advance_111 ml_X9_35 mv_X9_readWord (by first | assumption | rfl | exact led_1 (by assumption) | exact led_2 (by assumption) | exact bk_m (by assumption) (by first | assumption | omega) | exact bk_p (by assumption) (by first | assumption | omega) | exact bk_o (by assumption) (by first | assumption | omega) | exact bk_s (by assumption) (by first | assumption | omega) | exact bk_1 (by assumption) | exact bk_2 (by assumption) | exact bk_3 (by assumption) | exact bk_4 (by assumption) | exact bk_5 (by assumption) | exact bk_6 (by assumption) | exact bk_7 (by assumption) | exact bk_8 (by assumption) | exact sh_ring _ (by first | assumption | omega) | exact sh_imgs _ (by first | assumption | omega)) (by decide) rfl (by decide) (Nat.le_of_ble_eq_true rfl) (c_X9_readWord hR (hP.up (by decide) (by decide)) (ui_s _ _ _ _) (Nat.le_refl _) (fun J2 M2 p1 p2 p3 p4 p5 p6 => ?_))
              refine v_goto (tgt := 171) dX9_advance_114 (by decide) ?_
              refine v_vret dX9_advance_171 rfl rfl rfl rfl ?_
              have hs : isS (tp (tA tp sz e)) = true := by unfold isS; simp only [Bool.and_eq_true, decide_eq_true_eq]; omega
              have hk := tk_word hA hb.2 hs
              refine hQ _ _ ⟨by rw [hk.1]; exact p1, he, ?_, by rw [p3 4 (by decide), ui_s], by rw [p3 5 (by decide), ui_o (by decide)]; exact q1, fun q => ?_, fun q => ?_⟩ (fun x hx => by rw [p4 x hx, ui_ne hx]; exact q2 x hx) p6
              · rw [p2, hk.2]; split <;> rfl
              · exfalso; rw [hk.2] at q; split at q <;> cases q
              · unfold tL; rw [hk.1]; exact p5
        · exact absurd (nI_lt hA (by omega)) hc87
    · have hk := tk_end hA
      refine v_aload_0 dX9_advance_46 ?_
      refine v_aload_0 dX9_advance_47 ?_
      refine u_getI dX9_advance_48 gf_X9_23 (by first | assumption | rfl | exact led_1 (by assumption) | exact led_2 (by assumption) | exact bk_m (by assumption) (by first | assumption | omega) | exact bk_p (by assumption) (by first | assumption | omega) | exact bk_o (by assumption) (by first | assumption | omega) | exact bk_s (by assumption) (by first | assumption | omega) | exact bk_1 (by assumption) | exact bk_2 (by assumption) | exact bk_3 (by assumption) | exact bk_4 (by assumption) | exact bk_5 (by assumption) | exact bk_6 (by assumption) | exact bk_7 (by assumption) | exact bk_8 (by assumption) | exact sh_ring _ (by first | assumption | omega) | exact sh_imgs _ (by first | assumption | omega)) ?_
      rw [hP.2.2.2.2.1]
      refine u_putI dX9_advance_51 gf_X9_26 (by first | assumption | rfl | exact led_1 (by assumption) | exact led_2 (by assumption) | exact bk_m (by assumption) (by first | assumption | omega) | exact bk_p (by assumption) (by first | assumption | omega) | exact bk_o (by assumption) (by first | assumption | omega) | exact bk_s (by assumption) (by first | assumption | omega) | exact bk_1 (by assumption) | exact bk_2 (by assumption) | exact bk_3 (by assumption) | exact bk_4 (by assumption) | exact bk_5 (by assumption) | exact bk_6 (by assumption) | exact bk_7 (by assumption) | exact bk_8 (by assumption) | exact sh_ring _ (by first | assumption | omega) | exact sh_imgs _ (by first | assumption | omega)) rfl rfl rfl ?_
      refine v_aload_0 dX9_advance_54 ?_
      refine u_getI dX9_advance_55 gf_X9_23 (by first | assumption | rfl | exact led_1 (by assumption) | exact led_2 (by assumption) | exact bk_m (by assumption) (by first | assumption | omega) | exact bk_p (by assumption) (by first | assumption | omega) | exact bk_o (by assumption) (by first | assumption | omega) | exact bk_s (by assumption) (by first | assumption | omega) | exact bk_1 (by assumption) | exact bk_2 (by assumption) | exact bk_3 (by assumption) | exact bk_4 (by assumption) | exact bk_5 (by assumption) | exact bk_6 (by assumption) | exact bk_7 (by assumption) | exact bk_8 (by assumption) | exact sh_ring _ (by first | assumption | omega) | exact sh_imgs _ (by first | assumption | omega)) ?_
      rw [hP4.2.2.2.2.1]
      refine v_aload_0 dX9_advance_58 ?_
      refine u_getI dX9_advance_59 gf_X9_19 (by first | assumption | rfl | exact led_1 (by assumption) | exact led_2 (by assumption) | exact bk_m (by assumption) (by first | assumption | omega) | exact bk_p (by assumption) (by first | assumption | omega) | exact bk_o (by assumption) (by first | assumption | omega) | exact bk_s (by assumption) (by first | assumption | omega) | exact bk_1 (by assumption) | exact bk_2 (by assumption) | exact bk_3 (by assumption) | exact bk_4 (by assumption) | exact bk_5 (by assumption) | exact bk_6 (by assumption) | exact bk_7 (by assumption) | exact bk_8 (by assumption) | exact sh_ring _ (by first | assumption | omega) | exact sh_imgs _ (by first | assumption | omega)) ?_
      rw [hP4.2.1]
      refine v_icmp_ge (tgt := 77) dX9_advance_62 (by decide) (fun hc62 => ?_) (fun hc62 => ?_)
      · (try rw [nI_leI (by omega) (by omega)] at hc62)
        refine v_iconst (v := -1) dX9_advance_77 (by decide) ?_
        refine v_istore_1 rfl dX9_advance_78 ?_
        refine v_aload_0 dX9_advance_79 ?_
        refine u_getI dX9_advance_80 gf_X9_23 (by first | assumption | rfl | exact led_1 (by assumption) | exact led_2 (by assumption) | exact bk_m (by assumption) (by first | assumption | omega) | exact bk_p (by assumption) (by first | assumption | omega) | exact bk_o (by assumption) (by first | assumption | omega) | exact bk_s (by assumption) (by first | assumption | omega) | exact bk_1 (by assumption) | exact bk_2 (by assumption) | exact bk_3 (by assumption) | exact bk_4 (by assumption) | exact bk_5 (by assumption) | exact bk_6 (by assumption) | exact bk_7 (by assumption) | exact bk_8 (by assumption) | exact sh_ring _ (by first | assumption | omega) | exact sh_imgs _ (by first | assumption | omega)) ?_
        rw [hP4.2.2.2.2.1]
        refine v_aload_0 dX9_advance_83 ?_
        refine u_getI dX9_advance_84 gf_X9_19 (by first | assumption | rfl | exact led_1 (by assumption) | exact led_2 (by assumption) | exact bk_m (by assumption) (by first | assumption | omega) | exact bk_p (by assumption) (by first | assumption | omega) | exact bk_o (by assumption) (by first | assumption | omega) | exact bk_s (by assumption) (by first | assumption | omega) | exact bk_1 (by assumption) | exact bk_2 (by assumption) | exact bk_3 (by assumption) | exact bk_4 (by assumption) | exact bk_5 (by assumption) | exact bk_6 (by assumption) | exact bk_7 (by assumption) | exact bk_8 (by assumption) | exact sh_ring _ (by first | assumption | omega) | exact sh_imgs _ (by first | assumption | omega)) ?_
        rw [hP4.2.1]
        refine v_icmp_lt (tgt := 98) dX9_advance_87 (by decide) (fun hc87 => ?_) (fun hc87 => ?_)
        · exact absurd hc87 (nI_nlt (by omega) (by omega))
        · (try rw [nI_ltI (by omega) (by omega)] at hc87)
          refine v_aload_0 dX9_advance_90 ?_
          refine v_iconst (v := nI 0) dX9_advance_91 (by decide) ?_
          refine u_putI dX9_advance_92 gf_X9_32 (by first | assumption | rfl | exact led_1 (by assumption) | exact led_2 (by assumption) | exact bk_m (by assumption) (by first | assumption | omega) | exact bk_p (by assumption) (by first | assumption | omega) | exact bk_o (by assumption) (by first | assumption | omega) | exact bk_s (by assumption) (by first | assumption | omega) | exact bk_1 (by assumption) | exact bk_2 (by assumption) | exact bk_3 (by assumption) | exact bk_4 (by assumption) | exact bk_5 (by assumption) | exact bk_6 (by assumption) | exact bk_7 (by assumption) | exact bk_8 (by assumption) | exact sh_ring _ (by first | assumption | omega) | exact sh_imgs _ (by first | assumption | omega)) rfl rfl rfl ?_
          refine v_goto (tgt := 171) dX9_advance_95 (by decide) ?_
          refine v_vret dX9_advance_171 rfl rfl rfl rfl ?_
          refine hQ _ _ ⟨by rw [hk.1]; exact (hP.up (by decide) (by decide)).up (by decide) (by decide), he, by rw [ui_s, hk.2]; rfl, by rw [ui_o (by decide), ui_s], by rw [ui_o (by decide), ui_o (by decide)]; exact q1, fun q => ?_, fun q => ?_⟩ (fun x hx => by rw [ui_ne hx, ui_ne hx]; exact q2 x hx) (fun _ _ => rfl)
          · rw [hk.2] at q; cases q
          · rw [hk.2] at q; cases q
      · exact absurd (nI_le (by omega) (by omega)) hc62
  have loop : ∀ (n k : Nat) (J : HI), n = sz - k → TkP J R tp sz k → rn (spc tp sz) n k = tA tp sz e → J 89 5 = nI s0 → (∀ x, x ≠ 89 → J x = I x) → VV yX9_advance cX9_advance 2 none 1 Q b ad 8 [some (.ref (b + 89)), none] [] J L R := by
    intro n
    induction n with
    | zero =>
      intro k J hn hP he2 q1 q2
      have hk9 := hP.2.2.2.2.2
      have he3 : tA tp sz e = k := he2.symm
      refine v_aload_0 dX9_advance_8 ?_
      refine u_getI dX9_advance_9 gf_X9_23 (by first | assumption | rfl | exact led_1 (by assumption) | exact led_2 (by assumption) | exact bk_m (by assumption) (by first | assumption | omega) | exact bk_p (by assumption) (by first | assumption | omega) | exact bk_o (by assumption) (by first | assumption | omega) | exact bk_s (by assumption) (by first | assumption | omega) | exact bk_1 (by assumption) | exact bk_2 (by assumption) | exact bk_3 (by assumption) | exact bk_4 (by assumption) | exact bk_5 (by assumption) | exact bk_6 (by assumption) | exact bk_7 (by assumption) | exact bk_8 (by assumption) | exact sh_ring _ (by first | assumption | omega) | exact sh_imgs _ (by first | assumption | omega)) ?_
      rw [hP.2.2.2.2.1]
      refine v_aload_0 dX9_advance_12 ?_
      refine u_getI dX9_advance_13 gf_X9_19 (by first | assumption | rfl | exact led_1 (by assumption) | exact led_2 (by assumption) | exact bk_m (by assumption) (by first | assumption | omega) | exact bk_p (by assumption) (by first | assumption | omega) | exact bk_o (by assumption) (by first | assumption | omega) | exact bk_s (by assumption) (by first | assumption | omega) | exact bk_1 (by assumption) | exact bk_2 (by assumption) | exact bk_3 (by assumption) | exact bk_4 (by assumption) | exact bk_5 (by assumption) | exact bk_6 (by assumption) | exact bk_7 (by assumption) | exact bk_8 (by assumption) | exact sh_ring _ (by first | assumption | omega) | exact sh_imgs _ (by first | assumption | omega)) ?_
      rw [hP.2.1]
      refine v_icmp_ge (tgt := 46) dX9_advance_16 (by decide) (fun hc16 => ?_) (fun hc16 => ?_)
      · (try rw [nI_leI (by omega) (by omega)] at hc16)
        exact tail J (by rw [he3]; exact hP) q1 q2
      · exact absurd (nI_le (by omega) (by omega)) hc16
    | succ n ih =>
      intro k J hn hP he2 q1 q2
      have hk : k < sz := by omega
      have hb := hP.2.2.2.1 k hk
      have ht := hP.1
      refine v_aload_0 dX9_advance_8 ?_
      refine u_getI dX9_advance_9 gf_X9_23 (by first | assumption | rfl | exact led_1 (by assumption) | exact led_2 (by assumption) | exact bk_m (by assumption) (by first | assumption | omega) | exact bk_p (by assumption) (by first | assumption | omega) | exact bk_o (by assumption) (by first | assumption | omega) | exact bk_s (by assumption) (by first | assumption | omega) | exact bk_1 (by assumption) | exact bk_2 (by assumption) | exact bk_3 (by assumption) | exact bk_4 (by assumption) | exact bk_5 (by assumption) | exact bk_6 (by assumption) | exact bk_7 (by assumption) | exact bk_8 (by assumption) | exact sh_ring _ (by first | assumption | omega) | exact sh_imgs _ (by first | assumption | omega)) ?_
      rw [hP.2.2.2.2.1]
      refine v_aload_0 dX9_advance_12 ?_
      refine u_getI dX9_advance_13 gf_X9_19 (by first | assumption | rfl | exact led_1 (by assumption) | exact led_2 (by assumption) | exact bk_m (by assumption) (by first | assumption | omega) | exact bk_p (by assumption) (by first | assumption | omega) | exact bk_o (by assumption) (by first | assumption | omega) | exact bk_s (by assumption) (by first | assumption | omega) | exact bk_1 (by assumption) | exact bk_2 (by assumption) | exact bk_3 (by assumption) | exact bk_4 (by assumption) | exact bk_5 (by assumption) | exact bk_6 (by assumption) | exact bk_7 (by assumption) | exact bk_8 (by assumption) | exact sh_ring _ (by first | assumption | omega) | exact sh_imgs _ (by first | assumption | omega)) ?_
      rw [hP.2.1]
      refine v_icmp_ge (tgt := 46) dX9_advance_16 (by decide) (fun hc16 => ?_) (fun hc16 => ?_)
      · exact absurd hc16 (nI_ge (by omega) (by omega))
      · (try rw [nI_leI (by omega) (by omega)] at hc16)
        refine v_aload_0 dX9_advance_19 ?_
        refine u_getR dX9_advance_20 gf_X9_7 (by first | assumption | rfl | exact led_1 (by assumption) | exact led_2 (by assumption) | exact bk_m (by assumption) (by first | assumption | omega) | exact bk_p (by assumption) (by first | assumption | omega) | exact bk_o (by assumption) (by first | assumption | omega) | exact bk_s (by assumption) (by first | assumption | omega) | exact bk_1 (by assumption) | exact bk_2 (by assumption) | exact bk_3 (by assumption) | exact bk_4 (by assumption) | exact bk_5 (by assumption) | exact bk_6 (by assumption) | exact bk_7 (by assumption) | exact bk_8 (by assumption) | exact sh_ring _ (by first | assumption | omega) | exact sh_imgs _ (by first | assumption | omega)) (by assumption) ?_
        refine v_aload_0 dX9_advance_23 ?_
        refine u_getI dX9_advance_24 gf_X9_23 (by first | assumption | rfl | exact led_1 (by assumption) | exact led_2 (by assumption) | exact bk_m (by assumption) (by first | assumption | omega) | exact bk_p (by assumption) (by first | assumption | omega) | exact bk_o (by assumption) (by first | assumption | omega) | exact bk_s (by assumption) (by first | assumption | omega) | exact bk_1 (by assumption) | exact bk_2 (by assumption) | exact bk_3 (by assumption) | exact bk_4 (by assumption) | exact bk_5 (by assumption) | exact bk_6 (by assumption) | exact bk_7 (by assumption) | exact bk_8 (by assumption) | exact sh_ring _ (by first | assumption | omega) | exact sh_imgs _ (by first | assumption | omega)) ?_
        rw [hP.2.2.2.2.1]
        first | refine u_bald dX9_advance_27 (by first | assumption | rfl | exact led_1 (by assumption) | exact led_2 (by assumption) | exact bk_m (by assumption) (by first | assumption | omega) | exact bk_p (by assumption) (by first | assumption | omega) | exact bk_o (by assumption) (by first | assumption | omega) | exact bk_s (by assumption) (by first | assumption | omega) | exact bk_1 (by assumption) | exact bk_2 (by assumption) | exact bk_3 (by assumption) | exact bk_4 (by assumption) | exact bk_5 (by assumption) | exact bk_6 (by assumption) | exact bk_7 (by assumption) | exact bk_8 (by assumption) | exact sh_ring _ (by first | assumption | omega) | exact sh_imgs _ (by first | assumption | omega)) (by first | with_reducible rfl | (simp only [nlit, nI_add, pk_mul]; with_reducible rfl) | rfl) (by first | assumption | omega) (by first | assumption | decide) ?_ | refine u_zald dX9_advance_27 (by first | assumption | rfl | exact led_1 (by assumption) | exact led_2 (by assumption) | exact bk_m (by assumption) (by first | assumption | omega) | exact bk_p (by assumption) (by first | assumption | omega) | exact bk_o (by assumption) (by first | assumption | omega) | exact bk_s (by assumption) (by first | assumption | omega) | exact bk_1 (by assumption) | exact bk_2 (by assumption) | exact bk_3 (by assumption) | exact bk_4 (by assumption) | exact bk_5 (by assumption) | exact bk_6 (by assumption) | exact bk_7 (by assumption) | exact bk_8 (by assumption) | exact sh_ring _ (by first | assumption | omega) | exact sh_imgs _ (by first | assumption | omega)) (by first | with_reducible rfl | (simp only [nlit, nI_add, pk_mul]; with_reducible rfl) | rfl) (by first | assumption | omega) (by first | assumption | decide) ?_
        rw [hb.1]
        refine v_bipush (v := nI 32) dX9_advance_28 (by decide) ?_
        refine v_icmp_ne (tgt := 46) dX9_advance_30 (by decide) (fun hc30 => ?_) (fun hc30 => ?_)
        · rw [(byt_c _ hb.2).2.2.2.2.1] at hc30
          have he3 : tA tp sz e = k := by rw [← he2]; exact rn_f (by unfold spc; rw [lk_in hk]; exact decide_eq_false hc30)
          exact tail J (by rw [he3]; exact hP) q1 q2
        · rw [(byt_c _ hb.2).2.2.2.2.1] at hc30
          refine v_aload_0 dX9_advance_33 ?_
          refine v_dup dX9_advance_34 rfl ?_
          refine u_getI dX9_advance_35 gf_X9_23 (by first | assumption | rfl | exact led_1 (by assumption) | exact led_2 (by assumption) | exact bk_m (by assumption) (by first | assumption | omega) | exact bk_p (by assumption) (by first | assumption | omega) | exact bk_o (by assumption) (by first | assumption | omega) | exact bk_s (by assumption) (by first | assumption | omega) | exact bk_1 (by assumption) | exact bk_2 (by assumption) | exact bk_3 (by assumption) | exact bk_4 (by assumption) | exact bk_5 (by assumption) | exact bk_6 (by assumption) | exact bk_7 (by assumption) | exact bk_8 (by assumption) | exact sh_ring _ (by first | assumption | omega) | exact sh_imgs _ (by first | assumption | omega)) ?_
          rw [hP.2.2.2.2.1]
          refine v_iconst (v := nI 1) dX9_advance_38 (by decide) ?_
          refine v_iadd dX9_advance_39 ?_
          rw [nI_add]
          refine u_putI dX9_advance_40 gf_X9_23 (by first | assumption | rfl | exact led_1 (by assumption) | exact led_2 (by assumption) | exact bk_m (by assumption) (by first | assumption | omega) | exact bk_p (by assumption) (by first | assumption | omega) | exact bk_o (by assumption) (by first | assumption | omega) | exact bk_s (by assumption) (by first | assumption | omega) | exact bk_1 (by assumption) | exact bk_2 (by assumption) | exact bk_3 (by assumption) | exact bk_4 (by assumption) | exact bk_5 (by assumption) | exact bk_6 (by assumption) | exact bk_7 (by assumption) | exact bk_8 (by assumption) | exact sh_ring _ (by first | assumption | omega) | exact sh_imgs _ (by first | assumption | omega)) rfl rfl rfl ?_
          refine v_goto (tgt := 8) dX9_advance_43 (by decide) ?_
          refine ih (k + 1) _ (by omega) (hP.nx (by omega)) (by rw [← rn_t (p := spc tp sz) (n := n) (k := k) (by unfold spc; rw [lk_in hk]; exact decide_eq_true hc30)]; exact he2) (by rw [ui_o (by decide)]; exact q1) (fun x hx => by rw [ui_ne hx]; exact q2 x hx)
  refine K.of (M := mX9_advance) (lv := [some (.ref (b + 89)), none]) (by decide) (Nat.le_of_ble_eq_true rfl) rfl ?_
  refine v_aload_0 dX9_advance_0 ?_
  refine v_aload_0 dX9_advance_1 ?_
  refine u_getI dX9_advance_2 gf_X9_26 (by first | assumption | rfl | exact led_1 (by assumption) | exact led_2 (by assumption) | exact bk_m (by assumption) (by first | assumption | omega) | exact bk_p (by assumption) (by first | assumption | omega) | exact bk_o (by assumption) (by first | assumption | omega) | exact bk_s (by assumption) (by first | assumption | omega) | exact bk_1 (by assumption) | exact bk_2 (by assumption) | exact bk_3 (by assumption) | exact bk_4 (by assumption) | exact bk_5 (by assumption) | exact bk_6 (by assumption) | exact bk_7 (by assumption) | exact bk_8 (by assumption) | exact sh_ring _ (by first | assumption | omega) | exact sh_imgs _ (by first | assumption | omega)) ?_
  rw [hs]
  refine u_putI dX9_advance_5 gf_X9_29 (by first | assumption | rfl | exact led_1 (by assumption) | exact led_2 (by assumption) | exact bk_m (by assumption) (by first | assumption | omega) | exact bk_p (by assumption) (by first | assumption | omega) | exact bk_o (by assumption) (by first | assumption | omega) | exact bk_s (by assumption) (by first | assumption | omega) | exact bk_1 (by assumption) | exact bk_2 (by assumption) | exact bk_3 (by assumption) | exact bk_4 (by assumption) | exact bk_5 (by assumption) | exact bk_6 (by assumption) | exact bk_7 (by assumption) | exact bk_8 (by assumption) | exact sh_ring _ (by first | assumption | omega) | exact sh_imgs _ (by first | assumption | omega)) rfl rfl rfl ?_
  exact loop (sz - e) e _ rfl (hP.up (by decide) (by decide)) rfl (ui_s _ _ _ _) (fun x hx => ui_ne hx)
theorem isW_f {w : List Nat} (h : ¬ (tK tp sz e = 2 ∧ tL tp sz e = w)) : isW tp sz w e = false := by
  unfold isW
  rw [Bool.and_eq_false_iff, decide_eq_false_iff_not, decide_eq_false_iff_not]
  by_cases q : tK tp sz e = 2
  · exact Or.inr (fun r => h ⟨q, r⟩)
  · exact Or.inl q
theorem isW_t {w : List Nat} (h1 : tK tp sz e = 2) (h2 : tL tp sz e = w) : isW tp sz w e = true := by
  unfold isW; rw [decide_eq_true h1, decide_eq_true h2]; rfl
theorem c_X9_isWord {i : Nat} (hi : i < 56) (hR : RO R) (hT : TkI I L R tp sz e bf) (hQ : Q (some (.int (bI (isW tp sz (wd i) e)))) SH I L R) : KK 4 mX9_isWord b ad [.ref (b + 89), .ref (ad i)] I L R Q := by
  obtain ⟨hP, he, q3, q4, q5, q6, q7⟩ := hT
  have h8 := (wd_ok i hi).1
  have h9 := hP.2.2.1
  have ht := hP.1
  have hby : ∀ i, i < sz → tp i < 256 := fun i h => (hP.2.2.2.1 i h).2
  have hb := tE_b hby he
  have hsb := srt_b (tK tp sz e)
  have loop : tK tp sz e = 2 → tE tp sz e - tA tp sz e = (wd i).length → ∀ (n j : Nat), j + n = (wd i).length → (∀ x, x < j → tp (tA tp sz e + x) = (wd i).getD x 0) → VV yX9_isWord cX9_isWord 3 (some .boolean) 4 Q b ad 28 [some (.ref (b + 89)), some (.ref (ad i)), some (.int (nI j))] [] I L R := by
    intro hk2 hlen n
    have h2 := tk_2 hby he hk2
    induction n with
    | zero =>
      intro j hn hx
      have hw : isW tp sz (wd i) e = true := isW_t hk2 (wrd_eq.mpr ⟨hlen, fun x hx2 => hx x (by omega)⟩)
      refine v_iload_2 dX9_isWord_28 ?_
      refine v_aload_1 dX9_isWord_29 ?_
      refine v_callW_0 dX9_isWord_30 ml_X9_45 mv_J0_length_8abf5 hi rfl (by decide) (Nat.le_refl 0) (Nat.le_refl 0) (Nat.le_of_ble_eq_true rfl) (fun h => h) (c_length hi ?_)
      refine v_icmp_ge (tgt := 63) dX9_isWord_33 (by decide) (fun hc33 => ?_) (fun hc33 => ?_)
      · (try rw [nI_leI (by omega) (by omega)] at hc33)
        refine v_iconst (v := nI 1) dX9_isWord_63 (by decide) ?_
        refine v_zret dX9_isWord_64 (by first | rfl | exact bI_n _) rfl rfl rfl rfl ?_
        rw [hw] at hQ
        exact hQ
      · exact absurd (nI_le (by omega) (by omega)) hc33
    | succ n ih =>
      intro j hn hx
      have hj : j < (wd i).length := by omega
      have hc := h2.2.2.2.2.2 j (by omega)
      have hcw := wd_c hi hj
      have hbj := hP.2.2.2.1 (tA tp sz e + j) (by omega)
      refine v_iload_2 dX9_isWord_28 ?_
      refine v_aload_1 dX9_isWord_29 ?_
      refine v_callW_0 dX9_isWord_30 ml_X9_45 mv_J0_length_8abf5 hi rfl (by decide) (Nat.le_refl 0) (Nat.le_refl 0) (Nat.le_of_ble_eq_true rfl) (fun h => h) (c_length hi ?_)
      refine v_icmp_ge (tgt := 63) dX9_isWord_33 (by decide) (fun hc33 => ?_) (fun hc33 => ?_)
      · exact absurd hc33 (nI_ge (by omega) (by omega))
      · (try rw [nI_leI (by omega) (by omega)] at hc33)
        refine v_aload_0 dX9_isWord_36 ?_
        refine u_getR dX9_isWord_37 gf_X9_7 (by first | assumption | rfl | exact led_1 (by assumption) | exact led_2 (by assumption) | exact bk_m (by assumption) (by first | assumption | omega) | exact bk_p (by assumption) (by first | assumption | omega) | exact bk_o (by assumption) (by first | assumption | omega) | exact bk_s (by assumption) (by first | assumption | omega) | exact bk_1 (by assumption) | exact bk_2 (by assumption) | exact bk_3 (by assumption) | exact bk_4 (by assumption) | exact bk_5 (by assumption) | exact bk_6 (by assumption) | exact bk_7 (by assumption) | exact bk_8 (by assumption) | exact sh_ring _ (by first | assumption | omega) | exact sh_imgs _ (by first | assumption | omega)) (by assumption) ?_
        refine v_aload_0 dX9_isWord_40 ?_
        refine u_getI dX9_isWord_41 gf_X9_26 (by first | assumption | rfl | exact led_1 (by assumption) | exact led_2 (by assumption) | exact bk_m (by assumption) (by first | assumption | omega) | exact bk_p (by assumption) (by first | assumption | omega) | exact bk_o (by assumption) (by first | assumption | omega) | exact bk_s (by assumption) (by first | assumption | omega) | exact bk_1 (by assumption) | exact bk_2 (by assumption) | exact bk_3 (by assumption) | exact bk_4 (by assumption) | exact bk_5 (by assumption) | exact bk_6 (by assumption) | exact bk_7 (by assumption) | exact bk_8 (by assumption) | exact sh_ring _ (by first | assumption | omega) | exact sh_imgs _ (by first | assumption | omega)) ?_
        rw [q4]
        refine v_iload_2 dX9_isWord_44 ?_
        refine v_iadd dX9_isWord_45 ?_
        first | refine u_bald dX9_isWord_46 (by first | assumption | rfl | exact led_1 (by assumption) | exact led_2 (by assumption) | exact bk_m (by assumption) (by first | assumption | omega) | exact bk_p (by assumption) (by first | assumption | omega) | exact bk_o (by assumption) (by first | assumption | omega) | exact bk_s (by assumption) (by first | assumption | omega) | exact bk_1 (by assumption) | exact bk_2 (by assumption) | exact bk_3 (by assumption) | exact bk_4 (by assumption) | exact bk_5 (by assumption) | exact bk_6 (by assumption) | exact bk_7 (by assumption) | exact bk_8 (by assumption) | exact sh_ring _ (by first | assumption | omega) | exact sh_imgs _ (by first | assumption | omega)) (by first | with_reducible rfl | (simp only [nlit, nI_add, pk_mul]; with_reducible rfl) | rfl) (by first | assumption | omega) (by first | assumption | decide) ?_ | refine u_zald dX9_isWord_46 (by first | assumption | rfl | exact led_1 (by assumption) | exact led_2 (by assumption) | exact bk_m (by assumption) (by first | assumption | omega) | exact bk_p (by assumption) (by first | assumption | omega) | exact bk_o (by assumption) (by first | assumption | omega) | exact bk_s (by assumption) (by first | assumption | omega) | exact bk_1 (by assumption) | exact bk_2 (by assumption) | exact bk_3 (by assumption) | exact bk_4 (by assumption) | exact bk_5 (by assumption) | exact bk_6 (by assumption) | exact bk_7 (by assumption) | exact bk_8 (by assumption) | exact sh_ring _ (by first | assumption | omega) | exact sh_imgs _ (by first | assumption | omega)) (by first | with_reducible rfl | (simp only [nlit, nI_add, pk_mul]; with_reducible rfl) | rfl) (by first | assumption | omega) (by first | assumption | decide) ?_
        rw [hbj.1, byt_n _ (by omega)]
        refine v_aload_1 dX9_isWord_47 ?_
        refine v_iload_2 dX9_isWord_48 ?_
        refine v_callW_1 dX9_isWord_49 ml_X9_50 mv_J0_charAt_5068e hi rfl (by decide) (Nat.le_refl 0) (Nat.le_refl 0) (Nat.le_of_ble_eq_true rfl) (fun h => h) (c_charAt hi hj ?_)
        refine v_icmp_eq (tgt := 57) dX9_isWord_52 (by decide) (fun hc52 => ?_) (fun hc52 => ?_)
        · rw [nI_eq (by omega) (by omega)] at hc52
          refine v_iinc_2 (v := 1) rfl dX9_isWord_57 (by decide) ?_
          rw [show nI j + 1 = nI (j + 1) from nI_1 j]
          refine v_goto (tgt := 28) dX9_isWord_60 (by decide) ?_
          refine ih (j + 1) (by omega) (fun x hx2 => ?_)
          by_cases ex : x = j
          · subst ex; exact hc52
          · exact hx x (by omega)
        · rw [nI_eq (by omega) (by omega)] at hc52
          refine v_iconst (v := nI 0) dX9_isWord_55 (by decide) ?_
          refine v_zret dX9_isWord_56 (by first | rfl | exact bI_n _) rfl rfl rfl rfl ?_
          have hw : isW tp sz (wd i) e = false := isW_f (fun q => hc52 ((wrd_eq.mp q.2).2 j (by omega)))
          rw [hw] at hQ
          exact hQ
  refine K.of (M := mX9_isWord) (lv := [some (.ref (b + 89)), some (.ref (ad i)), none]) (by decide) (Nat.le_of_ble_eq_true rfl) rfl ?_
  refine v_aload_0 dX9_isWord_0 ?_
  refine u_getI dX9_isWord_1 gf_X9_32 (by first | assumption | rfl | exact led_1 (by assumption) | exact led_2 (by assumption) | exact bk_m (by assumption) (by first | assumption | omega) | exact bk_p (by assumption) (by first | assumption | omega) | exact bk_o (by assumption) (by first | assumption | omega) | exact bk_s (by assumption) (by first | assumption | omega) | exact bk_1 (by assumption) | exact bk_2 (by assumption) | exact bk_3 (by assumption) | exact bk_4 (by assumption) | exact bk_5 (by assumption) | exact bk_6 (by assumption) | exact bk_7 (by assumption) | exact bk_8 (by assumption) | exact sh_ring _ (by first | assumption | omega) | exact sh_imgs _ (by first | assumption | omega)) ?_
  rw [q3]
  refine v_iconst (v := nI 1) dX9_isWord_4 (by decide) ?_
  refine v_icmp_ne (tgt := 24) dX9_isWord_5 (by decide) (fun hc5 => ?_) (fun hc5 => ?_)
  · rw [nI_eq (by omega) (by decide), srt_1] at hc5
    refine v_iconst (v := nI 0) dX9_isWord_24 (by decide) ?_
    refine v_zret dX9_isWord_25 (by first | rfl | exact bI_n _) rfl rfl rfl rfl ?_
    have hw : isW tp sz (wd i) e = false := isW_f (fun q => by first | exact hc5 q.1 | exact hc21 (wrd_eq.mp q.2).1.symm)
    rw [hw] at hQ
    exact hQ
  · rw [nI_eq (by omega) (by decide), srt_1] at hc5
    refine v_aload_1 dX9_isWord_8 ?_
    refine v_callW_0 dX9_isWord_9 ml_X9_45 mv_J0_length_8abf5 hi rfl (by decide) (Nat.le_refl 0) (Nat.le_refl 0) (Nat.le_of_ble_eq_true rfl) (fun h => h) (c_length hi ?_)
    refine v_aload_0 dX9_isWord_12 ?_
    refine u_getI dX9_isWord_13 gf_X9_23 (by first | assumption | rfl | exact led_1 (by assumption) | exact led_2 (by assumption) | exact bk_m (by assumption) (by first | assumption | omega) | exact bk_p (by assumption) (by first | assumption | omega) | exact bk_o (by assumption) (by first | assumption | omega) | exact bk_s (by assumption) (by first | assumption | omega) | exact bk_1 (by assumption) | exact bk_2 (by assumption) | exact bk_3 (by assumption) | exact bk_4 (by assumption) | exact bk_5 (by assumption) | exact bk_6 (by assumption) | exact bk_7 (by assumption) | exact bk_8 (by assumption) | exact sh_ring _ (by first | assumption | omega) | exact sh_imgs _ (by first | assumption | omega)) ?_
    rw [hP.2.2.2.2.1]
    refine v_aload_0 dX9_isWord_16 ?_
    refine u_getI dX9_isWord_17 gf_X9_26 (by first | assumption | rfl | exact led_1 (by assumption) | exact led_2 (by assumption) | exact bk_m (by assumption) (by first | assumption | omega) | exact bk_p (by assumption) (by first | assumption | omega) | exact bk_o (by assumption) (by first | assumption | omega) | exact bk_s (by assumption) (by first | assumption | omega) | exact bk_1 (by assumption) | exact bk_2 (by assumption) | exact bk_3 (by assumption) | exact bk_4 (by assumption) | exact bk_5 (by assumption) | exact bk_6 (by assumption) | exact bk_7 (by assumption) | exact bk_8 (by assumption) | exact sh_ring _ (by first | assumption | omega) | exact sh_imgs _ (by first | assumption | omega)) ?_
    rw [q4]
    refine v_isub dX9_isWord_20 ?_
    rw [pk_sub hb.1]
    refine v_icmp_eq (tgt := 26) dX9_isWord_21 (by decide) (fun hc21 => ?_) (fun hc21 => ?_)
    · rw [nI_eq (by omega) (by omega)] at hc21
      refine v_iconst (v := nI 0) dX9_isWord_26 (by decide) ?_
      refine v_istore_2 rfl dX9_isWord_27 ?_
      exact loop hc5 hc21.symm (wd i).length 0 (by omega) (fun x hx => absurd hx (Nat.not_lt_zero x))
    · rw [nI_eq (by omega) (by omega)] at hc21
      refine v_iconst (v := nI 0) dX9_isWord_24 (by decide) ?_
      refine v_zret dX9_isWord_25 (by first | rfl | exact bI_n _) rfl rfl rfl rfl ?_
      have hw : isW tp sz (wd i) e = false := isW_f (fun q => by first | exact hc5 q.1 | exact hc21 (wrd_eq.mp q.2).1.symm)
      rw [hw] at hQ
      exact hQ
theorem c_X9_open {n : Nat} (hR : RO R) (hn : n ≤ 900) (hQ : ∀ (J : HI), J 89 1 = nI n → J 89 2 = nI 0 → J 89 4 = nI 0 → (∀ x, x ≠ 89 → J x = I x) → Q none SH J L (ur R 89 0 (some 1))) : KK 1 mX9_open b ad [.ref (b + 89), .ref (b + 1), .int (nI n)] I L R Q := by
  refine K.of (M := mX9_open) (lv := [some (.ref (b + 89)), some (.ref (b + 1)), some (.int (nI n))]) (by decide) (Nat.le_of_ble_eq_true rfl) rfl ?_
  refine v_aload_0 dX9_open_0 ?_
  refine v_aload_1 dX9_open_1 ?_
  refine u_putR dX9_open_2 gf_X9_7 (by first | assumption | rfl | exact led_1 (by assumption) | exact led_2 (by assumption) | exact bk_m (by assumption) (by first | assumption | omega) | exact bk_p (by assumption) (by first | assumption | omega) | exact bk_o (by assumption) (by first | assumption | omega) | exact bk_s (by assumption) (by first | assumption | omega) | exact bk_1 (by assumption) | exact bk_2 (by assumption) | exact bk_3 (by assumption) | exact bk_4 (by assumption) | exact bk_5 (by assumption) | exact bk_6 (by assumption) | exact bk_7 (by assumption) | exact bk_8 (by assumption) | exact sh_ring _ (by first | assumption | omega) | exact sh_imgs _ (by first | assumption | omega)) (fun _ => rfl) (fun _ => rfl) rfl ?_
  refine v_aload_0 dX9_open_5 ?_
  refine v_iload_2 dX9_open_6 ?_
  refine v_aload_1 dX9_open_7 ?_
  refine u_alen dX9_open_8 (by first | assumption | rfl | exact led_1 (by assumption) | exact led_2 (by assumption) | exact bk_m (by assumption) (by first | assumption | omega) | exact bk_p (by assumption) (by first | assumption | omega) | exact bk_o (by assumption) (by first | assumption | omega) | exact bk_s (by assumption) (by first | assumption | omega) | exact bk_1 (by assumption) | exact bk_2 (by assumption) | exact bk_3 (by assumption) | exact bk_4 (by assumption) | exact bk_5 (by assumption) | exact bk_6 (by assumption) | exact bk_7 (by assumption) | exact bk_8 (by assumption) | exact sh_ring _ (by first | assumption | omega) | exact sh_imgs _ (by first | assumption | omega)) (by decide) ?_
  refine u_mmin dX9_open_9 ml_X9_13 (by decide) (Nat.le_of_ble_eq_true rfl) ?_
  rw [if_neg (nI_nlt hn (by decide))]
  refine u_putI dX9_open_12 gf_X9_19 (by first | assumption | rfl | exact led_1 (by assumption) | exact led_2 (by assumption) | exact bk_m (by assumption) (by first | assumption | omega) | exact bk_p (by assumption) (by first | assumption | omega) | exact bk_o (by assumption) (by first | assumption | omega) | exact bk_s (by assumption) (by first | assumption | omega) | exact bk_1 (by assumption) | exact bk_2 (by assumption) | exact bk_3 (by assumption) | exact bk_4 (by assumption) | exact bk_5 (by assumption) | exact bk_6 (by assumption) | exact bk_7 (by assumption) | exact bk_8 (by assumption) | exact sh_ring _ (by first | assumption | omega) | exact sh_imgs _ (by first | assumption | omega)) rfl rfl rfl ?_
  refine v_aload_0 dX9_open_15 ?_
  refine v_iconst (v := nI 0) dX9_open_16 (by decide) ?_
  refine u_putI dX9_open_17 gf_X9_23 (by first | assumption | rfl | exact led_1 (by assumption) | exact led_2 (by assumption) | exact bk_m (by assumption) (by first | assumption | omega) | exact bk_p (by assumption) (by first | assumption | omega) | exact bk_o (by assumption) (by first | assumption | omega) | exact bk_s (by assumption) (by first | assumption | omega) | exact bk_1 (by assumption) | exact bk_2 (by assumption) | exact bk_3 (by assumption) | exact bk_4 (by assumption) | exact bk_5 (by assumption) | exact bk_6 (by assumption) | exact bk_7 (by assumption) | exact bk_8 (by assumption) | exact sh_ring _ (by first | assumption | omega) | exact sh_imgs _ (by first | assumption | omega)) rfl rfl rfl ?_
  refine v_aload_0 dX9_open_20 ?_
  refine v_iconst (v := nI 0) dX9_open_21 (by decide) ?_
  refine u_putI dX9_open_22 gf_X9_26 (by first | assumption | rfl | exact led_1 (by assumption) | exact led_2 (by assumption) | exact bk_m (by assumption) (by first | assumption | omega) | exact bk_p (by assumption) (by first | assumption | omega) | exact bk_o (by assumption) (by first | assumption | omega) | exact bk_s (by assumption) (by first | assumption | omega) | exact bk_1 (by assumption) | exact bk_2 (by assumption) | exact bk_3 (by assumption) | exact bk_4 (by assumption) | exact bk_5 (by assumption) | exact bk_6 (by assumption) | exact bk_7 (by assumption) | exact bk_8 (by assumption) | exact sh_ring _ (by first | assumption | omega) | exact sh_imgs _ (by first | assumption | omega)) rfl rfl rfl ?_
  refine v_vret dX9_open_25 rfl rfl rfl rfl ?_
  exact hQ _ (by rw [ui_o (by decide), ui_o (by decide), ui_s]) (by rw [ui_o (by decide), ui_s]) (ui_s _ _ _ _) (fun x hx => by rw [ui_ne hx, ui_ne hx, ui_ne hx])
end
