theorem dX12_thrown_0 : decode cX12_thrown 0 = .ok (.aload_n 0, 1) := by decide +kernel
theorem dX12_thrown_1 : decode cX12_thrown 1 = .ok (.getfield 54, 3) := by decide +kernel
theorem dX12_thrown_4 : decode cX12_thrown 4 = .ok (.ireturn, 1) := by decide +kernel
theorem dX12_good_0 : decode cX12_good 0 = .ok (.aload_n 0, 1) := by decide +kernel
theorem dX12_good_1 : decode cX12_good 1 = .ok (.iconst 0, 1) := by decide +kernel
theorem dX12_good_2 : decode cX12_good 2 = .ok (.putfield 54, 3) := by decide +kernel
theorem dX12_good_5 : decode cX12_good 5 = .ok (.aload_n 0, 1) := by decide +kernel
theorem dX12_good_6 : decode cX12_good 6 = .ok (.iconst 0, 1) := by decide +kernel
theorem dX12_good_7 : decode cX12_good 7 = .ok (.putfield 57, 3) := by decide +kernel
theorem dX12_good_10 : decode cX12_good 10 = .ok (.return_, 1) := by decide +kernel
theorem dX12_no_0 : decode cX12_no 0 = .ok (.aload_n 0, 1) := by decide +kernel
theorem dX12_no_1 : decode cX12_no 1 = .ok (.iload_n 1, 1) := by decide +kernel
theorem dX12_no_2 : decode cX12_no 2 = .ok (.putfield 57, 3) := by decide +kernel
theorem dX12_no_5 : decode cX12_no 5 = .ok (.iconst (-1), 1) := by decide +kernel
theorem dX12_no_6 : decode cX12_no 6 = .ok (.ireturn, 1) := by decide +kernel
theorem dX12_less_0 : decode cX12_less 0 = .ok (.aload_n 0, 1) := by decide +kernel
theorem dX12_less_1 : decode cX12_less 1 = .ok (.iload_n 1, 1) := by decide +kernel
theorem dX12_less_2 : decode cX12_less 2 = .ok (.putfield 57, 3) := by decide +kernel
theorem dX12_less_5 : decode cX12_less 5 = .ok (.iload_n 2, 1) := by decide +kernel
theorem dX12_less_6 : decode cX12_less 6 = .ok (.ireturn, 1) := by decide +kernel
theorem dX12_isNot_0 : decode cX12_isNot 0 = .ok (.aload_n 0, 1) := by decide +kernel
theorem dX12_isNot_1 : decode cX12_isNot 1 = .ok (.iload_n 1, 1) := by decide +kernel
theorem dX12_isNot_2 : decode cX12_isNot 2 = .ok (.putfield 57, 3) := by decide +kernel
theorem dX12_isNot_5 : decode cX12_isNot 5 = .ok (.iconst 0, 1) := by decide +kernel
theorem dX12_isNot_6 : decode cX12_isNot 6 = .ok (.ireturn, 1) := by decide +kernel
theorem dX12_within_0 : decode cX12_within 0 = .ok (.iload_n 0, 1) := by decide +kernel
theorem dX12_within_1 : decode cX12_within 1 = .ok (.iload_n 1, 1) := by decide +kernel
theorem dX12_within_2 : decode cX12_within 2 = .ok (.if_icmp .lt 12, 3) := by decide +kernel
theorem dX12_within_5 : decode cX12_within 5 = .ok (.iload_n 0, 1) := by decide +kernel
theorem dX12_within_6 : decode cX12_within 6 = .ok (.iload_n 2, 1) := by decide +kernel
theorem dX12_within_7 : decode cX12_within 7 = .ok (.if_icmp .gt 7, 3) := by decide +kernel
theorem dX12_within_10 : decode cX12_within 10 = .ok (.iconst 1, 1) := by decide +kernel
theorem dX12_within_11 : decode cX12_within 11 = .ok (.goto 4, 3) := by decide +kernel
theorem dX12_within_14 : decode cX12_within 14 = .ok (.iconst 0, 1) := by decide +kernel
theorem dX12_within_15 : decode cX12_within 15 = .ok (.ireturn, 1) := by decide +kernel
theorem dX12_has_0 : decode cX12_has 0 = .ok (.iload_n 0, 1) := by decide +kernel
theorem dX12_has_1 : decode cX12_has 1 = .ok (.iload_n 1, 1) := by decide +kernel
theorem dX12_has_2 : decode cX12_has 2 = .ok (.ishr, 1) := by decide +kernel
theorem dX12_has_3 : decode cX12_has 3 = .ok (.iconst 1, 1) := by decide +kernel
theorem dX12_has_4 : decode cX12_has 4 = .ok (.iand, 1) := by decide +kernel
theorem dX12_has_5 : decode cX12_has 5 = .ok (.iconst 1, 1) := by decide +kernel
theorem dX12_has_6 : decode cX12_has 6 = .ok (.if_icmp .ne 7, 3) := by decide +kernel
theorem dX12_has_9 : decode cX12_has 9 = .ok (.iconst 1, 1) := by decide +kernel
theorem dX12_has_10 : decode cX12_has 10 = .ok (.goto 4, 3) := by decide +kernel
theorem dX12_has_13 : decode cX12_has 13 = .ok (.iconst 0, 1) := by decide +kernel
theorem dX12_has_14 : decode cX12_has 14 = .ok (.ireturn, 1) := by decide +kernel
theorem dX12_bits_0 : decode cX12_bits 0 = .ok (.iconst 0, 1) := by decide +kernel
theorem dX12_bits_1 : decode cX12_bits 1 = .ok (.istore_n 1, 1) := by decide +kernel
theorem dX12_bits_2 : decode cX12_bits 2 = .ok (.iconst 0, 1) := by decide +kernel
theorem dX12_bits_3 : decode cX12_bits 3 = .ok (.istore_n 2, 1) := by decide +kernel
theorem dX12_bits_4 : decode cX12_bits 4 = .ok (.iload_n 2, 1) := by decide +kernel
theorem dX12_bits_5 : decode cX12_bits 5 = .ok (.bipush 8, 2) := by decide +kernel
theorem dX12_bits_7 : decode cX12_bits 7 = .ok (.if_icmp .ge 17, 3) := by decide +kernel
theorem dX12_bits_10 : decode cX12_bits 10 = .ok (.iload_n 1, 1) := by decide +kernel
theorem dX12_bits_11 : decode cX12_bits 11 = .ok (.iload_n 0, 1) := by decide +kernel
theorem dX12_bits_12 : decode cX12_bits 12 = .ok (.iload_n 2, 1) := by decide +kernel
theorem dX12_bits_13 : decode cX12_bits 13 = .ok (.ishr, 1) := by decide +kernel
theorem dX12_bits_14 : decode cX12_bits 14 = .ok (.iconst 1, 1) := by decide +kernel
theorem dX12_bits_15 : decode cX12_bits 15 = .ok (.iand, 1) := by decide +kernel
theorem dX12_bits_16 : decode cX12_bits 16 = .ok (.iadd, 1) := by decide +kernel
theorem dX12_bits_17 : decode cX12_bits 17 = .ok (.istore_n 1, 1) := by decide +kernel
theorem dX12_bits_18 : decode cX12_bits 18 = .ok (.iinc 2 1, 3) := by decide +kernel
theorem dX12_bits_21 : decode cX12_bits 21 = .ok (.goto (-17), 3) := by decide +kernel
theorem dX12_bits_24 : decode cX12_bits 24 = .ok (.iload_n 1, 1) := by decide +kernel
theorem dX12_bits_25 : decode cX12_bits 25 = .ok (.ireturn, 1) := by decide +kernel
theorem dX12_without_0 : decode cX12_without 0 = .ok (.iload_n 0, 1) := by decide +kernel
theorem dX12_without_1 : decode cX12_without 1 = .ok (.ifCond .ge 8, 3) := by decide +kernel
theorem dX12_without_4 : decode cX12_without 4 = .ok (.iload_n 0, 1) := by decide +kernel
theorem dX12_without_5 : decode cX12_without 5 = .ok (.ineg, 1) := by decide +kernel
theorem dX12_without_6 : decode cX12_without 6 = .ok (.goto 4, 3) := by decide +kernel
theorem dX12_without_9 : decode cX12_without 9 = .ok (.iload_n 0, 1) := by decide +kernel
theorem dX12_without_10 : decode cX12_without 10 = .ok (.ireturn, 1) := by decide +kernel
theorem dX12_copy_0 : decode cX12_copy 0 = .ok (.iconst 0, 1) := by decide +kernel
theorem dX12_copy_1 : decode cX12_copy 1 = .ok (.istore 5, 2) := by decide +kernel
theorem dX12_copy_3 : decode cX12_copy 3 = .ok (.iload 5, 2) := by decide +kernel
theorem dX12_copy_5 : decode cX12_copy 5 = .ok (.iload 4, 2) := by decide +kernel
theorem dX12_copy_7 : decode cX12_copy 7 = .ok (.if_icmp .ge 21, 3) := by decide +kernel
theorem dX12_copy_10 : decode cX12_copy 10 = .ok (.aload_n 2, 1) := by decide +kernel
theorem dX12_copy_11 : decode cX12_copy 11 = .ok (.iload_n 3, 1) := by decide +kernel
theorem dX12_copy_12 : decode cX12_copy 12 = .ok (.iload 5, 2) := by decide +kernel
theorem dX12_copy_14 : decode cX12_copy 14 = .ok (.iadd, 1) := by decide +kernel
theorem dX12_copy_15 : decode cX12_copy 15 = .ok (.aload_n 0, 1) := by decide +kernel
theorem dX12_copy_16 : decode cX12_copy 16 = .ok (.iload_n 1, 1) := by decide +kernel
theorem dX12_copy_17 : decode cX12_copy 17 = .ok (.iload 5, 2) := by decide +kernel
theorem dX12_copy_19 : decode cX12_copy 19 = .ok (.iadd, 1) := by decide +kernel
theorem dX12_copy_20 : decode cX12_copy 20 = .ok (.iaload, 1) := by decide +kernel
theorem dX12_copy_21 : decode cX12_copy 21 = .ok (.iastore, 1) := by decide +kernel
theorem dX12_copy_22 : decode cX12_copy 22 = .ok (.iinc 5 1, 3) := by decide +kernel
theorem dX12_copy_25 : decode cX12_copy 25 = .ok (.goto (-22), 3) := by decide +kernel
theorem dX12_copy_28 : decode cX12_copy 28 = .ok (.return_, 1) := by decide +kernel
theorem dX12_isMask_0 : decode cX12_isMask 0 = .ok (.aload_n 0, 1) := by decide +kernel
theorem dX12_isMask_1 : decode cX12_isMask 1 = .ok (.getfield 186, 3) := by decide +kernel
theorem dX12_isMask_4 : decode cX12_isMask 4 = .ok (.ifCond .eq 23, 3) := by decide +kernel
theorem dX12_isMask_7 : decode cX12_isMask 7 = .ok (.iload_n 1, 1) := by decide +kernel
theorem dX12_isMask_8 : decode cX12_isMask 8 = .ok (.iconst 0, 1) := by decide +kernel
theorem dX12_isMask_9 : decode cX12_isMask 9 = .ok (.aload_n 0, 1) := by decide +kernel
theorem dX12_isMask_10 : decode cX12_isMask 10 = .ok (.getfield 20, 3) := by decide +kernel
theorem dX12_isMask_13 : decode cX12_isMask 13 = .ok (.iconst 2, 1) := by decide +kernel
theorem dX12_isMask_14 : decode cX12_isMask 14 = .ok (.iaload, 1) := by decide +kernel
theorem dX12_isMask_15 : decode cX12_isMask 15 = .ok (.iconst 1, 1) := by decide +kernel
theorem dX12_isMask_16 : decode cX12_isMask 16 = .ok (.isub, 1) := by decide +kernel
theorem dX12_isMask_17 : decode cX12_isMask 17 = .ok (.invokestatic 154, 3) := by decide +kernel
theorem dX12_isMask_20 : decode cX12_isMask 20 = .ok (.ifCond .eq 7, 3) := by decide +kernel
theorem dX12_isMask_23 : decode cX12_isMask 23 = .ok (.iconst 1, 1) := by decide +kernel
theorem dX12_isMask_24 : decode cX12_isMask 24 = .ok (.goto 4, 3) := by decide +kernel
theorem dX12_isMask_27 : decode cX12_isMask 27 = .ok (.iconst 0, 1) := by decide +kernel
theorem dX12_isMask_28 : decode cX12_isMask 28 = .ok (.ireturn, 1) := by decide +kernel
theorem dX12_isPerson_0 : decode cX12_isPerson 0 = .ok (.aload_n 0, 1) := by decide +kernel
theorem dX12_isPerson_1 : decode cX12_isPerson 1 = .ok (.getfield 186, 3) := by decide +kernel
theorem dX12_isPerson_4 : decode cX12_isPerson 4 = .ok (.ifCond .eq 23, 3) := by decide +kernel
theorem dX12_isPerson_7 : decode cX12_isPerson 7 = .ok (.iload_n 1, 1) := by decide +kernel
theorem dX12_isPerson_8 : decode cX12_isPerson 8 = .ok (.iconst 0, 1) := by decide +kernel
theorem dX12_isPerson_9 : decode cX12_isPerson 9 = .ok (.aload_n 0, 1) := by decide +kernel
theorem dX12_isPerson_10 : decode cX12_isPerson 10 = .ok (.getfield 20, 3) := by decide +kernel
theorem dX12_isPerson_13 : decode cX12_isPerson 13 = .ok (.iconst 3, 1) := by decide +kernel
theorem dX12_isPerson_14 : decode cX12_isPerson 14 = .ok (.iaload, 1) := by decide +kernel
theorem dX12_isPerson_15 : decode cX12_isPerson 15 = .ok (.iconst 1, 1) := by decide +kernel
theorem dX12_isPerson_16 : decode cX12_isPerson 16 = .ok (.isub, 1) := by decide +kernel
theorem dX12_isPerson_17 : decode cX12_isPerson 17 = .ok (.invokestatic 154, 3) := by decide +kernel
theorem dX12_isPerson_20 : decode cX12_isPerson 20 = .ok (.ifCond .eq 7, 3) := by decide +kernel
theorem dX12_isPerson_23 : decode cX12_isPerson 23 = .ok (.iconst 1, 1) := by decide +kernel
theorem dX12_isPerson_24 : decode cX12_isPerson 24 = .ok (.goto 4, 3) := by decide +kernel
theorem dX12_isPerson_27 : decode cX12_isPerson 27 = .ok (.iconst 0, 1) := by decide +kernel
theorem dX12_isPerson_28 : decode cX12_isPerson 28 = .ok (.ireturn, 1) := by decide +kernel
theorem dX12_isPromise_0 : decode cX12_isPromise 0 = .ok (.aload_n 0, 1) := by decide +kernel
theorem dX12_isPromise_1 : decode cX12_isPromise 1 = .ok (.getfield 186, 3) := by decide +kernel
theorem dX12_isPromise_4 : decode cX12_isPromise 4 = .ok (.ifCond .eq 23, 3) := by decide +kernel
theorem dX12_isPromise_7 : decode cX12_isPromise 7 = .ok (.iload_n 1, 1) := by decide +kernel
theorem dX12_isPromise_8 : decode cX12_isPromise 8 = .ok (.iconst 0, 1) := by decide +kernel
theorem dX12_isPromise_9 : decode cX12_isPromise 9 = .ok (.aload_n 0, 1) := by decide +kernel
theorem dX12_isPromise_10 : decode cX12_isPromise 10 = .ok (.getfield 20, 3) := by decide +kernel
theorem dX12_isPromise_13 : decode cX12_isPromise 13 = .ok (.iconst 4, 1) := by decide +kernel
theorem dX12_isPromise_14 : decode cX12_isPromise 14 = .ok (.iaload, 1) := by decide +kernel
theorem dX12_isPromise_15 : decode cX12_isPromise 15 = .ok (.iconst 1, 1) := by decide +kernel
theorem dX12_isPromise_16 : decode cX12_isPromise 16 = .ok (.isub, 1) := by decide +kernel
theorem dX12_isPromise_17 : decode cX12_isPromise 17 = .ok (.invokestatic 154, 3) := by decide +kernel
theorem dX12_isPromise_20 : decode cX12_isPromise 20 = .ok (.ifCond .eq 7, 3) := by decide +kernel
theorem dX12_isPromise_23 : decode cX12_isPromise 23 = .ok (.iconst 1, 1) := by decide +kernel
theorem dX12_isPromise_24 : decode cX12_isPromise 24 = .ok (.goto 4, 3) := by decide +kernel
theorem dX12_isPromise_27 : decode cX12_isPromise 27 = .ok (.iconst 0, 1) := by decide +kernel
theorem dX12_isPromise_28 : decode cX12_isPromise 28 = .ok (.ireturn, 1) := by decide +kernel
theorem dX12_isDay_0 : decode cX12_isDay 0 = .ok (.iload_n 1, 1) := by decide +kernel
theorem dX12_isDay_1 : decode cX12_isDay 1 = .ok (.iconst 1, 1) := by decide +kernel
theorem dX12_isDay_2 : decode cX12_isDay 2 = .ok (.aload_n 0, 1) := by decide +kernel
theorem dX12_isDay_3 : decode cX12_isDay 3 = .ok (.getfield 20, 3) := by decide +kernel
theorem dX12_isDay_6 : decode cX12_isDay 6 = .ok (.iconst 0, 1) := by decide +kernel
theorem dX12_isDay_7 : decode cX12_isDay 7 = .ok (.iaload, 1) := by decide +kernel
theorem dX12_isDay_8 : decode cX12_isDay 8 = .ok (.invokestatic 154, 3) := by decide +kernel
theorem dX12_isDay_11 : decode cX12_isDay 11 = .ok (.ireturn, 1) := by decide +kernel
theorem dX12_doesFit_0 : decode cX12_doesFit 0 = .ok (.aload_n 0, 1) := by decide +kernel
theorem dX12_doesFit_1 : decode cX12_doesFit 1 = .ok (.bipush 8, 2) := by decide +kernel
theorem dX12_doesFit_3 : decode cX12_doesFit 3 = .ok (.iload_n 1, 1) := by decide +kernel
theorem dX12_doesFit_4 : decode cX12_doesFit 4 = .ok (.iadd, 1) := by decide +kernel
theorem dX12_doesFit_5 : decode cX12_doesFit 5 = .ok (.iaload, 1) := by decide +kernel
theorem dX12_doesFit_6 : decode cX12_doesFit 6 = .ok (.istore_n 3, 1) := by decide +kernel
theorem dX12_doesFit_7 : decode cX12_doesFit 7 = .ok (.aload_n 0, 1) := by decide +kernel
theorem dX12_doesFit_8 : decode cX12_doesFit 8 = .ok (.bipush 14, 2) := by decide +kernel
theorem dX12_doesFit_10 : decode cX12_doesFit 10 = .ok (.iload_n 1, 1) := by decide +kernel
theorem dX12_doesFit_11 : decode cX12_doesFit 11 = .ok (.iadd, 1) := by decide +kernel
theorem dX12_doesFit_12 : decode cX12_doesFit 12 = .ok (.iaload, 1) := by decide +kernel
theorem dX12_doesFit_13 : decode cX12_doesFit 13 = .ok (.aload_n 0, 1) := by decide +kernel
theorem dX12_doesFit_14 : decode cX12_doesFit 14 = .ok (.bipush 26, 2) := by decide +kernel
theorem dX12_doesFit_16 : decode cX12_doesFit 16 = .ok (.iload_n 2, 1) := by decide +kernel
theorem dX12_doesFit_17 : decode cX12_doesFit 17 = .ok (.iadd, 1) := by decide +kernel
theorem dX12_doesFit_18 : decode cX12_doesFit 18 = .ok (.iaload, 1) := by decide +kernel
theorem dX12_doesFit_19 : decode cX12_doesFit 19 = .ok (.isub, 1) := by decide +kernel
theorem dX12_doesFit_20 : decode cX12_doesFit 20 = .ok (.invokestatic 293, 3) := by decide +kernel
theorem dX12_doesFit_23 : decode cX12_doesFit 23 = .ok (.istore 4, 2) := by decide +kernel
theorem dX12_doesFit_25 : decode cX12_doesFit 25 = .ok (.iload_n 3, 1) := by decide +kernel
theorem dX12_doesFit_26 : decode cX12_doesFit 26 = .ok (.iconst 2, 1) := by decide +kernel
theorem dX12_doesFit_27 : decode cX12_doesFit 27 = .ok (.if_icmp .ne 5, 3) := by decide +kernel
theorem dX12_doesFit_30 : decode cX12_doesFit 30 = .ok (.iconst 1, 1) := by decide +kernel
theorem dX12_doesFit_31 : decode cX12_doesFit 31 = .ok (.ireturn, 1) := by decide +kernel
theorem dX12_doesFit_32 : decode cX12_doesFit 32 = .ok (.iload_n 3, 1) := by decide +kernel
theorem dX12_doesFit_33 : decode cX12_doesFit 33 = .ok (.iconst 3, 1) := by decide +kernel
theorem dX12_doesFit_34 : decode cX12_doesFit 34 = .ok (.if_icmp .ne 14, 3) := by decide +kernel
theorem dX12_doesFit_37 : decode cX12_doesFit 37 = .ok (.iload 4, 2) := by decide +kernel
theorem dX12_doesFit_39 : decode cX12_doesFit 39 = .ok (.ifCond .ne 7, 3) := by decide +kernel
theorem dX12_doesFit_42 : decode cX12_doesFit 42 = .ok (.iconst 1, 1) := by decide +kernel
theorem dX12_doesFit_43 : decode cX12_doesFit 43 = .ok (.goto 4, 3) := by decide +kernel
theorem dX12_doesFit_46 : decode cX12_doesFit 46 = .ok (.iconst 0, 1) := by decide +kernel
theorem dX12_doesFit_47 : decode cX12_doesFit 47 = .ok (.ireturn, 1) := by decide +kernel
theorem dX12_doesFit_48 : decode cX12_doesFit 48 = .ok (.iload 4, 2) := by decide +kernel
theorem dX12_doesFit_50 : decode cX12_doesFit 50 = .ok (.iconst 2, 1) := by decide +kernel
theorem dX12_doesFit_51 : decode cX12_doesFit 51 = .ok (.if_icmp .ge 38, 3) := by decide +kernel
theorem dX12_doesFit_54 : decode cX12_doesFit 54 = .ok (.iload_n 3, 1) := by decide +kernel
theorem dX12_doesFit_55 : decode cX12_doesFit 55 = .ok (.iconst 1, 1) := by decide +kernel
theorem dX12_doesFit_56 : decode cX12_doesFit 56 = .ok (.if_icmp .ne 13, 3) := by decide +kernel
theorem dX12_doesFit_59 : decode cX12_doesFit 59 = .ok (.aload_n 0, 1) := by decide +kernel
theorem dX12_doesFit_60 : decode cX12_doesFit 60 = .ok (.bipush 38, 2) := by decide +kernel
theorem dX12_doesFit_62 : decode cX12_doesFit 62 = .ok (.iload_n 2, 1) := by decide +kernel
theorem dX12_doesFit_63 : decode cX12_doesFit 63 = .ok (.iadd, 1) := by decide +kernel
theorem dX12_doesFit_64 : decode cX12_doesFit 64 = .ok (.iaload, 1) := by decide +kernel
theorem dX12_doesFit_65 : decode cX12_doesFit 65 = .ok (.iconst 1, 1) := by decide +kernel
theorem dX12_doesFit_66 : decode cX12_doesFit 66 = .ok (.if_icmp .ne 23, 3) := by decide +kernel
theorem dX12_doesFit_69 : decode cX12_doesFit 69 = .ok (.iload_n 3, 1) := by decide +kernel
theorem dX12_doesFit_70 : decode cX12_doesFit 70 = .ok (.iconst 4, 1) := by decide +kernel
theorem dX12_doesFit_71 : decode cX12_doesFit 71 = .ok (.if_icmp .ne 14, 3) := by decide +kernel
theorem dX12_doesFit_74 : decode cX12_doesFit 74 = .ok (.aload_n 0, 1) := by decide +kernel
theorem dX12_doesFit_75 : decode cX12_doesFit 75 = .ok (.bipush 32, 2) := by decide +kernel
theorem dX12_doesFit_77 : decode cX12_doesFit 77 = .ok (.iload_n 2, 1) := by decide +kernel
theorem dX12_doesFit_78 : decode cX12_doesFit 78 = .ok (.iadd, 1) := by decide +kernel
theorem dX12_doesFit_79 : decode cX12_doesFit 79 = .ok (.iaload, 1) := by decide +kernel
theorem dX12_doesFit_80 : decode cX12_doesFit 80 = .ok (.bipush 60, 2) := by decide +kernel
theorem dX12_doesFit_82 : decode cX12_doesFit 82 = .ok (.if_icmp .lt 7, 3) := by decide +kernel
theorem dX12_doesFit_85 : decode cX12_doesFit 85 = .ok (.iconst 1, 1) := by decide +kernel
theorem dX12_doesFit_86 : decode cX12_doesFit 86 = .ok (.goto 4, 3) := by decide +kernel
theorem dX12_doesFit_89 : decode cX12_doesFit 89 = .ok (.iconst 0, 1) := by decide +kernel
theorem dX12_doesFit_90 : decode cX12_doesFit 90 = .ok (.ireturn, 1) := by decide +kernel
theorem dX12_lendingOf_0 : decode cX12_lendingOf 0 = .ok (.iconst 0, 1) := by decide +kernel
theorem dX12_lendingOf_1 : decode cX12_lendingOf 1 = .ok (.istore_n 3, 1) := by decide +kernel
theorem dX12_lendingOf_2 : decode cX12_lendingOf 2 = .ok (.iload_n 3, 1) := by decide +kernel
theorem dX12_lendingOf_3 : decode cX12_lendingOf 3 = .ok (.aload_n 0, 1) := by decide +kernel
theorem dX12_lendingOf_4 : decode cX12_lendingOf 4 = .ok (.iconst 0, 1) := by decide +kernel
theorem dX12_lendingOf_5 : decode cX12_lendingOf 5 = .ok (.iaload, 1) := by decide +kernel
theorem dX12_lendingOf_6 : decode cX12_lendingOf 6 = .ok (.if_icmp .ge 47, 3) := by decide +kernel
theorem dX12_lendingOf_9 : decode cX12_lendingOf 9 = .ok (.aload_n 0, 1) := by decide +kernel
theorem dX12_lendingOf_10 : decode cX12_lendingOf 10 = .ok (.iconst 1, 1) := by decide +kernel
theorem dX12_lendingOf_11 : decode cX12_lendingOf 11 = .ok (.iconst 4, 1) := by decide +kernel
theorem dX12_lendingOf_12 : decode cX12_lendingOf 12 = .ok (.iload_n 3, 1) := by decide +kernel
theorem dX12_lendingOf_13 : decode cX12_lendingOf 13 = .ok (.imul, 1) := by decide +kernel
theorem dX12_lendingOf_14 : decode cX12_lendingOf 14 = .ok (.iadd, 1) := by decide +kernel
theorem dX12_lendingOf_15 : decode cX12_lendingOf 15 = .ok (.iaload, 1) := by decide +kernel
theorem dX12_lendingOf_16 : decode cX12_lendingOf 16 = .ok (.iload_n 1, 1) := by decide +kernel
theorem dX12_lendingOf_17 : decode cX12_lendingOf 17 = .ok (.if_icmp .ne 30, 3) := by decide +kernel
theorem dX12_lendingOf_20 : decode cX12_lendingOf 20 = .ok (.iload_n 2, 1) := by decide +kernel
theorem dX12_lendingOf_21 : decode cX12_lendingOf 21 = .ok (.aload_n 0, 1) := by decide +kernel
theorem dX12_lendingOf_22 : decode cX12_lendingOf 22 = .ok (.iconst 1, 1) := by decide +kernel
theorem dX12_lendingOf_23 : decode cX12_lendingOf 23 = .ok (.iconst 4, 1) := by decide +kernel
theorem dX12_lendingOf_24 : decode cX12_lendingOf 24 = .ok (.iload_n 3, 1) := by decide +kernel
theorem dX12_lendingOf_25 : decode cX12_lendingOf 25 = .ok (.imul, 1) := by decide +kernel
theorem dX12_lendingOf_26 : decode cX12_lendingOf 26 = .ok (.iadd, 1) := by decide +kernel
theorem dX12_lendingOf_27 : decode cX12_lendingOf 27 = .ok (.iconst 2, 1) := by decide +kernel
theorem dX12_lendingOf_28 : decode cX12_lendingOf 28 = .ok (.iadd, 1) := by decide +kernel
theorem dX12_lendingOf_29 : decode cX12_lendingOf 29 = .ok (.iaload, 1) := by decide +kernel
theorem dX12_lendingOf_30 : decode cX12_lendingOf 30 = .ok (.aload_n 0, 1) := by decide +kernel
theorem dX12_lendingOf_31 : decode cX12_lendingOf 31 = .ok (.iconst 1, 1) := by decide +kernel
theorem dX12_lendingOf_32 : decode cX12_lendingOf 32 = .ok (.iconst 4, 1) := by decide +kernel
theorem dX12_lendingOf_33 : decode cX12_lendingOf 33 = .ok (.iload_n 3, 1) := by decide +kernel
theorem dX12_lendingOf_34 : decode cX12_lendingOf 34 = .ok (.imul, 1) := by decide +kernel
theorem dX12_lendingOf_35 : decode cX12_lendingOf 35 = .ok (.iadd, 1) := by decide +kernel
theorem dX12_lendingOf_36 : decode cX12_lendingOf 36 = .ok (.iconst 3, 1) := by decide +kernel
theorem dX12_lendingOf_37 : decode cX12_lendingOf 37 = .ok (.iadd, 1) := by decide +kernel
theorem dX12_lendingOf_38 : decode cX12_lendingOf 38 = .ok (.iaload, 1) := by decide +kernel
theorem dX12_lendingOf_39 : decode cX12_lendingOf 39 = .ok (.invokestatic 154, 3) := by decide +kernel
theorem dX12_lendingOf_42 : decode cX12_lendingOf 42 = .ok (.ifCond .eq 5, 3) := by decide +kernel
theorem dX12_lendingOf_45 : decode cX12_lendingOf 45 = .ok (.iload_n 3, 1) := by decide +kernel
theorem dX12_lendingOf_46 : decode cX12_lendingOf 46 = .ok (.ireturn, 1) := by decide +kernel
theorem dX12_lendingOf_47 : decode cX12_lendingOf 47 = .ok (.iinc 3 1, 3) := by decide +kernel
theorem dX12_lendingOf_50 : decode cX12_lendingOf 50 = .ok (.goto (-48), 3) := by decide +kernel
theorem dX12_lendingOf_53 : decode cX12_lendingOf 53 = .ok (.iconst (-1), 1) := by decide +kernel
theorem dX12_lendingOf_54 : decode cX12_lendingOf 54 = .ok (.ireturn, 1) := by decide +kernel
theorem dX12_maskOf_0 : decode cX12_maskOf 0 = .ok (.iconst 0, 1) := by decide +kernel
theorem dX12_maskOf_1 : decode cX12_maskOf 1 = .ok (.istore_n 3, 1) := by decide +kernel
theorem dX12_maskOf_2 : decode cX12_maskOf 2 = .ok (.iload_n 3, 1) := by decide +kernel
theorem dX12_maskOf_3 : decode cX12_maskOf 3 = .ok (.aload_n 0, 1) := by decide +kernel
theorem dX12_maskOf_4 : decode cX12_maskOf 4 = .ok (.iconst 0, 1) := by decide +kernel
theorem dX12_maskOf_5 : decode cX12_maskOf 5 = .ok (.iaload, 1) := by decide +kernel
theorem dX12_maskOf_6 : decode cX12_maskOf 6 = .ok (.if_icmp .ge 55, 3) := by decide +kernel
theorem dX12_maskOf_9 : decode cX12_maskOf 9 = .ok (.aload_n 0, 1) := by decide +kernel
theorem dX12_maskOf_10 : decode cX12_maskOf 10 = .ok (.iconst 1, 1) := by decide +kernel
theorem dX12_maskOf_11 : decode cX12_maskOf 11 = .ok (.iconst 4, 1) := by decide +kernel
theorem dX12_maskOf_12 : decode cX12_maskOf 12 = .ok (.iload_n 3, 1) := by decide +kernel
theorem dX12_maskOf_13 : decode cX12_maskOf 13 = .ok (.imul, 1) := by decide +kernel
theorem dX12_maskOf_14 : decode cX12_maskOf 14 = .ok (.iadd, 1) := by decide +kernel
theorem dX12_maskOf_15 : decode cX12_maskOf 15 = .ok (.iconst 1, 1) := by decide +kernel
theorem dX12_maskOf_16 : decode cX12_maskOf 16 = .ok (.iadd, 1) := by decide +kernel
theorem dX12_maskOf_17 : decode cX12_maskOf 17 = .ok (.iaload, 1) := by decide +kernel
theorem dX12_maskOf_18 : decode cX12_maskOf 18 = .ok (.iload_n 1, 1) := by decide +kernel
theorem dX12_maskOf_19 : decode cX12_maskOf 19 = .ok (.if_icmp .ne 36, 3) := by decide +kernel
theorem dX12_maskOf_22 : decode cX12_maskOf 22 = .ok (.iload_n 2, 1) := by decide +kernel
theorem dX12_maskOf_23 : decode cX12_maskOf 23 = .ok (.aload_n 0, 1) := by decide +kernel
theorem dX12_maskOf_24 : decode cX12_maskOf 24 = .ok (.iconst 1, 1) := by decide +kernel
theorem dX12_maskOf_25 : decode cX12_maskOf 25 = .ok (.iconst 4, 1) := by decide +kernel
theorem dX12_maskOf_26 : decode cX12_maskOf 26 = .ok (.iload_n 3, 1) := by decide +kernel
theorem dX12_maskOf_27 : decode cX12_maskOf 27 = .ok (.imul, 1) := by decide +kernel
theorem dX12_maskOf_28 : decode cX12_maskOf 28 = .ok (.iadd, 1) := by decide +kernel
theorem dX12_maskOf_29 : decode cX12_maskOf 29 = .ok (.iconst 2, 1) := by decide +kernel
theorem dX12_maskOf_30 : decode cX12_maskOf 30 = .ok (.iadd, 1) := by decide +kernel
theorem dX12_maskOf_31 : decode cX12_maskOf 31 = .ok (.iaload, 1) := by decide +kernel
theorem dX12_maskOf_32 : decode cX12_maskOf 32 = .ok (.aload_n 0, 1) := by decide +kernel
theorem dX12_maskOf_33 : decode cX12_maskOf 33 = .ok (.iconst 1, 1) := by decide +kernel
theorem dX12_maskOf_34 : decode cX12_maskOf 34 = .ok (.iconst 4, 1) := by decide +kernel
theorem dX12_maskOf_35 : decode cX12_maskOf 35 = .ok (.iload_n 3, 1) := by decide +kernel
theorem dX12_maskOf_36 : decode cX12_maskOf 36 = .ok (.imul, 1) := by decide +kernel
theorem dX12_maskOf_37 : decode cX12_maskOf 37 = .ok (.iadd, 1) := by decide +kernel
theorem dX12_maskOf_38 : decode cX12_maskOf 38 = .ok (.iconst 3, 1) := by decide +kernel
theorem dX12_maskOf_39 : decode cX12_maskOf 39 = .ok (.iadd, 1) := by decide +kernel
theorem dX12_maskOf_40 : decode cX12_maskOf 40 = .ok (.iaload, 1) := by decide +kernel
theorem dX12_maskOf_41 : decode cX12_maskOf 41 = .ok (.invokestatic 154, 3) := by decide +kernel
theorem dX12_maskOf_44 : decode cX12_maskOf 44 = .ok (.ifCond .eq 11, 3) := by decide +kernel
theorem dX12_maskOf_47 : decode cX12_maskOf 47 = .ok (.aload_n 0, 1) := by decide +kernel
theorem dX12_maskOf_48 : decode cX12_maskOf 48 = .ok (.iconst 1, 1) := by decide +kernel
theorem dX12_maskOf_49 : decode cX12_maskOf 49 = .ok (.iconst 4, 1) := by decide +kernel
theorem dX12_maskOf_50 : decode cX12_maskOf 50 = .ok (.iload_n 3, 1) := by decide +kernel
theorem dX12_maskOf_51 : decode cX12_maskOf 51 = .ok (.imul, 1) := by decide +kernel
theorem dX12_maskOf_52 : decode cX12_maskOf 52 = .ok (.iadd, 1) := by decide +kernel
theorem dX12_maskOf_53 : decode cX12_maskOf 53 = .ok (.iaload, 1) := by decide +kernel
theorem dX12_maskOf_54 : decode cX12_maskOf 54 = .ok (.ireturn, 1) := by decide +kernel
theorem dX12_maskOf_55 : decode cX12_maskOf 55 = .ok (.iinc 3 1, 3) := by decide +kernel
theorem dX12_maskOf_58 : decode cX12_maskOf 58 = .ok (.goto (-56), 3) := by decide +kernel
theorem dX12_maskOf_61 : decode cX12_maskOf 61 = .ok (.iconst (-1), 1) := by decide +kernel
theorem dX12_maskOf_62 : decode cX12_maskOf 62 = .ok (.ireturn, 1) := by decide +kernel
theorem dX12_own_0 : decode cX12_own 0 = .ok (.aload_n 0, 1) := by decide +kernel
theorem dX12_own_1 : decode cX12_own 1 = .ok (.getfield 20, 3) := by decide +kernel
theorem dX12_own_4 : decode cX12_own 4 = .ok (.bipush 56, 2) := by decide +kernel
theorem dX12_own_6 : decode cX12_own 6 = .ok (.bipush 6, 2) := by decide +kernel
theorem dX12_own_8 : decode cX12_own 8 = .ok (.iload_n 1, 1) := by decide +kernel
theorem dX12_own_9 : decode cX12_own 9 = .ok (.imul, 1) := by decide +kernel
theorem dX12_own_10 : decode cX12_own 10 = .ok (.iadd, 1) := by decide +kernel
theorem dX12_own_11 : decode cX12_own 11 = .ok (.iload_n 2, 1) := by decide +kernel
theorem dX12_own_12 : decode cX12_own 12 = .ok (.iadd, 1) := by decide +kernel
theorem dX12_own_13 : decode cX12_own 13 = .ok (.iaload, 1) := by decide +kernel
theorem dX12_own_14 : decode cX12_own 14 = .ok (.ireturn, 1) := by decide +kernel
theorem dX12_isDayOrNone_0 : decode cX12_isDayOrNone 0 = .ok (.iload_n 1, 1) := by decide +kernel
theorem dX12_isDayOrNone_1 : decode cX12_isDayOrNone 1 = .ok (.iconst 0, 1) := by decide +kernel
theorem dX12_isDayOrNone_2 : decode cX12_isDayOrNone 2 = .ok (.aload_n 0, 1) := by decide +kernel
theorem dX12_isDayOrNone_3 : decode cX12_isDayOrNone 3 = .ok (.getfield 20, 3) := by decide +kernel
theorem dX12_isDayOrNone_6 : decode cX12_isDayOrNone 6 = .ok (.iconst 0, 1) := by decide +kernel
theorem dX12_isDayOrNone_7 : decode cX12_isDayOrNone 7 = .ok (.iaload, 1) := by decide +kernel
theorem dX12_isDayOrNone_8 : decode cX12_isDayOrNone 8 = .ok (.invokestatic 154, 3) := by decide +kernel
theorem dX12_isDayOrNone_11 : decode cX12_isDayOrNone 11 = .ok (.ireturn, 1) := by decide +kernel
theorem dX12_areDays_0 : decode cX12_areDays 0 = .ok (.aload_n 0, 1) := by decide +kernel
theorem dX12_areDays_1 : decode cX12_areDays 1 = .ok (.iload_n 1, 1) := by decide +kernel
theorem dX12_areDays_2 : decode cX12_areDays 2 = .ok (.invokevirtual 313, 3) := by decide +kernel
theorem dX12_areDays_5 : decode cX12_areDays 5 = .ok (.ifCond .eq 20, 3) := by decide +kernel
theorem dX12_areDays_8 : decode cX12_areDays 8 = .ok (.aload_n 0, 1) := by decide +kernel
theorem dX12_areDays_9 : decode cX12_areDays 9 = .ok (.iload_n 2, 1) := by decide +kernel
theorem dX12_areDays_10 : decode cX12_areDays 10 = .ok (.invokevirtual 313, 3) := by decide +kernel
theorem dX12_areDays_13 : decode cX12_areDays 13 = .ok (.ifCond .eq 12, 3) := by decide +kernel
theorem dX12_areDays_16 : decode cX12_areDays 16 = .ok (.iload_n 1, 1) := by decide +kernel
theorem dX12_areDays_17 : decode cX12_areDays 17 = .ok (.iload_n 2, 1) := by decide +kernel
theorem dX12_areDays_18 : decode cX12_areDays 18 = .ok (.if_icmp .gt 7, 3) := by decide +kernel
theorem dX12_areDays_21 : decode cX12_areDays 21 = .ok (.iconst 1, 1) := by decide +kernel
theorem dX12_areDays_22 : decode cX12_areDays 22 = .ok (.goto 4, 3) := by decide +kernel
theorem dX12_areDays_25 : decode cX12_areDays 25 = .ok (.iconst 0, 1) := by decide +kernel
theorem dX12_areDays_26 : decode cX12_areDays 26 = .ok (.ireturn, 1) := by decide +kernel
theorem dX12_seen_0 : decode cX12_seen 0 = .ok (.aload_n 0, 1) := by decide +kernel
theorem dX12_seen_1 : decode cX12_seen 1 = .ok (.getfield 20, 3) := by decide +kernel
theorem dX12_seen_4 : decode cX12_seen 4 = .ok (.sipush 128, 3) := by decide +kernel
theorem dX12_seen_7 : decode cX12_seen 7 = .ok (.iconst 5, 1) := by decide +kernel
theorem dX12_seen_8 : decode cX12_seen 8 = .ok (.iload_n 1, 1) := by decide +kernel
theorem dX12_seen_9 : decode cX12_seen 9 = .ok (.imul, 1) := by decide +kernel
theorem dX12_seen_10 : decode cX12_seen 10 = .ok (.iadd, 1) := by decide +kernel
theorem dX12_seen_11 : decode cX12_seen 11 = .ok (.iload_n 2, 1) := by decide +kernel
theorem dX12_seen_12 : decode cX12_seen 12 = .ok (.iadd, 1) := by decide +kernel
theorem dX12_seen_13 : decode cX12_seen 13 = .ok (.iaload, 1) := by decide +kernel
theorem dX12_seen_14 : decode cX12_seen 14 = .ok (.ireturn, 1) := by decide +kernel
theorem dX12_areMasks_0 : decode cX12_areMasks 0 = .ok (.aload_n 0, 1) := by decide +kernel
theorem dX12_areMasks_1 : decode cX12_areMasks 1 = .ok (.iload_n 1, 1) := by decide +kernel
theorem dX12_areMasks_2 : decode cX12_areMasks 2 = .ok (.invokevirtual 307, 3) := by decide +kernel
theorem dX12_areMasks_5 : decode cX12_areMasks 5 = .ok (.ifCond .eq 20, 3) := by decide +kernel
theorem dX12_areMasks_8 : decode cX12_areMasks 8 = .ok (.aload_n 0, 1) := by decide +kernel
theorem dX12_areMasks_9 : decode cX12_areMasks 9 = .ok (.iload_n 2, 1) := by decide +kernel
theorem dX12_areMasks_10 : decode cX12_areMasks 10 = .ok (.invokevirtual 307, 3) := by decide +kernel
theorem dX12_areMasks_13 : decode cX12_areMasks 13 = .ok (.ifCond .eq 12, 3) := by decide +kernel
theorem dX12_areMasks_16 : decode cX12_areMasks 16 = .ok (.iload_n 1, 1) := by decide +kernel
theorem dX12_areMasks_17 : decode cX12_areMasks 17 = .ok (.iload_n 2, 1) := by decide +kernel
theorem dX12_areMasks_18 : decode cX12_areMasks 18 = .ok (.if_icmp .eq 7, 3) := by decide +kernel
theorem dX12_areMasks_21 : decode cX12_areMasks 21 = .ok (.iconst 1, 1) := by decide +kernel
theorem dX12_areMasks_22 : decode cX12_areMasks 22 = .ok (.goto 4, 3) := by decide +kernel
theorem dX12_areMasks_25 : decode cX12_areMasks 25 = .ok (.iconst 0, 1) := by decide +kernel
theorem dX12_areMasks_26 : decode cX12_areMasks 26 = .ok (.ireturn, 1) := by decide +kernel
/-! the reference: its book, its rows -/
def FI (I : HI) (a : Nat) (F : bkF) : Prop := SH a = .inr (0, 345) ∧ ∀ k, k < 192 → I a k = nI (F k)
def StI (I : HI) (a o : Nat) (s : LSt) : Prop := I a o = nI s.1 ∧ (∀ i, i < s.1 → I a (o + 1 + 4 * i) = nI (s.2.1 i).1 ∧ I a (o + 2 + 4 * i) = nI (s.2.1 i).2.1 ∧ I a (o + 3 + 4 * i) = nI (s.2.1 i).2.2.1 ∧ I a (o + 4 + 4 * i) = nI (s.2.1 i).2.2.2) ∧ ∀ p, p < 6 → I a (o + 81 + p) = nI (s.2.2 p)
/-- the reference's book as its methods read it -/
def RrI (I : HI) (F : bkF) : Prop := FI I 160 F ∧ I 157 14 = bI (decide (0 < F 0)) ∧ FOK F ∧ (F 0 = 0 → F 1 = 0 ∧ F 2 = 0 ∧ F 3 = 0 ∧ F 4 = 0 ∧ F 5 = 0 ∧ F 6 = 0)
section
variable {I J : HI} {F : bkF} {s : LSt} {a o : Nat}
theorem StI.m (h : StI I a o s) {i k : Nat} (hi : i < s.1) (hk : k = o + 1 + 4 * i) : I a k = nI (s.2.1 i).1 := by subst hk; exact (h.2.1 i hi).1
theorem StI.p (h : StI I a o s) {i k : Nat} (hi : i < s.1) (hk : k = o + 2 + 4 * i) : I a k = nI (s.2.1 i).2.1 := by subst hk; exact (h.2.1 i hi).2.1
theorem StI.f (h : StI I a o s) {i k : Nat} (hi : i < s.1) (hk : k = o + 3 + 4 * i) : I a k = nI (s.2.1 i).2.2.1 := by subst hk; exact (h.2.1 i hi).2.2.1
theorem StI.u (h : StI I a o s) {i k : Nat} (hi : i < s.1) (hk : k = o + 4 + 4 * i) : I a k = nI (s.2.1 i).2.2.2 := by subst hk; exact (h.2.1 i hi).2.2.2
theorem StI.b (h : StI I a o s) {p k : Nat} (hp : p < 6) (hk : k = o + 81 + p) : I a k = nI (s.2.2 p) := by subst hk; exact h.2.2 p hp
theorem StI.fr (h : StI I a o s) (e : J a = I a) : StI J a o s := by unfold StI; rw [e]; exact h
theorem FI.fr (h : FI I a F) (e : J a = I a) : FI J a F := ⟨h.1, fun k hk => by rw [e]; exact h.2 k hk⟩
theorem RrI.fr (h : RrI I F) (e : J 160 = I 160) (e2 : J 157 14 = I 157 14) : RrI J F := ⟨h.1.fr e, by rw [e2]; exact h.2.1, h.2.2⟩
end
theorem inbw {x : Int32} {n : Nat} (hn : n < 2 ^ 30) : inb x n = (decide (nI 0 ≤ x) && decide (x ≤ nI n - nI 1)) := by
  have e0 : nI 0 = (0 : Int32) := rfl
  rw [e0]
  unfold inb
  by_cases h0 : (0 : Int32) ≤ x
  · rw [decide_eq_true h0, Bool.true_and, Bool.true_and]
    apply decide_eq_decide.mpr
    rw [Int32.lt_iff_toInt_lt, Int32.le_iff_toInt_le, nI_toInt (show n < 2 ^ 31 by omega), pk_sub_toInt hn (by decide)]
    omega
  · rw [decide_eq_false h0, Bool.false_and, Bool.false_and]
theorem inb0 {x : Int32} {n : Nat} (h : n = 0) : inb x n = false := by
  subst h
  unfold inb
  by_cases h0 : (0 : Int32) ≤ x
  · rw [decide_eq_true h0, Bool.true_and]
    exact decide_eq_false (Int32.not_lt.mpr h0)
  · rw [decide_eq_false h0]; rfl
section
variable {b : Nat} {ad : Nat → Nat} {I J : HI} {L M : HL} {R : HR} {Q : QT} {F : bkF} {s : LSt} {a o : Nat}
theorem c_X12_thrown (hQ : Q (some (.int (I 157 0))) SH I L R) : KK 0 mX12_thrown b ad [.ref (b + 157)] I L R Q := by
  refine K.of (M := mX12_thrown) (lv := [some (.ref (b + 157))]) (by decide) (Nat.le_of_ble_eq_true rfl) rfl ?_
  refine v_aload_0 dX12_thrown_0 ?_
  refine u_getI dX12_thrown_1 gf_X12_54 (by first | assumption | rfl | exact led_1 (by assumption) | exact led_2 (by assumption) | exact bk_m (by assumption) (by first | assumption | omega) | exact bk_p (by assumption) (by first | assumption | omega) | exact bk_o (by assumption) (by first | assumption | omega) | exact bk_s (by assumption) (by first | assumption | omega) | exact bk_1 (by assumption) | exact bk_2 (by assumption) | exact bk_3 (by assumption) | exact bk_4 (by assumption) | exact bk_5 (by assumption) | exact bk_6 (by assumption) | exact bk_7 (by assumption) | exact bk_8 (by assumption) | exact sh_ring _ (by first | assumption | omega) | exact sh_imgs _ (by first | assumption | omega)) ?_
  refine v_iret dX12_thrown_4 rfl rfl rfl rfl ?_
  exact hQ
theorem c_X12_good (hQ : Q none SH (ui (ui I 157 0 (nI 0)) 157 11 (nI 0)) L R) : KK 0 mX12_good b ad [.ref (b + 157)] I L R Q := by
  refine K.of (M := mX12_good) (lv := [some (.ref (b + 157))]) (by decide) (Nat.le_of_ble_eq_true rfl) rfl ?_
  refine v_aload_0 dX12_good_0 ?_
  refine v_iconst (v := nI 0) dX12_good_1 (by decide) ?_
  refine u_putI dX12_good_2 gf_X12_54 (by first | assumption | rfl | exact led_1 (by assumption) | exact led_2 (by assumption) | exact bk_m (by assumption) (by first | assumption | omega) | exact bk_p (by assumption) (by first | assumption | omega) | exact bk_o (by assumption) (by first | assumption | omega) | exact bk_s (by assumption) (by first | assumption | omega) | exact bk_1 (by assumption) | exact bk_2 (by assumption) | exact bk_3 (by assumption) | exact bk_4 (by assumption) | exact bk_5 (by assumption) | exact bk_6 (by assumption) | exact bk_7 (by assumption) | exact bk_8 (by assumption) | exact sh_ring _ (by first | assumption | omega) | exact sh_imgs _ (by first | assumption | omega)) rfl rfl rfl ?_
  refine v_aload_0 dX12_good_5 ?_
  refine v_iconst (v := nI 0) dX12_good_6 (by decide) ?_
  refine u_putI dX12_good_7 gf_X12_57 (by first | assumption | rfl | exact led_1 (by assumption) | exact led_2 (by assumption) | exact bk_m (by assumption) (by first | assumption | omega) | exact bk_p (by assumption) (by first | assumption | omega) | exact bk_o (by assumption) (by first | assumption | omega) | exact bk_s (by assumption) (by first | assumption | omega) | exact bk_1 (by assumption) | exact bk_2 (by assumption) | exact bk_3 (by assumption) | exact bk_4 (by assumption) | exact bk_5 (by assumption) | exact bk_6 (by assumption) | exact bk_7 (by assumption) | exact bk_8 (by assumption) | exact sh_ring _ (by first | assumption | omega) | exact sh_imgs _ (by first | assumption | omega)) rfl rfl rfl ?_
  refine v_vret dX12_good_10 rfl rfl rfl rfl ?_
  exact hQ
theorem c_X12_no {k : Nat} (hQ : Q (some (.int (-1))) SH (ui I 157 11 (nI k)) L R) : KK 0 mX12_no b ad [.ref (b + 157), .int (nI k)] I L R Q := by
  refine K.of (M := mX12_no) (lv := [some (.ref (b + 157)), some (.int (nI k))]) (by decide) (Nat.le_of_ble_eq_true rfl) rfl ?_
  refine v_aload_0 dX12_no_0 ?_
  refine v_iload_1 dX12_no_1 ?_
  refine u_putI dX12_no_2 gf_X12_57 (by first | assumption | rfl | exact led_1 (by assumption) | exact led_2 (by assumption) | exact bk_m (by assumption) (by first | assumption | omega) | exact bk_p (by assumption) (by first | assumption | omega) | exact bk_o (by assumption) (by first | assumption | omega) | exact bk_s (by assumption) (by first | assumption | omega) | exact bk_1 (by assumption) | exact bk_2 (by assumption) | exact bk_3 (by assumption) | exact bk_4 (by assumption) | exact bk_5 (by assumption) | exact bk_6 (by assumption) | exact bk_7 (by assumption) | exact bk_8 (by assumption) | exact sh_ring _ (by first | assumption | omega) | exact sh_imgs _ (by first | assumption | omega)) rfl rfl rfl ?_
  refine v_iconst (v := -1) dX12_no_5 (by decide) ?_
  refine v_iret dX12_no_6 rfl rfl rfl rfl ?_
  exact hQ
theorem c_X12_less {k : Nat} {z : Int32} (hQ : Q (some (.int z)) SH (ui I 157 11 (nI k)) L R) : KK 0 mX12_less b ad [.ref (b + 157), .int (nI k), .int z] I L R Q := by
  refine K.of (M := mX12_less) (lv := [some (.ref (b + 157)), some (.int (nI k)), some (.int z)]) (by decide) (Nat.le_of_ble_eq_true rfl) rfl ?_
  refine v_aload_0 dX12_less_0 ?_
  refine v_iload_1 dX12_less_1 ?_
  refine u_putI dX12_less_2 gf_X12_57 (by first | assumption | rfl | exact led_1 (by assumption) | exact led_2 (by assumption) | exact bk_m (by assumption) (by first | assumption | omega) | exact bk_p (by assumption) (by first | assumption | omega) | exact bk_o (by assumption) (by first | assumption | omega) | exact bk_s (by assumption) (by first | assumption | omega) | exact bk_1 (by assumption) | exact bk_2 (by assumption) | exact bk_3 (by assumption) | exact bk_4 (by assumption) | exact bk_5 (by assumption) | exact bk_6 (by assumption) | exact bk_7 (by assumption) | exact bk_8 (by assumption) | exact sh_ring _ (by first | assumption | omega) | exact sh_imgs _ (by first | assumption | omega)) rfl rfl rfl ?_
  refine v_iload_2 dX12_less_5 ?_
  refine v_iret dX12_less_6 rfl rfl rfl rfl ?_
  exact hQ
theorem c_X12_isNot {k : Nat} (hQ : Q (some (.int 0)) SH (ui I 157 11 (nI k)) L R) : KK 0 mX12_isNot b ad [.ref (b + 157), .int (nI k)] I L R Q := by
  refine K.of (M := mX12_isNot) (lv := [some (.ref (b + 157)), some (.int (nI k))]) (by decide) (Nat.le_of_ble_eq_true rfl) rfl ?_
  refine v_aload_0 dX12_isNot_0 ?_
  refine v_iload_1 dX12_isNot_1 ?_
  refine u_putI dX12_isNot_2 gf_X12_57 (by first | assumption | rfl | exact led_1 (by assumption) | exact led_2 (by assumption) | exact bk_m (by assumption) (by first | assumption | omega) | exact bk_p (by assumption) (by first | assumption | omega) | exact bk_o (by assumption) (by first | assumption | omega) | exact bk_s (by assumption) (by first | assumption | omega) | exact bk_1 (by assumption) | exact bk_2 (by assumption) | exact bk_3 (by assumption) | exact bk_4 (by assumption) | exact bk_5 (by assumption) | exact bk_6 (by assumption) | exact bk_7 (by assumption) | exact bk_8 (by assumption) | exact sh_ring _ (by first | assumption | omega) | exact sh_imgs _ (by first | assumption | omega)) rfl rfl rfl ?_
  refine v_iconst (v := nI 0) dX12_isNot_5 (by decide) ?_
  refine v_zret dX12_isNot_6 (by first | rfl | exact bI_n _) rfl rfl rfl rfl ?_
  exact hQ
theorem c_X12_within {x lo hi : Int32} (hQ : Q (some (.int (bI (decide (lo ≤ x) && decide (x ≤ hi))))) SH I L R) : KK 0 mX12_within b ad [.int x, .int lo, .int hi] I L R Q := by
  refine K.of (M := mX12_within) (lv := [some (.int x), some (.int lo), some (.int hi)]) (by decide) (Nat.le_of_ble_eq_true rfl) rfl ?_
  refine v_iload_0 dX12_within_0 ?_
  refine v_iload_1 dX12_within_1 ?_
  refine v_icmp_lt (tgt := 14) dX12_within_2 (by decide) (fun hc2 => ?_) (fun hc2 => ?_)
  · skip
    refine v_iconst (v := nI 0) dX12_within_14 (by decide) ?_
    refine v_zret dX12_within_15 (by first | rfl | exact bI_n _) rfl rfl rfl rfl ?_
    first
      | (have e : (decide (lo ≤ x) && decide (x ≤ hi)) = true := (by rw [dle_t hc2, dle_t hc7]; rfl); rw [e] at hQ; exact hQ)
      | (have e : (decide (lo ≤ x) && decide (x ≤ hi)) = false := (by rw [dle_f hc7, Bool.and_false]); rw [e] at hQ; exact hQ)
      | (have e : (decide (lo ≤ x) && decide (x ≤ hi)) = false := (by rw [dle_f hc2]; rfl); rw [e] at hQ; exact hQ)
  · skip
    refine v_iload_0 dX12_within_5 ?_
    refine v_iload_2 dX12_within_6 ?_
    refine v_icmp_gt (tgt := 14) dX12_within_7 (by decide) (fun hc7 => ?_) (fun hc7 => ?_)
    · skip
      refine v_iconst (v := nI 0) dX12_within_14 (by decide) ?_
      refine v_zret dX12_within_15 (by first | rfl | exact bI_n _) rfl rfl rfl rfl ?_
      first
        | (have e : (decide (lo ≤ x) && decide (x ≤ hi)) = true := (by rw [dle_t hc2, dle_t hc7]; rfl); rw [e] at hQ; exact hQ)
        | (have e : (decide (lo ≤ x) && decide (x ≤ hi)) = false := (by rw [dle_f hc7, Bool.and_false]); rw [e] at hQ; exact hQ)
        | (have e : (decide (lo ≤ x) && decide (x ≤ hi)) = false := (by rw [dle_f hc2]; rfl); rw [e] at hQ; exact hQ)
    · skip
      refine v_iconst (v := nI 1) dX12_within_10 (by decide) ?_
      refine v_goto (tgt := 15) dX12_within_11 (by decide) ?_
      refine v_zret dX12_within_15 (by first | rfl | exact bI_n _) rfl rfl rfl rfl ?_
      first
        | (have e : (decide (lo ≤ x) && decide (x ≤ hi)) = true := (by rw [dle_t hc2, dle_t hc7]; rfl); rw [e] at hQ; exact hQ)
        | (have e : (decide (lo ≤ x) && decide (x ≤ hi)) = false := (by rw [dle_f hc7, Bool.and_false]); rw [e] at hQ; exact hQ)
        | (have e : (decide (lo ≤ x) && decide (x ≤ hi)) = false := (by rw [dle_f hc2]; rfl); rw [e] at hQ; exact hQ)
theorem c_X12_has {w k : Nat} (hw : w < 2 ^ 31) (hk : k < 32) (hQ : Q (some (.int (bI (w.testBit k)))) SH I L R) : KK 0 mX12_has b ad [.int (nI w), .int (nI k)] I L R Q := by
  refine K.of (M := mX12_has) (lv := [some (.int (nI w)), some (.int (nI k))]) (by decide) (Nat.le_of_ble_eq_true rfl) rfl ?_
  refine v_iload_0 dX12_has_0 ?_
  refine v_iload_1 dX12_has_1 ?_
  refine v_ishr dX12_has_2 ?_
  refine v_iconst (v := nI 1) dX12_has_3 (by decide) ?_
  refine v_iand dX12_has_4 ?_
  rw [bit_b hw hk]
  refine v_iconst (v := nI 1) dX12_has_5 (by decide) ?_
  refine v_icmp_ne (tgt := 13) dX12_has_6 (by decide) (fun hc6 => ?_) (fun hc6 => ?_)
  · skip
    refine v_iconst (v := nI 0) dX12_has_13 (by decide) ?_
    refine v_zret dX12_has_14 (by first | rfl | exact bI_n _) rfl rfl rfl rfl ?_
    first
      | (have e : w.testBit k = true := (by rw [show nI 1 = bI true from rfl, bI_inj] at hc6; exact hc6); rw [e] at hQ; exact hQ)
      | (have e : w.testBit k = false := (by rw [show nI 1 = bI true from rfl, bI_inj] at hc6; simpa using hc6); rw [e] at hQ; exact hQ)
  · skip
    refine v_iconst (v := nI 1) dX12_has_9 (by decide) ?_
    refine v_goto (tgt := 14) dX12_has_10 (by decide) ?_
    refine v_zret dX12_has_14 (by first | rfl | exact bI_n _) rfl rfl rfl rfl ?_
    first
      | (have e : w.testBit k = true := (by rw [show nI 1 = bI true from rfl, bI_inj] at hc6; exact hc6); rw [e] at hQ; exact hQ)
      | (have e : w.testBit k = false := (by rw [show nI 1 = bI true from rfl, bI_inj] at hc6; simpa using hc6); rw [e] at hQ; exact hQ)
theorem bI_nI (p : Bool) : bI p = nI (if p then 1 else 0) := by cases p <;> rfl
theorem c_X12_bits {w : Nat} (hw : w < 2 ^ 31) (hQ : Q (some (.int (nI (bitc w)))) SH I L R) : KK 0 mX12_bits b ad [.int (nI w)] I L R Q := by
  have loop : ∀ (n j c : Nat), j + n = 8 → c + cup (fun i => w.testBit i) j n = bitc w → VV yX12_bits cX12_bits 3 (some .int) 0 Q b ad 4 [some (.int (nI w)), some (.int (nI c)), some (.int (nI j))] [] I L R := by
    intro n
    induction n with
    | zero =>
      intro j c hj hc
      refine v_iload_2 dX12_bits_4 ?_
      refine v_bipush (v := nI 8) dX12_bits_5 (by decide) ?_
      refine v_icmp_ge (tgt := 24) dX12_bits_7 (by decide) (fun hc7 => ?_) (fun hc7 => ?_)
      · (try rw [nI_leI (by omega) (by omega)] at hc7)
        refine v_iload_1 dX12_bits_24 ?_
        refine v_iret dX12_bits_25 rfl rfl rfl rfl ?_
        rw [show c = bitc w from hc]
        exact hQ
      · exact absurd (nI_le (by omega) (by omega)) hc7
    | succ n ih =>
      intro j c hj hc
      refine v_iload_2 dX12_bits_4 ?_
      refine v_bipush (v := nI 8) dX12_bits_5 (by decide) ?_
      refine v_icmp_ge (tgt := 24) dX12_bits_7 (by decide) (fun hc7 => ?_) (fun hc7 => ?_)
      · exact absurd hc7 (nI_ge (by omega) (by omega))
      · (try rw [nI_leI (by omega) (by omega)] at hc7)
        refine v_iload_1 dX12_bits_10 ?_
        refine v_iload_0 dX12_bits_11 ?_
        refine v_iload_2 dX12_bits_12 ?_
        refine v_ishr dX12_bits_13 ?_
        refine v_iconst (v := nI 1) dX12_bits_14 (by decide) ?_
        refine v_iand dX12_bits_15 ?_
        rw [bit_b hw (by omega), bI_nI]
        refine v_iadd dX12_bits_16 ?_
        rw [nI_add]
        refine v_istore_1 rfl dX12_bits_17 ?_
        refine v_iinc_2 (v := 1) rfl dX12_bits_18 (by decide) ?_
        rw [show nI j + 1 = nI (j + 1) from nI_1 j]
        refine v_goto (tgt := 4) dX12_bits_21 (by decide) ?_
        refine ih (j + 1) _ (by omega) ?_
        rw [← hc]
        show c + (if w.testBit j then 1 else 0) + cup (fun i => w.testBit i) (j + 1) n = c + ((if w.testBit j then 1 else 0) + cup (fun i => w.testBit i) (j + 1) n)
        omega
  refine K.of (M := mX12_bits) (lv := [some (.int (nI w)), none, none]) (by decide) (Nat.le_of_ble_eq_true rfl) rfl ?_
  refine v_iconst (v := nI 0) dX12_bits_0 (by decide) ?_
  refine v_istore_1 rfl dX12_bits_1 ?_
  refine v_iconst (v := nI 0) dX12_bits_2 (by decide) ?_
  refine v_istore_2 rfl dX12_bits_3 ?_
  exact loop 8 0 0 rfl (by rw [Nat.zero_add]; rfl)
theorem c_X12_without {x y : Nat} (hx : x < 2 ^ 30) (hy : y < 2 ^ 30) (hQ : Q (some (.int (nI (adf x y)))) SH I L R) : KK 0 mX12_without b ad [.int (nI x - nI y)] I L R Q := by
  obtain ⟨q1, q2, q3⟩ := adf_abs hx hy
  refine K.of (M := mX12_without) (lv := [some (.int (nI x - nI y))]) (by decide) (Nat.le_of_ble_eq_true rfl) rfl ?_
  refine v_iload_0 dX12_without_0 ?_
  refine v_if_ge (tgt := 9) dX12_without_1 (by decide) (fun hc1 => ?_) (fun hc1 => ?_)
  · skip
    refine v_iload_0 dX12_without_9 ?_
    refine v_iret dX12_without_10 rfl rfl rfl rfl ?_
    first
      | (have e : x < y := q1.mp (Int32.not_le.mp hc1); rw [q2 e]; exact hQ)
      | (have e : ¬ x < y := fun z => Int32.not_lt.mpr hc1 (q1.mpr z); rw [q3 e]; exact hQ)
  · skip
    refine v_iload_0 dX12_without_4 ?_
    refine v_ineg dX12_without_5 ?_
    refine v_goto (tgt := 10) dX12_without_6 (by decide) ?_
    refine v_iret dX12_without_10 rfl rfl rfl rfl ?_
    first
      | (have e : x < y := q1.mp (Int32.not_le.mp hc1); rw [q2 e]; exact hQ)
      | (have e : ¬ x < y := fun z => Int32.not_lt.mpr hc1 (q1.mpr z); rw [q3 e]; exact hQ)
theorem c_X12_copy {c n0 n1 i0 j0 m : Nat} (ha : SH a = .inr (0, n0)) (hc : SH c = .inr (0, n1)) (hac : a ≠ c) (h0 : i0 + m ≤ n0) (h1 : j0 + m ≤ n1) (hn0 : n0 < 2 ^ 31) (hn1 : n1 < 2 ^ 31) (hQ : ∀ J : HI, (∀ k, J c k = if j0 ≤ k ∧ k < j0 + m then I a (i0 + (k - j0)) else I c k) → (∀ x, x ≠ c → J x = I x) → Q none SH J L R) : KK 0 mX12_copy b ad [.ref (b + a), .int (nI i0), .ref (b + c), .int (nI j0), .int (nI m)] I L R Q := by
  have loop : ∀ (n k : Nat) (J : HI), k + n = m → (∀ z, J c z = if j0 ≤ z ∧ z < j0 + k then I a (i0 + (z - j0)) else I c z) → (∀ x, x ≠ c → J x = I x) → VV yX12_copy cX12_copy 6 none 0 Q b ad 3 [some (.ref (b + a)), some (.int (nI i0)), some (.ref (b + c)), some (.int (nI j0)), some (.int (nI m)), some (.int (nI k))] [] J L R := by
    intro n
    induction n with
    | zero =>
      intro k J hk q1 q2
      have e : k = m := hk
      subst e
      refine v_iload_5 dX12_copy_3 ?_
      refine v_iload_4 dX12_copy_5 ?_
      refine v_icmp_ge (tgt := 28) dX12_copy_7 (by decide) (fun hc7 => ?_) (fun hc7 => ?_)
      · (try rw [nI_leI (by omega) (by omega)] at hc7)
        refine v_vret dX12_copy_28 rfl rfl rfl rfl ?_
        exact hQ J q1 q2
      · exact absurd (nI_le (by omega) (by omega)) hc7
    | succ n ih =>
      intro k J hk q1 q2
      refine v_iload_5 dX12_copy_3 ?_
      refine v_iload_4 dX12_copy_5 ?_
      refine v_icmp_ge (tgt := 28) dX12_copy_7 (by decide) (fun hc7 => ?_) (fun hc7 => ?_)
      · exact absurd hc7 (nI_ge (by omega) (by omega))
      · (try rw [nI_leI (by omega) (by omega)] at hc7)
        refine v_aload_2 dX12_copy_10 ?_
        refine v_iload_3 dX12_copy_11 ?_
        refine v_iload_5 dX12_copy_12 ?_
        refine v_iadd dX12_copy_14 ?_
        refine v_aload_0 dX12_copy_15 ?_
        refine v_iload_1 dX12_copy_16 ?_
        refine v_iload_5 dX12_copy_17 ?_
        refine v_iadd dX12_copy_19 ?_
        refine u_iald dX12_copy_20 (by first | assumption | rfl | exact led_1 (by assumption) | exact led_2 (by assumption) | exact bk_m (by assumption) (by first | assumption | omega) | exact bk_p (by assumption) (by first | assumption | omega) | exact bk_o (by assumption) (by first | assumption | omega) | exact bk_s (by assumption) (by first | assumption | omega) | exact bk_1 (by assumption) | exact bk_2 (by assumption) | exact bk_3 (by assumption) | exact bk_4 (by assumption) | exact bk_5 (by assumption) | exact bk_6 (by assumption) | exact bk_7 (by assumption) | exact bk_8 (by assumption) | exact sh_ring _ (by first | assumption | omega) | exact sh_imgs _ (by first | assumption | omega)) (by first | with_reducible rfl | (simp only [nlit, nI_add, pk_mul]; with_reducible rfl) | rfl) (by first | assumption | omega) (by first | assumption | decide) ?_
        refine u_iast dX12_copy_21 (by first | assumption | rfl | exact led_1 (by assumption) | exact led_2 (by assumption) | exact bk_m (by assumption) (by first | assumption | omega) | exact bk_p (by assumption) (by first | assumption | omega) | exact bk_o (by assumption) (by first | assumption | omega) | exact bk_s (by assumption) (by first | assumption | omega) | exact bk_1 (by assumption) | exact bk_2 (by assumption) | exact bk_3 (by assumption) | exact bk_4 (by assumption) | exact bk_5 (by assumption) | exact bk_6 (by assumption) | exact bk_7 (by assumption) | exact bk_8 (by assumption) | exact sh_ring _ (by first | assumption | omega) | exact sh_imgs _ (by first | assumption | omega)) (by first | with_reducible rfl | (simp only [nlit, nI_add, pk_mul]; with_reducible rfl) | rfl) (by first | assumption | omega) (by first | assumption | decide) ?_
        refine v_iinc_5 (v := 1) rfl dX12_copy_22 (by decide) ?_
        rw [show nI k + 1 = nI (k + 1) from nI_1 k]
        refine v_goto (tgt := 3) dX12_copy_25 (by decide) ?_
        refine ih (k + 1) _ (by omega) (fun z => ?_) (fun x hx => by rw [ui_ne hx]; exact q2 x hx)
        by_cases hz : z = j0 + k
        · subst hz; rw [ui_s, if_pos ⟨by omega, by omega⟩, q2 a hac]; congr 1; omega
        · rw [ui_o hz, q1 z]
          by_cases hy : j0 ≤ z ∧ z < j0 + k
          · rw [if_pos hy, if_pos ⟨by omega, by omega⟩]
          · rw [if_neg hy, if_neg (by omega)]
  refine K.of (M := mX12_copy) (lv := [some (.ref (b + a)), some (.int (nI i0)), some (.ref (b + c)), some (.int (nI j0)), some (.int (nI m)), none]) (by decide) (Nat.le_of_ble_eq_true rfl) rfl ?_
  refine v_iconst (v := nI 0) dX12_copy_0 (by decide) ?_
  refine v_istore_5 rfl dX12_copy_1 ?_
  exact loop m 0 I (by omega) (fun z => by rw [if_neg (by omega)]) (fun _ _ => rfl)
theorem c_X12_isMask {x : Int32} (hR : RO R) (hr : RrI I F) (hQ : Q (some (.int (bI (inb x (F 2))))) SH I L R) : KK 1 mX12_isMask b ad [.ref (b + 157), .int x] I L R Q := by
  have hF := hr.1.2
  have hO := hr.2.2.1
  have hz := hr.2.2.2
  have o2 := hO.2.2.1
  have o3 := hO.2.2.2.1
  have o4 := hO.2.2.2.2.1
  refine K.of (M := mX12_isMask) (lv := [some (.ref (b + 157)), some (.int x)]) (by decide) (Nat.le_of_ble_eq_true rfl) rfl ?_
  refine v_aload_0 dX12_isMask_0 ?_
  refine u_getI dX12_isMask_1 gf_X12_186 (by first | assumption | rfl | exact led_1 (by assumption) | exact led_2 (by assumption) | exact bk_m (by assumption) (by first | assumption | omega) | exact bk_p (by assumption) (by first | assumption | omega) | exact bk_o (by assumption) (by first | assumption | omega) | exact bk_s (by assumption) (by first | assumption | omega) | exact bk_1 (by assumption) | exact bk_2 (by assumption) | exact bk_3 (by assumption) | exact bk_4 (by assumption) | exact bk_5 (by assumption) | exact bk_6 (by assumption) | exact bk_7 (by assumption) | exact bk_8 (by assumption) | exact sh_ring _ (by first | assumption | omega) | exact sh_imgs _ (by first | assumption | omega)) ?_
  rw [hr.2.1]
  refine v_if_eq (tgt := 27) dX12_isMask_4 (by decide) (fun hc4 => ?_) (fun hc4 => ?_)
  · (first | rw [bI_0, Bool.not_eq_false] at hc4 | rw [bI_0] at hc4 | rw [show (0 : Int32) = nI 0 from rfl, nI_eq (by omega) (by omega)] at hc4 | skip)
    refine v_iconst (v := nI 0) dX12_isMask_27 (by decide) ?_
    refine v_zret dX12_isMask_28 (by first | rfl | exact bI_n _) rfl rfl rfl rfl ?_
    first
      | (have e : inb x (F 2) = true := (by rw [inbw (by omega)]; exact hc20); rw [e] at hQ; exact hQ)
      | (have e : inb x (F 2) = false := (by rw [inbw (by omega)]; exact hc20); rw [e] at hQ; exact hQ)
      | (have e : inb x (F 2) = false := (inb0 (hz (by have := of_decide_eq_false hc4; omega)).2.1); rw [e] at hQ; exact hQ)
  · (first | rw [bI_0, Bool.not_eq_false] at hc4 | rw [bI_0] at hc4 | rw [show (0 : Int32) = nI 0 from rfl, nI_eq (by omega) (by omega)] at hc4 | skip)
    refine v_iload_1 dX12_isMask_7 ?_
    refine v_iconst (v := nI 0) dX12_isMask_8 (by decide) ?_
    refine v_aload_0 dX12_isMask_9 ?_
    refine u_getR dX12_isMask_10 gf_X12_20 (by first | assumption | rfl | exact led_1 (by assumption) | exact led_2 (by assumption) | exact bk_m (by assumption) (by first | assumption | omega) | exact bk_p (by assumption) (by first | assumption | omega) | exact bk_o (by assumption) (by first | assumption | omega) | exact bk_s (by assumption) (by first | assumption | omega) | exact bk_1 (by assumption) | exact bk_2 (by assumption) | exact bk_3 (by assumption) | exact bk_4 (by assumption) | exact bk_5 (by assumption) | exact bk_6 (by assumption) | exact bk_7 (by assumption) | exact bk_8 (by assumption) | exact sh_ring _ (by first | assumption | omega) | exact sh_imgs _ (by first | assumption | omega)) (ro_X12_15 (by assumption)) ?_
    refine v_iconst (v := nI 2) dX12_isMask_13 (by decide) ?_
    refine u_iald dX12_isMask_14 (by first | assumption | rfl | exact led_1 (by assumption) | exact led_2 (by assumption) | exact bk_m (by assumption) (by first | assumption | omega) | exact bk_p (by assumption) (by first | assumption | omega) | exact bk_o (by assumption) (by first | assumption | omega) | exact bk_s (by assumption) (by first | assumption | omega) | exact bk_1 (by assumption) | exact bk_2 (by assumption) | exact bk_3 (by assumption) | exact bk_4 (by assumption) | exact bk_5 (by assumption) | exact bk_6 (by assumption) | exact bk_7 (by assumption) | exact bk_8 (by assumption) | exact sh_ring _ (by first | assumption | omega) | exact sh_imgs _ (by first | assumption | omega)) (by first | with_reducible rfl | (simp only [nlit, nI_add, pk_mul]; with_reducible rfl) | rfl) (by first | assumption | omega) (by first | assumption | decide) ?_
    rw [hF 2 (by decide)]
    refine v_iconst (v := nI 1) dX12_isMask_15 (by decide) ?_
    refine v_isub dX12_isMask_16 ?_
    refine u_callS_3 dX12_isMask_17 ml_X12_154 ms_X12_within (by decide) (Nat.le_of_ble_eq_true rfl) (c_X12_within ?_)
    refine v_if_eq (tgt := 27) dX12_isMask_20 (by decide) (fun hc20 => ?_) (fun hc20 => ?_)
    · (first | rw [bI_0, Bool.not_eq_false] at hc20 | rw [bI_0] at hc20 | rw [show (0 : Int32) = nI 0 from rfl, nI_eq (by omega) (by omega)] at hc20 | skip)
      refine v_iconst (v := nI 0) dX12_isMask_27 (by decide) ?_
      refine v_zret dX12_isMask_28 (by first | rfl | exact bI_n _) rfl rfl rfl rfl ?_
      first
        | (have e : inb x (F 2) = true := (by rw [inbw (by omega)]; exact hc20); rw [e] at hQ; exact hQ)
        | (have e : inb x (F 2) = false := (by rw [inbw (by omega)]; exact hc20); rw [e] at hQ; exact hQ)
        | (have e : inb x (F 2) = false := (inb0 (hz (by have := of_decide_eq_false hc4; omega)).2.1); rw [e] at hQ; exact hQ)
    · (first | rw [bI_0, Bool.not_eq_false] at hc20 | rw [bI_0] at hc20 | rw [show (0 : Int32) = nI 0 from rfl, nI_eq (by omega) (by omega)] at hc20 | skip)
      refine v_iconst (v := nI 1) dX12_isMask_23 (by decide) ?_
      refine v_goto (tgt := 28) dX12_isMask_24 (by decide) ?_
      refine v_zret dX12_isMask_28 (by first | rfl | exact bI_n _) rfl rfl rfl rfl ?_
      first
        | (have e : inb x (F 2) = true := (by rw [inbw (by omega)]; exact hc20); rw [e] at hQ; exact hQ)
        | (have e : inb x (F 2) = false := (by rw [inbw (by omega)]; exact hc20); rw [e] at hQ; exact hQ)
        | (have e : inb x (F 2) = false := (inb0 (hz (by have := of_decide_eq_false hc4; omega)).2.1); rw [e] at hQ; exact hQ)
theorem c_X12_isPerson {x : Int32} (hR : RO R) (hr : RrI I F) (hQ : Q (some (.int (bI (inb x (F 3))))) SH I L R) : KK 1 mX12_isPerson b ad [.ref (b + 157), .int x] I L R Q := by
  have hF := hr.1.2
  have hO := hr.2.2.1
  have hz := hr.2.2.2
  have o2 := hO.2.2.1
  have o3 := hO.2.2.2.1
  have o4 := hO.2.2.2.2.1
  refine K.of (M := mX12_isPerson) (lv := [some (.ref (b + 157)), some (.int x)]) (by decide) (Nat.le_of_ble_eq_true rfl) rfl ?_
  refine v_aload_0 dX12_isPerson_0 ?_
  refine u_getI dX12_isPerson_1 gf_X12_186 (by first | assumption | rfl | exact led_1 (by assumption) | exact led_2 (by assumption) | exact bk_m (by assumption) (by first | assumption | omega) | exact bk_p (by assumption) (by first | assumption | omega) | exact bk_o (by assumption) (by first | assumption | omega) | exact bk_s (by assumption) (by first | assumption | omega) | exact bk_1 (by assumption) | exact bk_2 (by assumption) | exact bk_3 (by assumption) | exact bk_4 (by assumption) | exact bk_5 (by assumption) | exact bk_6 (by assumption) | exact bk_7 (by assumption) | exact bk_8 (by assumption) | exact sh_ring _ (by first | assumption | omega) | exact sh_imgs _ (by first | assumption | omega)) ?_
  rw [hr.2.1]
  refine v_if_eq (tgt := 27) dX12_isPerson_4 (by decide) (fun hc4 => ?_) (fun hc4 => ?_)
  · (first | rw [bI_0, Bool.not_eq_false] at hc4 | rw [bI_0] at hc4 | rw [show (0 : Int32) = nI 0 from rfl, nI_eq (by omega) (by omega)] at hc4 | skip)
    refine v_iconst (v := nI 0) dX12_isPerson_27 (by decide) ?_
    refine v_zret dX12_isPerson_28 (by first | rfl | exact bI_n _) rfl rfl rfl rfl ?_
    first
      | (have e : inb x (F 3) = true := (by rw [inbw (by omega)]; exact hc20); rw [e] at hQ; exact hQ)
      | (have e : inb x (F 3) = false := (by rw [inbw (by omega)]; exact hc20); rw [e] at hQ; exact hQ)
      | (have e : inb x (F 3) = false := (inb0 (hz (by have := of_decide_eq_false hc4; omega)).2.2.1); rw [e] at hQ; exact hQ)
  · (first | rw [bI_0, Bool.not_eq_false] at hc4 | rw [bI_0] at hc4 | rw [show (0 : Int32) = nI 0 from rfl, nI_eq (by omega) (by omega)] at hc4 | skip)
    refine v_iload_1 dX12_isPerson_7 ?_
    refine v_iconst (v := nI 0) dX12_isPerson_8 (by decide) ?_
    refine v_aload_0 dX12_isPerson_9 ?_
    refine u_getR dX12_isPerson_10 gf_X12_20 (by first | assumption | rfl | exact led_1 (by assumption) | exact led_2 (by assumption) | exact bk_m (by assumption) (by first | assumption | omega) | exact bk_p (by assumption) (by first | assumption | omega) | exact bk_o (by assumption) (by first | assumption | omega) | exact bk_s (by assumption) (by first | assumption | omega) | exact bk_1 (by assumption) | exact bk_2 (by assumption) | exact bk_3 (by assumption) | exact bk_4 (by assumption) | exact bk_5 (by assumption) | exact bk_6 (by assumption) | exact bk_7 (by assumption) | exact bk_8 (by assumption) | exact sh_ring _ (by first | assumption | omega) | exact sh_imgs _ (by first | assumption | omega)) (ro_X12_15 (by assumption)) ?_
    refine v_iconst (v := nI 3) dX12_isPerson_13 (by decide) ?_
    refine u_iald dX12_isPerson_14 (by first | assumption | rfl | exact led_1 (by assumption) | exact led_2 (by assumption) | exact bk_m (by assumption) (by first | assumption | omega) | exact bk_p (by assumption) (by first | assumption | omega) | exact bk_o (by assumption) (by first | assumption | omega) | exact bk_s (by assumption) (by first | assumption | omega) | exact bk_1 (by assumption) | exact bk_2 (by assumption) | exact bk_3 (by assumption) | exact bk_4 (by assumption) | exact bk_5 (by assumption) | exact bk_6 (by assumption) | exact bk_7 (by assumption) | exact bk_8 (by assumption) | exact sh_ring _ (by first | assumption | omega) | exact sh_imgs _ (by first | assumption | omega)) (by first | with_reducible rfl | (simp only [nlit, nI_add, pk_mul]; with_reducible rfl) | rfl) (by first | assumption | omega) (by first | assumption | decide) ?_
    rw [hF 3 (by decide)]
    refine v_iconst (v := nI 1) dX12_isPerson_15 (by decide) ?_
    refine v_isub dX12_isPerson_16 ?_
    refine u_callS_3 dX12_isPerson_17 ml_X12_154 ms_X12_within (by decide) (Nat.le_of_ble_eq_true rfl) (c_X12_within ?_)
    refine v_if_eq (tgt := 27) dX12_isPerson_20 (by decide) (fun hc20 => ?_) (fun hc20 => ?_)
    · (first | rw [bI_0, Bool.not_eq_false] at hc20 | rw [bI_0] at hc20 | rw [show (0 : Int32) = nI 0 from rfl, nI_eq (by omega) (by omega)] at hc20 | skip)
      refine v_iconst (v := nI 0) dX12_isPerson_27 (by decide) ?_
      refine v_zret dX12_isPerson_28 (by first | rfl | exact bI_n _) rfl rfl rfl rfl ?_
      first
        | (have e : inb x (F 3) = true := (by rw [inbw (by omega)]; exact hc20); rw [e] at hQ; exact hQ)
        | (have e : inb x (F 3) = false := (by rw [inbw (by omega)]; exact hc20); rw [e] at hQ; exact hQ)
        | (have e : inb x (F 3) = false := (inb0 (hz (by have := of_decide_eq_false hc4; omega)).2.2.1); rw [e] at hQ; exact hQ)
    · (first | rw [bI_0, Bool.not_eq_false] at hc20 | rw [bI_0] at hc20 | rw [show (0 : Int32) = nI 0 from rfl, nI_eq (by omega) (by omega)] at hc20 | skip)
      refine v_iconst (v := nI 1) dX12_isPerson_23 (by decide) ?_
      refine v_goto (tgt := 28) dX12_isPerson_24 (by decide) ?_
      refine v_zret dX12_isPerson_28 (by first | rfl | exact bI_n _) rfl rfl rfl rfl ?_
      first
        | (have e : inb x (F 3) = true := (by rw [inbw (by omega)]; exact hc20); rw [e] at hQ; exact hQ)
        | (have e : inb x (F 3) = false := (by rw [inbw (by omega)]; exact hc20); rw [e] at hQ; exact hQ)
        | (have e : inb x (F 3) = false := (inb0 (hz (by have := of_decide_eq_false hc4; omega)).2.2.1); rw [e] at hQ; exact hQ)
theorem c_X12_isPromise {x : Int32} (hR : RO R) (hr : RrI I F) (hQ : Q (some (.int (bI (inb x (F 4))))) SH I L R) : KK 1 mX12_isPromise b ad [.ref (b + 157), .int x] I L R Q := by
  have hF := hr.1.2
  have hO := hr.2.2.1
  have hz := hr.2.2.2
  have o2 := hO.2.2.1
  have o3 := hO.2.2.2.1
  have o4 := hO.2.2.2.2.1
  refine K.of (M := mX12_isPromise) (lv := [some (.ref (b + 157)), some (.int x)]) (by decide) (Nat.le_of_ble_eq_true rfl) rfl ?_
  refine v_aload_0 dX12_isPromise_0 ?_
  refine u_getI dX12_isPromise_1 gf_X12_186 (by first | assumption | rfl | exact led_1 (by assumption) | exact led_2 (by assumption) | exact bk_m (by assumption) (by first | assumption | omega) | exact bk_p (by assumption) (by first | assumption | omega) | exact bk_o (by assumption) (by first | assumption | omega) | exact bk_s (by assumption) (by first | assumption | omega) | exact bk_1 (by assumption) | exact bk_2 (by assumption) | exact bk_3 (by assumption) | exact bk_4 (by assumption) | exact bk_5 (by assumption) | exact bk_6 (by assumption) | exact bk_7 (by assumption) | exact bk_8 (by assumption) | exact sh_ring _ (by first | assumption | omega) | exact sh_imgs _ (by first | assumption | omega)) ?_
  rw [hr.2.1]
  refine v_if_eq (tgt := 27) dX12_isPromise_4 (by decide) (fun hc4 => ?_) (fun hc4 => ?_)
  · (first | rw [bI_0, Bool.not_eq_false] at hc4 | rw [bI_0] at hc4 | rw [show (0 : Int32) = nI 0 from rfl, nI_eq (by omega) (by omega)] at hc4 | skip)
    refine v_iconst (v := nI 0) dX12_isPromise_27 (by decide) ?_
    refine v_zret dX12_isPromise_28 (by first | rfl | exact bI_n _) rfl rfl rfl rfl ?_
    first
      | (have e : inb x (F 4) = true := (by rw [inbw (by omega)]; exact hc20); rw [e] at hQ; exact hQ)
      | (have e : inb x (F 4) = false := (by rw [inbw (by omega)]; exact hc20); rw [e] at hQ; exact hQ)
      | (have e : inb x (F 4) = false := (inb0 (hz (by have := of_decide_eq_false hc4; omega)).2.2.2.1); rw [e] at hQ; exact hQ)
  · (first | rw [bI_0, Bool.not_eq_false] at hc4 | rw [bI_0] at hc4 | rw [show (0 : Int32) = nI 0 from rfl, nI_eq (by omega) (by omega)] at hc4 | skip)
    refine v_iload_1 dX12_isPromise_7 ?_
    refine v_iconst (v := nI 0) dX12_isPromise_8 (by decide) ?_
    refine v_aload_0 dX12_isPromise_9 ?_
    refine u_getR dX12_isPromise_10 gf_X12_20 (by first | assumption | rfl | exact led_1 (by assumption) | exact led_2 (by assumption) | exact bk_m (by assumption) (by first | assumption | omega) | exact bk_p (by assumption) (by first | assumption | omega) | exact bk_o (by assumption) (by first | assumption | omega) | exact bk_s (by assumption) (by first | assumption | omega) | exact bk_1 (by assumption) | exact bk_2 (by assumption) | exact bk_3 (by assumption) | exact bk_4 (by assumption) | exact bk_5 (by assumption) | exact bk_6 (by assumption) | exact bk_7 (by assumption) | exact bk_8 (by assumption) | exact sh_ring _ (by first | assumption | omega) | exact sh_imgs _ (by first | assumption | omega)) (ro_X12_15 (by assumption)) ?_
    refine v_iconst (v := nI 4) dX12_isPromise_13 (by decide) ?_
    refine u_iald dX12_isPromise_14 (by first | assumption | rfl | exact led_1 (by assumption) | exact led_2 (by assumption) | exact bk_m (by assumption) (by first | assumption | omega) | exact bk_p (by assumption) (by first | assumption | omega) | exact bk_o (by assumption) (by first | assumption | omega) | exact bk_s (by assumption) (by first | assumption | omega) | exact bk_1 (by assumption) | exact bk_2 (by assumption) | exact bk_3 (by assumption) | exact bk_4 (by assumption) | exact bk_5 (by assumption) | exact bk_6 (by assumption) | exact bk_7 (by assumption) | exact bk_8 (by assumption) | exact sh_ring _ (by first | assumption | omega) | exact sh_imgs _ (by first | assumption | omega)) (by first | with_reducible rfl | (simp only [nlit, nI_add, pk_mul]; with_reducible rfl) | rfl) (by first | assumption | omega) (by first | assumption | decide) ?_
    rw [hF 4 (by decide)]
    refine v_iconst (v := nI 1) dX12_isPromise_15 (by decide) ?_
    refine v_isub dX12_isPromise_16 ?_
    refine u_callS_3 dX12_isPromise_17 ml_X12_154 ms_X12_within (by decide) (Nat.le_of_ble_eq_true rfl) (c_X12_within ?_)
    refine v_if_eq (tgt := 27) dX12_isPromise_20 (by decide) (fun hc20 => ?_) (fun hc20 => ?_)
    · (first | rw [bI_0, Bool.not_eq_false] at hc20 | rw [bI_0] at hc20 | rw [show (0 : Int32) = nI 0 from rfl, nI_eq (by omega) (by omega)] at hc20 | skip)
      refine v_iconst (v := nI 0) dX12_isPromise_27 (by decide) ?_
      refine v_zret dX12_isPromise_28 (by first | rfl | exact bI_n _) rfl rfl rfl rfl ?_
      first
        | (have e : inb x (F 4) = true := (by rw [inbw (by omega)]; exact hc20); rw [e] at hQ; exact hQ)
        | (have e : inb x (F 4) = false := (by rw [inbw (by omega)]; exact hc20); rw [e] at hQ; exact hQ)
        | (have e : inb x (F 4) = false := (inb0 (hz (by have := of_decide_eq_false hc4; omega)).2.2.2.1); rw [e] at hQ; exact hQ)
    · (first | rw [bI_0, Bool.not_eq_false] at hc20 | rw [bI_0] at hc20 | rw [show (0 : Int32) = nI 0 from rfl, nI_eq (by omega) (by omega)] at hc20 | skip)
      refine v_iconst (v := nI 1) dX12_isPromise_23 (by decide) ?_
      refine v_goto (tgt := 28) dX12_isPromise_24 (by decide) ?_
      refine v_zret dX12_isPromise_28 (by first | rfl | exact bI_n _) rfl rfl rfl rfl ?_
      first
        | (have e : inb x (F 4) = true := (by rw [inbw (by omega)]; exact hc20); rw [e] at hQ; exact hQ)
        | (have e : inb x (F 4) = false := (by rw [inbw (by omega)]; exact hc20); rw [e] at hQ; exact hQ)
        | (have e : inb x (F 4) = false := (inb0 (hz (by have := of_decide_eq_false hc4; omega)).2.2.2.1); rw [e] at hQ; exact hQ)
theorem c_X12_isDay {x : Int32} (hR : RO R) (hr : RrI I F) (hQ : Q (some (.int (bI (ind x (F 0))))) SH I L R) : KK 1 mX12_isDay b ad [.ref (b + 157), .int x] I L R Q := by
  have hF := hr.1.2
  refine K.of (M := mX12_isDay) (lv := [some (.ref (b + 157)), some (.int x)]) (by decide) (Nat.le_of_ble_eq_true rfl) rfl ?_
  refine v_iload_1 dX12_isDay_0 ?_
  refine v_iconst (v := nI 1) dX12_isDay_1 (by decide) ?_
  refine v_aload_0 dX12_isDay_2 ?_
  refine u_getR dX12_isDay_3 gf_X12_20 (by first | assumption | rfl | exact led_1 (by assumption) | exact led_2 (by assumption) | exact bk_m (by assumption) (by first | assumption | omega) | exact bk_p (by assumption) (by first | assumption | omega) | exact bk_o (by assumption) (by first | assumption | omega) | exact bk_s (by assumption) (by first | assumption | omega) | exact bk_1 (by assumption) | exact bk_2 (by assumption) | exact bk_3 (by assumption) | exact bk_4 (by assumption) | exact bk_5 (by assumption) | exact bk_6 (by assumption) | exact bk_7 (by assumption) | exact bk_8 (by assumption) | exact sh_ring _ (by first | assumption | omega) | exact sh_imgs _ (by first | assumption | omega)) (ro_X12_15 (by assumption)) ?_
  refine v_iconst (v := nI 0) dX12_isDay_6 (by decide) ?_
  refine u_iald dX12_isDay_7 (by first | assumption | rfl | exact led_1 (by assumption) | exact led_2 (by assumption) | exact bk_m (by assumption) (by first | assumption | omega) | exact bk_p (by assumption) (by first | assumption | omega) | exact bk_o (by assumption) (by first | assumption | omega) | exact bk_s (by assumption) (by first | assumption | omega) | exact bk_1 (by assumption) | exact bk_2 (by assumption) | exact bk_3 (by assumption) | exact bk_4 (by assumption) | exact bk_5 (by assumption) | exact bk_6 (by assumption) | exact bk_7 (by assumption) | exact bk_8 (by assumption) | exact sh_ring _ (by first | assumption | omega) | exact sh_imgs _ (by first | assumption | omega)) (by first | with_reducible rfl | (simp only [nlit, nI_add, pk_mul]; with_reducible rfl) | rfl) (by first | assumption | omega) (by first | assumption | decide) ?_
  rw [hF 0 (by decide)]
  refine u_callS_3 dX12_isDay_8 ml_X12_154 ms_X12_within (by decide) (Nat.le_of_ble_eq_true rfl) (c_X12_within ?_)
  refine v_zret dX12_isDay_11 (by first | rfl | exact bI_n _) rfl rfl rfl rfl ?_
  exact hQ
theorem c_X12_isDayOrNone {x : Int32} (hR : RO R) (hr : RrI I F) (hQ : Q (some (.int (bI (indn x (F 0))))) SH I L R) : KK 1 mX12_isDayOrNone b ad [.ref (b + 157), .int x] I L R Q := by
  have hF := hr.1.2
  refine K.of (M := mX12_isDayOrNone) (lv := [some (.ref (b + 157)), some (.int x)]) (by decide) (Nat.le_of_ble_eq_true rfl) rfl ?_
  refine v_iload_1 dX12_isDayOrNone_0 ?_
  refine v_iconst (v := nI 0) dX12_isDayOrNone_1 (by decide) ?_
  refine v_aload_0 dX12_isDayOrNone_2 ?_
  refine u_getR dX12_isDayOrNone_3 gf_X12_20 (by first | assumption | rfl | exact led_1 (by assumption) | exact led_2 (by assumption) | exact bk_m (by assumption) (by first | assumption | omega) | exact bk_p (by assumption) (by first | assumption | omega) | exact bk_o (by assumption) (by first | assumption | omega) | exact bk_s (by assumption) (by first | assumption | omega) | exact bk_1 (by assumption) | exact bk_2 (by assumption) | exact bk_3 (by assumption) | exact bk_4 (by assumption) | exact bk_5 (by assumption) | exact bk_6 (by assumption) | exact bk_7 (by assumption) | exact bk_8 (by assumption) | exact sh_ring _ (by first | assumption | omega) | exact sh_imgs _ (by first | assumption | omega)) (ro_X12_15 (by assumption)) ?_
  refine v_iconst (v := nI 0) dX12_isDayOrNone_6 (by decide) ?_
  refine u_iald dX12_isDayOrNone_7 (by first | assumption | rfl | exact led_1 (by assumption) | exact led_2 (by assumption) | exact bk_m (by assumption) (by first | assumption | omega) | exact bk_p (by assumption) (by first | assumption | omega) | exact bk_o (by assumption) (by first | assumption | omega) | exact bk_s (by assumption) (by first | assumption | omega) | exact bk_1 (by assumption) | exact bk_2 (by assumption) | exact bk_3 (by assumption) | exact bk_4 (by assumption) | exact bk_5 (by assumption) | exact bk_6 (by assumption) | exact bk_7 (by assumption) | exact bk_8 (by assumption) | exact sh_ring _ (by first | assumption | omega) | exact sh_imgs _ (by first | assumption | omega)) (by first | with_reducible rfl | (simp only [nlit, nI_add, pk_mul]; with_reducible rfl) | rfl) (by first | assumption | omega) (by first | assumption | decide) ?_
  rw [hF 0 (by decide)]
  refine u_callS_3 dX12_isDayOrNone_8 ml_X12_154 ms_X12_within (by decide) (Nat.le_of_ble_eq_true rfl) (c_X12_within ?_)
  refine v_zret dX12_isDayOrNone_11 (by first | rfl | exact bI_n _) rfl rfl rfl rfl ?_
  exact hQ
theorem c_X12_areDays {x z : Int32} (hR : RO R) (hr : RrI I F) (hQ : Q (some (.int (bI (ind x (F 0) && ind z (F 0) && decide (x ≤ z))))) SH I L R) : KK 2 mX12_areDays b ad [.ref (b + 157), .int x, .int z] I L R Q := by
  refine K.of (M := mX12_areDays) (lv := [some (.ref (b + 157)), some (.int x), some (.int z)]) (by decide) (Nat.le_of_ble_eq_true rfl) rfl ?_
  refine v_aload_0 dX12_areDays_0 ?_
  refine v_iload_1 dX12_areDays_1 ?_
  refine u_callV_1 dX12_areDays_2 ml_X12_313 mv_X12_isDay (by first | assumption | rfl | exact led_1 (by assumption) | exact led_2 (by assumption) | exact bk_m (by assumption) (by first | assumption | omega) | exact bk_p (by assumption) (by first | assumption | omega) | exact bk_o (by assumption) (by first | assumption | omega) | exact bk_s (by assumption) (by first | assumption | omega) | exact bk_1 (by assumption) | exact bk_2 (by assumption) | exact bk_3 (by assumption) | exact bk_4 (by assumption) | exact bk_5 (by assumption) | exact bk_6 (by assumption) | exact bk_7 (by assumption) | exact bk_8 (by assumption) | exact sh_ring _ (by first | assumption | omega) | exact sh_imgs _ (by first | assumption | omega)) (by decide) rfl (by decide) (Nat.le_of_ble_eq_true rfl) (c_X12_isDay hR hr ?_)
  refine v_if_eq (tgt := 25) dX12_areDays_5 (by decide) (fun hc5 => ?_) (fun hc5 => ?_)
  · (first | rw [bI_0, Bool.not_eq_false] at hc5 | rw [bI_0] at hc5 | rw [show (0 : Int32) = nI 0 from rfl, nI_eq (by omega) (by omega)] at hc5 | skip)
    refine v_iconst (v := nI 0) dX12_areDays_25 (by decide) ?_
    refine v_zret dX12_areDays_26 (by first | rfl | exact bI_n _) rfl rfl rfl rfl ?_
    first
      | (have e : (ind x (F 0) && ind z (F 0) && decide (x ≤ z)) = true := (by simp only [hc5, dle_t, not_false_eq_true, Bool.and_true]); rw [e] at hQ; exact hQ)
      | (have e : (ind x (F 0) && ind z (F 0) && decide (x ≤ z)) = false := (by simp only [hc5, dle_f, Bool.and_false, Bool.false_and, Bool.and_true]); rw [e] at hQ; exact hQ)
  · (first | rw [bI_0, Bool.not_eq_false] at hc5 | rw [bI_0] at hc5 | rw [show (0 : Int32) = nI 0 from rfl, nI_eq (by omega) (by omega)] at hc5 | skip)
    refine v_aload_0 dX12_areDays_8 ?_
    refine v_iload_2 dX12_areDays_9 ?_
    refine u_callV_1 dX12_areDays_10 ml_X12_313 mv_X12_isDay (by first | assumption | rfl | exact led_1 (by assumption) | exact led_2 (by assumption) | exact bk_m (by assumption) (by first | assumption | omega) | exact bk_p (by assumption) (by first | assumption | omega) | exact bk_o (by assumption) (by first | assumption | omega) | exact bk_s (by assumption) (by first | assumption | omega) | exact bk_1 (by assumption) | exact bk_2 (by assumption) | exact bk_3 (by assumption) | exact bk_4 (by assumption) | exact bk_5 (by assumption) | exact bk_6 (by assumption) | exact bk_7 (by assumption) | exact bk_8 (by assumption) | exact sh_ring _ (by first | assumption | omega) | exact sh_imgs _ (by first | assumption | omega)) (by decide) rfl (by decide) (Nat.le_of_ble_eq_true rfl) (c_X12_isDay hR hr ?_)
    refine v_if_eq (tgt := 25) dX12_areDays_13 (by decide) (fun hc13 => ?_) (fun hc13 => ?_)
    · (first | rw [bI_0, Bool.not_eq_false] at hc13 | rw [bI_0] at hc13 | rw [show (0 : Int32) = nI 0 from rfl, nI_eq (by omega) (by omega)] at hc13 | skip)
      refine v_iconst (v := nI 0) dX12_areDays_25 (by decide) ?_
      refine v_zret dX12_areDays_26 (by first | rfl | exact bI_n _) rfl rfl rfl rfl ?_
      first
        | (have e : (ind x (F 0) && ind z (F 0) && decide (x ≤ z)) = true := (by simp only [hc5, hc13, dle_t, not_false_eq_true, Bool.and_true]); rw [e] at hQ; exact hQ)
        | (have e : (ind x (F 0) && ind z (F 0) && decide (x ≤ z)) = false := (by simp only [hc5, hc13, dle_f, Bool.and_false, Bool.false_and, Bool.and_true]); rw [e] at hQ; exact hQ)
    · (first | rw [bI_0, Bool.not_eq_false] at hc13 | rw [bI_0] at hc13 | rw [show (0 : Int32) = nI 0 from rfl, nI_eq (by omega) (by omega)] at hc13 | skip)
      refine v_iload_1 dX12_areDays_16 ?_
      refine v_iload_2 dX12_areDays_17 ?_
      refine v_icmp_gt (tgt := 25) dX12_areDays_18 (by decide) (fun hc18 => ?_) (fun hc18 => ?_)
      · (try rw [nI_ltI (by omega) (by omega)] at hc18)
        refine v_iconst (v := nI 0) dX12_areDays_25 (by decide) ?_
        refine v_zret dX12_areDays_26 (by first | rfl | exact bI_n _) rfl rfl rfl rfl ?_
        first
          | (have e : (ind x (F 0) && ind z (F 0) && decide (x ≤ z)) = true := (by simp only [hc5, hc13, hc18, dle_t, not_false_eq_true, Bool.and_true]); rw [e] at hQ; exact hQ)
          | (have e : (ind x (F 0) && ind z (F 0) && decide (x ≤ z)) = false := (by simp only [hc5, hc13, hc18, dle_f, Bool.and_false, Bool.false_and, Bool.and_true]); rw [e] at hQ; exact hQ)
      · (try rw [nI_ltI (by omega) (by omega)] at hc18)
        refine v_iconst (v := nI 1) dX12_areDays_21 (by decide) ?_
        refine v_goto (tgt := 26) dX12_areDays_22 (by decide) ?_
        refine v_zret dX12_areDays_26 (by first | rfl | exact bI_n _) rfl rfl rfl rfl ?_
        first
          | (have e : (ind x (F 0) && ind z (F 0) && decide (x ≤ z)) = true := (by simp only [hc5, hc13, hc18, dle_t, not_false_eq_true, Bool.and_true]); rw [e] at hQ; exact hQ)
          | (have e : (ind x (F 0) && ind z (F 0) && decide (x ≤ z)) = false := (by simp only [hc5, hc13, hc18, dle_f, Bool.and_false, Bool.false_and, Bool.and_true]); rw [e] at hQ; exact hQ)
theorem c_X12_areMasks {x z : Int32} (hR : RO R) (hr : RrI I F) (hQ : Q (some (.int (bI (inb x (F 2) && inb z (F 2) && decide (x ≠ z))))) SH I L R) : KK 2 mX12_areMasks b ad [.ref (b + 157), .int x, .int z] I L R Q := by
  refine K.of (M := mX12_areMasks) (lv := [some (.ref (b + 157)), some (.int x), some (.int z)]) (by decide) (Nat.le_of_ble_eq_true rfl) rfl ?_
  refine v_aload_0 dX12_areMasks_0 ?_
  refine v_iload_1 dX12_areMasks_1 ?_
  refine u_callV_1 dX12_areMasks_2 ml_X12_307 mv_X12_isMask (by first | assumption | rfl | exact led_1 (by assumption) | exact led_2 (by assumption) | exact bk_m (by assumption) (by first | assumption | omega) | exact bk_p (by assumption) (by first | assumption | omega) | exact bk_o (by assumption) (by first | assumption | omega) | exact bk_s (by assumption) (by first | assumption | omega) | exact bk_1 (by assumption) | exact bk_2 (by assumption) | exact bk_3 (by assumption) | exact bk_4 (by assumption) | exact bk_5 (by assumption) | exact bk_6 (by assumption) | exact bk_7 (by assumption) | exact bk_8 (by assumption) | exact sh_ring _ (by first | assumption | omega) | exact sh_imgs _ (by first | assumption | omega)) (by decide) rfl (by decide) (Nat.le_of_ble_eq_true rfl) (c_X12_isMask hR hr ?_)
  refine v_if_eq (tgt := 25) dX12_areMasks_5 (by decide) (fun hc5 => ?_) (fun hc5 => ?_)
  · (first | rw [bI_0, Bool.not_eq_false] at hc5 | rw [bI_0] at hc5 | rw [show (0 : Int32) = nI 0 from rfl, nI_eq (by omega) (by omega)] at hc5 | skip)
    refine v_iconst (v := nI 0) dX12_areMasks_25 (by decide) ?_
    refine v_zret dX12_areMasks_26 (by first | rfl | exact bI_n _) rfl rfl rfl rfl ?_
    first
      | (have e : (inb x (F 2) && inb z (F 2) && decide (x ≠ z)) = true := (by simp only [hc5, ne_eq, not_false_eq_true, decide_true, Bool.and_true]); rw [e] at hQ; exact hQ)
      | (have e : (inb x (F 2) && inb z (F 2) && decide (x ≠ z)) = false := (by simp only [hc5, ne_eq, not_true_eq_false, decide_false, Bool.and_false, Bool.false_and, Bool.and_true]); rw [e] at hQ; exact hQ)
  · (first | rw [bI_0, Bool.not_eq_false] at hc5 | rw [bI_0] at hc5 | rw [show (0 : Int32) = nI 0 from rfl, nI_eq (by omega) (by omega)] at hc5 | skip)
    refine v_aload_0 dX12_areMasks_8 ?_
    refine v_iload_2 dX12_areMasks_9 ?_
    refine u_callV_1 dX12_areMasks_10 ml_X12_307 mv_X12_isMask (by first | assumption | rfl | exact led_1 (by assumption) | exact led_2 (by assumption) | exact bk_m (by assumption) (by first | assumption | omega) | exact bk_p (by assumption) (by first | assumption | omega) | exact bk_o (by assumption) (by first | assumption | omega) | exact bk_s (by assumption) (by first | assumption | omega) | exact bk_1 (by assumption) | exact bk_2 (by assumption) | exact bk_3 (by assumption) | exact bk_4 (by assumption) | exact bk_5 (by assumption) | exact bk_6 (by assumption) | exact bk_7 (by assumption) | exact bk_8 (by assumption) | exact sh_ring _ (by first | assumption | omega) | exact sh_imgs _ (by first | assumption | omega)) (by decide) rfl (by decide) (Nat.le_of_ble_eq_true rfl) (c_X12_isMask hR hr ?_)
    refine v_if_eq (tgt := 25) dX12_areMasks_13 (by decide) (fun hc13 => ?_) (fun hc13 => ?_)
    · (first | rw [bI_0, Bool.not_eq_false] at hc13 | rw [bI_0] at hc13 | rw [show (0 : Int32) = nI 0 from rfl, nI_eq (by omega) (by omega)] at hc13 | skip)
      refine v_iconst (v := nI 0) dX12_areMasks_25 (by decide) ?_
      refine v_zret dX12_areMasks_26 (by first | rfl | exact bI_n _) rfl rfl rfl rfl ?_
      first
        | (have e : (inb x (F 2) && inb z (F 2) && decide (x ≠ z)) = true := (by simp only [hc5, hc13, ne_eq, not_false_eq_true, decide_true, Bool.and_true]); rw [e] at hQ; exact hQ)
        | (have e : (inb x (F 2) && inb z (F 2) && decide (x ≠ z)) = false := (by simp only [hc5, hc13, ne_eq, not_true_eq_false, decide_false, Bool.and_false, Bool.false_and, Bool.and_true]); rw [e] at hQ; exact hQ)
    · (first | rw [bI_0, Bool.not_eq_false] at hc13 | rw [bI_0] at hc13 | rw [show (0 : Int32) = nI 0 from rfl, nI_eq (by omega) (by omega)] at hc13 | skip)
      refine v_iload_1 dX12_areMasks_16 ?_
      refine v_iload_2 dX12_areMasks_17 ?_
      refine v_icmp_eq (tgt := 25) dX12_areMasks_18 (by decide) (fun hc18 => ?_) (fun hc18 => ?_)
      · (try rw [nI_eq (by omega) (by omega)] at hc18)
        refine v_iconst (v := nI 0) dX12_areMasks_25 (by decide) ?_
        refine v_zret dX12_areMasks_26 (by first | rfl | exact bI_n _) rfl rfl rfl rfl ?_
        first
          | (have e : (inb x (F 2) && inb z (F 2) && decide (x ≠ z)) = true := (by simp only [hc5, hc13, hc18, ne_eq, not_false_eq_true, decide_true, Bool.and_true]); rw [e] at hQ; exact hQ)
          | (have e : (inb x (F 2) && inb z (F 2) && decide (x ≠ z)) = false := (by simp only [hc5, hc13, hc18, ne_eq, not_true_eq_false, decide_false, Bool.and_false, Bool.false_and, Bool.and_true]); rw [e] at hQ; exact hQ)
      · (try rw [nI_eq (by omega) (by omega)] at hc18)
        refine v_iconst (v := nI 1) dX12_areMasks_21 (by decide) ?_
        refine v_goto (tgt := 26) dX12_areMasks_22 (by decide) ?_
        refine v_zret dX12_areMasks_26 (by first | rfl | exact bI_n _) rfl rfl rfl rfl ?_
        first
          | (have e : (inb x (F 2) && inb z (F 2) && decide (x ≠ z)) = true := (by simp only [hc5, hc13, hc18, ne_eq, not_false_eq_true, decide_true, Bool.and_true]); rw [e] at hQ; exact hQ)
          | (have e : (inb x (F 2) && inb z (F 2) && decide (x ≠ z)) = false := (by simp only [hc5, hc13, hc18, ne_eq, not_true_eq_false, decide_false, Bool.and_false, Bool.false_and, Bool.and_true]); rw [e] at hQ; exact hQ)
theorem c_X12_own {i j k : Nat} (hR : RO R) (hr : FI I 160 F) (hi : i < 12) (hj : j < 6) (hk : 56 + 6 * i + j = k) (hQ : Q (some (.int (nI (F k)))) SH I L R) : KK 0 mX12_own b ad [.ref (b + 157), .int (nI i), .int (nI j)] I L R Q := by
  refine K.of (M := mX12_own) (lv := [some (.ref (b + 157)), some (.int (nI i)), some (.int (nI j))]) (by decide) (Nat.le_of_ble_eq_true rfl) rfl ?_
  refine v_aload_0 dX12_own_0 ?_
  refine u_getR dX12_own_1 gf_X12_20 (by first | assumption | rfl | exact led_1 (by assumption) | exact led_2 (by assumption) | exact bk_m (by assumption) (by first | assumption | omega) | exact bk_p (by assumption) (by first | assumption | omega) | exact bk_o (by assumption) (by first | assumption | omega) | exact bk_s (by assumption) (by first | assumption | omega) | exact bk_1 (by assumption) | exact bk_2 (by assumption) | exact bk_3 (by assumption) | exact bk_4 (by assumption) | exact bk_5 (by assumption) | exact bk_6 (by assumption) | exact bk_7 (by assumption) | exact bk_8 (by assumption) | exact sh_ring _ (by first | assumption | omega) | exact sh_imgs _ (by first | assumption | omega)) (ro_X12_15 (by assumption)) ?_
  refine v_bipush (v := nI 56) dX12_own_4 (by decide) ?_
  refine v_bipush (v := nI 6) dX12_own_6 (by decide) ?_
  refine v_iload_1 dX12_own_8 ?_
  refine v_imul dX12_own_9 ?_
  refine v_iadd dX12_own_10 ?_
  refine v_iload_2 dX12_own_11 ?_
  refine v_iadd dX12_own_12 ?_
  refine u_iald dX12_own_13 (by first | assumption | rfl | exact led_1 (by assumption) | exact led_2 (by assumption) | exact bk_m (by assumption) (by first | assumption | omega) | exact bk_p (by assumption) (by first | assumption | omega) | exact bk_o (by assumption) (by first | assumption | omega) | exact bk_s (by assumption) (by first | assumption | omega) | exact bk_1 (by assumption) | exact bk_2 (by assumption) | exact bk_3 (by assumption) | exact bk_4 (by assumption) | exact bk_5 (by assumption) | exact bk_6 (by assumption) | exact bk_7 (by assumption) | exact bk_8 (by assumption) | exact sh_ring _ (by first | assumption | omega) | exact sh_imgs _ (by first | assumption | omega)) (by first | with_reducible rfl | (simp only [nlit, nI_add, pk_mul]; with_reducible rfl) | rfl) (by first | assumption | omega) (by first | assumption | decide) ?_
  refine v_iret dX12_own_14 rfl rfl rfl rfl ?_
  rw [hr.2 _ (by omega), hk]
  exact hQ
theorem c_X12_seen {i j k : Nat} (hR : RO R) (hr : FI I 160 F) (hi : i < 8) (hj : j < 5) (hk : 128 + 5 * i + j = k) (hQ : Q (some (.int (nI (F k)))) SH I L R) : KK 0 mX12_seen b ad [.ref (b + 157), .int (nI i), .int (nI j)] I L R Q := by
  refine K.of (M := mX12_seen) (lv := [some (.ref (b + 157)), some (.int (nI i)), some (.int (nI j))]) (by decide) (Nat.le_of_ble_eq_true rfl) rfl ?_
  refine v_aload_0 dX12_seen_0 ?_
  refine u_getR dX12_seen_1 gf_X12_20 (by first | assumption | rfl | exact led_1 (by assumption) | exact led_2 (by assumption) | exact bk_m (by assumption) (by first | assumption | omega) | exact bk_p (by assumption) (by first | assumption | omega) | exact bk_o (by assumption) (by first | assumption | omega) | exact bk_s (by assumption) (by first | assumption | omega) | exact bk_1 (by assumption) | exact bk_2 (by assumption) | exact bk_3 (by assumption) | exact bk_4 (by assumption) | exact bk_5 (by assumption) | exact bk_6 (by assumption) | exact bk_7 (by assumption) | exact bk_8 (by assumption) | exact sh_ring _ (by first | assumption | omega) | exact sh_imgs _ (by first | assumption | omega)) (ro_X12_15 (by assumption)) ?_
  refine v_sipush (v := nI 128) dX12_seen_4 (by decide) ?_
  refine v_iconst (v := nI 5) dX12_seen_7 (by decide) ?_
  refine v_iload_1 dX12_seen_8 ?_
  refine v_imul dX12_seen_9 ?_
  refine v_iadd dX12_seen_10 ?_
  refine v_iload_2 dX12_seen_11 ?_
  refine v_iadd dX12_seen_12 ?_
  refine u_iald dX12_seen_13 (by first | assumption | rfl | exact led_1 (by assumption) | exact led_2 (by assumption) | exact bk_m (by assumption) (by first | assumption | omega) | exact bk_p (by assumption) (by first | assumption | omega) | exact bk_o (by assumption) (by first | assumption | omega) | exact bk_s (by assumption) (by first | assumption | omega) | exact bk_1 (by assumption) | exact bk_2 (by assumption) | exact bk_3 (by assumption) | exact bk_4 (by assumption) | exact bk_5 (by assumption) | exact bk_6 (by assumption) | exact bk_7 (by assumption) | exact bk_8 (by assumption) | exact sh_ring _ (by first | assumption | omega) | exact sh_imgs _ (by first | assumption | omega)) (by first | with_reducible rfl | (simp only [nlit, nI_add, pk_mul]; with_reducible rfl) | rfl) (by first | assumption | omega) (by first | assumption | decide) ?_
  refine v_iret dX12_seen_14 rfl rfl rfl rfl ?_
  rw [hr.2 _ (by omega), hk]
  exact hQ
theorem fit_iff {k a c h p : Nat} : fitv k a p h c = true ↔ (k = 2 ∨ (k = 3 ∧ adf a p = 0) ∨ (k ≠ 2 ∧ k ≠ 3 ∧ adf a p < 2 ∧ (k ≠ 1 ∨ c = 1) ∧ (k ≠ 4 ∨ 60 ≤ h))) := by
  unfold fitv
  by_cases k2 : k = 2
  · rw [if_pos k2]; exact ⟨fun _ => Or.inl k2, fun _ => rfl⟩
  · rw [if_neg k2]
    by_cases k3 : k = 3
    · rw [if_pos k3, decide_eq_true_eq]; omega
    · rw [if_neg k3]; simp only [Bool.and_eq_true, Bool.or_eq_true, decide_eq_true_eq]; omega
theorem c_X12_doesFit {m p : Nat} (hr : FI I a F) (hO : FOK F) (hm : m < F 2) (hp : p < F 3) (hQ : Q (some (.int (bI (fitF F m p)))) SH I L R) : KK 1 mX12_doesFit b ad [.ref (b + a), .int (nI m), .int (nI p)] I L R Q := by
  have ha := hr.1
  have o2 := hO.2.2.1
  have o3 := hO.2.2.2.1
  obtain ⟨q1, q2, q3⟩ := fk_m hO hm
  obtain ⟨q4, q5, q6, q7, q8⟩ := fk_p hO hp
  have hf : fitF F m p = true ↔ _ := fit_iff (k := F (8 + m)) (a := F (14 + m)) (p := F (26 + p)) (h := F (32 + p)) (c := F (38 + p))
  have had : adf (F (14 + m)) (F (26 + p)) < 10 := by unfold adf; split <;> omega
  refine K.of (M := mX12_doesFit) (lv := [some (.ref (b + a)), some (.int (nI m)), some (.int (nI p)), none, none]) (by decide) (Nat.le_of_ble_eq_true rfl) rfl ?_
  refine v_aload_0 dX12_doesFit_0 ?_
  refine v_bipush (v := nI 8) dX12_doesFit_1 (by decide) ?_
  refine v_iload_1 dX12_doesFit_3 ?_
  refine v_iadd dX12_doesFit_4 ?_
  refine u_iald dX12_doesFit_5 (by first | assumption | rfl | exact led_1 (by assumption) | exact led_2 (by assumption) | exact bk_m (by assumption) (by first | assumption | omega) | exact bk_p (by assumption) (by first | assumption | omega) | exact bk_o (by assumption) (by first | assumption | omega) | exact bk_s (by assumption) (by first | assumption | omega) | exact bk_1 (by assumption) | exact bk_2 (by assumption) | exact bk_3 (by assumption) | exact bk_4 (by assumption) | exact bk_5 (by assumption) | exact bk_6 (by assumption) | exact bk_7 (by assumption) | exact bk_8 (by assumption) | exact sh_ring _ (by first | assumption | omega) | exact sh_imgs _ (by first | assumption | omega)) (by first | with_reducible rfl | (simp only [nlit, nI_add, pk_mul]; with_reducible rfl) | rfl) (by first | assumption | omega) (by first | assumption | decide) ?_
  rw [hr.2 _ (by omega)]
  refine v_istore_3 rfl dX12_doesFit_6 ?_
  refine v_aload_0 dX12_doesFit_7 ?_
  refine v_bipush (v := nI 14) dX12_doesFit_8 (by decide) ?_
  refine v_iload_1 dX12_doesFit_10 ?_
  refine v_iadd dX12_doesFit_11 ?_
  refine u_iald dX12_doesFit_12 (by first | assumption | rfl | exact led_1 (by assumption) | exact led_2 (by assumption) | exact bk_m (by assumption) (by first | assumption | omega) | exact bk_p (by assumption) (by first | assumption | omega) | exact bk_o (by assumption) (by first | assumption | omega) | exact bk_s (by assumption) (by first | assumption | omega) | exact bk_1 (by assumption) | exact bk_2 (by assumption) | exact bk_3 (by assumption) | exact bk_4 (by assumption) | exact bk_5 (by assumption) | exact bk_6 (by assumption) | exact bk_7 (by assumption) | exact bk_8 (by assumption) | exact sh_ring _ (by first | assumption | omega) | exact sh_imgs _ (by first | assumption | omega)) (by first | with_reducible rfl | (simp only [nlit, nI_add, pk_mul]; with_reducible rfl) | rfl) (by first | assumption | omega) (by first | assumption | decide) ?_
  rw [hr.2 _ (by omega)]
  refine v_aload_0 dX12_doesFit_13 ?_
  refine v_bipush (v := nI 26) dX12_doesFit_14 (by decide) ?_
  refine v_iload_2 dX12_doesFit_16 ?_
  refine v_iadd dX12_doesFit_17 ?_
  refine u_iald dX12_doesFit_18 (by first | assumption | rfl | exact led_1 (by assumption) | exact led_2 (by assumption) | exact bk_m (by assumption) (by first | assumption | omega) | exact bk_p (by assumption) (by first | assumption | omega) | exact bk_o (by assumption) (by first | assumption | omega) | exact bk_s (by assumption) (by first | assumption | omega) | exact bk_1 (by assumption) | exact bk_2 (by assumption) | exact bk_3 (by assumption) | exact bk_4 (by assumption) | exact bk_5 (by assumption) | exact bk_6 (by assumption) | exact bk_7 (by assumption) | exact bk_8 (by assumption) | exact sh_ring _ (by first | assumption | omega) | exact sh_imgs _ (by first | assumption | omega)) (by first | with_reducible rfl | (simp only [nlit, nI_add, pk_mul]; with_reducible rfl) | rfl) (by first | assumption | omega) (by first | assumption | decide) ?_
  rw [hr.2 _ (by omega)]
  refine v_isub dX12_doesFit_19 ?_
  refine u_callS_1 dX12_doesFit_20 ml_X12_293 ms_X12_without (by decide) (Nat.le_of_ble_eq_true rfl) (c_X12_without (by omega) (by omega) ?_)
  refine v_istore_4 rfl dX12_doesFit_23 ?_
  refine v_iload_3 dX12_doesFit_25 ?_
  refine v_iconst (v := nI 2) dX12_doesFit_26 (by decide) ?_
  refine v_icmp_ne (tgt := 32) dX12_doesFit_27 (by decide) (fun hc27 => ?_) (fun hc27 => ?_)
  · (try rw [nI_eq (by omega) (by omega)] at hc27)
    refine v_iload_3 dX12_doesFit_32 ?_
    refine v_iconst (v := nI 3) dX12_doesFit_33 (by decide) ?_
    refine v_icmp_ne (tgt := 48) dX12_doesFit_34 (by decide) (fun hc34 => ?_) (fun hc34 => ?_)
    · (try rw [nI_eq (by omega) (by omega)] at hc34)
      refine v_iload_4 dX12_doesFit_48 ?_
      refine v_iconst (v := nI 2) dX12_doesFit_50 (by decide) ?_
      refine v_icmp_ge (tgt := 89) dX12_doesFit_51 (by decide) (fun hc51 => ?_) (fun hc51 => ?_)
      · (try rw [nI_leI (by omega) (by omega)] at hc51)
        refine v_iconst (v := nI 0) dX12_doesFit_89 (by decide) ?_
        refine v_zret dX12_doesFit_90 (by first | rfl | exact bI_n _) rfl rfl rfl rfl ?_
        first
          | (have e : fitF F m p = true := (hf.mpr (by omega)); rw [e] at hQ; exact hQ)
          | (have e : fitF F m p = false := (Bool.eq_false_iff.mpr (fun z => absurd (hf.mp z) (by omega))); rw [e] at hQ; exact hQ)
      · (try rw [nI_leI (by omega) (by omega)] at hc51)
        refine v_iload_3 dX12_doesFit_54 ?_
        refine v_iconst (v := nI 1) dX12_doesFit_55 (by decide) ?_
        refine v_icmp_ne (tgt := 69) dX12_doesFit_56 (by decide) (fun hc56 => ?_) (fun hc56 => ?_)
        · (try rw [nI_eq (by omega) (by omega)] at hc56)
          refine v_iload_3 dX12_doesFit_69 ?_
          refine v_iconst (v := nI 4) dX12_doesFit_70 (by decide) ?_
          refine v_icmp_ne (tgt := 85) dX12_doesFit_71 (by decide) (fun hc71 => ?_) (fun hc71 => ?_)
          · (try rw [nI_eq (by omega) (by omega)] at hc71)
            refine v_iconst (v := nI 1) dX12_doesFit_85 (by decide) ?_
            refine v_goto (tgt := 90) dX12_doesFit_86 (by decide) ?_
            refine v_zret dX12_doesFit_90 (by first | rfl | exact bI_n _) rfl rfl rfl rfl ?_
            first
              | (have e : fitF F m p = true := (hf.mpr (by omega)); rw [e] at hQ; exact hQ)
              | (have e : fitF F m p = false := (Bool.eq_false_iff.mpr (fun z => absurd (hf.mp z) (by omega))); rw [e] at hQ; exact hQ)
          · (try rw [nI_eq (by omega) (by omega)] at hc71)
            refine v_aload_0 dX12_doesFit_74 ?_
            refine v_bipush (v := nI 32) dX12_doesFit_75 (by decide) ?_
            refine v_iload_2 dX12_doesFit_77 ?_
            refine v_iadd dX12_doesFit_78 ?_
            refine u_iald dX12_doesFit_79 (by first | assumption | rfl | exact led_1 (by assumption) | exact led_2 (by assumption) | exact bk_m (by assumption) (by first | assumption | omega) | exact bk_p (by assumption) (by first | assumption | omega) | exact bk_o (by assumption) (by first | assumption | omega) | exact bk_s (by assumption) (by first | assumption | omega) | exact bk_1 (by assumption) | exact bk_2 (by assumption) | exact bk_3 (by assumption) | exact bk_4 (by assumption) | exact bk_5 (by assumption) | exact bk_6 (by assumption) | exact bk_7 (by assumption) | exact bk_8 (by assumption) | exact sh_ring _ (by first | assumption | omega) | exact sh_imgs _ (by first | assumption | omega)) (by first | with_reducible rfl | (simp only [nlit, nI_add, pk_mul]; with_reducible rfl) | rfl) (by first | assumption | omega) (by first | assumption | decide) ?_
            rw [hr.2 _ (by omega)]
            refine v_bipush (v := nI 60) dX12_doesFit_80 (by decide) ?_
            refine v_icmp_lt (tgt := 89) dX12_doesFit_82 (by decide) (fun hc82 => ?_) (fun hc82 => ?_)
            · (try rw [nI_ltI (by omega) (by omega)] at hc82)
              refine v_iconst (v := nI 0) dX12_doesFit_89 (by decide) ?_
              refine v_zret dX12_doesFit_90 (by first | rfl | exact bI_n _) rfl rfl rfl rfl ?_
              first
                | (have e : fitF F m p = true := (hf.mpr (by omega)); rw [e] at hQ; exact hQ)
                | (have e : fitF F m p = false := (Bool.eq_false_iff.mpr (fun z => absurd (hf.mp z) (by omega))); rw [e] at hQ; exact hQ)
            · (try rw [nI_ltI (by omega) (by omega)] at hc82)
              refine v_iconst (v := nI 1) dX12_doesFit_85 (by decide) ?_
              refine v_goto (tgt := 90) dX12_doesFit_86 (by decide) ?_
              refine v_zret dX12_doesFit_90 (by first | rfl | exact bI_n _) rfl rfl rfl rfl ?_
              first
                | (have e : fitF F m p = true := (hf.mpr (by omega)); rw [e] at hQ; exact hQ)
                | (have e : fitF F m p = false := (Bool.eq_false_iff.mpr (fun z => absurd (hf.mp z) (by omega))); rw [e] at hQ; exact hQ)
        · (try rw [nI_eq (by omega) (by omega)] at hc56)
          refine v_aload_0 dX12_doesFit_59 ?_
          refine v_bipush (v := nI 38) dX12_doesFit_60 (by decide) ?_
          refine v_iload_2 dX12_doesFit_62 ?_
          refine v_iadd dX12_doesFit_63 ?_
          refine u_iald dX12_doesFit_64 (by first | assumption | rfl | exact led_1 (by assumption) | exact led_2 (by assumption) | exact bk_m (by assumption) (by first | assumption | omega) | exact bk_p (by assumption) (by first | assumption | omega) | exact bk_o (by assumption) (by first | assumption | omega) | exact bk_s (by assumption) (by first | assumption | omega) | exact bk_1 (by assumption) | exact bk_2 (by assumption) | exact bk_3 (by assumption) | exact bk_4 (by assumption) | exact bk_5 (by assumption) | exact bk_6 (by assumption) | exact bk_7 (by assumption) | exact bk_8 (by assumption) | exact sh_ring _ (by first | assumption | omega) | exact sh_imgs _ (by first | assumption | omega)) (by first | with_reducible rfl | (simp only [nlit, nI_add, pk_mul]; with_reducible rfl) | rfl) (by first | assumption | omega) (by first | assumption | decide) ?_
          rw [hr.2 _ (by omega)]
          refine v_iconst (v := nI 1) dX12_doesFit_65 (by decide) ?_
          refine v_icmp_ne (tgt := 89) dX12_doesFit_66 (by decide) (fun hc66 => ?_) (fun hc66 => ?_)
          · (try rw [nI_eq (by omega) (by omega)] at hc66)
            refine v_iconst (v := nI 0) dX12_doesFit_89 (by decide) ?_
            refine v_zret dX12_doesFit_90 (by first | rfl | exact bI_n _) rfl rfl rfl rfl ?_
            first
              | (have e : fitF F m p = true := (hf.mpr (by omega)); rw [e] at hQ; exact hQ)
              | (have e : fitF F m p = false := (Bool.eq_false_iff.mpr (fun z => absurd (hf.mp z) (by omega))); rw [e] at hQ; exact hQ)
          · (try rw [nI_eq (by omega) (by omega)] at hc66)
            refine v_iload_3 dX12_doesFit_69 ?_
            refine v_iconst (v := nI 4) dX12_doesFit_70 (by decide) ?_
            refine v_icmp_ne (tgt := 85) dX12_doesFit_71 (by decide) (fun hc71 => ?_) (fun hc71 => ?_)
            · (try rw [nI_eq (by omega) (by omega)] at hc71)
              refine v_iconst (v := nI 1) dX12_doesFit_85 (by decide) ?_
              refine v_goto (tgt := 90) dX12_doesFit_86 (by decide) ?_
              refine v_zret dX12_doesFit_90 (by first | rfl | exact bI_n _) rfl rfl rfl rfl ?_
              first
                | (have e : fitF F m p = true := (hf.mpr (by omega)); rw [e] at hQ; exact hQ)
                | (have e : fitF F m p = false := (Bool.eq_false_iff.mpr (fun z => absurd (hf.mp z) (by omega))); rw [e] at hQ; exact hQ)
            · (try rw [nI_eq (by omega) (by omega)] at hc71)
              refine v_aload_0 dX12_doesFit_74 ?_
              refine v_bipush (v := nI 32) dX12_doesFit_75 (by decide) ?_
              refine v_iload_2 dX12_doesFit_77 ?_
              refine v_iadd dX12_doesFit_78 ?_
              refine u_iald dX12_doesFit_79 (by first | assumption | rfl | exact led_1 (by assumption) | exact led_2 (by assumption) | exact bk_m (by assumption) (by first | assumption | omega) | exact bk_p (by assumption) (by first | assumption | omega) | exact bk_o (by assumption) (by first | assumption | omega) | exact bk_s (by assumption) (by first | assumption | omega) | exact bk_1 (by assumption) | exact bk_2 (by assumption) | exact bk_3 (by assumption) | exact bk_4 (by assumption) | exact bk_5 (by assumption) | exact bk_6 (by assumption) | exact bk_7 (by assumption) | exact bk_8 (by assumption) | exact sh_ring _ (by first | assumption | omega) | exact sh_imgs _ (by first | assumption | omega)) (by first | with_reducible rfl | (simp only [nlit, nI_add, pk_mul]; with_reducible rfl) | rfl) (by first | assumption | omega) (by first | assumption | decide) ?_
              rw [hr.2 _ (by omega)]
              refine v_bipush (v := nI 60) dX12_doesFit_80 (by decide) ?_
              refine v_icmp_lt (tgt := 89) dX12_doesFit_82 (by decide) (fun hc82 => ?_) (fun hc82 => ?_)
              · (try rw [nI_ltI (by omega) (by omega)] at hc82)
                refine v_iconst (v := nI 0) dX12_doesFit_89 (by decide) ?_
                refine v_zret dX12_doesFit_90 (by first | rfl | exact bI_n _) rfl rfl rfl rfl ?_
                first
                  | (have e : fitF F m p = true := (hf.mpr (by omega)); rw [e] at hQ; exact hQ)
                  | (have e : fitF F m p = false := (Bool.eq_false_iff.mpr (fun z => absurd (hf.mp z) (by omega))); rw [e] at hQ; exact hQ)
              · (try rw [nI_ltI (by omega) (by omega)] at hc82)
                refine v_iconst (v := nI 1) dX12_doesFit_85 (by decide) ?_
                refine v_goto (tgt := 90) dX12_doesFit_86 (by decide) ?_
                refine v_zret dX12_doesFit_90 (by first | rfl | exact bI_n _) rfl rfl rfl rfl ?_
                first
                  | (have e : fitF F m p = true := (hf.mpr (by omega)); rw [e] at hQ; exact hQ)
                  | (have e : fitF F m p = false := (Bool.eq_false_iff.mpr (fun z => absurd (hf.mp z) (by omega))); rw [e] at hQ; exact hQ)
    · (try rw [nI_eq (by omega) (by omega)] at hc34)
      refine v_iload_4 dX12_doesFit_37 ?_
      refine v_if_ne (tgt := 46) dX12_doesFit_39 (by decide) (fun hc39 => ?_) (fun hc39 => ?_)
      · rw [show (0 : Int32) = nI 0 from rfl, nI_eq (by omega) (by decide)] at hc39
        refine v_iconst (v := nI 0) dX12_doesFit_46 (by decide) ?_
        refine v_zret dX12_doesFit_47 (by first | rfl | exact bI_n _) rfl rfl rfl rfl ?_
        first
          | (have e : fitF F m p = true := (hf.mpr (by omega)); rw [e] at hQ; exact hQ)
          | (have e : fitF F m p = false := (Bool.eq_false_iff.mpr (fun z => absurd (hf.mp z) (by omega))); rw [e] at hQ; exact hQ)
      · rw [show (0 : Int32) = nI 0 from rfl, nI_eq (by omega) (by decide)] at hc39
        refine v_iconst (v := nI 1) dX12_doesFit_42 (by decide) ?_
        refine v_goto (tgt := 47) dX12_doesFit_43 (by decide) ?_
        refine v_zret dX12_doesFit_47 (by first | rfl | exact bI_n _) rfl rfl rfl rfl ?_
        first
          | (have e : fitF F m p = true := (hf.mpr (by omega)); rw [e] at hQ; exact hQ)
          | (have e : fitF F m p = false := (Bool.eq_false_iff.mpr (fun z => absurd (hf.mp z) (by omega))); rw [e] at hQ; exact hQ)
  · (try rw [nI_eq (by omega) (by omega)] at hc27)
    refine v_iconst (v := nI 1) dX12_doesFit_30 (by decide) ?_
    refine v_zret dX12_doesFit_31 (by first | rfl | exact bI_n _) rfl rfl rfl rfl ?_
    first
      | (have e : fitF F m p = true := (hf.mpr (by omega)); rw [e] at hQ; exact hQ)
      | (have e : fitF F m p = false := (Bool.eq_false_iff.mpr (fun z => absurd (hf.mp z) (by omega))); rw [e] at hQ; exact hQ)
theorem c_X12_lendingOf {m d : Nat} (ha : SH a = .inr (0, 87)) (hS : StI I a 0 s) (hn : s.1 ≤ 20) (hok : ∀ i, i < s.1 → ok4 (s.2.1 i)) (hm : m < 2 ^ 31) (hd : d < 2 ^ 31) (hQ : Q (some (.int (eO (fup (hitm s.2.1 m d d) 0 s.1)))) SH I L R) : KK 1 mX12_lendingOf b ad [.ref (b + a), .int (nI m), .int (nI d)] I L R Q := by
  have loop : ∀ (j i : Nat), i + j = s.1 → eO (fup (hitm s.2.1 m d d) i j) = eO (fup (hitm s.2.1 m d d) 0 s.1) → VV yX12_lendingOf cX12_lendingOf 4 (some .int) 1 Q b ad 2 [some (.ref (b + a)), some (.int (nI m)), some (.int (nI d)), some (.int (nI i))] [] I L R := by
    intro j
    induction j with
    | zero =>
      intro i hi he
      refine v_iload_3 dX12_lendingOf_2 ?_
      refine v_aload_0 dX12_lendingOf_3 ?_
      refine v_iconst (v := nI 0) dX12_lendingOf_4 (by decide) ?_
      refine u_iald dX12_lendingOf_5 (by first | assumption | rfl | exact led_1 (by assumption) | exact led_2 (by assumption) | exact bk_m (by assumption) (by first | assumption | omega) | exact bk_p (by assumption) (by first | assumption | omega) | exact bk_o (by assumption) (by first | assumption | omega) | exact bk_s (by assumption) (by first | assumption | omega) | exact bk_1 (by assumption) | exact bk_2 (by assumption) | exact bk_3 (by assumption) | exact bk_4 (by assumption) | exact bk_5 (by assumption) | exact bk_6 (by assumption) | exact bk_7 (by assumption) | exact bk_8 (by assumption) | exact sh_ring _ (by first | assumption | omega) | exact sh_imgs _ (by first | assumption | omega)) (by first | with_reducible rfl | (simp only [nlit, nI_add, pk_mul]; with_reducible rfl) | rfl) (by first | assumption | omega) (by first | assumption | decide) ?_
      rw [hS.1]
      refine v_icmp_ge (tgt := 53) dX12_lendingOf_6 (by decide) (fun hc6 => ?_) (fun hc6 => ?_)
      · (try rw [nI_leI (by omega) (by omega)] at hc6)
        refine v_iconst (v := -1) dX12_lendingOf_53 (by decide) ?_
        refine v_iret dX12_lendingOf_54 rfl rfl rfl rfl ?_
        rw [← he] at hQ
        exact hQ
      · exact absurd (nI_le (by omega) (by omega)) hc6
    | succ j ih =>
      intro i hij he
      have hi : i < s.1 := by omega
      obtain ⟨z1, z2, z3, z4, z5⟩ := hok i hi
      have hh : hitm s.2.1 m d d i = (decide ((s.2.1 i).1 = m) && (decide ((s.2.1 i).2.2.1 ≤ d) && decide (d ≤ (s.2.1 i).2.2.2))) := rfl
      refine v_iload_3 dX12_lendingOf_2 ?_
      refine v_aload_0 dX12_lendingOf_3 ?_
      refine v_iconst (v := nI 0) dX12_lendingOf_4 (by decide) ?_
      refine u_iald dX12_lendingOf_5 (by first | assumption | rfl | exact led_1 (by assumption) | exact led_2 (by assumption) | exact bk_m (by assumption) (by first | assumption | omega) | exact bk_p (by assumption) (by first | assumption | omega) | exact bk_o (by assumption) (by first | assumption | omega) | exact bk_s (by assumption) (by first | assumption | omega) | exact bk_1 (by assumption) | exact bk_2 (by assumption) | exact bk_3 (by assumption) | exact bk_4 (by assumption) | exact bk_5 (by assumption) | exact bk_6 (by assumption) | exact bk_7 (by assumption) | exact bk_8 (by assumption) | exact sh_ring _ (by first | assumption | omega) | exact sh_imgs _ (by first | assumption | omega)) (by first | with_reducible rfl | (simp only [nlit, nI_add, pk_mul]; with_reducible rfl) | rfl) (by first | assumption | omega) (by first | assumption | decide) ?_
      rw [hS.1]
      refine v_icmp_ge (tgt := 53) dX12_lendingOf_6 (by decide) (fun hc6 => ?_) (fun hc6 => ?_)
      · exact absurd hc6 (nI_ge (by omega) (by omega))
      · (try rw [nI_leI (by omega) (by omega)] at hc6)
        refine v_aload_0 dX12_lendingOf_9 ?_
        refine v_iconst (v := nI 1) dX12_lendingOf_10 (by decide) ?_
        refine v_iconst (v := nI 4) dX12_lendingOf_11 (by decide) ?_
        refine v_iload_3 dX12_lendingOf_12 ?_
        refine v_imul dX12_lendingOf_13 ?_
        refine v_iadd dX12_lendingOf_14 ?_
        refine u_iald dX12_lendingOf_15 (by first | assumption | rfl | exact led_1 (by assumption) | exact led_2 (by assumption) | exact bk_m (by assumption) (by first | assumption | omega) | exact bk_p (by assumption) (by first | assumption | omega) | exact bk_o (by assumption) (by first | assumption | omega) | exact bk_s (by assumption) (by first | assumption | omega) | exact bk_1 (by assumption) | exact bk_2 (by assumption) | exact bk_3 (by assumption) | exact bk_4 (by assumption) | exact bk_5 (by assumption) | exact bk_6 (by assumption) | exact bk_7 (by assumption) | exact bk_8 (by assumption) | exact sh_ring _ (by first | assumption | omega) | exact sh_imgs _ (by first | assumption | omega)) (by first | with_reducible rfl | (simp only [nlit, nI_add, pk_mul]; with_reducible rfl) | rfl) (by first | assumption | omega) (by first | assumption | decide) ?_
        rw [hS.m hi (by omega)]
        refine v_iload_1 dX12_lendingOf_16 ?_
        refine v_icmp_ne (tgt := 47) dX12_lendingOf_17 (by decide) (fun hc17 => ?_) (fun hc17 => ?_)
        · (try rw [nI_eq (by omega) (by omega)] at hc17)
          refine v_iinc_3 (v := 1) rfl dX12_lendingOf_47 (by decide) ?_
          rw [show nI i + 1 = nI (i + 1) from nI_1 i]
          refine v_goto (tgt := 2) dX12_lendingOf_50 (by decide) ?_
          refine ih (i + 1) (by omega) ?_
          rw [← he, fup_f (by rw [hh]; first | (rw [decide_eq_false hc17]; rfl) | (rw [hc42, Bool.and_false]))]
        · (try rw [nI_eq (by omega) (by omega)] at hc17)
          refine v_iload_2 dX12_lendingOf_20 ?_
          refine v_aload_0 dX12_lendingOf_21 ?_
          refine v_iconst (v := nI 1) dX12_lendingOf_22 (by decide) ?_
          refine v_iconst (v := nI 4) dX12_lendingOf_23 (by decide) ?_
          refine v_iload_3 dX12_lendingOf_24 ?_
          refine v_imul dX12_lendingOf_25 ?_
          refine v_iadd dX12_lendingOf_26 ?_
          refine v_iconst (v := nI 2) dX12_lendingOf_27 (by decide) ?_
          refine v_iadd dX12_lendingOf_28 ?_
          refine u_iald dX12_lendingOf_29 (by first | assumption | rfl | exact led_1 (by assumption) | exact led_2 (by assumption) | exact bk_m (by assumption) (by first | assumption | omega) | exact bk_p (by assumption) (by first | assumption | omega) | exact bk_o (by assumption) (by first | assumption | omega) | exact bk_s (by assumption) (by first | assumption | omega) | exact bk_1 (by assumption) | exact bk_2 (by assumption) | exact bk_3 (by assumption) | exact bk_4 (by assumption) | exact bk_5 (by assumption) | exact bk_6 (by assumption) | exact bk_7 (by assumption) | exact bk_8 (by assumption) | exact sh_ring _ (by first | assumption | omega) | exact sh_imgs _ (by first | assumption | omega)) (by first | with_reducible rfl | (simp only [nlit, nI_add, pk_mul]; with_reducible rfl) | rfl) (by first | assumption | omega) (by first | assumption | decide) ?_
          rw [hS.f hi (by omega)]
          refine v_aload_0 dX12_lendingOf_30 ?_
          refine v_iconst (v := nI 1) dX12_lendingOf_31 (by decide) ?_
          refine v_iconst (v := nI 4) dX12_lendingOf_32 (by decide) ?_
          refine v_iload_3 dX12_lendingOf_33 ?_
          refine v_imul dX12_lendingOf_34 ?_
          refine v_iadd dX12_lendingOf_35 ?_
          refine v_iconst (v := nI 3) dX12_lendingOf_36 (by decide) ?_
          refine v_iadd dX12_lendingOf_37 ?_
          refine u_iald dX12_lendingOf_38 (by first | assumption | rfl | exact led_1 (by assumption) | exact led_2 (by assumption) | exact bk_m (by assumption) (by first | assumption | omega) | exact bk_p (by assumption) (by first | assumption | omega) | exact bk_o (by assumption) (by first | assumption | omega) | exact bk_s (by assumption) (by first | assumption | omega) | exact bk_1 (by assumption) | exact bk_2 (by assumption) | exact bk_3 (by assumption) | exact bk_4 (by assumption) | exact bk_5 (by assumption) | exact bk_6 (by assumption) | exact bk_7 (by assumption) | exact bk_8 (by assumption) | exact sh_ring _ (by first | assumption | omega) | exact sh_imgs _ (by first | assumption | omega)) (by first | with_reducible rfl | (simp only [nlit, nI_add, pk_mul]; with_reducible rfl) | rfl) (by first | assumption | omega) (by first | assumption | decide) ?_
          rw [hS.u hi (by omega)]
          refine u_callS_3 dX12_lendingOf_39 ml_X12_154 ms_X12_within (by decide) (Nat.le_of_ble_eq_true rfl) (c_X12_within ?_)
          rw [decide_eq_decide.mpr (nI_leI (a := (s.2.1 i).2.2.1) (b := d) (by omega) (by omega)), decide_eq_decide.mpr (nI_leI (a := d) (b := (s.2.1 i).2.2.2) (by omega) (by omega))]
          refine v_if_eq (tgt := 47) dX12_lendingOf_42 (by decide) (fun hc42 => ?_) (fun hc42 => ?_)
          · (first | rw [bI_0, Bool.not_eq_false] at hc42 | rw [bI_0] at hc42 | rw [show (0 : Int32) = nI 0 from rfl, nI_eq (by omega) (by omega)] at hc42 | skip)
            refine v_iinc_3 (v := 1) rfl dX12_lendingOf_47 (by decide) ?_
            rw [show nI i + 1 = nI (i + 1) from nI_1 i]
            refine v_goto (tgt := 2) dX12_lendingOf_50 (by decide) ?_
            refine ih (i + 1) (by omega) ?_
            rw [← he, fup_f (by rw [hh]; first | (rw [decide_eq_false hc17]; rfl) | (rw [hc42, Bool.and_false]))]
          · (first | rw [bI_0, Bool.not_eq_false] at hc42 | rw [bI_0] at hc42 | rw [show (0 : Int32) = nI 0 from rfl, nI_eq (by omega) (by omega)] at hc42 | skip)
            refine v_iload_3 dX12_lendingOf_45 ?_
            refine v_iret dX12_lendingOf_46 rfl rfl rfl rfl ?_
            rw [← he, fup_t (by rw [hh, decide_eq_true hc17, hc42]; rfl)] at hQ
            exact hQ
  refine K.of (M := mX12_lendingOf) (lv := [some (.ref (b + a)), some (.int (nI m)), some (.int (nI d)), none]) (by decide) (Nat.le_of_ble_eq_true rfl) rfl ?_
  refine v_iconst (v := nI 0) dX12_lendingOf_0 (by decide) ?_
  refine v_istore_3 rfl dX12_lendingOf_1 ?_
  exact loop s.1 0 (by omega) rfl
theorem c_X12_maskOf {m d : Nat} (ha : SH a = .inr (0, 87)) (hS : StI I a 0 s) (hn : s.1 ≤ 20) (hok : ∀ i, i < s.1 → ok4 (s.2.1 i)) (hm : m < 2 ^ 31) (hd : d < 2 ^ 31) (hQ : Q (some (.int (eO ((fup (hitp s.2.1 m d d) 0 s.1).map (fun i => (s.2.1 i).1))))) SH I L R) : KK 1 mX12_maskOf b ad [.ref (b + a), .int (nI m), .int (nI d)] I L R Q := by
  have loop : ∀ (j i : Nat), i + j = s.1 → eO ((fup (hitp s.2.1 m d d) i j).map (fun i => (s.2.1 i).1)) = eO ((fup (hitp s.2.1 m d d) 0 s.1).map (fun i => (s.2.1 i).1)) → VV yX12_maskOf cX12_maskOf 4 (some .int) 1 Q b ad 2 [some (.ref (b + a)), some (.int (nI m)), some (.int (nI d)), some (.int (nI i))] [] I L R := by
    intro j
    induction j with
    | zero =>
      intro i hi he
      refine v_iload_3 dX12_maskOf_2 ?_
      refine v_aload_0 dX12_maskOf_3 ?_
      refine v_iconst (v := nI 0) dX12_maskOf_4 (by decide) ?_
      refine u_iald dX12_maskOf_5 (by first | assumption | rfl | exact led_1 (by assumption) | exact led_2 (by assumption) | exact bk_m (by assumption) (by first | assumption | omega) | exact bk_p (by assumption) (by first | assumption | omega) | exact bk_o (by assumption) (by first | assumption | omega) | exact bk_s (by assumption) (by first | assumption | omega) | exact bk_1 (by assumption) | exact bk_2 (by assumption) | exact bk_3 (by assumption) | exact bk_4 (by assumption) | exact bk_5 (by assumption) | exact bk_6 (by assumption) | exact bk_7 (by assumption) | exact bk_8 (by assumption) | exact sh_ring _ (by first | assumption | omega) | exact sh_imgs _ (by first | assumption | omega)) (by first | with_reducible rfl | (simp only [nlit, nI_add, pk_mul]; with_reducible rfl) | rfl) (by first | assumption | omega) (by first | assumption | decide) ?_
      rw [hS.1]
      refine v_icmp_ge (tgt := 61) dX12_maskOf_6 (by decide) (fun hc6 => ?_) (fun hc6 => ?_)
      · (try rw [nI_leI (by omega) (by omega)] at hc6)
        refine v_iconst (v := -1) dX12_maskOf_61 (by decide) ?_
        refine v_iret dX12_maskOf_62 rfl rfl rfl rfl ?_
        rw [← he] at hQ
        exact hQ
      · exact absurd (nI_le (by omega) (by omega)) hc6
    | succ j ih =>
      intro i hij he
      have hi : i < s.1 := by omega
      obtain ⟨z1, z2, z3, z4, z5⟩ := hok i hi
      have hh : hitp s.2.1 m d d i = (decide ((s.2.1 i).2.1 = m) && (decide ((s.2.1 i).2.2.1 ≤ d) && decide (d ≤ (s.2.1 i).2.2.2))) := rfl
      refine v_iload_3 dX12_maskOf_2 ?_
      refine v_aload_0 dX12_maskOf_3 ?_
      refine v_iconst (v := nI 0) dX12_maskOf_4 (by decide) ?_
      refine u_iald dX12_maskOf_5 (by first | assumption | rfl | exact led_1 (by assumption) | exact led_2 (by assumption) | exact bk_m (by assumption) (by first | assumption | omega) | exact bk_p (by assumption) (by first | assumption | omega) | exact bk_o (by assumption) (by first | assumption | omega) | exact bk_s (by assumption) (by first | assumption | omega) | exact bk_1 (by assumption) | exact bk_2 (by assumption) | exact bk_3 (by assumption) | exact bk_4 (by assumption) | exact bk_5 (by assumption) | exact bk_6 (by assumption) | exact bk_7 (by assumption) | exact bk_8 (by assumption) | exact sh_ring _ (by first | assumption | omega) | exact sh_imgs _ (by first | assumption | omega)) (by first | with_reducible rfl | (simp only [nlit, nI_add, pk_mul]; with_reducible rfl) | rfl) (by first | assumption | omega) (by first | assumption | decide) ?_
      rw [hS.1]
      refine v_icmp_ge (tgt := 61) dX12_maskOf_6 (by decide) (fun hc6 => ?_) (fun hc6 => ?_)
      · exact absurd hc6 (nI_ge (by omega) (by omega))
      · (try rw [nI_leI (by omega) (by omega)] at hc6)
        refine v_aload_0 dX12_maskOf_9 ?_
        refine v_iconst (v := nI 1) dX12_maskOf_10 (by decide) ?_
        refine v_iconst (v := nI 4) dX12_maskOf_11 (by decide) ?_
        refine v_iload_3 dX12_maskOf_12 ?_
        refine v_imul dX12_maskOf_13 ?_
        refine v_iadd dX12_maskOf_14 ?_
        refine v_iconst (v := nI 1) dX12_maskOf_15 (by decide) ?_
        refine v_iadd dX12_maskOf_16 ?_
        refine u_iald dX12_maskOf_17 (by first | assumption | rfl | exact led_1 (by assumption) | exact led_2 (by assumption) | exact bk_m (by assumption) (by first | assumption | omega) | exact bk_p (by assumption) (by first | assumption | omega) | exact bk_o (by assumption) (by first | assumption | omega) | exact bk_s (by assumption) (by first | assumption | omega) | exact bk_1 (by assumption) | exact bk_2 (by assumption) | exact bk_3 (by assumption) | exact bk_4 (by assumption) | exact bk_5 (by assumption) | exact bk_6 (by assumption) | exact bk_7 (by assumption) | exact bk_8 (by assumption) | exact sh_ring _ (by first | assumption | omega) | exact sh_imgs _ (by first | assumption | omega)) (by first | with_reducible rfl | (simp only [nlit, nI_add, pk_mul]; with_reducible rfl) | rfl) (by first | assumption | omega) (by first | assumption | decide) ?_
        rw [hS.p hi (by omega)]
        refine v_iload_1 dX12_maskOf_18 ?_
        refine v_icmp_ne (tgt := 55) dX12_maskOf_19 (by decide) (fun hc19 => ?_) (fun hc19 => ?_)
        · (try rw [nI_eq (by omega) (by omega)] at hc19)
          refine v_iinc_3 (v := 1) rfl dX12_maskOf_55 (by decide) ?_
          rw [show nI i + 1 = nI (i + 1) from nI_1 i]
          refine v_goto (tgt := 2) dX12_maskOf_58 (by decide) ?_
          refine ih (i + 1) (by omega) ?_
          rw [← he, fup_f (by rw [hh]; first | (rw [decide_eq_false hc19]; rfl) | (rw [hc44, Bool.and_false]))]
        · (try rw [nI_eq (by omega) (by omega)] at hc19)
          refine v_iload_2 dX12_maskOf_22 ?_
          refine v_aload_0 dX12_maskOf_23 ?_
          refine v_iconst (v := nI 1) dX12_maskOf_24 (by decide) ?_
          refine v_iconst (v := nI 4) dX12_maskOf_25 (by decide) ?_
          refine v_iload_3 dX12_maskOf_26 ?_
          refine v_imul dX12_maskOf_27 ?_
          refine v_iadd dX12_maskOf_28 ?_
          refine v_iconst (v := nI 2) dX12_maskOf_29 (by decide) ?_
          refine v_iadd dX12_maskOf_30 ?_
          refine u_iald dX12_maskOf_31 (by first | assumption | rfl | exact led_1 (by assumption) | exact led_2 (by assumption) | exact bk_m (by assumption) (by first | assumption | omega) | exact bk_p (by assumption) (by first | assumption | omega) | exact bk_o (by assumption) (by first | assumption | omega) | exact bk_s (by assumption) (by first | assumption | omega) | exact bk_1 (by assumption) | exact bk_2 (by assumption) | exact bk_3 (by assumption) | exact bk_4 (by assumption) | exact bk_5 (by assumption) | exact bk_6 (by assumption) | exact bk_7 (by assumption) | exact bk_8 (by assumption) | exact sh_ring _ (by first | assumption | omega) | exact sh_imgs _ (by first | assumption | omega)) (by first | with_reducible rfl | (simp only [nlit, nI_add, pk_mul]; with_reducible rfl) | rfl) (by first | assumption | omega) (by first | assumption | decide) ?_
          rw [hS.f hi (by omega)]
          refine v_aload_0 dX12_maskOf_32 ?_
          refine v_iconst (v := nI 1) dX12_maskOf_33 (by decide) ?_
          refine v_iconst (v := nI 4) dX12_maskOf_34 (by decide) ?_
          refine v_iload_3 dX12_maskOf_35 ?_
          refine v_imul dX12_maskOf_36 ?_
          refine v_iadd dX12_maskOf_37 ?_
          refine v_iconst (v := nI 3) dX12_maskOf_38 (by decide) ?_
          refine v_iadd dX12_maskOf_39 ?_
          refine u_iald dX12_maskOf_40 (by first | assumption | rfl | exact led_1 (by assumption) | exact led_2 (by assumption) | exact bk_m (by assumption) (by first | assumption | omega) | exact bk_p (by assumption) (by first | assumption | omega) | exact bk_o (by assumption) (by first | assumption | omega) | exact bk_s (by assumption) (by first | assumption | omega) | exact bk_1 (by assumption) | exact bk_2 (by assumption) | exact bk_3 (by assumption) | exact bk_4 (by assumption) | exact bk_5 (by assumption) | exact bk_6 (by assumption) | exact bk_7 (by assumption) | exact bk_8 (by assumption) | exact sh_ring _ (by first | assumption | omega) | exact sh_imgs _ (by first | assumption | omega)) (by first | with_reducible rfl | (simp only [nlit, nI_add, pk_mul]; with_reducible rfl) | rfl) (by first | assumption | omega) (by first | assumption | decide) ?_
          rw [hS.u hi (by omega)]
          refine u_callS_3 dX12_maskOf_41 ml_X12_154 ms_X12_within (by decide) (Nat.le_of_ble_eq_true rfl) (c_X12_within ?_)
          rw [decide_eq_decide.mpr (nI_leI (a := (s.2.1 i).2.2.1) (b := d) (by omega) (by omega)), decide_eq_decide.mpr (nI_leI (a := d) (b := (s.2.1 i).2.2.2) (by omega) (by omega))]
          refine v_if_eq (tgt := 55) dX12_maskOf_44 (by decide) (fun hc44 => ?_) (fun hc44 => ?_)
          · (first | rw [bI_0, Bool.not_eq_false] at hc44 | rw [bI_0] at hc44 | rw [show (0 : Int32) = nI 0 from rfl, nI_eq (by omega) (by omega)] at hc44 | skip)
            refine v_iinc_3 (v := 1) rfl dX12_maskOf_55 (by decide) ?_
            rw [show nI i + 1 = nI (i + 1) from nI_1 i]
            refine v_goto (tgt := 2) dX12_maskOf_58 (by decide) ?_
            refine ih (i + 1) (by omega) ?_
            rw [← he, fup_f (by rw [hh]; first | (rw [decide_eq_false hc19]; rfl) | (rw [hc44, Bool.and_false]))]
          · (first | rw [bI_0, Bool.not_eq_false] at hc44 | rw [bI_0] at hc44 | rw [show (0 : Int32) = nI 0 from rfl, nI_eq (by omega) (by omega)] at hc44 | skip)
            refine v_aload_0 dX12_maskOf_47 ?_
            refine v_iconst (v := nI 1) dX12_maskOf_48 (by decide) ?_
            refine v_iconst (v := nI 4) dX12_maskOf_49 (by decide) ?_
            refine v_iload_3 dX12_maskOf_50 ?_
            refine v_imul dX12_maskOf_51 ?_
            refine v_iadd dX12_maskOf_52 ?_
            refine u_iald dX12_maskOf_53 (by first | assumption | rfl | exact led_1 (by assumption) | exact led_2 (by assumption) | exact bk_m (by assumption) (by first | assumption | omega) | exact bk_p (by assumption) (by first | assumption | omega) | exact bk_o (by assumption) (by first | assumption | omega) | exact bk_s (by assumption) (by first | assumption | omega) | exact bk_1 (by assumption) | exact bk_2 (by assumption) | exact bk_3 (by assumption) | exact bk_4 (by assumption) | exact bk_5 (by assumption) | exact bk_6 (by assumption) | exact bk_7 (by assumption) | exact bk_8 (by assumption) | exact sh_ring _ (by first | assumption | omega) | exact sh_imgs _ (by first | assumption | omega)) (by first | with_reducible rfl | (simp only [nlit, nI_add, pk_mul]; with_reducible rfl) | rfl) (by first | assumption | omega) (by first | assumption | decide) ?_
            rw [hS.m hi (by omega)]
            refine v_iret dX12_maskOf_54 rfl rfl rfl rfl ?_
            rw [← he, fup_t (by rw [hh, decide_eq_true hc19, hc44]; rfl)] at hQ
            exact hQ
  refine K.of (M := mX12_maskOf) (lv := [some (.ref (b + a)), some (.int (nI m)), some (.int (nI d)), none]) (by decide) (Nat.le_of_ble_eq_true rfl) rfl ?_
  refine v_iconst (v := nI 0) dX12_maskOf_0 (by decide) ?_
  refine v_istore_3 rfl dX12_maskOf_1 ?_
  exact loop s.1 0 (by omega) rfl
end
