theorem dX10_look_0 : decode cX10_look 0 = .ok (.aload_n 0, 1) := by decide +kernel
theorem dX10_look_1 : decode cX10_look 1 = .ok (.aload_n 1, 1) := by decide +kernel
theorem dX10_look_2 : decode cX10_look 2 = .ok (.putfield 31, 3) := by decide +kernel
theorem dX10_look_5 : decode cX10_look 5 = .ok (.aload_n 0, 1) := by decide +kernel
theorem dX10_look_6 : decode cX10_look 6 = .ok (.aload_n 2, 1) := by decide +kernel
theorem dX10_look_7 : decode cX10_look 7 = .ok (.iload_n 3, 1) := by decide +kernel
theorem dX10_look_8 : decode cX10_look 8 = .ok (.invokevirtual 35, 3) := by decide +kernel
theorem dX10_look_11 : decode cX10_look 11 = .ok (.aload_n 0, 1) := by decide +kernel
theorem dX10_look_12 : decode cX10_look 12 = .ok (.bipush (-2), 2) := by decide +kernel
theorem dX10_look_14 : decode cX10_look 14 = .ok (.putfield 39, 3) := by decide +kernel
theorem dX10_look_17 : decode cX10_look 17 = .ok (.bipush 9, 2) := by decide +kernel
theorem dX10_look_19 : decode cX10_look 19 = .ok (.istore 4, 2) := by decide +kernel
theorem dX10_look_21 : decode cX10_look 21 = .ok (.iconst 0, 1) := by decide +kernel
theorem dX10_look_22 : decode cX10_look 22 = .ok (.istore 5, 2) := by decide +kernel
theorem dX10_look_24 : decode cX10_look 24 = .ok (.iload 5, 2) := by decide +kernel
theorem dX10_look_26 : decode cX10_look 26 = .ok (.iconst 1, 1) := by decide +kernel
theorem dX10_look_27 : decode cX10_look 27 = .ok (.aload_n 0, 1) := by decide +kernel
theorem dX10_look_28 : decode cX10_look 28 = .ok (.getfield 31, 3) := by decide +kernel
theorem dX10_look_31 : decode cX10_look 31 = .ok (.getfield 43, 3) := by decide +kernel
theorem dX10_look_34 : decode cX10_look 34 = .ok (.ishl, 1) := by decide +kernel
theorem dX10_look_35 : decode cX10_look 35 = .ok (.if_icmp .ge 53, 3) := by decide +kernel
theorem dX10_look_38 : decode cX10_look 38 = .ok (.iload 5, 2) := by decide +kernel
theorem dX10_look_40 : decode cX10_look 40 = .ok (.aload_n 0, 1) := by decide +kernel
theorem dX10_look_41 : decode cX10_look 41 = .ok (.getfield 48, 3) := by decide +kernel
theorem dX10_look_44 : decode cX10_look 44 = .ok (.iconst (-1), 1) := by decide +kernel
theorem dX10_look_45 : decode cX10_look 45 = .ok (.ixor, 1) := by decide +kernel
theorem dX10_look_46 : decode cX10_look 46 = .ok (.iand, 1) := by decide +kernel
theorem dX10_look_47 : decode cX10_look 47 = .ok (.ifCond .ne 35, 3) := by decide +kernel
theorem dX10_look_50 : decode cX10_look 50 = .ok (.iload 5, 2) := by decide +kernel
theorem dX10_look_52 : decode cX10_look 52 = .ok (.invokestatic 51, 3) := by decide +kernel
theorem dX10_look_55 : decode cX10_look 55 = .ok (.iload 4, 2) := by decide +kernel
theorem dX10_look_57 : decode cX10_look 57 = .ok (.if_icmp .ge 25, 3) := by decide +kernel
theorem dX10_look_60 : decode cX10_look 60 = .ok (.aload_n 0, 1) := by decide +kernel
theorem dX10_look_61 : decode cX10_look 61 = .ok (.iload 5, 2) := by decide +kernel
theorem dX10_look_63 : decode cX10_look 63 = .ok (.invokevirtual 57, 3) := by decide +kernel
theorem dX10_look_66 : decode cX10_look 66 = .ok (.ifCond .eq 16, 3) := by decide +kernel
theorem dX10_look_69 : decode cX10_look 69 = .ok (.aload_n 0, 1) := by decide +kernel
theorem dX10_look_70 : decode cX10_look 70 = .ok (.iload 5, 2) := by decide +kernel
theorem dX10_look_72 : decode cX10_look 72 = .ok (.putfield 39, 3) := by decide +kernel
theorem dX10_look_75 : decode cX10_look 75 = .ok (.iload 5, 2) := by decide +kernel
theorem dX10_look_77 : decode cX10_look 77 = .ok (.invokestatic 51, 3) := by decide +kernel
theorem dX10_look_80 : decode cX10_look 80 = .ok (.istore 4, 2) := by decide +kernel
theorem dX10_look_82 : decode cX10_look 82 = .ok (.iinc 5 1, 3) := by decide +kernel
theorem dX10_look_85 : decode cX10_look 85 = .ok (.goto (-61), 3) := by decide +kernel
theorem dX10_look_88 : decode cX10_look 88 = .ok (.aload_n 0, 1) := by decide +kernel
theorem dX10_look_89 : decode cX10_look 89 = .ok (.getfield 39, 3) := by decide +kernel
theorem dX10_look_92 : decode cX10_look 92 = .ok (.ifCond .lt 18, 3) := by decide +kernel
theorem dX10_look_95 : decode cX10_look 95 = .ok (.aload_n 0, 1) := by decide +kernel
theorem dX10_look_96 : decode cX10_look 96 = .ok (.aload_n 0, 1) := by decide +kernel
theorem dX10_look_97 : decode cX10_look 97 = .ok (.getfield 48, 3) := by decide +kernel
theorem dX10_look_100 : decode cX10_look 100 = .ok (.aload_n 0, 1) := by decide +kernel
theorem dX10_look_101 : decode cX10_look 101 = .ok (.getfield 39, 3) := by decide +kernel
theorem dX10_look_104 : decode cX10_look 104 = .ok (.iconst (-1), 1) := by decide +kernel
theorem dX10_look_105 : decode cX10_look 105 = .ok (.ixor, 1) := by decide +kernel
theorem dX10_look_106 : decode cX10_look 106 = .ok (.iand, 1) := by decide +kernel
theorem dX10_look_107 : decode cX10_look 107 = .ok (.invokevirtual 61, 3) := by decide +kernel
theorem dX10_look_110 : decode cX10_look 110 = .ok (.return_, 1) := by decide +kernel
theorem dX10_note_0 : decode cX10_note 0 = .ok (.iconst 0, 1) := by decide +kernel
theorem dX10_note_1 : decode cX10_note 1 = .ok (.istore_n 3, 1) := by decide +kernel
theorem dX10_note_2 : decode cX10_note 2 = .ok (.iload_n 3, 1) := by decide +kernel
theorem dX10_note_3 : decode cX10_note 3 = .ok (.aload_n 0, 1) := by decide +kernel
theorem dX10_note_4 : decode cX10_note 4 = .ok (.getfield 31, 3) := by decide +kernel
theorem dX10_note_7 : decode cX10_note 7 = .ok (.getfield 65, 3) := by decide +kernel
theorem dX10_note_10 : decode cX10_note 10 = .ok (.if_icmp .ge 52, 3) := by decide +kernel
theorem dX10_note_13 : decode cX10_note 13 = .ok (.aload_n 0, 1) := by decide +kernel
theorem dX10_note_14 : decode cX10_note 14 = .ok (.getfield 9, 3) := by decide +kernel
theorem dX10_note_17 : decode cX10_note 17 = .ok (.iload_n 3, 1) := by decide +kernel
theorem dX10_note_18 : decode cX10_note 18 = .ok (.aload_n 1, 1) := by decide +kernel
theorem dX10_note_19 : decode cX10_note 19 = .ok (.iload_n 3, 1) := by decide +kernel
theorem dX10_note_20 : decode cX10_note 20 = .ok (.iload_n 2, 1) := by decide +kernel
theorem dX10_note_21 : decode cX10_note 21 = .ok (.invokevirtual 68, 3) := by decide +kernel
theorem dX10_note_24 : decode cX10_note 24 = .ok (.iastore, 1) := by decide +kernel
theorem dX10_note_25 : decode cX10_note 25 = .ok (.aload_n 0, 1) := by decide +kernel
theorem dX10_note_26 : decode cX10_note 26 = .ok (.getfield 15, 3) := by decide +kernel
theorem dX10_note_29 : decode cX10_note 29 = .ok (.iload_n 3, 1) := by decide +kernel
theorem dX10_note_30 : decode cX10_note 30 = .ok (.aload_n 0, 1) := by decide +kernel
theorem dX10_note_31 : decode cX10_note 31 = .ok (.getfield 9, 3) := by decide +kernel
theorem dX10_note_34 : decode cX10_note 34 = .ok (.iload_n 3, 1) := by decide +kernel
theorem dX10_note_35 : decode cX10_note 35 = .ok (.iaload, 1) := by decide +kernel
theorem dX10_note_36 : decode cX10_note 36 = .ok (.ifCond .ge 11, 3) := by decide +kernel
theorem dX10_note_39 : decode cX10_note 39 = .ok (.aload_n 0, 1) := by decide +kernel
theorem dX10_note_40 : decode cX10_note 40 = .ok (.iload_n 3, 1) := by decide +kernel
theorem dX10_note_41 : decode cX10_note 41 = .ok (.invokevirtual 74, 3) := by decide +kernel
theorem dX10_note_44 : decode cX10_note 44 = .ok (.goto 11, 3) := by decide +kernel
theorem dX10_note_47 : decode cX10_note 47 = .ok (.iconst 1, 1) := by decide +kernel
theorem dX10_note_48 : decode cX10_note 48 = .ok (.aload_n 0, 1) := by decide +kernel
theorem dX10_note_49 : decode cX10_note 49 = .ok (.getfield 9, 3) := by decide +kernel
theorem dX10_note_52 : decode cX10_note 52 = .ok (.iload_n 3, 1) := by decide +kernel
theorem dX10_note_53 : decode cX10_note 53 = .ok (.iaload, 1) := by decide +kernel
theorem dX10_note_54 : decode cX10_note 54 = .ok (.ishl, 1) := by decide +kernel
theorem dX10_note_55 : decode cX10_note 55 = .ok (.iastore, 1) := by decide +kernel
theorem dX10_note_56 : decode cX10_note 56 = .ok (.iinc 3 1, 3) := by decide +kernel
theorem dX10_note_59 : decode cX10_note 59 = .ok (.goto (-57), 3) := by decide +kernel
theorem dX10_note_62 : decode cX10_note 62 = .ok (.aload_n 0, 1) := by decide +kernel
theorem dX10_note_63 : decode cX10_note 63 = .ok (.iconst 0, 1) := by decide +kernel
theorem dX10_note_64 : decode cX10_note 64 = .ok (.putfield 48, 3) := by decide +kernel
theorem dX10_note_67 : decode cX10_note 67 = .ok (.iconst 0, 1) := by decide +kernel
theorem dX10_note_68 : decode cX10_note 68 = .ok (.istore_n 3, 1) := by decide +kernel
theorem dX10_note_69 : decode cX10_note 69 = .ok (.iload_n 3, 1) := by decide +kernel
theorem dX10_note_70 : decode cX10_note 70 = .ok (.aload_n 0, 1) := by decide +kernel
theorem dX10_note_71 : decode cX10_note 71 = .ok (.getfield 31, 3) := by decide +kernel
theorem dX10_note_74 : decode cX10_note 74 = .ok (.getfield 43, 3) := by decide +kernel
theorem dX10_note_77 : decode cX10_note 77 = .ok (.if_icmp .ge 56, 3) := by decide +kernel
theorem dX10_note_80 : decode cX10_note 80 = .ok (.aload_n 0, 1) := by decide +kernel
theorem dX10_note_81 : decode cX10_note 81 = .ok (.getfield 31, 3) := by decide +kernel
theorem dX10_note_84 : decode cX10_note 84 = .ok (.getfield 77, 3) := by decide +kernel
theorem dX10_note_87 : decode cX10_note 87 = .ok (.iload_n 3, 1) := by decide +kernel
theorem dX10_note_88 : decode cX10_note 88 = .ok (.aaload, 1) := by decide +kernel
theorem dX10_note_89 : decode cX10_note 89 = .ok (.getfield 81, 3) := by decide +kernel
theorem dX10_note_92 : decode cX10_note 92 = .ok (.iload_n 2, 1) := by decide +kernel
theorem dX10_note_93 : decode cX10_note 93 = .ok (.if_icmp .ne 34, 3) := by decide +kernel
theorem dX10_note_96 : decode cX10_note 96 = .ok (.aload_n 0, 1) := by decide +kernel
theorem dX10_note_97 : decode cX10_note 97 = .ok (.dup, 1) := by decide +kernel
theorem dX10_note_98 : decode cX10_note 98 = .ok (.getfield 48, 3) := by decide +kernel
theorem dX10_note_101 : decode cX10_note 101 = .ok (.iconst 1, 1) := by decide +kernel
theorem dX10_note_102 : decode cX10_note 102 = .ok (.iload_n 3, 1) := by decide +kernel
theorem dX10_note_103 : decode cX10_note 103 = .ok (.ishl, 1) := by decide +kernel
theorem dX10_note_104 : decode cX10_note 104 = .ok (.ior, 1) := by decide +kernel
theorem dX10_note_105 : decode cX10_note 105 = .ok (.putfield 48, 3) := by decide +kernel
theorem dX10_note_108 : decode cX10_note 108 = .ok (.aload_n 0, 1) := by decide +kernel
theorem dX10_note_109 : decode cX10_note 109 = .ok (.getfield 18, 3) := by decide +kernel
theorem dX10_note_112 : decode cX10_note 112 = .ok (.iload_n 3, 1) := by decide +kernel
theorem dX10_note_113 : decode cX10_note 113 = .ok (.aload_n 0, 1) := by decide +kernel
theorem dX10_note_114 : decode cX10_note 114 = .ok (.aload_n 0, 1) := by decide +kernel
theorem dX10_note_115 : decode cX10_note 115 = .ok (.getfield 31, 3) := by decide +kernel
theorem dX10_note_118 : decode cX10_note 118 = .ok (.getfield 77, 3) := by decide +kernel
theorem dX10_note_121 : decode cX10_note 121 = .ok (.iload_n 3, 1) := by decide +kernel
theorem dX10_note_122 : decode cX10_note 122 = .ok (.aaload, 1) := by decide +kernel
theorem dX10_note_123 : decode cX10_note 123 = .ok (.invokevirtual 86, 3) := by decide +kernel
theorem dX10_note_126 : decode cX10_note 126 = .ok (.iastore, 1) := by decide +kernel
theorem dX10_note_127 : decode cX10_note 127 = .ok (.iinc 3 1, 3) := by decide +kernel
theorem dX10_note_130 : decode cX10_note 130 = .ok (.goto (-61), 3) := by decide +kernel
theorem dX10_note_133 : decode cX10_note 133 = .ok (.return_, 1) := by decide +kernel
theorem dX10_personsLike_0 : decode cX10_personsLike 0 = .ok (.iconst 0, 1) := by decide +kernel
theorem dX10_personsLike_1 : decode cX10_personsLike 1 = .ok (.istore_n 2, 1) := by decide +kernel
theorem dX10_personsLike_2 : decode cX10_personsLike 2 = .ok (.iconst 0, 1) := by decide +kernel
theorem dX10_personsLike_3 : decode cX10_personsLike 3 = .ok (.istore_n 3, 1) := by decide +kernel
theorem dX10_personsLike_4 : decode cX10_personsLike 4 = .ok (.iload_n 3, 1) := by decide +kernel
theorem dX10_personsLike_5 : decode cX10_personsLike 5 = .ok (.aload_n 0, 1) := by decide +kernel
theorem dX10_personsLike_6 : decode cX10_personsLike 6 = .ok (.getfield 31, 3) := by decide +kernel
theorem dX10_personsLike_9 : decode cX10_personsLike 9 = .ok (.getfield 90, 3) := by decide +kernel
theorem dX10_personsLike_12 : decode cX10_personsLike 12 = .ok (.if_icmp .ge 31, 3) := by decide +kernel
theorem dX10_personsLike_15 : decode cX10_personsLike 15 = .ok (.aload_n 1, 1) := by decide +kernel
theorem dX10_personsLike_16 : decode cX10_personsLike 16 = .ok (.aload_n 0, 1) := by decide +kernel
theorem dX10_personsLike_17 : decode cX10_personsLike 17 = .ok (.getfield 31, 3) := by decide +kernel
theorem dX10_personsLike_20 : decode cX10_personsLike 20 = .ok (.getfield 93, 3) := by decide +kernel
theorem dX10_personsLike_23 : decode cX10_personsLike 23 = .ok (.iload_n 3, 1) := by decide +kernel
theorem dX10_personsLike_24 : decode cX10_personsLike 24 = .ok (.aaload, 1) := by decide +kernel
theorem dX10_personsLike_25 : decode cX10_personsLike 25 = .ok (.invokevirtual 97, 3) := by decide +kernel
theorem dX10_personsLike_28 : decode cX10_personsLike 28 = .ok (.ifCond .eq 9, 3) := by decide +kernel
theorem dX10_personsLike_31 : decode cX10_personsLike 31 = .ok (.iload_n 2, 1) := by decide +kernel
theorem dX10_personsLike_32 : decode cX10_personsLike 32 = .ok (.iconst 1, 1) := by decide +kernel
theorem dX10_personsLike_33 : decode cX10_personsLike 33 = .ok (.iload_n 3, 1) := by decide +kernel
theorem dX10_personsLike_34 : decode cX10_personsLike 34 = .ok (.ishl, 1) := by decide +kernel
theorem dX10_personsLike_35 : decode cX10_personsLike 35 = .ok (.ior, 1) := by decide +kernel
theorem dX10_personsLike_36 : decode cX10_personsLike 36 = .ok (.istore_n 2, 1) := by decide +kernel
theorem dX10_personsLike_37 : decode cX10_personsLike 37 = .ok (.iinc 3 1, 3) := by decide +kernel
theorem dX10_personsLike_40 : decode cX10_personsLike 40 = .ok (.goto (-36), 3) := by decide +kernel
theorem dX10_personsLike_43 : decode cX10_personsLike 43 = .ok (.iload_n 2, 1) := by decide +kernel
theorem dX10_personsLike_44 : decode cX10_personsLike 44 = .ok (.ireturn, 1) := by decide +kernel
theorem dX10_holdsWithout_0 : decode cX10_holdsWithout 0 = .ok (.aload_n 0, 1) := by decide +kernel
theorem dX10_holdsWithout_1 : decode cX10_holdsWithout 1 = .ok (.getfield 48, 3) := by decide +kernel
theorem dX10_holdsWithout_4 : decode cX10_holdsWithout 4 = .ok (.iload_n 1, 1) := by decide +kernel
theorem dX10_holdsWithout_5 : decode cX10_holdsWithout 5 = .ok (.iconst (-1), 1) := by decide +kernel
theorem dX10_holdsWithout_6 : decode cX10_holdsWithout 6 = .ok (.ixor, 1) := by decide +kernel
theorem dX10_holdsWithout_7 : decode cX10_holdsWithout 7 = .ok (.iand, 1) := by decide +kernel
theorem dX10_holdsWithout_8 : decode cX10_holdsWithout 8 = .ok (.istore_n 2, 1) := by decide +kernel
theorem dX10_holdsWithout_9 : decode cX10_holdsWithout 9 = .ok (.aload_n 0, 1) := by decide +kernel
theorem dX10_holdsWithout_10 : decode cX10_holdsWithout 10 = .ok (.iload_n 2, 1) := by decide +kernel
theorem dX10_holdsWithout_11 : decode cX10_holdsWithout 11 = .ok (.invokevirtual 101, 3) := by decide +kernel
theorem dX10_holdsWithout_14 : decode cX10_holdsWithout 14 = .ok (.ifCond .eq 5, 3) := by decide +kernel
theorem dX10_holdsWithout_17 : decode cX10_holdsWithout 17 = .ok (.iconst 0, 1) := by decide +kernel
theorem dX10_holdsWithout_18 : decode cX10_holdsWithout 18 = .ok (.ireturn, 1) := by decide +kernel
theorem dX10_holdsWithout_19 : decode cX10_holdsWithout 19 = .ok (.aload_n 0, 1) := by decide +kernel
theorem dX10_holdsWithout_20 : decode cX10_holdsWithout 20 = .ok (.iload_n 2, 1) := by decide +kernel
theorem dX10_holdsWithout_21 : decode cX10_holdsWithout 21 = .ok (.invokevirtual 61, 3) := by decide +kernel
theorem dX10_holdsWithout_24 : decode cX10_holdsWithout 24 = .ok (.aload_n 0, 1) := by decide +kernel
theorem dX10_holdsWithout_25 : decode cX10_holdsWithout 25 = .ok (.iconst 0, 1) := by decide +kernel
theorem dX10_holdsWithout_26 : decode cX10_holdsWithout 26 = .ok (.iconst 0, 1) := by decide +kernel
theorem dX10_holdsWithout_27 : decode cX10_holdsWithout 27 = .ok (.invokevirtual 104, 3) := by decide +kernel
theorem dX10_holdsWithout_30 : decode cX10_holdsWithout 30 = .ok (.ifCond .le 7, 3) := by decide +kernel
theorem dX10_holdsWithout_33 : decode cX10_holdsWithout 33 = .ok (.iconst 1, 1) := by decide +kernel
theorem dX10_holdsWithout_34 : decode cX10_holdsWithout 34 = .ok (.goto 4, 3) := by decide +kernel
theorem dX10_holdsWithout_37 : decode cX10_holdsWithout 37 = .ok (.iconst 0, 1) := by decide +kernel
theorem dX10_holdsWithout_38 : decode cX10_holdsWithout 38 = .ok (.ireturn, 1) := by decide +kernel
theorem dX10_isTwiceAtOnce_0 : decode cX10_isTwiceAtOnce 0 = .ok (.iconst 0, 1) := by decide +kernel
theorem dX10_isTwiceAtOnce_1 : decode cX10_isTwiceAtOnce 1 = .ok (.istore_n 2, 1) := by decide +kernel
theorem dX10_isTwiceAtOnce_2 : decode cX10_isTwiceAtOnce 2 = .ok (.iload_n 2, 1) := by decide +kernel
theorem dX10_isTwiceAtOnce_3 : decode cX10_isTwiceAtOnce 3 = .ok (.aload_n 0, 1) := by decide +kernel
theorem dX10_isTwiceAtOnce_4 : decode cX10_isTwiceAtOnce 4 = .ok (.getfield 31, 3) := by decide +kernel
theorem dX10_isTwiceAtOnce_7 : decode cX10_isTwiceAtOnce 7 = .ok (.getfield 43, 3) := by decide +kernel
theorem dX10_isTwiceAtOnce_10 : decode cX10_isTwiceAtOnce 10 = .ok (.if_icmp .ge 87, 3) := by decide +kernel
theorem dX10_isTwiceAtOnce_13 : decode cX10_isTwiceAtOnce 13 = .ok (.iconst 0, 1) := by decide +kernel
theorem dX10_isTwiceAtOnce_14 : decode cX10_isTwiceAtOnce 14 = .ok (.istore_n 3, 1) := by decide +kernel
theorem dX10_isTwiceAtOnce_15 : decode cX10_isTwiceAtOnce 15 = .ok (.iload_n 3, 1) := by decide +kernel
theorem dX10_isTwiceAtOnce_16 : decode cX10_isTwiceAtOnce 16 = .ok (.iload_n 2, 1) := by decide +kernel
theorem dX10_isTwiceAtOnce_17 : decode cX10_isTwiceAtOnce 17 = .ok (.if_icmp .ge 74, 3) := by decide +kernel
theorem dX10_isTwiceAtOnce_20 : decode cX10_isTwiceAtOnce 20 = .ok (.iload_n 1, 1) := by decide +kernel
theorem dX10_isTwiceAtOnce_21 : decode cX10_isTwiceAtOnce 21 = .ok (.iload_n 2, 1) := by decide +kernel
theorem dX10_isTwiceAtOnce_22 : decode cX10_isTwiceAtOnce 22 = .ok (.ishr, 1) := by decide +kernel
theorem dX10_isTwiceAtOnce_23 : decode cX10_isTwiceAtOnce 23 = .ok (.iload_n 1, 1) := by decide +kernel
theorem dX10_isTwiceAtOnce_24 : decode cX10_isTwiceAtOnce 24 = .ok (.iload_n 3, 1) := by decide +kernel
theorem dX10_isTwiceAtOnce_25 : decode cX10_isTwiceAtOnce 25 = .ok (.ishr, 1) := by decide +kernel
theorem dX10_isTwiceAtOnce_26 : decode cX10_isTwiceAtOnce 26 = .ok (.iand, 1) := by decide +kernel
theorem dX10_isTwiceAtOnce_27 : decode cX10_isTwiceAtOnce 27 = .ok (.iconst 1, 1) := by decide +kernel
theorem dX10_isTwiceAtOnce_28 : decode cX10_isTwiceAtOnce 28 = .ok (.iand, 1) := by decide +kernel
theorem dX10_isTwiceAtOnce_29 : decode cX10_isTwiceAtOnce 29 = .ok (.ifCond .eq 56, 3) := by decide +kernel
theorem dX10_isTwiceAtOnce_32 : decode cX10_isTwiceAtOnce 32 = .ok (.aload_n 0, 1) := by decide +kernel
theorem dX10_isTwiceAtOnce_33 : decode cX10_isTwiceAtOnce 33 = .ok (.getfield 31, 3) := by decide +kernel
theorem dX10_isTwiceAtOnce_36 : decode cX10_isTwiceAtOnce 36 = .ok (.getfield 77, 3) := by decide +kernel
theorem dX10_isTwiceAtOnce_39 : decode cX10_isTwiceAtOnce 39 = .ok (.iload_n 2, 1) := by decide +kernel
theorem dX10_isTwiceAtOnce_40 : decode cX10_isTwiceAtOnce 40 = .ok (.aaload, 1) := by decide +kernel
theorem dX10_isTwiceAtOnce_41 : decode cX10_isTwiceAtOnce 41 = .ok (.aload_n 0, 1) := by decide +kernel
theorem dX10_isTwiceAtOnce_42 : decode cX10_isTwiceAtOnce 42 = .ok (.getfield 31, 3) := by decide +kernel
theorem dX10_isTwiceAtOnce_45 : decode cX10_isTwiceAtOnce 45 = .ok (.getfield 77, 3) := by decide +kernel
theorem dX10_isTwiceAtOnce_48 : decode cX10_isTwiceAtOnce 48 = .ok (.iload_n 3, 1) := by decide +kernel
theorem dX10_isTwiceAtOnce_49 : decode cX10_isTwiceAtOnce 49 = .ok (.aaload, 1) := by decide +kernel
theorem dX10_isTwiceAtOnce_50 : decode cX10_isTwiceAtOnce 50 = .ok (.invokevirtual 107, 3) := by decide +kernel
theorem dX10_isTwiceAtOnce_53 : decode cX10_isTwiceAtOnce 53 = .ok (.ifCond .eq 32, 3) := by decide +kernel
theorem dX10_isTwiceAtOnce_56 : decode cX10_isTwiceAtOnce 56 = .ok (.aload_n 0, 1) := by decide +kernel
theorem dX10_isTwiceAtOnce_57 : decode cX10_isTwiceAtOnce 57 = .ok (.getfield 31, 3) := by decide +kernel
theorem dX10_isTwiceAtOnce_60 : decode cX10_isTwiceAtOnce 60 = .ok (.getfield 111, 3) := by decide +kernel
theorem dX10_isTwiceAtOnce_63 : decode cX10_isTwiceAtOnce 63 = .ok (.aload_n 0, 1) := by decide +kernel
theorem dX10_isTwiceAtOnce_64 : decode cX10_isTwiceAtOnce 64 = .ok (.getfield 31, 3) := by decide +kernel
theorem dX10_isTwiceAtOnce_67 : decode cX10_isTwiceAtOnce 67 = .ok (.getfield 77, 3) := by decide +kernel
theorem dX10_isTwiceAtOnce_70 : decode cX10_isTwiceAtOnce 70 = .ok (.iload_n 2, 1) := by decide +kernel
theorem dX10_isTwiceAtOnce_71 : decode cX10_isTwiceAtOnce 71 = .ok (.aaload, 1) := by decide +kernel
theorem dX10_isTwiceAtOnce_72 : decode cX10_isTwiceAtOnce 72 = .ok (.getfield 115, 3) := by decide +kernel
theorem dX10_isTwiceAtOnce_75 : decode cX10_isTwiceAtOnce 75 = .ok (.aaload, 1) := by decide +kernel
theorem dX10_isTwiceAtOnce_76 : decode cX10_isTwiceAtOnce 76 = .ok (.getfield 118, 3) := by decide +kernel
theorem dX10_isTwiceAtOnce_79 : decode cX10_isTwiceAtOnce 79 = .ok (.iconst 3, 1) := by decide +kernel
theorem dX10_isTwiceAtOnce_80 : decode cX10_isTwiceAtOnce 80 = .ok (.if_icmp .eq 5, 3) := by decide +kernel
theorem dX10_isTwiceAtOnce_83 : decode cX10_isTwiceAtOnce 83 = .ok (.iconst 1, 1) := by decide +kernel
theorem dX10_isTwiceAtOnce_84 : decode cX10_isTwiceAtOnce 84 = .ok (.ireturn, 1) := by decide +kernel
theorem dX10_isTwiceAtOnce_85 : decode cX10_isTwiceAtOnce 85 = .ok (.iinc 3 1, 3) := by decide +kernel
theorem dX10_isTwiceAtOnce_88 : decode cX10_isTwiceAtOnce 88 = .ok (.goto (-73), 3) := by decide +kernel
theorem dX10_isTwiceAtOnce_91 : decode cX10_isTwiceAtOnce 91 = .ok (.iinc 2 1, 3) := by decide +kernel
theorem dX10_isTwiceAtOnce_94 : decode cX10_isTwiceAtOnce 94 = .ok (.goto (-92), 3) := by decide +kernel
theorem dX10_isTwiceAtOnce_97 : decode cX10_isTwiceAtOnce 97 = .ok (.iconst 0, 1) := by decide +kernel
theorem dX10_isTwiceAtOnce_98 : decode cX10_isTwiceAtOnce 98 = .ok (.ireturn, 1) := by decide +kernel
theorem dX10_arrange_0 : decode cX10_arrange 0 = .ok (.iconst 0, 1) := by decide +kernel
theorem dX10_arrange_1 : decode cX10_arrange 1 = .ok (.istore_n 2, 1) := by decide +kernel
theorem dX10_arrange_2 : decode cX10_arrange 2 = .ok (.iload_n 2, 1) := by decide +kernel
theorem dX10_arrange_3 : decode cX10_arrange 3 = .ok (.aload_n 0, 1) := by decide +kernel
theorem dX10_arrange_4 : decode cX10_arrange 4 = .ok (.getfield 31, 3) := by decide +kernel
theorem dX10_arrange_7 : decode cX10_arrange 7 = .ok (.getfield 65, 3) := by decide +kernel
theorem dX10_arrange_10 : decode cX10_arrange 10 = .ok (.if_icmp .ge 41, 3) := by decide +kernel
theorem dX10_arrange_13 : decode cX10_arrange 13 = .ok (.aload_n 0, 1) := by decide +kernel
theorem dX10_arrange_14 : decode cX10_arrange 14 = .ok (.getfield 24, 3) := by decide +kernel
theorem dX10_arrange_17 : decode cX10_arrange 17 = .ok (.iload_n 2, 1) := by decide +kernel
theorem dX10_arrange_18 : decode cX10_arrange 18 = .ok (.aload_n 0, 1) := by decide +kernel
theorem dX10_arrange_19 : decode cX10_arrange 19 = .ok (.getfield 9, 3) := by decide +kernel
theorem dX10_arrange_22 : decode cX10_arrange 22 = .ok (.iload_n 2, 1) := by decide +kernel
theorem dX10_arrange_23 : decode cX10_arrange 23 = .ok (.iaload, 1) := by decide +kernel
theorem dX10_arrange_24 : decode cX10_arrange 24 = .ok (.ifCond .ge 7, 3) := by decide +kernel
theorem dX10_arrange_27 : decode cX10_arrange 27 = .ok (.iconst 1, 1) := by decide +kernel
theorem dX10_arrange_28 : decode cX10_arrange 28 = .ok (.goto 4, 3) := by decide +kernel
theorem dX10_arrange_31 : decode cX10_arrange 31 = .ok (.iconst 0, 1) := by decide +kernel
theorem dX10_arrange_32 : decode cX10_arrange 32 = .ok (.bastore, 1) := by decide +kernel
theorem dX10_arrange_33 : decode cX10_arrange 33 = .ok (.aload_n 0, 1) := by decide +kernel
theorem dX10_arrange_34 : decode cX10_arrange 34 = .ok (.getfield 21, 3) := by decide +kernel
theorem dX10_arrange_37 : decode cX10_arrange 37 = .ok (.iload_n 2, 1) := by decide +kernel
theorem dX10_arrange_38 : decode cX10_arrange 38 = .ok (.aload_n 0, 1) := by decide +kernel
theorem dX10_arrange_39 : decode cX10_arrange 39 = .ok (.getfield 15, 3) := by decide +kernel
theorem dX10_arrange_42 : decode cX10_arrange 42 = .ok (.iload_n 2, 1) := by decide +kernel
theorem dX10_arrange_43 : decode cX10_arrange 43 = .ok (.iaload, 1) := by decide +kernel
theorem dX10_arrange_44 : decode cX10_arrange 44 = .ok (.iastore, 1) := by decide +kernel
theorem dX10_arrange_45 : decode cX10_arrange 45 = .ok (.iinc 2 1, 3) := by decide +kernel
theorem dX10_arrange_48 : decode cX10_arrange 48 = .ok (.goto (-46), 3) := by decide +kernel
theorem dX10_arrange_51 : decode cX10_arrange 51 = .ok (.iconst 0, 1) := by decide +kernel
theorem dX10_arrange_52 : decode cX10_arrange 52 = .ok (.istore_n 2, 1) := by decide +kernel
theorem dX10_arrange_53 : decode cX10_arrange 53 = .ok (.iload_n 2, 1) := by decide +kernel
theorem dX10_arrange_54 : decode cX10_arrange 54 = .ok (.aload_n 0, 1) := by decide +kernel
theorem dX10_arrange_55 : decode cX10_arrange 55 = .ok (.getfield 31, 3) := by decide +kernel
theorem dX10_arrange_58 : decode cX10_arrange 58 = .ok (.getfield 43, 3) := by decide +kernel
theorem dX10_arrange_61 : decode cX10_arrange 61 = .ok (.if_icmp .ge 61, 3) := by decide +kernel
theorem dX10_arrange_64 : decode cX10_arrange 64 = .ok (.iload_n 1, 1) := by decide +kernel
theorem dX10_arrange_65 : decode cX10_arrange 65 = .ok (.iload_n 2, 1) := by decide +kernel
theorem dX10_arrange_66 : decode cX10_arrange 66 = .ok (.ishr, 1) := by decide +kernel
theorem dX10_arrange_67 : decode cX10_arrange 67 = .ok (.iconst 1, 1) := by decide +kernel
theorem dX10_arrange_68 : decode cX10_arrange 68 = .ok (.iand, 1) := by decide +kernel
theorem dX10_arrange_69 : decode cX10_arrange 69 = .ok (.ifCond .eq 47, 3) := by decide +kernel
theorem dX10_arrange_72 : decode cX10_arrange 72 = .ok (.aload_n 0, 1) := by decide +kernel
theorem dX10_arrange_73 : decode cX10_arrange 73 = .ok (.getfield 24, 3) := by decide +kernel
theorem dX10_arrange_76 : decode cX10_arrange 76 = .ok (.aload_n 0, 1) := by decide +kernel
theorem dX10_arrange_77 : decode cX10_arrange 77 = .ok (.getfield 31, 3) := by decide +kernel
theorem dX10_arrange_80 : decode cX10_arrange 80 = .ok (.getfield 77, 3) := by decide +kernel
theorem dX10_arrange_83 : decode cX10_arrange 83 = .ok (.iload_n 2, 1) := by decide +kernel
theorem dX10_arrange_84 : decode cX10_arrange 84 = .ok (.aaload, 1) := by decide +kernel
theorem dX10_arrange_85 : decode cX10_arrange 85 = .ok (.getfield 115, 3) := by decide +kernel
theorem dX10_arrange_88 : decode cX10_arrange 88 = .ok (.iconst 0, 1) := by decide +kernel
theorem dX10_arrange_89 : decode cX10_arrange 89 = .ok (.bastore, 1) := by decide +kernel
theorem dX10_arrange_90 : decode cX10_arrange 90 = .ok (.aload_n 0, 1) := by decide +kernel
theorem dX10_arrange_91 : decode cX10_arrange 91 = .ok (.getfield 21, 3) := by decide +kernel
theorem dX10_arrange_94 : decode cX10_arrange 94 = .ok (.aload_n 0, 1) := by decide +kernel
theorem dX10_arrange_95 : decode cX10_arrange 95 = .ok (.getfield 31, 3) := by decide +kernel
theorem dX10_arrange_98 : decode cX10_arrange 98 = .ok (.getfield 77, 3) := by decide +kernel
theorem dX10_arrange_101 : decode cX10_arrange 101 = .ok (.iload_n 2, 1) := by decide +kernel
theorem dX10_arrange_102 : decode cX10_arrange 102 = .ok (.aaload, 1) := by decide +kernel
theorem dX10_arrange_103 : decode cX10_arrange 103 = .ok (.getfield 115, 3) := by decide +kernel
theorem dX10_arrange_106 : decode cX10_arrange 106 = .ok (.dup2, 1) := by decide +kernel
theorem dX10_arrange_107 : decode cX10_arrange 107 = .ok (.iaload, 1) := by decide +kernel
theorem dX10_arrange_108 : decode cX10_arrange 108 = .ok (.aload_n 0, 1) := by decide +kernel
theorem dX10_arrange_109 : decode cX10_arrange 109 = .ok (.getfield 18, 3) := by decide +kernel
theorem dX10_arrange_112 : decode cX10_arrange 112 = .ok (.iload_n 2, 1) := by decide +kernel
theorem dX10_arrange_113 : decode cX10_arrange 113 = .ok (.iaload, 1) := by decide +kernel
theorem dX10_arrange_114 : decode cX10_arrange 114 = .ok (.iand, 1) := by decide +kernel
theorem dX10_arrange_115 : decode cX10_arrange 115 = .ok (.iastore, 1) := by decide +kernel
theorem dX10_arrange_116 : decode cX10_arrange 116 = .ok (.iinc 2 1, 3) := by decide +kernel
theorem dX10_arrange_119 : decode cX10_arrange 119 = .ok (.goto (-66), 3) := by decide +kernel
theorem dX10_arrange_122 : decode cX10_arrange 122 = .ok (.return_, 1) := by decide +kernel
theorem dX10_personsFor_0 : decode cX10_personsFor 0 = .ok (.iconst 0, 1) := by decide +kernel
theorem dX10_personsFor_1 : decode cX10_personsFor 1 = .ok (.istore_n 2, 1) := by decide +kernel
theorem dX10_personsFor_2 : decode cX10_personsFor 2 = .ok (.iconst 0, 1) := by decide +kernel
theorem dX10_personsFor_3 : decode cX10_personsFor 3 = .ok (.istore_n 3, 1) := by decide +kernel
theorem dX10_personsFor_4 : decode cX10_personsFor 4 = .ok (.iload_n 3, 1) := by decide +kernel
theorem dX10_personsFor_5 : decode cX10_personsFor 5 = .ok (.aload_n 0, 1) := by decide +kernel
theorem dX10_personsFor_6 : decode cX10_personsFor 6 = .ok (.getfield 31, 3) := by decide +kernel
theorem dX10_personsFor_9 : decode cX10_personsFor 9 = .ok (.getfield 90, 3) := by decide +kernel
theorem dX10_personsFor_12 : decode cX10_personsFor 12 = .ok (.if_icmp .ge 27, 3) := by decide +kernel
theorem dX10_personsFor_15 : decode cX10_personsFor 15 = .ok (.aload_n 0, 1) := by decide +kernel
theorem dX10_personsFor_16 : decode cX10_personsFor 16 = .ok (.getfield 31, 3) := by decide +kernel
theorem dX10_personsFor_19 : decode cX10_personsFor 19 = .ok (.iload_n 1, 1) := by decide +kernel
theorem dX10_personsFor_20 : decode cX10_personsFor 20 = .ok (.iload_n 3, 1) := by decide +kernel
theorem dX10_personsFor_21 : decode cX10_personsFor 21 = .ok (.invokevirtual 123, 3) := by decide +kernel
theorem dX10_personsFor_24 : decode cX10_personsFor 24 = .ok (.ifCond .eq 9, 3) := by decide +kernel
theorem dX10_personsFor_27 : decode cX10_personsFor 27 = .ok (.iload_n 2, 1) := by decide +kernel
theorem dX10_personsFor_28 : decode cX10_personsFor 28 = .ok (.iconst 1, 1) := by decide +kernel
theorem dX10_personsFor_29 : decode cX10_personsFor 29 = .ok (.iload_n 3, 1) := by decide +kernel
theorem dX10_personsFor_30 : decode cX10_personsFor 30 = .ok (.ishl, 1) := by decide +kernel
theorem dX10_personsFor_31 : decode cX10_personsFor 31 = .ok (.ior, 1) := by decide +kernel
theorem dX10_personsFor_32 : decode cX10_personsFor 32 = .ok (.istore_n 2, 1) := by decide +kernel
theorem dX10_personsFor_33 : decode cX10_personsFor 33 = .ok (.iinc 3 1, 3) := by decide +kernel
theorem dX10_personsFor_36 : decode cX10_personsFor 36 = .ok (.goto (-32), 3) := by decide +kernel
theorem dX10_personsFor_39 : decode cX10_personsFor 39 = .ok (.iload_n 2, 1) := by decide +kernel
theorem dX10_personsFor_40 : decode cX10_personsFor 40 = .ok (.ireturn, 1) := by decide +kernel
theorem dX10_ways_0 : decode cX10_ways 0 = .ok (.iload_n 1, 1) := by decide +kernel
theorem dX10_ways_1 : decode cX10_ways 1 = .ok (.aload_n 0, 1) := by decide +kernel
theorem dX10_ways_2 : decode cX10_ways 2 = .ok (.getfield 31, 3) := by decide +kernel
theorem dX10_ways_5 : decode cX10_ways 5 = .ok (.getfield 65, 3) := by decide +kernel
theorem dX10_ways_8 : decode cX10_ways 8 = .ok (.if_icmp .lt 5, 3) := by decide +kernel
theorem dX10_ways_11 : decode cX10_ways 11 = .ok (.iconst 1, 1) := by decide +kernel
theorem dX10_ways_12 : decode cX10_ways 12 = .ok (.ireturn, 1) := by decide +kernel
theorem dX10_ways_13 : decode cX10_ways 13 = .ok (.aload_n 0, 1) := by decide +kernel
theorem dX10_ways_14 : decode cX10_ways 14 = .ok (.getfield 24, 3) := by decide +kernel
theorem dX10_ways_17 : decode cX10_ways 17 = .ok (.iload_n 1, 1) := by decide +kernel
theorem dX10_ways_18 : decode cX10_ways 18 = .ok (.baload, 1) := by decide +kernel
theorem dX10_ways_19 : decode cX10_ways 19 = .ok (.ifCond .eq 12, 3) := by decide +kernel
theorem dX10_ways_22 : decode cX10_ways 22 = .ok (.aload_n 0, 1) := by decide +kernel
theorem dX10_ways_23 : decode cX10_ways 23 = .ok (.iload_n 1, 1) := by decide +kernel
theorem dX10_ways_24 : decode cX10_ways 24 = .ok (.iconst 1, 1) := by decide +kernel
theorem dX10_ways_25 : decode cX10_ways 25 = .ok (.iadd, 1) := by decide +kernel
theorem dX10_ways_26 : decode cX10_ways 26 = .ok (.iload_n 2, 1) := by decide +kernel
theorem dX10_ways_27 : decode cX10_ways 27 = .ok (.invokevirtual 104, 3) := by decide +kernel
theorem dX10_ways_30 : decode cX10_ways 30 = .ok (.ireturn, 1) := by decide +kernel
theorem dX10_ways_31 : decode cX10_ways 31 = .ok (.iconst 0, 1) := by decide +kernel
theorem dX10_ways_32 : decode cX10_ways 32 = .ok (.istore_n 3, 1) := by decide +kernel
theorem dX10_ways_33 : decode cX10_ways 33 = .ok (.aload_n 0, 1) := by decide +kernel
theorem dX10_ways_34 : decode cX10_ways 34 = .ok (.getfield 21, 3) := by decide +kernel
theorem dX10_ways_37 : decode cX10_ways 37 = .ok (.iload_n 1, 1) := by decide +kernel
theorem dX10_ways_38 : decode cX10_ways 38 = .ok (.iaload, 1) := by decide +kernel
theorem dX10_ways_39 : decode cX10_ways 39 = .ok (.iload_n 2, 1) := by decide +kernel
theorem dX10_ways_40 : decode cX10_ways 40 = .ok (.iconst (-1), 1) := by decide +kernel
theorem dX10_ways_41 : decode cX10_ways 41 = .ok (.ixor, 1) := by decide +kernel
theorem dX10_ways_42 : decode cX10_ways 42 = .ok (.iand, 1) := by decide +kernel
theorem dX10_ways_43 : decode cX10_ways 43 = .ok (.istore 4, 2) := by decide +kernel
theorem dX10_ways_45 : decode cX10_ways 45 = .ok (.iconst 0, 1) := by decide +kernel
theorem dX10_ways_46 : decode cX10_ways 46 = .ok (.istore 5, 2) := by decide +kernel
theorem dX10_ways_48 : decode cX10_ways 48 = .ok (.iload 5, 2) := by decide +kernel
theorem dX10_ways_50 : decode cX10_ways 50 = .ok (.aload_n 0, 1) := by decide +kernel
theorem dX10_ways_51 : decode cX10_ways 51 = .ok (.getfield 31, 3) := by decide +kernel
theorem dX10_ways_54 : decode cX10_ways 54 = .ok (.getfield 90, 3) := by decide +kernel
theorem dX10_ways_57 : decode cX10_ways 57 = .ok (.if_icmp .ge 35, 3) := by decide +kernel
theorem dX10_ways_60 : decode cX10_ways 60 = .ok (.iload 4, 2) := by decide +kernel
theorem dX10_ways_62 : decode cX10_ways 62 = .ok (.iload 5, 2) := by decide +kernel
theorem dX10_ways_64 : decode cX10_ways 64 = .ok (.ishr, 1) := by decide +kernel
theorem dX10_ways_65 : decode cX10_ways 65 = .ok (.iconst 1, 1) := by decide +kernel
theorem dX10_ways_66 : decode cX10_ways 66 = .ok (.iand, 1) := by decide +kernel
theorem dX10_ways_67 : decode cX10_ways 67 = .ok (.ifCond .eq 19, 3) := by decide +kernel
theorem dX10_ways_70 : decode cX10_ways 70 = .ok (.iload_n 3, 1) := by decide +kernel
theorem dX10_ways_71 : decode cX10_ways 71 = .ok (.aload_n 0, 1) := by decide +kernel
theorem dX10_ways_72 : decode cX10_ways 72 = .ok (.iload_n 1, 1) := by decide +kernel
theorem dX10_ways_73 : decode cX10_ways 73 = .ok (.iconst 1, 1) := by decide +kernel
theorem dX10_ways_74 : decode cX10_ways 74 = .ok (.iadd, 1) := by decide +kernel
theorem dX10_ways_75 : decode cX10_ways 75 = .ok (.iload_n 2, 1) := by decide +kernel
theorem dX10_ways_76 : decode cX10_ways 76 = .ok (.iconst 1, 1) := by decide +kernel
theorem dX10_ways_77 : decode cX10_ways 77 = .ok (.iload 5, 2) := by decide +kernel
theorem dX10_ways_79 : decode cX10_ways 79 = .ok (.ishl, 1) := by decide +kernel
theorem dX10_ways_80 : decode cX10_ways 80 = .ok (.ior, 1) := by decide +kernel
theorem dX10_ways_81 : decode cX10_ways 81 = .ok (.invokevirtual 104, 3) := by decide +kernel
theorem dX10_ways_84 : decode cX10_ways 84 = .ok (.iadd, 1) := by decide +kernel
theorem dX10_ways_85 : decode cX10_ways 85 = .ok (.istore_n 3, 1) := by decide +kernel
theorem dX10_ways_86 : decode cX10_ways 86 = .ok (.iinc 5 1, 3) := by decide +kernel
theorem dX10_ways_89 : decode cX10_ways 89 = .ok (.goto (-41), 3) := by decide +kernel
theorem dX10_ways_92 : decode cX10_ways 92 = .ok (.iload_n 3, 1) := by decide +kernel
theorem dX10_ways_93 : decode cX10_ways 93 = .ok (.ireturn, 1) := by decide +kernel
theorem dX10_all_0 : decode cX10_all 0 = .ok (.aload_n 0, 1) := by decide +kernel
theorem dX10_all_1 : decode cX10_all 1 = .ok (.getfield 39, 3) := by decide +kernel
theorem dX10_all_4 : decode cX10_all 4 = .ok (.ifCond .ge 7, 3) := by decide +kernel
theorem dX10_all_7 : decode cX10_all 7 = .ok (.iconst 0, 1) := by decide +kernel
theorem dX10_all_8 : decode cX10_all 8 = .ok (.goto 9, 3) := by decide +kernel
theorem dX10_all_11 : decode cX10_all 11 = .ok (.aload_n 0, 1) := by decide +kernel
theorem dX10_all_12 : decode cX10_all 12 = .ok (.iconst 0, 1) := by decide +kernel
theorem dX10_all_13 : decode cX10_all 13 = .ok (.iconst 0, 1) := by decide +kernel
theorem dX10_all_14 : decode cX10_all 14 = .ok (.invokevirtual 104, 3) := by decide +kernel
theorem dX10_all_17 : decode cX10_all 17 = .ok (.ireturn, 1) := by decide +kernel
theorem dX10_allWith_0 : decode cX10_allWith 0 = .ok (.aload_n 0, 1) := by decide +kernel
theorem dX10_allWith_1 : decode cX10_allWith 1 = .ok (.getfield 21, 3) := by decide +kernel
theorem dX10_allWith_4 : decode cX10_allWith 4 = .ok (.iload_n 1, 1) := by decide +kernel
theorem dX10_allWith_5 : decode cX10_allWith 5 = .ok (.iaload, 1) := by decide +kernel
theorem dX10_allWith_6 : decode cX10_allWith 6 = .ok (.istore_n 3, 1) := by decide +kernel
theorem dX10_allWith_7 : decode cX10_allWith 7 = .ok (.aload_n 0, 1) := by decide +kernel
theorem dX10_allWith_8 : decode cX10_allWith 8 = .ok (.getfield 39, 3) := by decide +kernel
theorem dX10_allWith_11 : decode cX10_allWith 11 = .ok (.ifCond .lt 20, 3) := by decide +kernel
theorem dX10_allWith_14 : decode cX10_allWith 14 = .ok (.aload_n 0, 1) := by decide +kernel
theorem dX10_allWith_15 : decode cX10_allWith 15 = .ok (.getfield 24, 3) := by decide +kernel
theorem dX10_allWith_18 : decode cX10_allWith 18 = .ok (.iload_n 1, 1) := by decide +kernel
theorem dX10_allWith_19 : decode cX10_allWith 19 = .ok (.baload, 1) := by decide +kernel
theorem dX10_allWith_20 : decode cX10_allWith 20 = .ok (.ifCond .ne 11, 3) := by decide +kernel
theorem dX10_allWith_23 : decode cX10_allWith 23 = .ok (.iload_n 3, 1) := by decide +kernel
theorem dX10_allWith_24 : decode cX10_allWith 24 = .ok (.iload_n 2, 1) := by decide +kernel
theorem dX10_allWith_25 : decode cX10_allWith 25 = .ok (.ishr, 1) := by decide +kernel
theorem dX10_allWith_26 : decode cX10_allWith 26 = .ok (.iconst 1, 1) := by decide +kernel
theorem dX10_allWith_27 : decode cX10_allWith 27 = .ok (.iand, 1) := by decide +kernel
theorem dX10_allWith_28 : decode cX10_allWith 28 = .ok (.ifCond .ne 5, 3) := by decide +kernel
theorem dX10_allWith_31 : decode cX10_allWith 31 = .ok (.iconst 0, 1) := by decide +kernel
theorem dX10_allWith_32 : decode cX10_allWith 32 = .ok (.ireturn, 1) := by decide +kernel
theorem dX10_allWith_33 : decode cX10_allWith 33 = .ok (.aload_n 0, 1) := by decide +kernel
theorem dX10_allWith_34 : decode cX10_allWith 34 = .ok (.getfield 21, 3) := by decide +kernel
theorem dX10_allWith_37 : decode cX10_allWith 37 = .ok (.iload_n 1, 1) := by decide +kernel
theorem dX10_allWith_38 : decode cX10_allWith 38 = .ok (.iconst 1, 1) := by decide +kernel
theorem dX10_allWith_39 : decode cX10_allWith 39 = .ok (.iload_n 2, 1) := by decide +kernel
theorem dX10_allWith_40 : decode cX10_allWith 40 = .ok (.ishl, 1) := by decide +kernel
theorem dX10_allWith_41 : decode cX10_allWith 41 = .ok (.iastore, 1) := by decide +kernel
theorem dX10_allWith_42 : decode cX10_allWith 42 = .ok (.aload_n 0, 1) := by decide +kernel
theorem dX10_allWith_43 : decode cX10_allWith 43 = .ok (.iconst 0, 1) := by decide +kernel
theorem dX10_allWith_44 : decode cX10_allWith 44 = .ok (.iconst 0, 1) := by decide +kernel
theorem dX10_allWith_45 : decode cX10_allWith 45 = .ok (.invokevirtual 104, 3) := by decide +kernel
theorem dX10_allWith_48 : decode cX10_allWith 48 = .ok (.istore 4, 2) := by decide +kernel
theorem dX10_allWith_50 : decode cX10_allWith 50 = .ok (.aload_n 0, 1) := by decide +kernel
theorem dX10_allWith_51 : decode cX10_allWith 51 = .ok (.getfield 21, 3) := by decide +kernel
theorem dX10_allWith_54 : decode cX10_allWith 54 = .ok (.iload_n 1, 1) := by decide +kernel
theorem dX10_allWith_55 : decode cX10_allWith 55 = .ok (.iload_n 3, 1) := by decide +kernel
theorem dX10_allWith_56 : decode cX10_allWith 56 = .ok (.iastore, 1) := by decide +kernel
theorem dX10_allWith_57 : decode cX10_allWith 57 = .ok (.iload 4, 2) := by decide +kernel
theorem dX10_allWith_59 : decode cX10_allWith 59 = .ok (.ireturn, 1) := by decide +kernel
theorem dX10_personsIn_0 : decode cX10_personsIn 0 = .ok (.iconst 0, 1) := by decide +kernel
theorem dX10_personsIn_1 : decode cX10_personsIn 1 = .ok (.istore_n 2, 1) := by decide +kernel
theorem dX10_personsIn_2 : decode cX10_personsIn 2 = .ok (.iconst 0, 1) := by decide +kernel
theorem dX10_personsIn_3 : decode cX10_personsIn 3 = .ok (.istore_n 3, 1) := by decide +kernel
theorem dX10_personsIn_4 : decode cX10_personsIn 4 = .ok (.iload_n 3, 1) := by decide +kernel
theorem dX10_personsIn_5 : decode cX10_personsIn 5 = .ok (.aload_n 0, 1) := by decide +kernel
theorem dX10_personsIn_6 : decode cX10_personsIn 6 = .ok (.getfield 31, 3) := by decide +kernel
theorem dX10_personsIn_9 : decode cX10_personsIn 9 = .ok (.getfield 90, 3) := by decide +kernel
theorem dX10_personsIn_12 : decode cX10_personsIn 12 = .ok (.if_icmp .ge 24, 3) := by decide +kernel
theorem dX10_personsIn_15 : decode cX10_personsIn 15 = .ok (.aload_n 0, 1) := by decide +kernel
theorem dX10_personsIn_16 : decode cX10_personsIn 16 = .ok (.iload_n 1, 1) := by decide +kernel
theorem dX10_personsIn_17 : decode cX10_personsIn 17 = .ok (.iload_n 3, 1) := by decide +kernel
theorem dX10_personsIn_18 : decode cX10_personsIn 18 = .ok (.invokevirtual 127, 3) := by decide +kernel
theorem dX10_personsIn_21 : decode cX10_personsIn 21 = .ok (.ifCond .le 9, 3) := by decide +kernel
theorem dX10_personsIn_24 : decode cX10_personsIn 24 = .ok (.iload_n 2, 1) := by decide +kernel
theorem dX10_personsIn_25 : decode cX10_personsIn 25 = .ok (.iconst 1, 1) := by decide +kernel
theorem dX10_personsIn_26 : decode cX10_personsIn 26 = .ok (.iload_n 3, 1) := by decide +kernel
theorem dX10_personsIn_27 : decode cX10_personsIn 27 = .ok (.ishl, 1) := by decide +kernel
theorem dX10_personsIn_28 : decode cX10_personsIn 28 = .ok (.ior, 1) := by decide +kernel
theorem dX10_personsIn_29 : decode cX10_personsIn 29 = .ok (.istore_n 2, 1) := by decide +kernel
theorem dX10_personsIn_30 : decode cX10_personsIn 30 = .ok (.iinc 3 1, 3) := by decide +kernel
theorem dX10_personsIn_33 : decode cX10_personsIn 33 = .ok (.goto (-29), 3) := by decide +kernel
theorem dX10_personsIn_36 : decode cX10_personsIn 36 = .ok (.iload_n 2, 1) := by decide +kernel
theorem dX10_personsIn_37 : decode cX10_personsIn 37 = .ok (.ireturn, 1) := by decide +kernel
theorem dX10_pair_0 : decode cX10_pair 0 = .ok (.aload_n 0, 1) := by decide +kernel
theorem dX10_pair_1 : decode cX10_pair 1 = .ok (.aload_n 1, 1) := by decide +kernel
theorem dX10_pair_2 : decode cX10_pair 2 = .ok (.putfield 31, 3) := by decide +kernel
theorem dX10_pair_5 : decode cX10_pair 5 = .ok (.aload_n 0, 1) := by decide +kernel
theorem dX10_pair_6 : decode cX10_pair 6 = .ok (.iload_n 3, 1) := by decide +kernel
theorem dX10_pair_7 : decode cX10_pair 7 = .ok (.iload 4, 2) := by decide +kernel
theorem dX10_pair_9 : decode cX10_pair 9 = .ok (.invokevirtual 130, 3) := by decide +kernel
theorem dX10_pair_12 : decode cX10_pair 12 = .ok (.istore 5, 2) := by decide +kernel
theorem dX10_pair_14 : decode cX10_pair 14 = .ok (.aload_n 0, 1) := by decide +kernel
theorem dX10_pair_15 : decode cX10_pair 15 = .ok (.getfield 28, 3) := by decide +kernel
theorem dX10_pair_18 : decode cX10_pair 18 = .ok (.iload 5, 2) := by decide +kernel
theorem dX10_pair_20 : decode cX10_pair 20 = .ok (.ifCond .ne 7, 3) := by decide +kernel
theorem dX10_pair_23 : decode cX10_pair 23 = .ok (.iconst 0, 1) := by decide +kernel
theorem dX10_pair_24 : decode cX10_pair 24 = .ok (.goto 14, 3) := by decide +kernel
theorem dX10_pair_27 : decode cX10_pair 27 = .ok (.iconst 1, 1) := by decide +kernel
theorem dX10_pair_28 : decode cX10_pair 28 = .ok (.aload_n 0, 1) := by decide +kernel
theorem dX10_pair_29 : decode cX10_pair 29 = .ok (.getfield 31, 3) := by decide +kernel
theorem dX10_pair_32 : decode cX10_pair 32 = .ok (.getfield 90, 3) := by decide +kernel
theorem dX10_pair_35 : decode cX10_pair 35 = .ok (.ishl, 1) := by decide +kernel
theorem dX10_pair_36 : decode cX10_pair 36 = .ok (.iconst 1, 1) := by decide +kernel
theorem dX10_pair_37 : decode cX10_pair 37 = .ok (.isub, 1) := by decide +kernel
theorem dX10_pair_38 : decode cX10_pair 38 = .ok (.invokestatic 133, 3) := by decide +kernel
theorem dX10_pair_41 : decode cX10_pair 41 = .ok (.iconst 1, 1) := by decide +kernel
theorem dX10_pair_42 : decode cX10_pair 42 = .ok (.istore 6, 2) := by decide +kernel
theorem dX10_pair_44 : decode cX10_pair 44 = .ok (.iload 6, 2) := by decide +kernel
theorem dX10_pair_46 : decode cX10_pair 46 = .ok (.aload_n 0, 1) := by decide +kernel
theorem dX10_pair_47 : decode cX10_pair 47 = .ok (.getfield 31, 3) := by decide +kernel
theorem dX10_pair_50 : decode cX10_pair 50 = .ok (.getfield 139, 3) := by decide +kernel
theorem dX10_pair_53 : decode cX10_pair 53 = .ok (.if_icmp .gt 34, 3) := by decide +kernel
theorem dX10_pair_56 : decode cX10_pair 56 = .ok (.iload 5, 2) := by decide +kernel
theorem dX10_pair_58 : decode cX10_pair 58 = .ok (.iload 6, 2) := by decide +kernel
theorem dX10_pair_60 : decode cX10_pair 60 = .ok (.ishr, 1) := by decide +kernel
theorem dX10_pair_61 : decode cX10_pair 61 = .ok (.iconst 1, 1) := by decide +kernel
theorem dX10_pair_62 : decode cX10_pair 62 = .ok (.iand, 1) := by decide +kernel
theorem dX10_pair_63 : decode cX10_pair 63 = .ok (.ifCond .eq 18, 3) := by decide +kernel
theorem dX10_pair_66 : decode cX10_pair 66 = .ok (.aload_n 0, 1) := by decide +kernel
theorem dX10_pair_67 : decode cX10_pair 67 = .ok (.aload_n 1, 1) := by decide +kernel
theorem dX10_pair_68 : decode cX10_pair 68 = .ok (.aload_n 2, 1) := by decide +kernel
theorem dX10_pair_69 : decode cX10_pair 69 = .ok (.iload 6, 2) := by decide +kernel
theorem dX10_pair_71 : decode cX10_pair 71 = .ok (.invokevirtual 142, 3) := by decide +kernel
theorem dX10_pair_74 : decode cX10_pair 74 = .ok (.aload_n 0, 1) := by decide +kernel
theorem dX10_pair_75 : decode cX10_pair 75 = .ok (.iload_n 3, 1) := by decide +kernel
theorem dX10_pair_76 : decode cX10_pair 76 = .ok (.iload 4, 2) := by decide +kernel
theorem dX10_pair_78 : decode cX10_pair 78 = .ok (.invokevirtual 146, 3) := by decide +kernel
theorem dX10_pair_81 : decode cX10_pair 81 = .ok (.iinc 6 1, 3) := by decide +kernel
theorem dX10_pair_84 : decode cX10_pair 84 = .ok (.goto (-40), 3) := by decide +kernel
theorem dX10_pair_87 : decode cX10_pair 87 = .ok (.return_, 1) := by decide +kernel
theorem dX10_letterDays_0 : decode cX10_letterDays 0 = .ok (.iconst 0, 1) := by decide +kernel
theorem dX10_letterDays_1 : decode cX10_letterDays 1 = .ok (.istore_n 3, 1) := by decide +kernel
theorem dX10_letterDays_2 : decode cX10_letterDays 2 = .ok (.iconst 0, 1) := by decide +kernel
theorem dX10_letterDays_3 : decode cX10_letterDays 3 = .ok (.istore 4, 2) := by decide +kernel
theorem dX10_letterDays_5 : decode cX10_letterDays 5 = .ok (.iload 4, 2) := by decide +kernel
theorem dX10_letterDays_7 : decode cX10_letterDays 7 = .ok (.aload_n 0, 1) := by decide +kernel
theorem dX10_letterDays_8 : decode cX10_letterDays 8 = .ok (.getfield 31, 3) := by decide +kernel
theorem dX10_letterDays_11 : decode cX10_letterDays 11 = .ok (.getfield 150, 3) := by decide +kernel
theorem dX10_letterDays_14 : decode cX10_letterDays 14 = .ok (.if_icmp .ge 72, 3) := by decide +kernel
theorem dX10_letterDays_17 : decode cX10_letterDays 17 = .ok (.aload_n 0, 1) := by decide +kernel
theorem dX10_letterDays_18 : decode cX10_letterDays 18 = .ok (.getfield 31, 3) := by decide +kernel
theorem dX10_letterDays_21 : decode cX10_letterDays 21 = .ok (.getfield 153, 3) := by decide +kernel
theorem dX10_letterDays_24 : decode cX10_letterDays 24 = .ok (.iload 4, 2) := by decide +kernel
theorem dX10_letterDays_26 : decode cX10_letterDays 26 = .ok (.iaload, 1) := by decide +kernel
theorem dX10_letterDays_27 : decode cX10_letterDays 27 = .ok (.istore 5, 2) := by decide +kernel
theorem dX10_letterDays_29 : decode cX10_letterDays 29 = .ok (.aload_n 0, 1) := by decide +kernel
theorem dX10_letterDays_30 : decode cX10_letterDays 30 = .ok (.getfield 31, 3) := by decide +kernel
theorem dX10_letterDays_33 : decode cX10_letterDays 33 = .ok (.getfield 156, 3) := by decide +kernel
theorem dX10_letterDays_36 : decode cX10_letterDays 36 = .ok (.iload 4, 2) := by decide +kernel
theorem dX10_letterDays_38 : decode cX10_letterDays 38 = .ok (.iaload, 1) := by decide +kernel
theorem dX10_letterDays_39 : decode cX10_letterDays 39 = .ok (.istore 6, 2) := by decide +kernel
theorem dX10_letterDays_41 : decode cX10_letterDays 41 = .ok (.iload 5, 2) := by decide +kernel
theorem dX10_letterDays_43 : decode cX10_letterDays 43 = .ok (.iload_n 1, 1) := by decide +kernel
theorem dX10_letterDays_44 : decode cX10_letterDays 44 = .ok (.if_icmp .ne 9, 3) := by decide +kernel
theorem dX10_letterDays_47 : decode cX10_letterDays 47 = .ok (.iload 6, 2) := by decide +kernel
theorem dX10_letterDays_49 : decode cX10_letterDays 49 = .ok (.iload_n 2, 1) := by decide +kernel
theorem dX10_letterDays_50 : decode cX10_letterDays 50 = .ok (.if_icmp .eq 15, 3) := by decide +kernel
theorem dX10_letterDays_53 : decode cX10_letterDays 53 = .ok (.iload 5, 2) := by decide +kernel
theorem dX10_letterDays_55 : decode cX10_letterDays 55 = .ok (.iload_n 2, 1) := by decide +kernel
theorem dX10_letterDays_56 : decode cX10_letterDays 56 = .ok (.if_icmp .ne 24, 3) := by decide +kernel
theorem dX10_letterDays_59 : decode cX10_letterDays 59 = .ok (.iload 6, 2) := by decide +kernel
theorem dX10_letterDays_61 : decode cX10_letterDays 61 = .ok (.iload_n 1, 1) := by decide +kernel
theorem dX10_letterDays_62 : decode cX10_letterDays 62 = .ok (.if_icmp .ne 18, 3) := by decide +kernel
theorem dX10_letterDays_65 : decode cX10_letterDays 65 = .ok (.iload_n 3, 1) := by decide +kernel
theorem dX10_letterDays_66 : decode cX10_letterDays 66 = .ok (.iconst 1, 1) := by decide +kernel
theorem dX10_letterDays_67 : decode cX10_letterDays 67 = .ok (.aload_n 0, 1) := by decide +kernel
theorem dX10_letterDays_68 : decode cX10_letterDays 68 = .ok (.getfield 31, 3) := by decide +kernel
theorem dX10_letterDays_71 : decode cX10_letterDays 71 = .ok (.getfield 159, 3) := by decide +kernel
theorem dX10_letterDays_74 : decode cX10_letterDays 74 = .ok (.iload 4, 2) := by decide +kernel
theorem dX10_letterDays_76 : decode cX10_letterDays 76 = .ok (.iaload, 1) := by decide +kernel
theorem dX10_letterDays_77 : decode cX10_letterDays 77 = .ok (.ishl, 1) := by decide +kernel
theorem dX10_letterDays_78 : decode cX10_letterDays 78 = .ok (.ior, 1) := by decide +kernel
theorem dX10_letterDays_79 : decode cX10_letterDays 79 = .ok (.istore_n 3, 1) := by decide +kernel
theorem dX10_letterDays_80 : decode cX10_letterDays 80 = .ok (.iinc 4 1, 3) := by decide +kernel
theorem dX10_letterDays_83 : decode cX10_letterDays 83 = .ok (.goto (-78), 3) := by decide +kernel
theorem dX10_letterDays_86 : decode cX10_letterDays 86 = .ok (.iload_n 3, 1) := by decide +kernel
theorem dX10_letterDays_87 : decode cX10_letterDays 87 = .ok (.ireturn, 1) := by decide +kernel
theorem dX10_keepPartners_0 : decode cX10_keepPartners 0 = .ok (.aload_n 0, 1) := by decide +kernel
theorem dX10_keepPartners_1 : decode cX10_keepPartners 1 = .ok (.getfield 21, 3) := by decide +kernel
theorem dX10_keepPartners_4 : decode cX10_keepPartners 4 = .ok (.iload_n 1, 1) := by decide +kernel
theorem dX10_keepPartners_5 : decode cX10_keepPartners 5 = .ok (.iaload, 1) := by decide +kernel
theorem dX10_keepPartners_6 : decode cX10_keepPartners 6 = .ok (.istore_n 3, 1) := by decide +kernel
theorem dX10_keepPartners_7 : decode cX10_keepPartners 7 = .ok (.iconst 0, 1) := by decide +kernel
theorem dX10_keepPartners_8 : decode cX10_keepPartners 8 = .ok (.istore 4, 2) := by decide +kernel
theorem dX10_keepPartners_10 : decode cX10_keepPartners 10 = .ok (.iload 4, 2) := by decide +kernel
theorem dX10_keepPartners_12 : decode cX10_keepPartners 12 = .ok (.aload_n 0, 1) := by decide +kernel
theorem dX10_keepPartners_13 : decode cX10_keepPartners 13 = .ok (.getfield 31, 3) := by decide +kernel
theorem dX10_keepPartners_16 : decode cX10_keepPartners 16 = .ok (.getfield 90, 3) := by decide +kernel
theorem dX10_keepPartners_19 : decode cX10_keepPartners 19 = .ok (.if_icmp .ge 63, 3) := by decide +kernel
theorem dX10_keepPartners_22 : decode cX10_keepPartners 22 = .ok (.aload_n 0, 1) := by decide +kernel
theorem dX10_keepPartners_23 : decode cX10_keepPartners 23 = .ok (.getfield 24, 3) := by decide +kernel
theorem dX10_keepPartners_26 : decode cX10_keepPartners 26 = .ok (.iload_n 1, 1) := by decide +kernel
theorem dX10_keepPartners_27 : decode cX10_keepPartners 27 = .ok (.baload, 1) := by decide +kernel
theorem dX10_keepPartners_28 : decode cX10_keepPartners 28 = .ok (.ifCond .ne 12, 3) := by decide +kernel
theorem dX10_keepPartners_31 : decode cX10_keepPartners 31 = .ok (.iload_n 3, 1) := by decide +kernel
theorem dX10_keepPartners_32 : decode cX10_keepPartners 32 = .ok (.iload 4, 2) := by decide +kernel
theorem dX10_keepPartners_34 : decode cX10_keepPartners 34 = .ok (.ishr, 1) := by decide +kernel
theorem dX10_keepPartners_35 : decode cX10_keepPartners 35 = .ok (.iconst 1, 1) := by decide +kernel
theorem dX10_keepPartners_36 : decode cX10_keepPartners 36 = .ok (.iand, 1) := by decide +kernel
theorem dX10_keepPartners_37 : decode cX10_keepPartners 37 = .ok (.ifCond .ne 14, 3) := by decide +kernel
theorem dX10_keepPartners_40 : decode cX10_keepPartners 40 = .ok (.aload_n 0, 1) := by decide +kernel
theorem dX10_keepPartners_41 : decode cX10_keepPartners 41 = .ok (.getfield 28, 3) := by decide +kernel
theorem dX10_keepPartners_44 : decode cX10_keepPartners 44 = .ok (.iload 4, 2) := by decide +kernel
theorem dX10_keepPartners_46 : decode cX10_keepPartners 46 = .ok (.iconst 0, 1) := by decide +kernel
theorem dX10_keepPartners_47 : decode cX10_keepPartners 47 = .ok (.iastore, 1) := by decide +kernel
theorem dX10_keepPartners_48 : decode cX10_keepPartners 48 = .ok (.goto 28, 3) := by decide +kernel
theorem dX10_keepPartners_51 : decode cX10_keepPartners 51 = .ok (.aload_n 0, 1) := by decide +kernel
theorem dX10_keepPartners_52 : decode cX10_keepPartners 52 = .ok (.getfield 21, 3) := by decide +kernel
theorem dX10_keepPartners_55 : decode cX10_keepPartners 55 = .ok (.iload_n 1, 1) := by decide +kernel
theorem dX10_keepPartners_56 : decode cX10_keepPartners 56 = .ok (.iconst 1, 1) := by decide +kernel
theorem dX10_keepPartners_57 : decode cX10_keepPartners 57 = .ok (.iload 4, 2) := by decide +kernel
theorem dX10_keepPartners_59 : decode cX10_keepPartners 59 = .ok (.ishl, 1) := by decide +kernel
theorem dX10_keepPartners_60 : decode cX10_keepPartners 60 = .ok (.iastore, 1) := by decide +kernel
theorem dX10_keepPartners_61 : decode cX10_keepPartners 61 = .ok (.aload_n 0, 1) := by decide +kernel
theorem dX10_keepPartners_62 : decode cX10_keepPartners 62 = .ok (.getfield 28, 3) := by decide +kernel
theorem dX10_keepPartners_65 : decode cX10_keepPartners 65 = .ok (.iload 4, 2) := by decide +kernel
theorem dX10_keepPartners_67 : decode cX10_keepPartners 67 = .ok (.dup2, 1) := by decide +kernel
theorem dX10_keepPartners_68 : decode cX10_keepPartners 68 = .ok (.iaload, 1) := by decide +kernel
theorem dX10_keepPartners_69 : decode cX10_keepPartners 69 = .ok (.aload_n 0, 1) := by decide +kernel
theorem dX10_keepPartners_70 : decode cX10_keepPartners 70 = .ok (.iload_n 2, 1) := by decide +kernel
theorem dX10_keepPartners_71 : decode cX10_keepPartners 71 = .ok (.invokevirtual 162, 3) := by decide +kernel
theorem dX10_keepPartners_74 : decode cX10_keepPartners 74 = .ok (.iand, 1) := by decide +kernel
theorem dX10_keepPartners_75 : decode cX10_keepPartners 75 = .ok (.iastore, 1) := by decide +kernel
theorem dX10_keepPartners_76 : decode cX10_keepPartners 76 = .ok (.iinc 4 1, 3) := by decide +kernel
theorem dX10_keepPartners_79 : decode cX10_keepPartners 79 = .ok (.goto (-69), 3) := by decide +kernel
theorem dX10_keepPartners_82 : decode cX10_keepPartners 82 = .ok (.aload_n 0, 1) := by decide +kernel
theorem dX10_keepPartners_83 : decode cX10_keepPartners 83 = .ok (.getfield 21, 3) := by decide +kernel
theorem dX10_keepPartners_86 : decode cX10_keepPartners 86 = .ok (.iload_n 1, 1) := by decide +kernel
theorem dX10_keepPartners_87 : decode cX10_keepPartners 87 = .ok (.iload_n 3, 1) := by decide +kernel
theorem dX10_keepPartners_88 : decode cX10_keepPartners 88 = .ok (.iastore, 1) := by decide +kernel
theorem dX10_keepPartners_89 : decode cX10_keepPartners 89 = .ok (.return_, 1) := by decide +kernel
theorem dX10_pairCount_0 : decode cX10_pairCount 0 = .ok (.iconst 0, 1) := by decide +kernel
theorem dX10_pairCount_1 : decode cX10_pairCount 1 = .ok (.istore_n 1, 1) := by decide +kernel
theorem dX10_pairCount_2 : decode cX10_pairCount 2 = .ok (.iconst 0, 1) := by decide +kernel
theorem dX10_pairCount_3 : decode cX10_pairCount 3 = .ok (.istore_n 2, 1) := by decide +kernel
theorem dX10_pairCount_4 : decode cX10_pairCount 4 = .ok (.iload_n 2, 1) := by decide +kernel
theorem dX10_pairCount_5 : decode cX10_pairCount 5 = .ok (.aload_n 0, 1) := by decide +kernel
theorem dX10_pairCount_6 : decode cX10_pairCount 6 = .ok (.getfield 31, 3) := by decide +kernel
theorem dX10_pairCount_9 : decode cX10_pairCount 9 = .ok (.getfield 90, 3) := by decide +kernel
theorem dX10_pairCount_12 : decode cX10_pairCount 12 = .ok (.if_icmp .ge 21, 3) := by decide +kernel
theorem dX10_pairCount_15 : decode cX10_pairCount 15 = .ok (.iload_n 1, 1) := by decide +kernel
theorem dX10_pairCount_16 : decode cX10_pairCount 16 = .ok (.aload_n 0, 1) := by decide +kernel
theorem dX10_pairCount_17 : decode cX10_pairCount 17 = .ok (.getfield 28, 3) := by decide +kernel
theorem dX10_pairCount_20 : decode cX10_pairCount 20 = .ok (.iload_n 2, 1) := by decide +kernel
theorem dX10_pairCount_21 : decode cX10_pairCount 21 = .ok (.iaload, 1) := by decide +kernel
theorem dX10_pairCount_22 : decode cX10_pairCount 22 = .ok (.invokestatic 51, 3) := by decide +kernel
theorem dX10_pairCount_25 : decode cX10_pairCount 25 = .ok (.iadd, 1) := by decide +kernel
theorem dX10_pairCount_26 : decode cX10_pairCount 26 = .ok (.istore_n 1, 1) := by decide +kernel
theorem dX10_pairCount_27 : decode cX10_pairCount 27 = .ok (.iinc 2 1, 3) := by decide +kernel
theorem dX10_pairCount_30 : decode cX10_pairCount 30 = .ok (.goto (-26), 3) := by decide +kernel
theorem dX10_pairCount_33 : decode cX10_pairCount 33 = .ok (.iload_n 1, 1) := by decide +kernel
theorem dX10_pairCount_34 : decode cX10_pairCount 34 = .ok (.ireturn, 1) := by decide +kernel
theorem dX10_ofPair_0 : decode cX10_ofPair 0 = .ok (.iload_n 1, 1) := by decide +kernel
theorem dX10_ofPair_1 : decode cX10_ofPair 1 = .ok (.istore_n 3, 1) := by decide +kernel
theorem dX10_ofPair_2 : decode cX10_ofPair 2 = .ok (.iconst 0, 1) := by decide +kernel
theorem dX10_ofPair_3 : decode cX10_ofPair 3 = .ok (.istore 4, 2) := by decide +kernel
theorem dX10_ofPair_5 : decode cX10_ofPair 5 = .ok (.iload 4, 2) := by decide +kernel
theorem dX10_ofPair_7 : decode cX10_ofPair 7 = .ok (.aload_n 0, 1) := by decide +kernel
theorem dX10_ofPair_8 : decode cX10_ofPair 8 = .ok (.getfield 31, 3) := by decide +kernel
theorem dX10_ofPair_11 : decode cX10_ofPair 11 = .ok (.getfield 90, 3) := by decide +kernel
theorem dX10_ofPair_14 : decode cX10_ofPair 14 = .ok (.if_icmp .ge 64, 3) := by decide +kernel
theorem dX10_ofPair_17 : decode cX10_ofPair 17 = .ok (.iconst 0, 1) := by decide +kernel
theorem dX10_ofPair_18 : decode cX10_ofPair 18 = .ok (.istore 5, 2) := by decide +kernel
theorem dX10_ofPair_20 : decode cX10_ofPair 20 = .ok (.iload 5, 2) := by decide +kernel
theorem dX10_ofPair_22 : decode cX10_ofPair 22 = .ok (.aload_n 0, 1) := by decide +kernel
theorem dX10_ofPair_23 : decode cX10_ofPair 23 = .ok (.getfield 31, 3) := by decide +kernel
theorem dX10_ofPair_26 : decode cX10_ofPair 26 = .ok (.getfield 90, 3) := by decide +kernel
theorem dX10_ofPair_29 : decode cX10_ofPair 29 = .ok (.if_icmp .ge 43, 3) := by decide +kernel
theorem dX10_ofPair_32 : decode cX10_ofPair 32 = .ok (.aload_n 0, 1) := by decide +kernel
theorem dX10_ofPair_33 : decode cX10_ofPair 33 = .ok (.getfield 28, 3) := by decide +kernel
theorem dX10_ofPair_36 : decode cX10_ofPair 36 = .ok (.iload 4, 2) := by decide +kernel
theorem dX10_ofPair_38 : decode cX10_ofPair 38 = .ok (.iaload, 1) := by decide +kernel
theorem dX10_ofPair_39 : decode cX10_ofPair 39 = .ok (.iload 5, 2) := by decide +kernel
theorem dX10_ofPair_41 : decode cX10_ofPair 41 = .ok (.ishr, 1) := by decide +kernel
theorem dX10_ofPair_42 : decode cX10_ofPair 42 = .ok (.iconst 1, 1) := by decide +kernel
theorem dX10_ofPair_43 : decode cX10_ofPair 43 = .ok (.iand, 1) := by decide +kernel
theorem dX10_ofPair_44 : decode cX10_ofPair 44 = .ok (.ifCond .eq 22, 3) := by decide +kernel
theorem dX10_ofPair_47 : decode cX10_ofPair 47 = .ok (.iload_n 3, 1) := by decide +kernel
theorem dX10_ofPair_48 : decode cX10_ofPair 48 = .ok (.ifCond .ne 15, 3) := by decide +kernel
theorem dX10_ofPair_51 : decode cX10_ofPair 51 = .ok (.iload_n 2, 1) := by decide +kernel
theorem dX10_ofPair_52 : decode cX10_ofPair 52 = .ok (.ifCond .eq 8, 3) := by decide +kernel
theorem dX10_ofPair_55 : decode cX10_ofPair 55 = .ok (.iload 5, 2) := by decide +kernel
theorem dX10_ofPair_57 : decode cX10_ofPair 57 = .ok (.goto 5, 3) := by decide +kernel
theorem dX10_ofPair_60 : decode cX10_ofPair 60 = .ok (.iload 4, 2) := by decide +kernel
theorem dX10_ofPair_62 : decode cX10_ofPair 62 = .ok (.ireturn, 1) := by decide +kernel
theorem dX10_ofPair_63 : decode cX10_ofPair 63 = .ok (.iinc 3 (-1), 3) := by decide +kernel
theorem dX10_ofPair_66 : decode cX10_ofPair 66 = .ok (.iinc 5 1, 3) := by decide +kernel
theorem dX10_ofPair_69 : decode cX10_ofPair 69 = .ok (.goto (-49), 3) := by decide +kernel
theorem dX10_ofPair_72 : decode cX10_ofPair 72 = .ok (.iinc 4 1, 3) := by decide +kernel
theorem dX10_ofPair_75 : decode cX10_ofPair 75 = .ok (.goto (-70), 3) := by decide +kernel
theorem dX10_ofPair_78 : decode cX10_ofPair 78 = .ok (.iconst (-1), 1) := by decide +kernel
theorem dX10_ofPair_79 : decode cX10_ofPair 79 = .ok (.ireturn, 1) := by decide +kernel
def sun (f : Nat → Nat) (i : Nat) : Nat → Nat → Nat
  | 0, a => a
  | j + 1, a => sun f (i + 1) j (a + f i)
theorem sun_le {f : Nat → Nat} {c : Nat} (h : ∀ i, f i ≤ c) : ∀ (j i a : Nat), sun f i j a ≤ a + c * j
  | 0, _, a => by simp [sun]
  | j + 1, i, a => by
    simp only [sun]
    have h1 := sun_le h j (i + 1) (a + f i)
    have h2 := h i
    rw [Nat.mul_succ]
    omega
/-- in how many ways k masks from m on can be worn -/
def wys (P : Nat) (pg : Nat → Bool) (c : Nat → Nat) : Nat → Nat → Nat → Nat
  | 0, _, _ => 1
  | k + 1, m, s => if pg m = true then wys P pg c k (m + 1) s else sun (fun p => if ((c m).testBit p && !s.testBit p) = true then wys P pg c k (m + 1) (s ||| 2 ^ p) else 0) 0 P 0
theorem wys_le {P : Nat} (hP : P ≤ 6) {pg : Nat → Bool} {c : Nat → Nat} : ∀ (k m s : Nat), wys P pg c k m s ≤ 6 ^ k
  | 0, _, _ => Nat.le_refl _
  | k + 1, m, s => by
    simp only [wys]
    split
    · exact Nat.le_trans (wys_le hP k (m + 1) s) (Nat.pow_le_pow_right (by decide) (by omega))
    · have h := sun_le (f := fun p => if ((c m).testBit p && !s.testBit p) = true then wys P pg c k (m + 1) (s ||| 2 ^ p) else 0) (c := 6 ^ k) (fun p => by
        show (if ((c m).testBit p && !s.testBit p) = true then wys P pg c k (m + 1) (s ||| 2 ^ p) else 0) ≤ 6 ^ k
        split
        · exact wys_le hP k (m + 1) _
        · exact Nat.zero_le _) P 0 0
      refine Nat.le_trans h ?_
      rw [Nat.zero_add, Nat.pow_succ]
      exact Nat.mul_le_mul_left _ hP
theorem wys_lt {P k m s : Nat} (hP : P ≤ 6) (hk : k ≤ 6) {pg : Nat → Bool} {c : Nat → Nat} : wys P pg c k m s < 2 ^ 31 := Nat.lt_of_le_of_lt (wys_le hP k m s) (Nat.lt_of_le_of_lt (Nat.pow_le_pow_right (by decide) hk) (by decide))
def WcI (I : HI) (M : Nat) (pg : Nat → Bool) (c : Nat → Nat) : Prop := (∀ m, m < M → I 155 m = bI (pg m)) ∧ (∀ m, m < M → I 154 m = nI (c m) ∧ c m < 64)
def resF (F : bkF) (s p : Nat) : Bool := resv (F (131 + 5 * s)) (F (132 + 5 * s)) (F (26 + p)) (F (44 + p))
