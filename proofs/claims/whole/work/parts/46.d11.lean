theorem dX11_feed_0 : decode cX11_feed 0 = .ok (.aload_n 0, 1) := by decide +kernel
theorem dX11_feed_1 : decode cX11_feed 1 = .ok (.getfield 13, 3) := by decide +kernel
theorem dX11_feed_4 : decode cX11_feed 4 = .ok (.bipush 20, 2) := by decide +kernel
theorem dX11_feed_6 : decode cX11_feed 6 = .ok (.iadd, 1) := by decide +kernel
theorem dX11_feed_7 : decode cX11_feed 7 = .ok (.sipush 900, 3) := by decide +kernel
theorem dX11_feed_10 : decode cX11_feed 10 = .ok (.if_icmp .le 5, 3) := by decide +kernel
theorem dX11_feed_13 : decode cX11_feed 13 = .ok (.iconst (-1), 1) := by decide +kernel
theorem dX11_feed_14 : decode cX11_feed 14 = .ok (.ireturn, 1) := by decide +kernel
theorem dX11_feed_15 : decode cX11_feed 15 = .ok (.aload_n 0, 1) := by decide +kernel
theorem dX11_feed_16 : decode cX11_feed 16 = .ok (.iload_n 1, 1) := by decide +kernel
theorem dX11_feed_17 : decode cX11_feed 17 = .ok (.invokevirtual 64, 3) := by decide +kernel
theorem dX11_feed_20 : decode cX11_feed 20 = .ok (.aload_n 0, 1) := by decide +kernel
theorem dX11_feed_21 : decode cX11_feed 21 = .ok (.iload_n 2, 1) := by decide +kernel
theorem dX11_feed_22 : decode cX11_feed 22 = .ok (.invokevirtual 64, 3) := by decide +kernel
theorem dX11_feed_25 : decode cX11_feed 25 = .ok (.aload_n 0, 1) := by decide +kernel
theorem dX11_feed_26 : decode cX11_feed 26 = .ok (.iload_n 3, 1) := by decide +kernel
theorem dX11_feed_27 : decode cX11_feed 27 = .ok (.invokevirtual 64, 3) := by decide +kernel
theorem dX11_feed_30 : decode cX11_feed 30 = .ok (.aload_n 0, 1) := by decide +kernel
theorem dX11_feed_31 : decode cX11_feed 31 = .ok (.iload 4, 2) := by decide +kernel
theorem dX11_feed_33 : decode cX11_feed 33 = .ok (.invokevirtual 64, 3) := by decide +kernel
theorem dX11_feed_36 : decode cX11_feed 36 = .ok (.aload_n 0, 1) := by decide +kernel
theorem dX11_feed_37 : decode cX11_feed 37 = .ok (.iload 5, 2) := by decide +kernel
theorem dX11_feed_39 : decode cX11_feed 39 = .ok (.invokevirtual 64, 3) := by decide +kernel
theorem dX11_feed_42 : decode cX11_feed 42 = .ok (.aload_n 0, 1) := by decide +kernel
theorem dX11_feed_43 : decode cX11_feed 43 = .ok (.getfield 13, 3) := by decide +kernel
theorem dX11_feed_46 : decode cX11_feed 46 = .ok (.ireturn, 1) := by decide +kernel
theorem dX11_book_0 : decode cX11_book 0 = .ok (.aload_n 0, 1) := by decide +kernel
theorem dX11_book_1 : decode cX11_book 1 = .ok (.iconst 1, 1) := by decide +kernel
theorem dX11_book_2 : decode cX11_book 2 = .ok (.iload_n 1, 1) := by decide +kernel
theorem dX11_book_3 : decode cX11_book 3 = .ok (.ifCond .lt 15, 3) := by decide +kernel
theorem dX11_book_6 : decode cX11_book 6 = .ok (.iload_n 1, 1) := by decide +kernel
theorem dX11_book_7 : decode cX11_book 7 = .ok (.aload_n 0, 1) := by decide +kernel
theorem dX11_book_8 : decode cX11_book 8 = .ok (.getfield 13, 3) := by decide +kernel
theorem dX11_book_11 : decode cX11_book 11 = .ok (.if_icmp .gt 7, 3) := by decide +kernel
theorem dX11_book_14 : decode cX11_book 14 = .ok (.iconst 1, 1) := by decide +kernel
theorem dX11_book_15 : decode cX11_book 15 = .ok (.goto 4, 3) := by decide +kernel
theorem dX11_book_18 : decode cX11_book 18 = .ok (.iconst 0, 1) := by decide +kernel
theorem dX11_book_19 : decode cX11_book 19 = .ok (.invokevirtual 68, 3) := by decide +kernel
theorem dX11_book_22 : decode cX11_book 22 = .ok (.ifCond .ne 5, 3) := by decide +kernel
theorem dX11_book_25 : decode cX11_book 25 = .ok (.iconst (-1), 1) := by decide +kernel
theorem dX11_book_26 : decode cX11_book 26 = .ok (.ireturn, 1) := by decide +kernel
theorem dX11_book_27 : decode cX11_book 27 = .ok (.aload_n 0, 1) := by decide +kernel
theorem dX11_book_28 : decode cX11_book 28 = .ok (.getfield 39, 3) := by decide +kernel
theorem dX11_book_31 : decode cX11_book 31 = .ok (.aload_n 0, 1) := by decide +kernel
theorem dX11_book_32 : decode cX11_book 32 = .ok (.getfield 9, 3) := by decide +kernel
theorem dX11_book_35 : decode cX11_book 35 = .ok (.iload_n 1, 1) := by decide +kernel
theorem dX11_book_36 : decode cX11_book 36 = .ok (.aload_n 0, 1) := by decide +kernel
theorem dX11_book_37 : decode cX11_book 37 = .ok (.getfield 33, 3) := by decide +kernel
theorem dX11_book_40 : decode cX11_book 40 = .ok (.invokevirtual 72, 3) := by decide +kernel
theorem dX11_book_43 : decode cX11_book 43 = .ok (.istore_n 2, 1) := by decide +kernel
theorem dX11_book_44 : decode cX11_book 44 = .ok (.aload_n 0, 1) := by decide +kernel
theorem dX11_book_45 : decode cX11_book 45 = .ok (.iconst 0, 1) := by decide +kernel
theorem dX11_book_46 : decode cX11_book 46 = .ok (.putfield 13, 3) := by decide +kernel
theorem dX11_book_49 : decode cX11_book 49 = .ok (.aload_n 0, 1) := by decide +kernel
theorem dX11_book_50 : decode cX11_book 50 = .ok (.aload_n 0, 1) := by decide +kernel
theorem dX11_book_51 : decode cX11_book 51 = .ok (.getfield 39, 3) := by decide +kernel
theorem dX11_book_54 : decode cX11_book 54 = .ok (.getfield 76, 3) := by decide +kernel
theorem dX11_book_57 : decode cX11_book 57 = .ok (.putfield 20, 3) := by decide +kernel
theorem dX11_book_60 : decode cX11_book 60 = .ok (.aload_n 0, 1) := by decide +kernel
theorem dX11_book_61 : decode cX11_book 61 = .ok (.aload_n 0, 1) := by decide +kernel
theorem dX11_book_62 : decode cX11_book 62 = .ok (.getfield 39, 3) := by decide +kernel
theorem dX11_book_65 : decode cX11_book 65 = .ok (.getfield 77, 3) := by decide +kernel
theorem dX11_book_68 : decode cX11_book 68 = .ok (.putfield 23, 3) := by decide +kernel
theorem dX11_book_71 : decode cX11_book 71 = .ok (.iload_n 2, 1) := by decide +kernel
theorem dX11_book_72 : decode cX11_book 72 = .ok (.ifCond .ne 11, 3) := by decide +kernel
theorem dX11_book_75 : decode cX11_book 75 = .ok (.aload_n 0, 1) := by decide +kernel
theorem dX11_book_76 : decode cX11_book 76 = .ok (.iconst 4, 1) := by decide +kernel
theorem dX11_book_77 : decode cX11_book 77 = .ok (.invokevirtual 78, 3) := by decide +kernel
theorem dX11_book_80 : decode cX11_book 80 = .ok (.pop, 1) := by decide +kernel
theorem dX11_book_81 : decode cX11_book 81 = .ok (.iconst (-1), 1) := by decide +kernel
theorem dX11_book_82 : decode cX11_book 82 = .ok (.ireturn, 1) := by decide +kernel
theorem dX11_book_83 : decode cX11_book 83 = .ok (.aload_n 0, 1) := by decide +kernel
theorem dX11_book_84 : decode cX11_book 84 = .ok (.getfield 29, 3) := by decide +kernel
theorem dX11_book_87 : decode cX11_book 87 = .ok (.astore_n 3, 1) := by decide +kernel
theorem dX11_book_88 : decode cX11_book 88 = .ok (.aload_n 0, 1) := by decide +kernel
theorem dX11_book_89 : decode cX11_book 89 = .ok (.aload_n 0, 1) := by decide +kernel
theorem dX11_book_90 : decode cX11_book 90 = .ok (.getfield 33, 3) := by decide +kernel
theorem dX11_book_93 : decode cX11_book 93 = .ok (.putfield 29, 3) := by decide +kernel
theorem dX11_book_96 : decode cX11_book 96 = .ok (.aload_n 0, 1) := by decide +kernel
theorem dX11_book_97 : decode cX11_book 97 = .ok (.aload_n 3, 1) := by decide +kernel
theorem dX11_book_98 : decode cX11_book 98 = .ok (.putfield 33, 3) := by decide +kernel
theorem dX11_book_101 : decode cX11_book 101 = .ok (.aload_n 0, 1) := by decide +kernel
theorem dX11_book_102 : decode cX11_book 102 = .ok (.getfield 46, 3) := by decide +kernel
theorem dX11_book_105 : decode cX11_book 105 = .ok (.invokevirtual 82, 3) := by decide +kernel
theorem dX11_book_108 : decode cX11_book 108 = .ok (.aload_n 0, 1) := by decide +kernel
theorem dX11_book_109 : decode cX11_book 109 = .ok (.getfield 46, 3) := by decide +kernel
theorem dX11_book_112 : decode cX11_book 112 = .ok (.aload_n 0, 1) := by decide +kernel
theorem dX11_book_113 : decode cX11_book 113 = .ok (.getfield 29, 3) := by decide +kernel
theorem dX11_book_116 : decode cX11_book 116 = .ok (.getfield 85, 3) := by decide +kernel
theorem dX11_book_119 : decode cX11_book 119 = .ok (.invokevirtual 89, 3) := by decide +kernel
theorem dX11_book_122 : decode cX11_book 122 = .ok (.aload_n 0, 1) := by decide +kernel
theorem dX11_book_123 : decode cX11_book 123 = .ok (.getfield 29, 3) := by decide +kernel
theorem dX11_book_126 : decode cX11_book 126 = .ok (.getfield 93, 3) := by decide +kernel
theorem dX11_book_129 : decode cX11_book 129 = .ok (.ireturn, 1) := by decide +kernel
theorem dX11_fault_0 : decode cX11_fault 0 = .ok (.aload_n 0, 1) := by decide +kernel
theorem dX11_fault_1 : decode cX11_fault 1 = .ok (.getfield 20, 3) := by decide +kernel
theorem dX11_fault_4 : decode cX11_fault 4 = .ok (.ireturn, 1) := by decide +kernel
theorem dX11_where_0 : decode cX11_where 0 = .ok (.aload_n 0, 1) := by decide +kernel
theorem dX11_where_1 : decode cX11_where 1 = .ok (.getfield 17, 3) := by decide +kernel
theorem dX11_where_4 : decode cX11_where 4 = .ok (.iconst 4, 1) := by decide +kernel
theorem dX11_where_5 : decode cX11_where 5 = .ok (.if_icmp .ne 10, 3) := by decide +kernel
theorem dX11_where_8 : decode cX11_where 8 = .ok (.aload_n 0, 1) := by decide +kernel
theorem dX11_where_9 : decode cX11_where 9 = .ok (.getfield 23, 3) := by decide +kernel
theorem dX11_where_12 : decode cX11_where 12 = .ok (.goto 4, 3) := by decide +kernel
theorem dX11_where_15 : decode cX11_where 15 = .ok (.iconst (-1), 1) := by decide +kernel
theorem dX11_where_16 : decode cX11_where 16 = .ok (.ireturn, 1) := by decide +kernel
theorem dX11_fits_0 : decode cX11_fits 0 = .ok (.aload_n 0, 1) := by decide +kernel
theorem dX11_fits_1 : decode cX11_fits 1 = .ok (.aload_n 0, 1) := by decide +kernel
theorem dX11_fits_2 : decode cX11_fits 2 = .ok (.getfield 29, 3) := by decide +kernel
theorem dX11_fits_5 : decode cX11_fits 5 = .ok (.iload_n 1, 1) := by decide +kernel
theorem dX11_fits_6 : decode cX11_fits 6 = .ok (.invokevirtual 96, 3) := by decide +kernel
theorem dX11_fits_9 : decode cX11_fits 9 = .ok (.ifCond .eq 18, 3) := by decide +kernel
theorem dX11_fits_12 : decode cX11_fits 12 = .ok (.aload_n 0, 1) := by decide +kernel
theorem dX11_fits_13 : decode cX11_fits 13 = .ok (.getfield 29, 3) := by decide +kernel
theorem dX11_fits_16 : decode cX11_fits 16 = .ok (.iload_n 2, 1) := by decide +kernel
theorem dX11_fits_17 : decode cX11_fits 17 = .ok (.invokevirtual 99, 3) := by decide +kernel
theorem dX11_fits_20 : decode cX11_fits 20 = .ok (.ifCond .eq 7, 3) := by decide +kernel
theorem dX11_fits_23 : decode cX11_fits 23 = .ok (.iconst 1, 1) := by decide +kernel
theorem dX11_fits_24 : decode cX11_fits 24 = .ok (.goto 4, 3) := by decide +kernel
theorem dX11_fits_27 : decode cX11_fits 27 = .ok (.iconst 0, 1) := by decide +kernel
theorem dX11_fits_28 : decode cX11_fits 28 = .ok (.iconst 1, 1) := by decide +kernel
theorem dX11_fits_29 : decode cX11_fits 29 = .ok (.invokevirtual 68, 3) := by decide +kernel
theorem dX11_fits_32 : decode cX11_fits 32 = .ok (.ifCond .ne 5, 3) := by decide +kernel
theorem dX11_fits_35 : decode cX11_fits 35 = .ok (.iconst (-1), 1) := by decide +kernel
theorem dX11_fits_36 : decode cX11_fits 36 = .ok (.ireturn, 1) := by decide +kernel
theorem dX11_fits_37 : decode cX11_fits 37 = .ok (.aload_n 0, 1) := by decide +kernel
theorem dX11_fits_38 : decode cX11_fits 38 = .ok (.getfield 29, 3) := by decide +kernel
theorem dX11_fits_41 : decode cX11_fits 41 = .ok (.iload_n 1, 1) := by decide +kernel
theorem dX11_fits_42 : decode cX11_fits 42 = .ok (.iload_n 2, 1) := by decide +kernel
theorem dX11_fits_43 : decode cX11_fits 43 = .ok (.invokevirtual 102, 3) := by decide +kernel
theorem dX11_fits_46 : decode cX11_fits 46 = .ok (.invokestatic 106, 3) := by decide +kernel
theorem dX11_fits_49 : decode cX11_fits 49 = .ok (.ireturn, 1) := by decide +kernel
theorem dX11_wearer_0 : decode cX11_wearer 0 = .ok (.aload_n 0, 1) := by decide +kernel
theorem dX11_wearer_1 : decode cX11_wearer 1 = .ok (.aload_n 0, 1) := by decide +kernel
theorem dX11_wearer_2 : decode cX11_wearer 2 = .ok (.getfield 29, 3) := by decide +kernel
theorem dX11_wearer_5 : decode cX11_wearer 5 = .ok (.iload_n 1, 1) := by decide +kernel
theorem dX11_wearer_6 : decode cX11_wearer 6 = .ok (.invokevirtual 96, 3) := by decide +kernel
theorem dX11_wearer_9 : decode cX11_wearer 9 = .ok (.aload_n 0, 1) := by decide +kernel
theorem dX11_wearer_10 : decode cX11_wearer 10 = .ok (.getfield 29, 3) := by decide +kernel
theorem dX11_wearer_13 : decode cX11_wearer 13 = .ok (.iload_n 2, 1) := by decide +kernel
theorem dX11_wearer_14 : decode cX11_wearer 14 = .ok (.invokevirtual 110, 3) := by decide +kernel
theorem dX11_wearer_17 : decode cX11_wearer 17 = .ok (.invokevirtual 68, 3) := by decide +kernel
theorem dX11_wearer_20 : decode cX11_wearer 20 = .ok (.ifCond .ne 5, 3) := by decide +kernel
theorem dX11_wearer_23 : decode cX11_wearer 23 = .ok (.iconst (-1), 1) := by decide +kernel
theorem dX11_wearer_24 : decode cX11_wearer 24 = .ok (.ireturn, 1) := by decide +kernel
theorem dX11_wearer_25 : decode cX11_wearer 25 = .ok (.aload_n 0, 1) := by decide +kernel
theorem dX11_wearer_26 : decode cX11_wearer 26 = .ok (.getfield 46, 3) := by decide +kernel
theorem dX11_wearer_29 : decode cX11_wearer 29 = .ok (.invokevirtual 113, 3) := by decide +kernel
theorem dX11_wearer_32 : decode cX11_wearer 32 = .ok (.iload_n 1, 1) := by decide +kernel
theorem dX11_wearer_33 : decode cX11_wearer 33 = .ok (.iload_n 2, 1) := by decide +kernel
theorem dX11_wearer_34 : decode cX11_wearer 34 = .ok (.invokevirtual 117, 3) := by decide +kernel
theorem dX11_wearer_37 : decode cX11_wearer 37 = .ok (.ireturn, 1) := by decide +kernel
theorem dX11_worn_0 : decode cX11_worn 0 = .ok (.aload_n 0, 1) := by decide +kernel
theorem dX11_worn_1 : decode cX11_worn 1 = .ok (.aload_n 0, 1) := by decide +kernel
theorem dX11_worn_2 : decode cX11_worn 2 = .ok (.getfield 29, 3) := by decide +kernel
theorem dX11_worn_5 : decode cX11_worn 5 = .ok (.iload_n 1, 1) := by decide +kernel
theorem dX11_worn_6 : decode cX11_worn 6 = .ok (.invokevirtual 99, 3) := by decide +kernel
theorem dX11_worn_9 : decode cX11_worn 9 = .ok (.aload_n 0, 1) := by decide +kernel
theorem dX11_worn_10 : decode cX11_worn 10 = .ok (.getfield 29, 3) := by decide +kernel
theorem dX11_worn_13 : decode cX11_worn 13 = .ok (.iload_n 2, 1) := by decide +kernel
theorem dX11_worn_14 : decode cX11_worn 14 = .ok (.invokevirtual 110, 3) := by decide +kernel
theorem dX11_worn_17 : decode cX11_worn 17 = .ok (.invokevirtual 68, 3) := by decide +kernel
theorem dX11_worn_20 : decode cX11_worn 20 = .ok (.ifCond .ne 5, 3) := by decide +kernel
theorem dX11_worn_23 : decode cX11_worn 23 = .ok (.iconst (-1), 1) := by decide +kernel
theorem dX11_worn_24 : decode cX11_worn 24 = .ok (.ireturn, 1) := by decide +kernel
theorem dX11_worn_25 : decode cX11_worn 25 = .ok (.aload_n 0, 1) := by decide +kernel
theorem dX11_worn_26 : decode cX11_worn 26 = .ok (.getfield 46, 3) := by decide +kernel
theorem dX11_worn_29 : decode cX11_worn 29 = .ok (.invokevirtual 113, 3) := by decide +kernel
theorem dX11_worn_32 : decode cX11_worn 32 = .ok (.iload_n 1, 1) := by decide +kernel
theorem dX11_worn_33 : decode cX11_worn 33 = .ok (.iload_n 2, 1) := by decide +kernel
theorem dX11_worn_34 : decode cX11_worn 34 = .ok (.invokevirtual 123, 3) := by decide +kernel
theorem dX11_worn_37 : decode cX11_worn 37 = .ok (.ireturn, 1) := by decide +kernel
theorem dX11_owes_0 : decode cX11_owes 0 = .ok (.aload_n 0, 1) := by decide +kernel
theorem dX11_owes_1 : decode cX11_owes 1 = .ok (.aload_n 0, 1) := by decide +kernel
theorem dX11_owes_2 : decode cX11_owes 2 = .ok (.getfield 29, 3) := by decide +kernel
theorem dX11_owes_5 : decode cX11_owes 5 = .ok (.iload_n 1, 1) := by decide +kernel
theorem dX11_owes_6 : decode cX11_owes 6 = .ok (.invokevirtual 126, 3) := by decide +kernel
theorem dX11_owes_9 : decode cX11_owes 9 = .ok (.iconst 1, 1) := by decide +kernel
theorem dX11_owes_10 : decode cX11_owes 10 = .ok (.invokevirtual 68, 3) := by decide +kernel
theorem dX11_owes_13 : decode cX11_owes 13 = .ok (.ifCond .ne 5, 3) := by decide +kernel
theorem dX11_owes_16 : decode cX11_owes 16 = .ok (.iconst (-1), 1) := by decide +kernel
theorem dX11_owes_17 : decode cX11_owes 17 = .ok (.ireturn, 1) := by decide +kernel
theorem dX11_owes_18 : decode cX11_owes 18 = .ok (.aload_n 0, 1) := by decide +kernel
theorem dX11_owes_19 : decode cX11_owes 19 = .ok (.getfield 29, 3) := by decide +kernel
theorem dX11_owes_22 : decode cX11_owes 22 = .ok (.iload_n 1, 1) := by decide +kernel
theorem dX11_owes_23 : decode cX11_owes 23 = .ok (.aload_n 0, 1) := by decide +kernel
theorem dX11_owes_24 : decode cX11_owes 24 = .ok (.getfield 46, 3) := by decide +kernel
theorem dX11_owes_27 : decode cX11_owes 27 = .ok (.invokevirtual 113, 3) := by decide +kernel
theorem dX11_owes_30 : decode cX11_owes 30 = .ok (.invokevirtual 129, 3) := by decide +kernel
theorem dX11_owes_33 : decode cX11_owes 33 = .ok (.ireturn, 1) := by decide +kernel
theorem dX11_done_0 : decode cX11_done 0 = .ok (.aload_n 0, 1) := by decide +kernel
theorem dX11_done_1 : decode cX11_done 1 = .ok (.aload_n 0, 1) := by decide +kernel
theorem dX11_done_2 : decode cX11_done 2 = .ok (.getfield 29, 3) := by decide +kernel
theorem dX11_done_5 : decode cX11_done 5 = .ok (.iload_n 1, 1) := by decide +kernel
theorem dX11_done_6 : decode cX11_done 6 = .ok (.invokevirtual 126, 3) := by decide +kernel
theorem dX11_done_9 : decode cX11_done 9 = .ok (.iconst 1, 1) := by decide +kernel
theorem dX11_done_10 : decode cX11_done 10 = .ok (.invokevirtual 68, 3) := by decide +kernel
theorem dX11_done_13 : decode cX11_done 13 = .ok (.ifCond .ne 5, 3) := by decide +kernel
theorem dX11_done_16 : decode cX11_done 16 = .ok (.iconst (-1), 1) := by decide +kernel
theorem dX11_done_17 : decode cX11_done 17 = .ok (.ireturn, 1) := by decide +kernel
theorem dX11_done_18 : decode cX11_done 18 = .ok (.aload_n 0, 1) := by decide +kernel
theorem dX11_done_19 : decode cX11_done 19 = .ok (.getfield 29, 3) := by decide +kernel
theorem dX11_done_22 : decode cX11_done 22 = .ok (.iload_n 1, 1) := by decide +kernel
theorem dX11_done_23 : decode cX11_done 23 = .ok (.aload_n 0, 1) := by decide +kernel
theorem dX11_done_24 : decode cX11_done 24 = .ok (.getfield 46, 3) := by decide +kernel
theorem dX11_done_27 : decode cX11_done 27 = .ok (.invokevirtual 113, 3) := by decide +kernel
theorem dX11_done_30 : decode cX11_done 30 = .ok (.invokevirtual 133, 3) := by decide +kernel
theorem dX11_done_33 : decode cX11_done 33 = .ok (.invokestatic 106, 3) := by decide +kernel
theorem dX11_done_36 : decode cX11_done 36 = .ok (.ireturn, 1) := by decide +kernel
theorem dX11_credit_0 : decode cX11_credit 0 = .ok (.aload_n 0, 1) := by decide +kernel
theorem dX11_credit_1 : decode cX11_credit 1 = .ok (.aload_n 0, 1) := by decide +kernel
theorem dX11_credit_2 : decode cX11_credit 2 = .ok (.getfield 29, 3) := by decide +kernel
theorem dX11_credit_5 : decode cX11_credit 5 = .ok (.iload_n 1, 1) := by decide +kernel
theorem dX11_credit_6 : decode cX11_credit 6 = .ok (.invokevirtual 96, 3) := by decide +kernel
theorem dX11_credit_9 : decode cX11_credit 9 = .ok (.aload_n 0, 1) := by decide +kernel
theorem dX11_credit_10 : decode cX11_credit 10 = .ok (.getfield 29, 3) := by decide +kernel
theorem dX11_credit_13 : decode cX11_credit 13 = .ok (.iload_n 2, 1) := by decide +kernel
theorem dX11_credit_14 : decode cX11_credit 14 = .ok (.invokevirtual 137, 3) := by decide +kernel
theorem dX11_credit_17 : decode cX11_credit 17 = .ok (.invokevirtual 68, 3) := by decide +kernel
theorem dX11_credit_20 : decode cX11_credit 20 = .ok (.ifCond .ne 5, 3) := by decide +kernel
theorem dX11_credit_23 : decode cX11_credit 23 = .ok (.iconst (-1), 1) := by decide +kernel
theorem dX11_credit_24 : decode cX11_credit 24 = .ok (.ireturn, 1) := by decide +kernel
theorem dX11_credit_25 : decode cX11_credit 25 = .ok (.aload_n 0, 1) := by decide +kernel
theorem dX11_credit_26 : decode cX11_credit 26 = .ok (.getfield 29, 3) := by decide +kernel
theorem dX11_credit_29 : decode cX11_credit 29 = .ok (.iload_n 1, 1) := by decide +kernel
theorem dX11_credit_30 : decode cX11_credit 30 = .ok (.iload_n 2, 1) := by decide +kernel
theorem dX11_credit_31 : decode cX11_credit 31 = .ok (.aload_n 0, 1) := by decide +kernel
theorem dX11_credit_32 : decode cX11_credit 32 = .ok (.getfield 46, 3) := by decide +kernel
theorem dX11_credit_35 : decode cX11_credit 35 = .ok (.invokevirtual 113, 3) := by decide +kernel
theorem dX11_credit_38 : decode cX11_credit 38 = .ok (.invokevirtual 140, 3) := by decide +kernel
theorem dX11_credit_41 : decode cX11_credit 41 = .ok (.ireturn, 1) := by decide +kernel
theorem dX11_debt_0 : decode cX11_debt 0 = .ok (.aload_n 0, 1) := by decide +kernel
theorem dX11_debt_1 : decode cX11_debt 1 = .ok (.aload_n 0, 1) := by decide +kernel
theorem dX11_debt_2 : decode cX11_debt 2 = .ok (.getfield 29, 3) := by decide +kernel
theorem dX11_debt_5 : decode cX11_debt 5 = .ok (.iload_n 1, 1) := by decide +kernel
theorem dX11_debt_6 : decode cX11_debt 6 = .ok (.invokevirtual 99, 3) := by decide +kernel
theorem dX11_debt_9 : decode cX11_debt 9 = .ok (.aload_n 0, 1) := by decide +kernel
theorem dX11_debt_10 : decode cX11_debt 10 = .ok (.getfield 29, 3) := by decide +kernel
theorem dX11_debt_13 : decode cX11_debt 13 = .ok (.iload_n 2, 1) := by decide +kernel
theorem dX11_debt_14 : decode cX11_debt 14 = .ok (.invokevirtual 137, 3) := by decide +kernel
theorem dX11_debt_17 : decode cX11_debt 17 = .ok (.invokevirtual 68, 3) := by decide +kernel
theorem dX11_debt_20 : decode cX11_debt 20 = .ok (.ifCond .ne 5, 3) := by decide +kernel
theorem dX11_debt_23 : decode cX11_debt 23 = .ok (.iconst (-1), 1) := by decide +kernel
theorem dX11_debt_24 : decode cX11_debt 24 = .ok (.ireturn, 1) := by decide +kernel
theorem dX11_debt_25 : decode cX11_debt 25 = .ok (.aload_n 0, 1) := by decide +kernel
theorem dX11_debt_26 : decode cX11_debt 26 = .ok (.getfield 29, 3) := by decide +kernel
theorem dX11_debt_29 : decode cX11_debt 29 = .ok (.iload_n 1, 1) := by decide +kernel
theorem dX11_debt_30 : decode cX11_debt 30 = .ok (.iload_n 2, 1) := by decide +kernel
theorem dX11_debt_31 : decode cX11_debt 31 = .ok (.aload_n 0, 1) := by decide +kernel
theorem dX11_debt_32 : decode cX11_debt 32 = .ok (.getfield 46, 3) := by decide +kernel
theorem dX11_debt_35 : decode cX11_debt 35 = .ok (.invokevirtual 113, 3) := by decide +kernel
theorem dX11_debt_38 : decode cX11_debt 38 = .ok (.invokevirtual 144, 3) := by decide +kernel
theorem dX11_debt_41 : decode cX11_debt 41 = .ok (.ireturn, 1) := by decide +kernel
theorem dX11_gain_0 : decode cX11_gain 0 = .ok (.aload_n 0, 1) := by decide +kernel
theorem dX11_gain_1 : decode cX11_gain 1 = .ok (.aload_n 0, 1) := by decide +kernel
theorem dX11_gain_2 : decode cX11_gain 2 = .ok (.getfield 29, 3) := by decide +kernel
theorem dX11_gain_5 : decode cX11_gain 5 = .ok (.iload_n 1, 1) := by decide +kernel
theorem dX11_gain_6 : decode cX11_gain 6 = .ok (.invokevirtual 99, 3) := by decide +kernel
theorem dX11_gain_9 : decode cX11_gain 9 = .ok (.aload_n 0, 1) := by decide +kernel
theorem dX11_gain_10 : decode cX11_gain 10 = .ok (.getfield 29, 3) := by decide +kernel
theorem dX11_gain_13 : decode cX11_gain 13 = .ok (.iload_n 2, 1) := by decide +kernel
theorem dX11_gain_14 : decode cX11_gain 14 = .ok (.invokevirtual 137, 3) := by decide +kernel
theorem dX11_gain_17 : decode cX11_gain 17 = .ok (.invokevirtual 68, 3) := by decide +kernel
theorem dX11_gain_20 : decode cX11_gain 20 = .ok (.ifCond .ne 7, 3) := by decide +kernel
theorem dX11_gain_23 : decode cX11_gain 23 = .ok (.sipush (-10000), 3) := by decide +kernel
theorem dX11_gain_26 : decode cX11_gain 26 = .ok (.ireturn, 1) := by decide +kernel
theorem dX11_gain_27 : decode cX11_gain 27 = .ok (.aload_n 0, 1) := by decide +kernel
theorem dX11_gain_28 : decode cX11_gain 28 = .ok (.getfield 29, 3) := by decide +kernel
theorem dX11_gain_31 : decode cX11_gain 31 = .ok (.iload_n 1, 1) := by decide +kernel
theorem dX11_gain_32 : decode cX11_gain 32 = .ok (.iload_n 2, 1) := by decide +kernel
theorem dX11_gain_33 : decode cX11_gain 33 = .ok (.aload_n 0, 1) := by decide +kernel
theorem dX11_gain_34 : decode cX11_gain 34 = .ok (.getfield 46, 3) := by decide +kernel
theorem dX11_gain_37 : decode cX11_gain 37 = .ok (.invokevirtual 113, 3) := by decide +kernel
theorem dX11_gain_40 : decode cX11_gain 40 = .ok (.invokevirtual 147, 3) := by decide +kernel
theorem dX11_gain_43 : decode cX11_gain 43 = .ok (.aload_n 0, 1) := by decide +kernel
theorem dX11_gain_44 : decode cX11_gain 44 = .ok (.getfield 29, 3) := by decide +kernel
theorem dX11_gain_47 : decode cX11_gain 47 = .ok (.iload_n 1, 1) := by decide +kernel
theorem dX11_gain_48 : decode cX11_gain 48 = .ok (.iload_n 2, 1) := by decide +kernel
theorem dX11_gain_49 : decode cX11_gain 49 = .ok (.aload_n 0, 1) := by decide +kernel
theorem dX11_gain_50 : decode cX11_gain 50 = .ok (.getfield 46, 3) := by decide +kernel
theorem dX11_gain_53 : decode cX11_gain 53 = .ok (.invokevirtual 113, 3) := by decide +kernel
theorem dX11_gain_56 : decode cX11_gain 56 = .ok (.invokevirtual 144, 3) := by decide +kernel
theorem dX11_gain_59 : decode cX11_gain 59 = .ok (.isub, 1) := by decide +kernel
theorem dX11_gain_60 : decode cX11_gain 60 = .ok (.ireturn, 1) := by decide +kernel
theorem dX11_guild_0 : decode cX11_guild 0 = .ok (.aload_n 0, 1) := by decide +kernel
theorem dX11_guild_1 : decode cX11_guild 1 = .ok (.aload_n 0, 1) := by decide +kernel
theorem dX11_guild_2 : decode cX11_guild 2 = .ok (.getfield 29, 3) := by decide +kernel
theorem dX11_guild_5 : decode cX11_guild 5 = .ok (.invokevirtual 150, 3) := by decide +kernel
theorem dX11_guild_8 : decode cX11_guild 8 = .ok (.iconst 1, 1) := by decide +kernel
theorem dX11_guild_9 : decode cX11_guild 9 = .ok (.invokevirtual 68, 3) := by decide +kernel
theorem dX11_guild_12 : decode cX11_guild 12 = .ok (.ifCond .ne 5, 3) := by decide +kernel
theorem dX11_guild_15 : decode cX11_guild 15 = .ok (.iconst (-1), 1) := by decide +kernel
theorem dX11_guild_16 : decode cX11_guild 16 = .ok (.ireturn, 1) := by decide +kernel
theorem dX11_guild_17 : decode cX11_guild 17 = .ok (.aload_n 0, 1) := by decide +kernel
theorem dX11_guild_18 : decode cX11_guild 18 = .ok (.getfield 29, 3) := by decide +kernel
theorem dX11_guild_21 : decode cX11_guild 21 = .ok (.bipush (-2), 2) := by decide +kernel
theorem dX11_guild_23 : decode cX11_guild 23 = .ok (.aload_n 0, 1) := by decide +kernel
theorem dX11_guild_24 : decode cX11_guild 24 = .ok (.getfield 29, 3) := by decide +kernel
theorem dX11_guild_27 : decode cX11_guild 27 = .ok (.getfield 154, 3) := by decide +kernel
theorem dX11_guild_30 : decode cX11_guild 30 = .ok (.aload_n 0, 1) := by decide +kernel
theorem dX11_guild_31 : decode cX11_guild 31 = .ok (.getfield 46, 3) := by decide +kernel
theorem dX11_guild_34 : decode cX11_guild 34 = .ok (.invokevirtual 113, 3) := by decide +kernel
theorem dX11_guild_37 : decode cX11_guild 37 = .ok (.invokevirtual 144, 3) := by decide +kernel
theorem dX11_guild_40 : decode cX11_guild 40 = .ok (.ireturn, 1) := by decide +kernel
theorem dX11_breaks_0 : decode cX11_breaks 0 = .ok (.aload_n 0, 1) := by decide +kernel
theorem dX11_breaks_1 : decode cX11_breaks 1 = .ok (.aload_n 0, 1) := by decide +kernel
theorem dX11_breaks_2 : decode cX11_breaks 2 = .ok (.getfield 29, 3) := by decide +kernel
theorem dX11_breaks_5 : decode cX11_breaks 5 = .ok (.iload_n 1, 1) := by decide +kernel
theorem dX11_breaks_6 : decode cX11_breaks 6 = .ok (.invokevirtual 99, 3) := by decide +kernel
theorem dX11_breaks_9 : decode cX11_breaks 9 = .ok (.aload_n 0, 1) := by decide +kernel
theorem dX11_breaks_10 : decode cX11_breaks 10 = .ok (.getfield 29, 3) := by decide +kernel
theorem dX11_breaks_13 : decode cX11_breaks 13 = .ok (.iload_n 2, 1) := by decide +kernel
theorem dX11_breaks_14 : decode cX11_breaks 14 = .ok (.invokevirtual 110, 3) := by decide +kernel
theorem dX11_breaks_17 : decode cX11_breaks 17 = .ok (.invokevirtual 68, 3) := by decide +kernel
theorem dX11_breaks_20 : decode cX11_breaks 20 = .ok (.ifCond .ne 5, 3) := by decide +kernel
theorem dX11_breaks_23 : decode cX11_breaks 23 = .ok (.iconst (-1), 1) := by decide +kernel
theorem dX11_breaks_24 : decode cX11_breaks 24 = .ok (.ireturn, 1) := by decide +kernel
theorem dX11_breaks_25 : decode cX11_breaks 25 = .ok (.aload_n 0, 1) := by decide +kernel
theorem dX11_breaks_26 : decode cX11_breaks 26 = .ok (.getfield 46, 3) := by decide +kernel
theorem dX11_breaks_29 : decode cX11_breaks 29 = .ok (.invokevirtual 113, 3) := by decide +kernel
theorem dX11_breaks_32 : decode cX11_breaks 32 = .ok (.iload_n 1, 1) := by decide +kernel
theorem dX11_breaks_33 : decode cX11_breaks 33 = .ok (.iload_n 2, 1) := by decide +kernel
theorem dX11_breaks_34 : decode cX11_breaks 34 = .ok (.invokevirtual 157, 3) := by decide +kernel
theorem dX11_breaks_37 : decode cX11_breaks 37 = .ok (.invokestatic 106, 3) := by decide +kernel
theorem dX11_breaks_40 : decode cX11_breaks 40 = .ok (.ireturn, 1) := by decide +kernel
theorem dX11_value_0 : decode cX11_value 0 = .ok (.aload_n 0, 1) := by decide +kernel
theorem dX11_value_1 : decode cX11_value 1 = .ok (.aload_n 0, 1) := by decide +kernel
theorem dX11_value_2 : decode cX11_value 2 = .ok (.getfield 29, 3) := by decide +kernel
theorem dX11_value_5 : decode cX11_value 5 = .ok (.invokevirtual 150, 3) := by decide +kernel
theorem dX11_value_8 : decode cX11_value 8 = .ok (.aload_n 0, 1) := by decide +kernel
theorem dX11_value_9 : decode cX11_value 9 = .ok (.getfield 29, 3) := by decide +kernel
theorem dX11_value_12 : decode cX11_value 12 = .ok (.iload_n 1, 1) := by decide +kernel
theorem dX11_value_13 : decode cX11_value 13 = .ok (.invokevirtual 110, 3) := by decide +kernel
theorem dX11_value_16 : decode cX11_value 16 = .ok (.invokevirtual 68, 3) := by decide +kernel
theorem dX11_value_19 : decode cX11_value 19 = .ok (.ifCond .ne 7, 3) := by decide +kernel
theorem dX11_value_22 : decode cX11_value 22 = .ok (.sipush (-10000), 3) := by decide +kernel
theorem dX11_value_25 : decode cX11_value 25 = .ok (.ireturn, 1) := by decide +kernel
theorem dX11_value_26 : decode cX11_value 26 = .ok (.aload_n 0, 1) := by decide +kernel
theorem dX11_value_27 : decode cX11_value 27 = .ok (.getfield 53, 3) := by decide +kernel
theorem dX11_value_30 : decode cX11_value 30 = .ok (.aload_n 0, 1) := by decide +kernel
theorem dX11_value_31 : decode cX11_value 31 = .ok (.getfield 29, 3) := by decide +kernel
theorem dX11_value_34 : decode cX11_value 34 = .ok (.iload_n 1, 1) := by decide +kernel
theorem dX11_value_35 : decode cX11_value 35 = .ok (.invokevirtual 160, 3) := by decide +kernel
theorem dX11_value_38 : decode cX11_value 38 = .ok (.aload_n 0, 1) := by decide +kernel
theorem dX11_value_39 : decode cX11_value 39 = .ok (.getfield 53, 3) := by decide +kernel
theorem dX11_value_42 : decode cX11_value 42 = .ok (.iconst 0, 1) := by decide +kernel
theorem dX11_value_43 : decode cX11_value 43 = .ok (.invokevirtual 164, 3) := by decide +kernel
theorem dX11_value_46 : decode cX11_value 46 = .ok (.ireturn, 1) := by decide +kernel
theorem dX11_plan_0 : decode cX11_plan 0 = .ok (.aload_n 0, 1) := by decide +kernel
theorem dX11_plan_1 : decode cX11_plan 1 = .ok (.aload_n 0, 1) := by decide +kernel
theorem dX11_plan_2 : decode cX11_plan 2 = .ok (.getfield 29, 3) := by decide +kernel
theorem dX11_plan_5 : decode cX11_plan 5 = .ok (.iload_n 2, 1) := by decide +kernel
theorem dX11_plan_6 : decode cX11_plan 6 = .ok (.invokevirtual 96, 3) := by decide +kernel
theorem dX11_plan_9 : decode cX11_plan 9 = .ok (.aload_n 0, 1) := by decide +kernel
theorem dX11_plan_10 : decode cX11_plan 10 = .ok (.getfield 29, 3) := by decide +kernel
theorem dX11_plan_13 : decode cX11_plan 13 = .ok (.iload_n 1, 1) := by decide +kernel
theorem dX11_plan_14 : decode cX11_plan 14 = .ok (.invokevirtual 110, 3) := by decide +kernel
theorem dX11_plan_17 : decode cX11_plan 17 = .ok (.invokevirtual 68, 3) := by decide +kernel
theorem dX11_plan_20 : decode cX11_plan 20 = .ok (.ifCond .ne 5, 3) := by decide +kernel
theorem dX11_plan_23 : decode cX11_plan 23 = .ok (.iconst (-1), 1) := by decide +kernel
theorem dX11_plan_24 : decode cX11_plan 24 = .ok (.ireturn, 1) := by decide +kernel
theorem dX11_plan_25 : decode cX11_plan 25 = .ok (.aload_n 0, 1) := by decide +kernel
theorem dX11_plan_26 : decode cX11_plan 26 = .ok (.getfield 53, 3) := by decide +kernel
theorem dX11_plan_29 : decode cX11_plan 29 = .ok (.aload_n 0, 1) := by decide +kernel
theorem dX11_plan_30 : decode cX11_plan 30 = .ok (.getfield 29, 3) := by decide +kernel
theorem dX11_plan_33 : decode cX11_plan 33 = .ok (.iload_n 1, 1) := by decide +kernel
theorem dX11_plan_34 : decode cX11_plan 34 = .ok (.invokevirtual 160, 3) := by decide +kernel
theorem dX11_plan_37 : decode cX11_plan 37 = .ok (.aload_n 0, 1) := by decide +kernel
theorem dX11_plan_38 : decode cX11_plan 38 = .ok (.getfield 53, 3) := by decide +kernel
theorem dX11_plan_41 : decode cX11_plan 41 = .ok (.iload_n 2, 1) := by decide +kernel
theorem dX11_plan_42 : decode cX11_plan 42 = .ok (.invokevirtual 168, 3) := by decide +kernel
theorem dX11_plan_45 : decode cX11_plan 45 = .ok (.ireturn, 1) := by decide +kernel
theorem dX11_needed_0 : decode cX11_needed 0 = .ok (.aload_n 0, 1) := by decide +kernel
theorem dX11_needed_1 : decode cX11_needed 1 = .ok (.aload_n 0, 1) := by decide +kernel
theorem dX11_needed_2 : decode cX11_needed 2 = .ok (.getfield 29, 3) := by decide +kernel
theorem dX11_needed_5 : decode cX11_needed 5 = .ok (.iload_n 2, 1) := by decide +kernel
theorem dX11_needed_6 : decode cX11_needed 6 = .ok (.invokevirtual 99, 3) := by decide +kernel
theorem dX11_needed_9 : decode cX11_needed 9 = .ok (.aload_n 0, 1) := by decide +kernel
theorem dX11_needed_10 : decode cX11_needed 10 = .ok (.getfield 29, 3) := by decide +kernel
theorem dX11_needed_13 : decode cX11_needed 13 = .ok (.iload_n 1, 1) := by decide +kernel
theorem dX11_needed_14 : decode cX11_needed 14 = .ok (.invokevirtual 110, 3) := by decide +kernel
theorem dX11_needed_17 : decode cX11_needed 17 = .ok (.invokevirtual 68, 3) := by decide +kernel
theorem dX11_needed_20 : decode cX11_needed 20 = .ok (.ifCond .ne 5, 3) := by decide +kernel
theorem dX11_needed_23 : decode cX11_needed 23 = .ok (.iconst (-1), 1) := by decide +kernel
theorem dX11_needed_24 : decode cX11_needed 24 = .ok (.ireturn, 1) := by decide +kernel
theorem dX11_needed_25 : decode cX11_needed 25 = .ok (.aload_n 0, 1) := by decide +kernel
theorem dX11_needed_26 : decode cX11_needed 26 = .ok (.getfield 53, 3) := by decide +kernel
theorem dX11_needed_29 : decode cX11_needed 29 = .ok (.aload_n 0, 1) := by decide +kernel
theorem dX11_needed_30 : decode cX11_needed 30 = .ok (.getfield 29, 3) := by decide +kernel
theorem dX11_needed_33 : decode cX11_needed 33 = .ok (.iload_n 1, 1) := by decide +kernel
theorem dX11_needed_34 : decode cX11_needed 34 = .ok (.invokevirtual 160, 3) := by decide +kernel
theorem dX11_needed_37 : decode cX11_needed 37 = .ok (.aload_n 0, 1) := by decide +kernel
theorem dX11_needed_38 : decode cX11_needed 38 = .ok (.getfield 53, 3) := by decide +kernel
theorem dX11_needed_41 : decode cX11_needed 41 = .ok (.iconst 0, 1) := by decide +kernel
theorem dX11_needed_42 : decode cX11_needed 42 = .ok (.invokevirtual 164, 3) := by decide +kernel
theorem dX11_needed_45 : decode cX11_needed 45 = .ok (.aload_n 0, 1) := by decide +kernel
theorem dX11_needed_46 : decode cX11_needed 46 = .ok (.getfield 53, 3) := by decide +kernel
theorem dX11_needed_49 : decode cX11_needed 49 = .ok (.iconst 1, 1) := by decide +kernel
theorem dX11_needed_50 : decode cX11_needed 50 = .ok (.iload_n 2, 1) := by decide +kernel
theorem dX11_needed_51 : decode cX11_needed 51 = .ok (.ishl, 1) := by decide +kernel
theorem dX11_needed_52 : decode cX11_needed 52 = .ok (.invokevirtual 164, 3) := by decide +kernel
theorem dX11_needed_55 : decode cX11_needed 55 = .ok (.isub, 1) := by decide +kernel
theorem dX11_needed_56 : decode cX11_needed 56 = .ok (.ireturn, 1) := by decide +kernel
theorem dX11_worth_0 : decode cX11_worth 0 = .ok (.aload_n 0, 1) := by decide +kernel
theorem dX11_worth_1 : decode cX11_worth 1 = .ok (.aload_n 0, 1) := by decide +kernel
theorem dX11_worth_2 : decode cX11_worth 2 = .ok (.getfield 29, 3) := by decide +kernel
theorem dX11_worth_5 : decode cX11_worth 5 = .ok (.invokevirtual 150, 3) := by decide +kernel
theorem dX11_worth_8 : decode cX11_worth 8 = .ok (.iconst 1, 1) := by decide +kernel
theorem dX11_worth_9 : decode cX11_worth 9 = .ok (.invokevirtual 68, 3) := by decide +kernel
theorem dX11_worth_12 : decode cX11_worth 12 = .ok (.ifCond .ne 6, 3) := by decide +kernel
theorem dX11_worth_15 : decode cX11_worth 15 = .ok (.ldc 171, 2) := by decide +kernel
theorem dX11_worth_17 : decode cX11_worth 17 = .ok (.ireturn, 1) := by decide +kernel
theorem dX11_worth_18 : decode cX11_worth 18 = .ok (.iconst 0, 1) := by decide +kernel
theorem dX11_worth_19 : decode cX11_worth 19 = .ok (.istore_n 1, 1) := by decide +kernel
theorem dX11_worth_20 : decode cX11_worth 20 = .ok (.iconst 1, 1) := by decide +kernel
theorem dX11_worth_21 : decode cX11_worth 21 = .ok (.istore_n 2, 1) := by decide +kernel
theorem dX11_worth_22 : decode cX11_worth 22 = .ok (.iload_n 2, 1) := by decide +kernel
theorem dX11_worth_23 : decode cX11_worth 23 = .ok (.aload_n 0, 1) := by decide +kernel
theorem dX11_worth_24 : decode cX11_worth 24 = .ok (.getfield 29, 3) := by decide +kernel
theorem dX11_worth_27 : decode cX11_worth 27 = .ok (.getfield 154, 3) := by decide +kernel
theorem dX11_worth_30 : decode cX11_worth 30 = .ok (.if_icmp .gt 32, 3) := by decide +kernel
theorem dX11_worth_33 : decode cX11_worth 33 = .ok (.aload_n 0, 1) := by decide +kernel
theorem dX11_worth_34 : decode cX11_worth 34 = .ok (.getfield 53, 3) := by decide +kernel
theorem dX11_worth_37 : decode cX11_worth 37 = .ok (.aload_n 0, 1) := by decide +kernel
theorem dX11_worth_38 : decode cX11_worth 38 = .ok (.getfield 29, 3) := by decide +kernel
theorem dX11_worth_41 : decode cX11_worth 41 = .ok (.iload_n 2, 1) := by decide +kernel
theorem dX11_worth_42 : decode cX11_worth 42 = .ok (.invokevirtual 160, 3) := by decide +kernel
theorem dX11_worth_45 : decode cX11_worth 45 = .ok (.iload_n 1, 1) := by decide +kernel
theorem dX11_worth_46 : decode cX11_worth 46 = .ok (.aload_n 0, 1) := by decide +kernel
theorem dX11_worth_47 : decode cX11_worth 47 = .ok (.getfield 53, 3) := by decide +kernel
theorem dX11_worth_50 : decode cX11_worth 50 = .ok (.iconst 0, 1) := by decide +kernel
theorem dX11_worth_51 : decode cX11_worth 51 = .ok (.invokevirtual 164, 3) := by decide +kernel
theorem dX11_worth_54 : decode cX11_worth 54 = .ok (.iadd, 1) := by decide +kernel
theorem dX11_worth_55 : decode cX11_worth 55 = .ok (.istore_n 1, 1) := by decide +kernel
theorem dX11_worth_56 : decode cX11_worth 56 = .ok (.iinc 2 1, 3) := by decide +kernel
theorem dX11_worth_59 : decode cX11_worth 59 = .ok (.goto (-37), 3) := by decide +kernel
theorem dX11_worth_62 : decode cX11_worth 62 = .ok (.iload_n 1, 1) := by decide +kernel
theorem dX11_worth_63 : decode cX11_worth 63 = .ok (.ireturn, 1) := by decide +kernel
theorem dX11_real_0 : decode cX11_real 0 = .ok (.aload_n 0, 1) := by decide +kernel
theorem dX11_real_1 : decode cX11_real 1 = .ok (.aload_n 0, 1) := by decide +kernel
theorem dX11_real_2 : decode cX11_real 2 = .ok (.getfield 29, 3) := by decide +kernel
theorem dX11_real_5 : decode cX11_real 5 = .ok (.invokevirtual 150, 3) := by decide +kernel
theorem dX11_real_8 : decode cX11_real 8 = .ok (.aload_n 0, 1) := by decide +kernel
theorem dX11_real_9 : decode cX11_real 9 = .ok (.getfield 29, 3) := by decide +kernel
theorem dX11_real_12 : decode cX11_real 12 = .ok (.iload_n 1, 1) := by decide +kernel
theorem dX11_real_13 : decode cX11_real 13 = .ok (.invokevirtual 110, 3) := by decide +kernel
theorem dX11_real_16 : decode cX11_real 16 = .ok (.invokevirtual 68, 3) := by decide +kernel
theorem dX11_real_19 : decode cX11_real 19 = .ok (.ifCond .ne 7, 3) := by decide +kernel
theorem dX11_real_22 : decode cX11_real 22 = .ok (.sipush (-10000), 3) := by decide +kernel
theorem dX11_real_25 : decode cX11_real 25 = .ok (.ireturn, 1) := by decide +kernel
theorem dX11_real_26 : decode cX11_real 26 = .ok (.aload_n 0, 1) := by decide +kernel
theorem dX11_real_27 : decode cX11_real 27 = .ok (.getfield 29, 3) := by decide +kernel
theorem dX11_real_30 : decode cX11_real 30 = .ok (.iload_n 1, 1) := by decide +kernel
theorem dX11_real_31 : decode cX11_real 31 = .ok (.aload_n 0, 1) := by decide +kernel
theorem dX11_real_32 : decode cX11_real 32 = .ok (.getfield 46, 3) := by decide +kernel
theorem dX11_real_35 : decode cX11_real 35 = .ok (.invokevirtual 113, 3) := by decide +kernel
theorem dX11_real_38 : decode cX11_real 38 = .ok (.invokevirtual 172, 3) := by decide +kernel
theorem dX11_real_41 : decode cX11_real 41 = .ok (.ireturn, 1) := by decide +kernel
theorem dX11_terms_0 : decode cX11_terms 0 = .ok (.aload_n 0, 1) := by decide +kernel
theorem dX11_terms_1 : decode cX11_terms 1 = .ok (.aload_n 0, 1) := by decide +kernel
theorem dX11_terms_2 : decode cX11_terms 2 = .ok (.getfield 29, 3) := by decide +kernel
theorem dX11_terms_5 : decode cX11_terms 5 = .ok (.invokevirtual 150, 3) := by decide +kernel
theorem dX11_terms_8 : decode cX11_terms 8 = .ok (.iconst 1, 1) := by decide +kernel
theorem dX11_terms_9 : decode cX11_terms 9 = .ok (.invokevirtual 68, 3) := by decide +kernel
theorem dX11_terms_12 : decode cX11_terms 12 = .ok (.ifCond .ne 5, 3) := by decide +kernel
theorem dX11_terms_15 : decode cX11_terms 15 = .ok (.iconst (-1), 1) := by decide +kernel
theorem dX11_terms_16 : decode cX11_terms 16 = .ok (.ireturn, 1) := by decide +kernel
theorem dX11_terms_17 : decode cX11_terms 17 = .ok (.aload_n 0, 1) := by decide +kernel
theorem dX11_terms_18 : decode cX11_terms 18 = .ok (.getfield 29, 3) := by decide +kernel
theorem dX11_terms_21 : decode cX11_terms 21 = .ok (.aload_n 0, 1) := by decide +kernel
theorem dX11_terms_22 : decode cX11_terms 22 = .ok (.getfield 46, 3) := by decide +kernel
theorem dX11_terms_25 : decode cX11_terms 25 = .ok (.invokevirtual 113, 3) := by decide +kernel
theorem dX11_terms_28 : decode cX11_terms 28 = .ok (.invokevirtual 175, 3) := by decide +kernel
theorem dX11_terms_31 : decode cX11_terms 31 = .ok (.ireturn, 1) := by decide +kernel
theorem dX11_ask_0 : decode cX11_ask 0 = .ok (.aload_n 0, 1) := by decide +kernel
theorem dX11_ask_1 : decode cX11_ask 1 = .ok (.aload_n 0, 1) := by decide +kernel
theorem dX11_ask_2 : decode cX11_ask 2 = .ok (.getfield 29, 3) := by decide +kernel
theorem dX11_ask_5 : decode cX11_ask 5 = .ok (.iload_n 1, 1) := by decide +kernel
theorem dX11_ask_6 : decode cX11_ask 6 = .ok (.invokevirtual 96, 3) := by decide +kernel
theorem dX11_ask_9 : decode cX11_ask 9 = .ok (.ifCond .eq 18, 3) := by decide +kernel
theorem dX11_ask_12 : decode cX11_ask 12 = .ok (.aload_n 0, 1) := by decide +kernel
theorem dX11_ask_13 : decode cX11_ask 13 = .ok (.getfield 29, 3) := by decide +kernel
theorem dX11_ask_16 : decode cX11_ask 16 = .ok (.iload_n 2, 1) := by decide +kernel
theorem dX11_ask_17 : decode cX11_ask 17 = .ok (.invokevirtual 99, 3) := by decide +kernel
theorem dX11_ask_20 : decode cX11_ask 20 = .ok (.ifCond .eq 7, 3) := by decide +kernel
theorem dX11_ask_23 : decode cX11_ask 23 = .ok (.iconst 1, 1) := by decide +kernel
theorem dX11_ask_24 : decode cX11_ask 24 = .ok (.goto 4, 3) := by decide +kernel
theorem dX11_ask_27 : decode cX11_ask 27 = .ok (.iconst 0, 1) := by decide +kernel
theorem dX11_ask_28 : decode cX11_ask 28 = .ok (.aload_n 0, 1) := by decide +kernel
theorem dX11_ask_29 : decode cX11_ask 29 = .ok (.getfield 29, 3) := by decide +kernel
theorem dX11_ask_32 : decode cX11_ask 32 = .ok (.iload_n 3, 1) := by decide +kernel
theorem dX11_ask_33 : decode cX11_ask 33 = .ok (.iload 4, 2) := by decide +kernel
theorem dX11_ask_35 : decode cX11_ask 35 = .ok (.invokevirtual 179, 3) := by decide +kernel
theorem dX11_ask_38 : decode cX11_ask 38 = .ok (.invokevirtual 68, 3) := by decide +kernel
theorem dX11_ask_41 : decode cX11_ask 41 = .ok (.ifCond .ne 5, 3) := by decide +kernel
theorem dX11_ask_44 : decode cX11_ask 44 = .ok (.iconst (-1), 1) := by decide +kernel
theorem dX11_ask_45 : decode cX11_ask 45 = .ok (.ireturn, 1) := by decide +kernel
theorem dX11_ask_46 : decode cX11_ask 46 = .ok (.aload_n 0, 1) := by decide +kernel
theorem dX11_ask_47 : decode cX11_ask 47 = .ok (.getfield 29, 3) := by decide +kernel
theorem dX11_ask_50 : decode cX11_ask 50 = .ok (.iload_n 1, 1) := by decide +kernel
theorem dX11_ask_51 : decode cX11_ask 51 = .ok (.iload_n 2, 1) := by decide +kernel
theorem dX11_ask_52 : decode cX11_ask 52 = .ok (.invokevirtual 102, 3) := by decide +kernel
theorem dX11_ask_55 : decode cX11_ask 55 = .ok (.ifCond .ne 11, 3) := by decide +kernel
theorem dX11_ask_58 : decode cX11_ask 58 = .ok (.aload_n 0, 1) := by decide +kernel
theorem dX11_ask_59 : decode cX11_ask 59 = .ok (.iconst 5, 1) := by decide +kernel
theorem dX11_ask_60 : decode cX11_ask 60 = .ok (.invokevirtual 78, 3) := by decide +kernel
theorem dX11_ask_63 : decode cX11_ask 63 = .ok (.pop, 1) := by decide +kernel
theorem dX11_ask_64 : decode cX11_ask 64 = .ok (.iconst (-1), 1) := by decide +kernel
theorem dX11_ask_65 : decode cX11_ask 65 = .ok (.ireturn, 1) := by decide +kernel
theorem dX11_ask_66 : decode cX11_ask 66 = .ok (.aload_n 0, 1) := by decide +kernel
theorem dX11_ask_67 : decode cX11_ask 67 = .ok (.getfield 29, 3) := by decide +kernel
theorem dX11_ask_70 : decode cX11_ask 70 = .ok (.iload_n 1, 1) := by decide +kernel
theorem dX11_ask_71 : decode cX11_ask 71 = .ok (.iload_n 2, 1) := by decide +kernel
theorem dX11_ask_72 : decode cX11_ask 72 = .ok (.iload_n 3, 1) := by decide +kernel
theorem dX11_ask_73 : decode cX11_ask 73 = .ok (.iload 4, 2) := by decide +kernel
theorem dX11_ask_75 : decode cX11_ask 75 = .ok (.invokevirtual 182, 3) := by decide +kernel
theorem dX11_ask_78 : decode cX11_ask 78 = .ok (.ireturn, 1) := by decide +kernel
theorem dX11_wearers_0 : decode cX11_wearers 0 = .ok (.aload_n 0, 1) := by decide +kernel
theorem dX11_wearers_1 : decode cX11_wearers 1 = .ok (.aload_n 0, 1) := by decide +kernel
theorem dX11_wearers_2 : decode cX11_wearers 2 = .ok (.getfield 29, 3) := by decide +kernel
theorem dX11_wearers_5 : decode cX11_wearers 5 = .ok (.invokevirtual 150, 3) := by decide +kernel
theorem dX11_wearers_8 : decode cX11_wearers 8 = .ok (.aload_n 0, 1) := by decide +kernel
theorem dX11_wearers_9 : decode cX11_wearers 9 = .ok (.getfield 29, 3) := by decide +kernel
theorem dX11_wearers_12 : decode cX11_wearers 12 = .ok (.iload_n 1, 1) := by decide +kernel
theorem dX11_wearers_13 : decode cX11_wearers 13 = .ok (.invokevirtual 110, 3) := by decide +kernel
theorem dX11_wearers_16 : decode cX11_wearers 16 = .ok (.invokevirtual 68, 3) := by decide +kernel
theorem dX11_wearers_19 : decode cX11_wearers 19 = .ok (.ifCond .ne 5, 3) := by decide +kernel
theorem dX11_wearers_22 : decode cX11_wearers 22 = .ok (.iconst (-1), 1) := by decide +kernel
theorem dX11_wearers_23 : decode cX11_wearers 23 = .ok (.ireturn, 1) := by decide +kernel
theorem dX11_wearers_24 : decode cX11_wearers 24 = .ok (.aload_n 0, 1) := by decide +kernel
theorem dX11_wearers_25 : decode cX11_wearers 25 = .ok (.getfield 60, 3) := by decide +kernel
theorem dX11_wearers_28 : decode cX11_wearers 28 = .ok (.aload_n 0, 1) := by decide +kernel
theorem dX11_wearers_29 : decode cX11_wearers 29 = .ok (.getfield 29, 3) := by decide +kernel
theorem dX11_wearers_32 : decode cX11_wearers 32 = .ok (.aload_n 0, 1) := by decide +kernel
theorem dX11_wearers_33 : decode cX11_wearers 33 = .ok (.getfield 46, 3) := by decide +kernel
theorem dX11_wearers_36 : decode cX11_wearers 36 = .ok (.invokevirtual 113, 3) := by decide +kernel
theorem dX11_wearers_39 : decode cX11_wearers 39 = .ok (.iload_n 1, 1) := by decide +kernel
theorem dX11_wearers_40 : decode cX11_wearers 40 = .ok (.invokevirtual 186, 3) := by decide +kernel
theorem dX11_wearers_43 : decode cX11_wearers 43 = .ok (.aload_n 0, 1) := by decide +kernel
theorem dX11_wearers_44 : decode cX11_wearers 44 = .ok (.getfield 60, 3) := by decide +kernel
theorem dX11_wearers_47 : decode cX11_wearers 47 = .ok (.invokevirtual 190, 3) := by decide +kernel
theorem dX11_wearers_50 : decode cX11_wearers 50 = .ok (.ireturn, 1) := by decide +kernel
theorem dX11_odds_0 : decode cX11_odds 0 = .ok (.aload_n 0, 1) := by decide +kernel
theorem dX11_odds_1 : decode cX11_odds 1 = .ok (.aload_n 0, 1) := by decide +kernel
theorem dX11_odds_2 : decode cX11_odds 2 = .ok (.getfield 29, 3) := by decide +kernel
theorem dX11_odds_5 : decode cX11_odds 5 = .ok (.iload_n 2, 1) := by decide +kernel
theorem dX11_odds_6 : decode cX11_odds 6 = .ok (.invokevirtual 96, 3) := by decide +kernel
theorem dX11_odds_9 : decode cX11_odds 9 = .ok (.ifCond .eq 18, 3) := by decide +kernel
theorem dX11_odds_12 : decode cX11_odds 12 = .ok (.aload_n 0, 1) := by decide +kernel
theorem dX11_odds_13 : decode cX11_odds 13 = .ok (.getfield 29, 3) := by decide +kernel
theorem dX11_odds_16 : decode cX11_odds 16 = .ok (.iload_n 3, 1) := by decide +kernel
theorem dX11_odds_17 : decode cX11_odds 17 = .ok (.invokevirtual 99, 3) := by decide +kernel
theorem dX11_odds_20 : decode cX11_odds 20 = .ok (.ifCond .eq 7, 3) := by decide +kernel
theorem dX11_odds_23 : decode cX11_odds 23 = .ok (.iconst 1, 1) := by decide +kernel
theorem dX11_odds_24 : decode cX11_odds 24 = .ok (.goto 4, 3) := by decide +kernel
theorem dX11_odds_27 : decode cX11_odds 27 = .ok (.iconst 0, 1) := by decide +kernel
theorem dX11_odds_28 : decode cX11_odds 28 = .ok (.aload_n 0, 1) := by decide +kernel
theorem dX11_odds_29 : decode cX11_odds 29 = .ok (.getfield 29, 3) := by decide +kernel
theorem dX11_odds_32 : decode cX11_odds 32 = .ok (.iload_n 1, 1) := by decide +kernel
theorem dX11_odds_33 : decode cX11_odds 33 = .ok (.invokevirtual 110, 3) := by decide +kernel
theorem dX11_odds_36 : decode cX11_odds 36 = .ok (.invokevirtual 68, 3) := by decide +kernel
theorem dX11_odds_39 : decode cX11_odds 39 = .ok (.ifCond .ne 5, 3) := by decide +kernel
theorem dX11_odds_42 : decode cX11_odds 42 = .ok (.iconst (-1), 1) := by decide +kernel
theorem dX11_odds_43 : decode cX11_odds 43 = .ok (.ireturn, 1) := by decide +kernel
theorem dX11_odds_44 : decode cX11_odds 44 = .ok (.aload_n 0, 1) := by decide +kernel
theorem dX11_odds_45 : decode cX11_odds 45 = .ok (.getfield 60, 3) := by decide +kernel
theorem dX11_odds_48 : decode cX11_odds 48 = .ok (.aload_n 0, 1) := by decide +kernel
theorem dX11_odds_49 : decode cX11_odds 49 = .ok (.getfield 29, 3) := by decide +kernel
theorem dX11_odds_52 : decode cX11_odds 52 = .ok (.aload_n 0, 1) := by decide +kernel
theorem dX11_odds_53 : decode cX11_odds 53 = .ok (.getfield 46, 3) := by decide +kernel
theorem dX11_odds_56 : decode cX11_odds 56 = .ok (.invokevirtual 113, 3) := by decide +kernel
theorem dX11_odds_59 : decode cX11_odds 59 = .ok (.iload_n 1, 1) := by decide +kernel
theorem dX11_odds_60 : decode cX11_odds 60 = .ok (.invokevirtual 186, 3) := by decide +kernel
theorem dX11_odds_63 : decode cX11_odds 63 = .ok (.aload_n 0, 1) := by decide +kernel
theorem dX11_odds_64 : decode cX11_odds 64 = .ok (.getfield 60, 3) := by decide +kernel
theorem dX11_odds_67 : decode cX11_odds 67 = .ok (.invokevirtual 190, 3) := by decide +kernel
theorem dX11_odds_70 : decode cX11_odds 70 = .ok (.istore 5, 2) := by decide +kernel
theorem dX11_odds_72 : decode cX11_odds 72 = .ok (.iload 5, 2) := by decide +kernel
theorem dX11_odds_74 : decode cX11_odds 74 = .ok (.ifCond .ne 12, 3) := by decide +kernel
theorem dX11_odds_77 : decode cX11_odds 77 = .ok (.aload_n 0, 1) := by decide +kernel
theorem dX11_odds_78 : decode cX11_odds 78 = .ok (.bipush 6, 2) := by decide +kernel
theorem dX11_odds_80 : decode cX11_odds 80 = .ok (.invokevirtual 78, 3) := by decide +kernel
theorem dX11_odds_83 : decode cX11_odds 83 = .ok (.pop, 1) := by decide +kernel
theorem dX11_odds_84 : decode cX11_odds 84 = .ok (.iconst (-1), 1) := by decide +kernel
theorem dX11_odds_85 : decode cX11_odds 85 = .ok (.ireturn, 1) := by decide +kernel
theorem dX11_odds_86 : decode cX11_odds 86 = .ok (.aload_n 0, 1) := by decide +kernel
theorem dX11_odds_87 : decode cX11_odds 87 = .ok (.getfield 60, 3) := by decide +kernel
theorem dX11_odds_90 : decode cX11_odds 90 = .ok (.iload_n 2, 1) := by decide +kernel
theorem dX11_odds_91 : decode cX11_odds 91 = .ok (.iload_n 3, 1) := by decide +kernel
theorem dX11_odds_92 : decode cX11_odds 92 = .ok (.invokevirtual 194, 3) := by decide +kernel
theorem dX11_odds_95 : decode cX11_odds 95 = .ok (.istore 6, 2) := by decide +kernel
theorem dX11_odds_97 : decode cX11_odds 97 = .ok (.iload 5, 2) := by decide +kernel
theorem dX11_odds_99 : decode cX11_odds 99 = .ok (.iload 6, 2) := by decide +kernel
theorem dX11_odds_101 : decode cX11_odds 101 = .ok (.invokestatic 197, 3) := by decide +kernel
theorem dX11_odds_104 : decode cX11_odds 104 = .ok (.istore 7, 2) := by decide +kernel
theorem dX11_odds_106 : decode cX11_odds 106 = .ok (.iload 4, 2) := by decide +kernel
theorem dX11_odds_108 : decode cX11_odds 108 = .ok (.ifCond .eq 8, 3) := by decide +kernel
theorem dX11_odds_111 : decode cX11_odds 111 = .ok (.iload 5, 2) := by decide +kernel
theorem dX11_odds_113 : decode cX11_odds 113 = .ok (.goto 5, 3) := by decide +kernel
theorem dX11_odds_116 : decode cX11_odds 116 = .ok (.iload 6, 2) := by decide +kernel
theorem dX11_odds_118 : decode cX11_odds 118 = .ok (.iload 7, 2) := by decide +kernel
theorem dX11_odds_120 : decode cX11_odds 120 = .ok (.idiv, 1) := by decide +kernel
theorem dX11_odds_121 : decode cX11_odds 121 = .ok (.ireturn, 1) := by decide +kernel
theorem dX11_may_0 : decode cX11_may 0 = .ok (.aload_n 0, 1) := by decide +kernel
theorem dX11_may_1 : decode cX11_may 1 = .ok (.aload_n 0, 1) := by decide +kernel
theorem dX11_may_2 : decode cX11_may 2 = .ok (.getfield 29, 3) := by decide +kernel
theorem dX11_may_5 : decode cX11_may 5 = .ok (.iload_n 2, 1) := by decide +kernel
theorem dX11_may_6 : decode cX11_may 6 = .ok (.invokevirtual 96, 3) := by decide +kernel
theorem dX11_may_9 : decode cX11_may 9 = .ok (.aload_n 0, 1) := by decide +kernel
theorem dX11_may_10 : decode cX11_may 10 = .ok (.getfield 29, 3) := by decide +kernel
theorem dX11_may_13 : decode cX11_may 13 = .ok (.iload_n 1, 1) := by decide +kernel
theorem dX11_may_14 : decode cX11_may 14 = .ok (.invokevirtual 110, 3) := by decide +kernel
theorem dX11_may_17 : decode cX11_may 17 = .ok (.invokevirtual 68, 3) := by decide +kernel
theorem dX11_may_20 : decode cX11_may 20 = .ok (.ifCond .ne 5, 3) := by decide +kernel
theorem dX11_may_23 : decode cX11_may 23 = .ok (.iconst (-1), 1) := by decide +kernel
theorem dX11_may_24 : decode cX11_may 24 = .ok (.ireturn, 1) := by decide +kernel
theorem dX11_may_25 : decode cX11_may 25 = .ok (.aload_n 0, 1) := by decide +kernel
theorem dX11_may_26 : decode cX11_may 26 = .ok (.getfield 60, 3) := by decide +kernel
theorem dX11_may_29 : decode cX11_may 29 = .ok (.aload_n 0, 1) := by decide +kernel
theorem dX11_may_30 : decode cX11_may 30 = .ok (.getfield 29, 3) := by decide +kernel
theorem dX11_may_33 : decode cX11_may 33 = .ok (.aload_n 0, 1) := by decide +kernel
theorem dX11_may_34 : decode cX11_may 34 = .ok (.getfield 46, 3) := by decide +kernel
theorem dX11_may_37 : decode cX11_may 37 = .ok (.invokevirtual 113, 3) := by decide +kernel
theorem dX11_may_40 : decode cX11_may 40 = .ok (.iload_n 1, 1) := by decide +kernel
theorem dX11_may_41 : decode cX11_may 41 = .ok (.invokevirtual 186, 3) := by decide +kernel
theorem dX11_may_44 : decode cX11_may 44 = .ok (.aload_n 0, 1) := by decide +kernel
theorem dX11_may_45 : decode cX11_may 45 = .ok (.getfield 60, 3) := by decide +kernel
theorem dX11_may_48 : decode cX11_may 48 = .ok (.iload_n 2, 1) := by decide +kernel
theorem dX11_may_49 : decode cX11_may 49 = .ok (.invokevirtual 200, 3) := by decide +kernel
theorem dX11_may_52 : decode cX11_may 52 = .ok (.ireturn, 1) := by decide +kernel
theorem dX11_untrue_0 : decode cX11_untrue 0 = .ok (.aload_n 0, 1) := by decide +kernel
theorem dX11_untrue_1 : decode cX11_untrue 1 = .ok (.aload_n 0, 1) := by decide +kernel
theorem dX11_untrue_2 : decode cX11_untrue 2 = .ok (.getfield 29, 3) := by decide +kernel
theorem dX11_untrue_5 : decode cX11_untrue 5 = .ok (.invokevirtual 150, 3) := by decide +kernel
theorem dX11_untrue_8 : decode cX11_untrue 8 = .ok (.aload_n 0, 1) := by decide +kernel
theorem dX11_untrue_9 : decode cX11_untrue 9 = .ok (.getfield 29, 3) := by decide +kernel
theorem dX11_untrue_12 : decode cX11_untrue 12 = .ok (.iload_n 1, 1) := by decide +kernel
theorem dX11_untrue_13 : decode cX11_untrue 13 = .ok (.invokevirtual 110, 3) := by decide +kernel
theorem dX11_untrue_16 : decode cX11_untrue 16 = .ok (.invokevirtual 68, 3) := by decide +kernel
theorem dX11_untrue_19 : decode cX11_untrue 19 = .ok (.ifCond .ne 5, 3) := by decide +kernel
theorem dX11_untrue_22 : decode cX11_untrue 22 = .ok (.iconst (-1), 1) := by decide +kernel
theorem dX11_untrue_23 : decode cX11_untrue 23 = .ok (.ireturn, 1) := by decide +kernel
theorem dX11_untrue_24 : decode cX11_untrue 24 = .ok (.aload_n 0, 1) := by decide +kernel
theorem dX11_untrue_25 : decode cX11_untrue 25 = .ok (.getfield 60, 3) := by decide +kernel
theorem dX11_untrue_28 : decode cX11_untrue 28 = .ok (.aload_n 0, 1) := by decide +kernel
theorem dX11_untrue_29 : decode cX11_untrue 29 = .ok (.getfield 29, 3) := by decide +kernel
theorem dX11_untrue_32 : decode cX11_untrue 32 = .ok (.aload_n 0, 1) := by decide +kernel
theorem dX11_untrue_33 : decode cX11_untrue 33 = .ok (.getfield 46, 3) := by decide +kernel
theorem dX11_untrue_36 : decode cX11_untrue 36 = .ok (.invokevirtual 113, 3) := by decide +kernel
theorem dX11_untrue_39 : decode cX11_untrue 39 = .ok (.iload_n 1, 1) := by decide +kernel
theorem dX11_untrue_40 : decode cX11_untrue 40 = .ok (.invokevirtual 186, 3) := by decide +kernel
theorem dX11_untrue_43 : decode cX11_untrue 43 = .ok (.aload_n 0, 1) := by decide +kernel
theorem dX11_untrue_44 : decode cX11_untrue 44 = .ok (.getfield 60, 3) := by decide +kernel
theorem dX11_untrue_47 : decode cX11_untrue 47 = .ok (.getfield 203, 3) := by decide +kernel
theorem dX11_untrue_50 : decode cX11_untrue 50 = .ok (.ireturn, 1) := by decide +kernel
theorem dX11_agrees_0 : decode cX11_agrees 0 = .ok (.aload_n 0, 1) := by decide +kernel
theorem dX11_agrees_1 : decode cX11_agrees 1 = .ok (.aload_n 0, 1) := by decide +kernel
theorem dX11_agrees_2 : decode cX11_agrees 2 = .ok (.getfield 29, 3) := by decide +kernel
theorem dX11_agrees_5 : decode cX11_agrees 5 = .ok (.iload_n 1, 1) := by decide +kernel
theorem dX11_agrees_6 : decode cX11_agrees 6 = .ok (.invokevirtual 206, 3) := by decide +kernel
theorem dX11_agrees_9 : decode cX11_agrees 9 = .ok (.ifCond .eq 18, 3) := by decide +kernel
theorem dX11_agrees_12 : decode cX11_agrees 12 = .ok (.aload_n 0, 1) := by decide +kernel
theorem dX11_agrees_13 : decode cX11_agrees 13 = .ok (.getfield 29, 3) := by decide +kernel
theorem dX11_agrees_16 : decode cX11_agrees 16 = .ok (.iload_n 2, 1) := by decide +kernel
theorem dX11_agrees_17 : decode cX11_agrees 17 = .ok (.invokevirtual 99, 3) := by decide +kernel
theorem dX11_agrees_20 : decode cX11_agrees 20 = .ok (.ifCond .eq 7, 3) := by decide +kernel
theorem dX11_agrees_23 : decode cX11_agrees 23 = .ok (.iconst 1, 1) := by decide +kernel
theorem dX11_agrees_24 : decode cX11_agrees 24 = .ok (.goto 4, 3) := by decide +kernel
theorem dX11_agrees_27 : decode cX11_agrees 27 = .ok (.iconst 0, 1) := by decide +kernel
theorem dX11_agrees_28 : decode cX11_agrees 28 = .ok (.iconst 1, 1) := by decide +kernel
theorem dX11_agrees_29 : decode cX11_agrees 29 = .ok (.invokevirtual 68, 3) := by decide +kernel
theorem dX11_agrees_32 : decode cX11_agrees 32 = .ok (.ifCond .ne 5, 3) := by decide +kernel
theorem dX11_agrees_35 : decode cX11_agrees 35 = .ok (.iconst (-1), 1) := by decide +kernel
theorem dX11_agrees_36 : decode cX11_agrees 36 = .ok (.ireturn, 1) := by decide +kernel
theorem dX11_agrees_37 : decode cX11_agrees 37 = .ok (.aload_n 0, 1) := by decide +kernel
theorem dX11_agrees_38 : decode cX11_agrees 38 = .ok (.getfield 29, 3) := by decide +kernel
theorem dX11_agrees_41 : decode cX11_agrees 41 = .ok (.getfield 209, 3) := by decide +kernel
theorem dX11_agrees_44 : decode cX11_agrees 44 = .ok (.iload_n 1, 1) := by decide +kernel
theorem dX11_agrees_45 : decode cX11_agrees 45 = .ok (.aaload, 1) := by decide +kernel
theorem dX11_agrees_46 : decode cX11_agrees 46 = .ok (.astore_n 3, 1) := by decide +kernel
theorem dX11_agrees_47 : decode cX11_agrees 47 = .ok (.aload_n 0, 1) := by decide +kernel
theorem dX11_agrees_48 : decode cX11_agrees 48 = .ok (.getfield 29, 3) := by decide +kernel
theorem dX11_agrees_51 : decode cX11_agrees 51 = .ok (.aload_n 3, 1) := by decide +kernel
theorem dX11_agrees_52 : decode cX11_agrees 52 = .ok (.getfield 213, 3) := by decide +kernel
theorem dX11_agrees_55 : decode cX11_agrees 55 = .ok (.iload_n 2, 1) := by decide +kernel
theorem dX11_agrees_56 : decode cX11_agrees 56 = .ok (.invokevirtual 102, 3) := by decide +kernel
theorem dX11_agrees_59 : decode cX11_agrees 59 = .ok (.ifCond .eq 23, 3) := by decide +kernel
theorem dX11_agrees_62 : decode cX11_agrees 62 = .ok (.aload_n 3, 1) := by decide +kernel
theorem dX11_agrees_63 : decode cX11_agrees 63 = .ok (.aload_n 0, 1) := by decide +kernel
theorem dX11_agrees_64 : decode cX11_agrees 64 = .ok (.getfield 29, 3) := by decide +kernel
theorem dX11_agrees_67 : decode cX11_agrees 67 = .ok (.getfield 218, 3) := by decide +kernel
theorem dX11_agrees_70 : decode cX11_agrees 70 = .ok (.iload_n 2, 1) := by decide +kernel
theorem dX11_agrees_71 : decode cX11_agrees 71 = .ok (.aaload, 1) := by decide +kernel
theorem dX11_agrees_72 : decode cX11_agrees 72 = .ok (.invokevirtual 222, 3) := by decide +kernel
theorem dX11_agrees_75 : decode cX11_agrees 75 = .ok (.ifCond .eq 7, 3) := by decide +kernel
theorem dX11_agrees_78 : decode cX11_agrees 78 = .ok (.iconst 1, 1) := by decide +kernel
theorem dX11_agrees_79 : decode cX11_agrees 79 = .ok (.goto 4, 3) := by decide +kernel
theorem dX11_agrees_82 : decode cX11_agrees 82 = .ok (.iconst 0, 1) := by decide +kernel
theorem dX11_agrees_83 : decode cX11_agrees 83 = .ok (.invokestatic 106, 3) := by decide +kernel
theorem dX11_agrees_86 : decode cX11_agrees 86 = .ok (.ireturn, 1) := by decide +kernel
theorem dX11_lovers_0 : decode cX11_lovers 0 = .ok (.aload_n 0, 1) := by decide +kernel
theorem dX11_lovers_1 : decode cX11_lovers 1 = .ok (.aload_n 0, 1) := by decide +kernel
theorem dX11_lovers_2 : decode cX11_lovers 2 = .ok (.iload_n 1, 1) := by decide +kernel
theorem dX11_lovers_3 : decode cX11_lovers 3 = .ok (.iload_n 2, 1) := by decide +kernel
theorem dX11_lovers_4 : decode cX11_lovers 4 = .ok (.invokevirtual 226, 3) := by decide +kernel
theorem dX11_lovers_7 : decode cX11_lovers 7 = .ok (.iconst 1, 1) := by decide +kernel
theorem dX11_lovers_8 : decode cX11_lovers 8 = .ok (.invokevirtual 68, 3) := by decide +kernel
theorem dX11_lovers_11 : decode cX11_lovers 11 = .ok (.ifCond .ne 5, 3) := by decide +kernel
theorem dX11_lovers_14 : decode cX11_lovers 14 = .ok (.iconst (-1), 1) := by decide +kernel
theorem dX11_lovers_15 : decode cX11_lovers 15 = .ok (.ireturn, 1) := by decide +kernel
theorem dX11_lovers_16 : decode cX11_lovers 16 = .ok (.aload_n 0, 1) := by decide +kernel
theorem dX11_lovers_17 : decode cX11_lovers 17 = .ok (.getfield 60, 3) := by decide +kernel
theorem dX11_lovers_20 : decode cX11_lovers 20 = .ok (.aload_n 0, 1) := by decide +kernel
theorem dX11_lovers_21 : decode cX11_lovers 21 = .ok (.getfield 29, 3) := by decide +kernel
theorem dX11_lovers_24 : decode cX11_lovers 24 = .ok (.aload_n 0, 1) := by decide +kernel
theorem dX11_lovers_25 : decode cX11_lovers 25 = .ok (.getfield 46, 3) := by decide +kernel
theorem dX11_lovers_28 : decode cX11_lovers 28 = .ok (.invokevirtual 113, 3) := by decide +kernel
theorem dX11_lovers_31 : decode cX11_lovers 31 = .ok (.iload_n 1, 1) := by decide +kernel
theorem dX11_lovers_32 : decode cX11_lovers 32 = .ok (.iload_n 2, 1) := by decide +kernel
theorem dX11_lovers_33 : decode cX11_lovers 33 = .ok (.invokevirtual 229, 3) := by decide +kernel
theorem dX11_lovers_36 : decode cX11_lovers 36 = .ok (.aload_n 0, 1) := by decide +kernel
theorem dX11_lovers_37 : decode cX11_lovers 37 = .ok (.getfield 60, 3) := by decide +kernel
theorem dX11_lovers_40 : decode cX11_lovers 40 = .ok (.invokevirtual 233, 3) := by decide +kernel
theorem dX11_lovers_43 : decode cX11_lovers 43 = .ok (.ireturn, 1) := by decide +kernel
theorem dX11_lover_0 : decode cX11_lover 0 = .ok (.aload_n 0, 1) := by decide +kernel
theorem dX11_lover_1 : decode cX11_lover 1 = .ok (.aload_n 0, 1) := by decide +kernel
theorem dX11_lover_2 : decode cX11_lover 2 = .ok (.iload_n 1, 1) := by decide +kernel
theorem dX11_lover_3 : decode cX11_lover 3 = .ok (.iload_n 2, 1) := by decide +kernel
theorem dX11_lover_4 : decode cX11_lover 4 = .ok (.invokevirtual 226, 3) := by decide +kernel
theorem dX11_lover_7 : decode cX11_lover 7 = .ok (.iconst 1, 1) := by decide +kernel
theorem dX11_lover_8 : decode cX11_lover 8 = .ok (.invokevirtual 68, 3) := by decide +kernel
theorem dX11_lover_11 : decode cX11_lover 11 = .ok (.ifCond .ne 5, 3) := by decide +kernel
theorem dX11_lover_14 : decode cX11_lover 14 = .ok (.iconst (-1), 1) := by decide +kernel
theorem dX11_lover_15 : decode cX11_lover 15 = .ok (.ireturn, 1) := by decide +kernel
theorem dX11_lover_16 : decode cX11_lover 16 = .ok (.aload_n 0, 1) := by decide +kernel
theorem dX11_lover_17 : decode cX11_lover 17 = .ok (.getfield 60, 3) := by decide +kernel
theorem dX11_lover_20 : decode cX11_lover 20 = .ok (.aload_n 0, 1) := by decide +kernel
theorem dX11_lover_21 : decode cX11_lover 21 = .ok (.getfield 29, 3) := by decide +kernel
theorem dX11_lover_24 : decode cX11_lover 24 = .ok (.aload_n 0, 1) := by decide +kernel
theorem dX11_lover_25 : decode cX11_lover 25 = .ok (.getfield 46, 3) := by decide +kernel
theorem dX11_lover_28 : decode cX11_lover 28 = .ok (.invokevirtual 113, 3) := by decide +kernel
theorem dX11_lover_31 : decode cX11_lover 31 = .ok (.iload_n 1, 1) := by decide +kernel
theorem dX11_lover_32 : decode cX11_lover 32 = .ok (.iload_n 2, 1) := by decide +kernel
theorem dX11_lover_33 : decode cX11_lover 33 = .ok (.invokevirtual 229, 3) := by decide +kernel
theorem dX11_lover_36 : decode cX11_lover 36 = .ok (.iload_n 3, 1) := by decide +kernel
theorem dX11_lover_37 : decode cX11_lover 37 = .ok (.ifCond .lt 14, 3) := by decide +kernel
theorem dX11_lover_40 : decode cX11_lover 40 = .ok (.iload_n 3, 1) := by decide +kernel
theorem dX11_lover_41 : decode cX11_lover 41 = .ok (.aload_n 0, 1) := by decide +kernel
theorem dX11_lover_42 : decode cX11_lover 42 = .ok (.getfield 60, 3) := by decide +kernel
theorem dX11_lover_45 : decode cX11_lover 45 = .ok (.invokevirtual 233, 3) := by decide +kernel
theorem dX11_lover_48 : decode cX11_lover 48 = .ok (.if_icmp .lt 11, 3) := by decide +kernel
theorem dX11_lover_51 : decode cX11_lover 51 = .ok (.aload_n 0, 1) := by decide +kernel
theorem dX11_lover_52 : decode cX11_lover 52 = .ok (.iconst 1, 1) := by decide +kernel
theorem dX11_lover_53 : decode cX11_lover 53 = .ok (.invokevirtual 78, 3) := by decide +kernel
theorem dX11_lover_56 : decode cX11_lover 56 = .ok (.pop, 1) := by decide +kernel
theorem dX11_lover_57 : decode cX11_lover 57 = .ok (.iconst (-1), 1) := by decide +kernel
theorem dX11_lover_58 : decode cX11_lover 58 = .ok (.ireturn, 1) := by decide +kernel
theorem dX11_lover_59 : decode cX11_lover 59 = .ok (.aload_n 0, 1) := by decide +kernel
theorem dX11_lover_60 : decode cX11_lover 60 = .ok (.getfield 60, 3) := by decide +kernel
theorem dX11_lover_63 : decode cX11_lover 63 = .ok (.iload_n 3, 1) := by decide +kernel
theorem dX11_lover_64 : decode cX11_lover 64 = .ok (.iload 4, 2) := by decide +kernel
theorem dX11_lover_66 : decode cX11_lover 66 = .ok (.invokevirtual 236, 3) := by decide +kernel
theorem dX11_lover_69 : decode cX11_lover 69 = .ok (.ireturn, 1) := by decide +kernel
theorem dX11_lend_0 : decode cX11_lend 0 = .ok (.aload_n 0, 1) := by decide +kernel
theorem dX11_lend_1 : decode cX11_lend 1 = .ok (.aload_n 0, 1) := by decide +kernel
theorem dX11_lend_2 : decode cX11_lend 2 = .ok (.getfield 29, 3) := by decide +kernel
theorem dX11_lend_5 : decode cX11_lend 5 = .ok (.iload_n 1, 1) := by decide +kernel
theorem dX11_lend_6 : decode cX11_lend 6 = .ok (.invokevirtual 96, 3) := by decide +kernel
theorem dX11_lend_9 : decode cX11_lend 9 = .ok (.ifCond .eq 18, 3) := by decide +kernel
theorem dX11_lend_12 : decode cX11_lend 12 = .ok (.aload_n 0, 1) := by decide +kernel
theorem dX11_lend_13 : decode cX11_lend 13 = .ok (.getfield 29, 3) := by decide +kernel
theorem dX11_lend_16 : decode cX11_lend 16 = .ok (.iload_n 2, 1) := by decide +kernel
theorem dX11_lend_17 : decode cX11_lend 17 = .ok (.invokevirtual 99, 3) := by decide +kernel
theorem dX11_lend_20 : decode cX11_lend 20 = .ok (.ifCond .eq 7, 3) := by decide +kernel
theorem dX11_lend_23 : decode cX11_lend 23 = .ok (.iconst 1, 1) := by decide +kernel
theorem dX11_lend_24 : decode cX11_lend 24 = .ok (.goto 4, 3) := by decide +kernel
theorem dX11_lend_27 : decode cX11_lend 27 = .ok (.iconst 0, 1) := by decide +kernel
theorem dX11_lend_28 : decode cX11_lend 28 = .ok (.aload_n 0, 1) := by decide +kernel
theorem dX11_lend_29 : decode cX11_lend 29 = .ok (.getfield 29, 3) := by decide +kernel
theorem dX11_lend_32 : decode cX11_lend 32 = .ok (.iload_n 3, 1) := by decide +kernel
theorem dX11_lend_33 : decode cX11_lend 33 = .ok (.iload 4, 2) := by decide +kernel
theorem dX11_lend_35 : decode cX11_lend 35 = .ok (.invokevirtual 179, 3) := by decide +kernel
theorem dX11_lend_38 : decode cX11_lend 38 = .ok (.invokevirtual 68, 3) := by decide +kernel
theorem dX11_lend_41 : decode cX11_lend 41 = .ok (.ifCond .ne 5, 3) := by decide +kernel
theorem dX11_lend_44 : decode cX11_lend 44 = .ok (.iconst 0, 1) := by decide +kernel
theorem dX11_lend_45 : decode cX11_lend 45 = .ok (.ireturn, 1) := by decide +kernel
theorem dX11_lend_46 : decode cX11_lend 46 = .ok (.aload_n 0, 1) := by decide +kernel
theorem dX11_lend_47 : decode cX11_lend 47 = .ok (.getfield 46, 3) := by decide +kernel
theorem dX11_lend_50 : decode cX11_lend 50 = .ok (.invokevirtual 113, 3) := by decide +kernel
theorem dX11_lend_53 : decode cX11_lend 53 = .ok (.invokevirtual 240, 3) := by decide +kernel
theorem dX11_lend_56 : decode cX11_lend 56 = .ok (.ifCond .eq 9, 3) := by decide +kernel
theorem dX11_lend_59 : decode cX11_lend 59 = .ok (.aload_n 0, 1) := by decide +kernel
theorem dX11_lend_60 : decode cX11_lend 60 = .ok (.iconst 3, 1) := by decide +kernel
theorem dX11_lend_61 : decode cX11_lend 61 = .ok (.invokevirtual 78, 3) := by decide +kernel
theorem dX11_lend_64 : decode cX11_lend 64 = .ok (.ireturn, 1) := by decide +kernel
theorem dX11_lend_65 : decode cX11_lend 65 = .ok (.aload_n 0, 1) := by decide +kernel
theorem dX11_lend_66 : decode cX11_lend 66 = .ok (.getfield 29, 3) := by decide +kernel
theorem dX11_lend_69 : decode cX11_lend 69 = .ok (.iload_n 1, 1) := by decide +kernel
theorem dX11_lend_70 : decode cX11_lend 70 = .ok (.iload_n 2, 1) := by decide +kernel
theorem dX11_lend_71 : decode cX11_lend 71 = .ok (.iload_n 3, 1) := by decide +kernel
theorem dX11_lend_72 : decode cX11_lend 72 = .ok (.iload 4, 2) := by decide +kernel
theorem dX11_lend_74 : decode cX11_lend 74 = .ok (.aload_n 0, 1) := by decide +kernel
theorem dX11_lend_75 : decode cX11_lend 75 = .ok (.getfield 46, 3) := by decide +kernel
theorem dX11_lend_78 : decode cX11_lend 78 = .ok (.invokevirtual 113, 3) := by decide +kernel
theorem dX11_lend_81 : decode cX11_lend 81 = .ok (.invokevirtual 243, 3) := by decide +kernel
theorem dX11_lend_84 : decode cX11_lend 84 = .ok (.ifCond .ne 9, 3) := by decide +kernel
theorem dX11_lend_87 : decode cX11_lend 87 = .ok (.aload_n 0, 1) := by decide +kernel
theorem dX11_lend_88 : decode cX11_lend 88 = .ok (.iconst 5, 1) := by decide +kernel
theorem dX11_lend_89 : decode cX11_lend 89 = .ok (.invokevirtual 78, 3) := by decide +kernel
theorem dX11_lend_92 : decode cX11_lend 92 = .ok (.ireturn, 1) := by decide +kernel
theorem dX11_lend_93 : decode cX11_lend 93 = .ok (.aload_n 0, 1) := by decide +kernel
theorem dX11_lend_94 : decode cX11_lend 94 = .ok (.getfield 46, 3) := by decide +kernel
theorem dX11_lend_97 : decode cX11_lend 97 = .ok (.invokevirtual 247, 3) := by decide +kernel
theorem dX11_lend_100 : decode cX11_lend 100 = .ok (.iload_n 1, 1) := by decide +kernel
theorem dX11_lend_101 : decode cX11_lend 101 = .ok (.iload_n 2, 1) := by decide +kernel
theorem dX11_lend_102 : decode cX11_lend 102 = .ok (.iload_n 3, 1) := by decide +kernel
theorem dX11_lend_103 : decode cX11_lend 103 = .ok (.iload 4, 2) := by decide +kernel
theorem dX11_lend_105 : decode cX11_lend 105 = .ok (.invokevirtual 250, 3) := by decide +kernel
theorem dX11_lend_108 : decode cX11_lend 108 = .ok (.iconst 1, 1) := by decide +kernel
theorem dX11_lend_109 : decode cX11_lend 109 = .ok (.ireturn, 1) := by decide +kernel
theorem dX11_give_0 : decode cX11_give 0 = .ok (.aload_n 0, 1) := by decide +kernel
theorem dX11_give_1 : decode cX11_give 1 = .ok (.aload_n 0, 1) := by decide +kernel
theorem dX11_give_2 : decode cX11_give 2 = .ok (.getfield 29, 3) := by decide +kernel
theorem dX11_give_5 : decode cX11_give 5 = .ok (.iload_n 1, 1) := by decide +kernel
theorem dX11_give_6 : decode cX11_give 6 = .ok (.invokevirtual 96, 3) := by decide +kernel
theorem dX11_give_9 : decode cX11_give 9 = .ok (.aload_n 0, 1) := by decide +kernel
theorem dX11_give_10 : decode cX11_give 10 = .ok (.getfield 29, 3) := by decide +kernel
theorem dX11_give_13 : decode cX11_give 13 = .ok (.iload_n 2, 1) := by decide +kernel
theorem dX11_give_14 : decode cX11_give 14 = .ok (.invokevirtual 110, 3) := by decide +kernel
theorem dX11_give_17 : decode cX11_give 17 = .ok (.invokevirtual 68, 3) := by decide +kernel
theorem dX11_give_20 : decode cX11_give 20 = .ok (.ifCond .ne 5, 3) := by decide +kernel
theorem dX11_give_23 : decode cX11_give 23 = .ok (.iconst 0, 1) := by decide +kernel
theorem dX11_give_24 : decode cX11_give 24 = .ok (.ireturn, 1) := by decide +kernel
theorem dX11_give_25 : decode cX11_give 25 = .ok (.aload_n 0, 1) := by decide +kernel
theorem dX11_give_26 : decode cX11_give 26 = .ok (.getfield 46, 3) := by decide +kernel
theorem dX11_give_29 : decode cX11_give 29 = .ok (.invokevirtual 113, 3) := by decide +kernel
theorem dX11_give_32 : decode cX11_give 32 = .ok (.iload_n 1, 1) := by decide +kernel
theorem dX11_give_33 : decode cX11_give 33 = .ok (.iload_n 2, 1) := by decide +kernel
theorem dX11_give_34 : decode cX11_give 34 = .ok (.invokevirtual 254, 3) := by decide +kernel
theorem dX11_give_37 : decode cX11_give 37 = .ok (.istore_n 3, 1) := by decide +kernel
theorem dX11_give_38 : decode cX11_give 38 = .ok (.iload_n 3, 1) := by decide +kernel
theorem dX11_give_39 : decode cX11_give 39 = .ok (.ifCond .ge 10, 3) := by decide +kernel
theorem dX11_give_42 : decode cX11_give 42 = .ok (.aload_n 0, 1) := by decide +kernel
theorem dX11_give_43 : decode cX11_give 43 = .ok (.bipush 6, 2) := by decide +kernel
theorem dX11_give_45 : decode cX11_give 45 = .ok (.invokevirtual 78, 3) := by decide +kernel
theorem dX11_give_48 : decode cX11_give 48 = .ok (.ireturn, 1) := by decide +kernel
theorem dX11_give_49 : decode cX11_give 49 = .ok (.aload_n 0, 1) := by decide +kernel
theorem dX11_give_50 : decode cX11_give 50 = .ok (.getfield 46, 3) := by decide +kernel
theorem dX11_give_53 : decode cX11_give 53 = .ok (.invokevirtual 247, 3) := by decide +kernel
theorem dX11_give_56 : decode cX11_give 56 = .ok (.iload_n 3, 1) := by decide +kernel
theorem dX11_give_57 : decode cX11_give 57 = .ok (.iload_n 2, 1) := by decide +kernel
theorem dX11_give_58 : decode cX11_give 58 = .ok (.invokevirtual 257, 3) := by decide +kernel
theorem dX11_give_61 : decode cX11_give 61 = .ok (.iconst 1, 1) := by decide +kernel
theorem dX11_give_62 : decode cX11_give 62 = .ok (.ireturn, 1) := by decide +kernel
theorem dX11_pass_0 : decode cX11_pass 0 = .ok (.aload_n 0, 1) := by decide +kernel
theorem dX11_pass_1 : decode cX11_pass 1 = .ok (.aload_n 0, 1) := by decide +kernel
theorem dX11_pass_2 : decode cX11_pass 2 = .ok (.getfield 29, 3) := by decide +kernel
theorem dX11_pass_5 : decode cX11_pass 5 = .ok (.iload_n 1, 1) := by decide +kernel
theorem dX11_pass_6 : decode cX11_pass 6 = .ok (.invokevirtual 96, 3) := by decide +kernel
theorem dX11_pass_9 : decode cX11_pass 9 = .ok (.ifCond .eq 18, 3) := by decide +kernel
theorem dX11_pass_12 : decode cX11_pass 12 = .ok (.aload_n 0, 1) := by decide +kernel
theorem dX11_pass_13 : decode cX11_pass 13 = .ok (.getfield 29, 3) := by decide +kernel
theorem dX11_pass_16 : decode cX11_pass 16 = .ok (.iload_n 3, 1) := by decide +kernel
theorem dX11_pass_17 : decode cX11_pass 17 = .ok (.invokevirtual 99, 3) := by decide +kernel
theorem dX11_pass_20 : decode cX11_pass 20 = .ok (.ifCond .eq 7, 3) := by decide +kernel
theorem dX11_pass_23 : decode cX11_pass 23 = .ok (.iconst 1, 1) := by decide +kernel
theorem dX11_pass_24 : decode cX11_pass 24 = .ok (.goto 4, 3) := by decide +kernel
theorem dX11_pass_27 : decode cX11_pass 27 = .ok (.iconst 0, 1) := by decide +kernel
theorem dX11_pass_28 : decode cX11_pass 28 = .ok (.aload_n 0, 1) := by decide +kernel
theorem dX11_pass_29 : decode cX11_pass 29 = .ok (.getfield 29, 3) := by decide +kernel
theorem dX11_pass_32 : decode cX11_pass 32 = .ok (.iload_n 2, 1) := by decide +kernel
theorem dX11_pass_33 : decode cX11_pass 33 = .ok (.invokevirtual 110, 3) := by decide +kernel
theorem dX11_pass_36 : decode cX11_pass 36 = .ok (.invokevirtual 68, 3) := by decide +kernel
theorem dX11_pass_39 : decode cX11_pass 39 = .ok (.ifCond .ne 5, 3) := by decide +kernel
theorem dX11_pass_42 : decode cX11_pass 42 = .ok (.iconst 0, 1) := by decide +kernel
theorem dX11_pass_43 : decode cX11_pass 43 = .ok (.ireturn, 1) := by decide +kernel
theorem dX11_pass_44 : decode cX11_pass 44 = .ok (.aload_n 0, 1) := by decide +kernel
theorem dX11_pass_45 : decode cX11_pass 45 = .ok (.getfield 46, 3) := by decide +kernel
theorem dX11_pass_48 : decode cX11_pass 48 = .ok (.invokevirtual 113, 3) := by decide +kernel
theorem dX11_pass_51 : decode cX11_pass 51 = .ok (.astore 4, 2) := by decide +kernel
theorem dX11_pass_53 : decode cX11_pass 53 = .ok (.aload 4, 2) := by decide +kernel
theorem dX11_pass_55 : decode cX11_pass 55 = .ok (.iload_n 1, 1) := by decide +kernel
theorem dX11_pass_56 : decode cX11_pass 56 = .ok (.iload_n 2, 1) := by decide +kernel
theorem dX11_pass_57 : decode cX11_pass 57 = .ok (.invokevirtual 254, 3) := by decide +kernel
theorem dX11_pass_60 : decode cX11_pass 60 = .ok (.istore 5, 2) := by decide +kernel
theorem dX11_pass_62 : decode cX11_pass 62 = .ok (.iload 5, 2) := by decide +kernel
theorem dX11_pass_64 : decode cX11_pass 64 = .ok (.ifCond .ge 10, 3) := by decide +kernel
theorem dX11_pass_67 : decode cX11_pass 67 = .ok (.aload_n 0, 1) := by decide +kernel
theorem dX11_pass_68 : decode cX11_pass 68 = .ok (.bipush 6, 2) := by decide +kernel
theorem dX11_pass_70 : decode cX11_pass 70 = .ok (.invokevirtual 78, 3) := by decide +kernel
theorem dX11_pass_73 : decode cX11_pass 73 = .ok (.ireturn, 1) := by decide +kernel
theorem dX11_pass_74 : decode cX11_pass 74 = .ok (.aload 4, 2) := by decide +kernel
theorem dX11_pass_76 : decode cX11_pass 76 = .ok (.invokevirtual 240, 3) := by decide +kernel
theorem dX11_pass_79 : decode cX11_pass 79 = .ok (.ifCond .eq 20, 3) := by decide +kernel
theorem dX11_pass_82 : decode cX11_pass 82 = .ok (.aload 4, 2) := by decide +kernel
theorem dX11_pass_84 : decode cX11_pass 84 = .ok (.iload 5, 2) := by decide +kernel
theorem dX11_pass_86 : decode cX11_pass 86 = .ok (.invokevirtual 261, 3) := by decide +kernel
theorem dX11_pass_89 : decode cX11_pass 89 = .ok (.iload_n 2, 1) := by decide +kernel
theorem dX11_pass_90 : decode cX11_pass 90 = .ok (.if_icmp .ge 9, 3) := by decide +kernel
theorem dX11_pass_93 : decode cX11_pass 93 = .ok (.aload_n 0, 1) := by decide +kernel
theorem dX11_pass_94 : decode cX11_pass 94 = .ok (.iconst 3, 1) := by decide +kernel
theorem dX11_pass_95 : decode cX11_pass 95 = .ok (.invokevirtual 78, 3) := by decide +kernel
theorem dX11_pass_98 : decode cX11_pass 98 = .ok (.ireturn, 1) := by decide +kernel
theorem dX11_pass_99 : decode cX11_pass 99 = .ok (.aload 4, 2) := by decide +kernel
theorem dX11_pass_101 : decode cX11_pass 101 = .ok (.iload 5, 2) := by decide +kernel
theorem dX11_pass_103 : decode cX11_pass 103 = .ok (.invokevirtual 264, 3) := by decide +kernel
theorem dX11_pass_106 : decode cX11_pass 106 = .ok (.istore 6, 2) := by decide +kernel
theorem dX11_pass_108 : decode cX11_pass 108 = .ok (.aload_n 0, 1) := by decide +kernel
theorem dX11_pass_109 : decode cX11_pass 109 = .ok (.getfield 29, 3) := by decide +kernel
theorem dX11_pass_112 : decode cX11_pass 112 = .ok (.iload_n 1, 1) := by decide +kernel
theorem dX11_pass_113 : decode cX11_pass 113 = .ok (.iload_n 3, 1) := by decide +kernel
theorem dX11_pass_114 : decode cX11_pass 114 = .ok (.invokevirtual 102, 3) := by decide +kernel
theorem dX11_pass_117 : decode cX11_pass 117 = .ok (.ifCond .eq 15, 3) := by decide +kernel
theorem dX11_pass_120 : decode cX11_pass 120 = .ok (.aload 4, 2) := by decide +kernel
theorem dX11_pass_122 : decode cX11_pass 122 = .ok (.iload_n 3, 1) := by decide +kernel
theorem dX11_pass_123 : decode cX11_pass 123 = .ok (.iload_n 2, 1) := by decide +kernel
theorem dX11_pass_124 : decode cX11_pass 124 = .ok (.iload 6, 2) := by decide +kernel
theorem dX11_pass_126 : decode cX11_pass 126 = .ok (.invokevirtual 267, 3) := by decide +kernel
theorem dX11_pass_129 : decode cX11_pass 129 = .ok (.ifCond .ne 9, 3) := by decide +kernel
theorem dX11_pass_132 : decode cX11_pass 132 = .ok (.aload_n 0, 1) := by decide +kernel
theorem dX11_pass_133 : decode cX11_pass 133 = .ok (.iconst 5, 1) := by decide +kernel
theorem dX11_pass_134 : decode cX11_pass 134 = .ok (.invokevirtual 78, 3) := by decide +kernel
theorem dX11_pass_137 : decode cX11_pass 137 = .ok (.ireturn, 1) := by decide +kernel
theorem dX11_pass_138 : decode cX11_pass 138 = .ok (.aload_n 0, 1) := by decide +kernel
theorem dX11_pass_139 : decode cX11_pass 139 = .ok (.getfield 46, 3) := by decide +kernel
theorem dX11_pass_142 : decode cX11_pass 142 = .ok (.invokevirtual 247, 3) := by decide +kernel
theorem dX11_pass_145 : decode cX11_pass 145 = .ok (.astore 7, 2) := by decide +kernel
theorem dX11_pass_147 : decode cX11_pass 147 = .ok (.aload 7, 2) := by decide +kernel
theorem dX11_pass_149 : decode cX11_pass 149 = .ok (.iload 5, 2) := by decide +kernel
theorem dX11_pass_151 : decode cX11_pass 151 = .ok (.iload_n 2, 1) := by decide +kernel
theorem dX11_pass_152 : decode cX11_pass 152 = .ok (.invokevirtual 257, 3) := by decide +kernel
theorem dX11_pass_155 : decode cX11_pass 155 = .ok (.aload 7, 2) := by decide +kernel
theorem dX11_pass_157 : decode cX11_pass 157 = .ok (.iload_n 1, 1) := by decide +kernel
theorem dX11_pass_158 : decode cX11_pass 158 = .ok (.iload_n 3, 1) := by decide +kernel
theorem dX11_pass_159 : decode cX11_pass 159 = .ok (.iload_n 2, 1) := by decide +kernel
theorem dX11_pass_160 : decode cX11_pass 160 = .ok (.iload 6, 2) := by decide +kernel
theorem dX11_pass_162 : decode cX11_pass 162 = .ok (.invokevirtual 250, 3) := by decide +kernel
theorem dX11_pass_165 : decode cX11_pass 165 = .ok (.iconst 1, 1) := by decide +kernel
theorem dX11_pass_166 : decode cX11_pass 166 = .ok (.ireturn, 1) := by decide +kernel
theorem dX11_breaking_0 : decode cX11_breaking 0 = .ok (.aload_n 0, 1) := by decide +kernel
theorem dX11_breaking_1 : decode cX11_breaking 1 = .ok (.aload_n 0, 1) := by decide +kernel
theorem dX11_breaking_2 : decode cX11_breaking 2 = .ok (.getfield 29, 3) := by decide +kernel
theorem dX11_breaking_5 : decode cX11_breaking 5 = .ok (.iload_n 1, 1) := by decide +kernel
theorem dX11_breaking_6 : decode cX11_breaking 6 = .ok (.invokevirtual 99, 3) := by decide +kernel
theorem dX11_breaking_9 : decode cX11_breaking 9 = .ok (.aload_n 0, 1) := by decide +kernel
theorem dX11_breaking_10 : decode cX11_breaking 10 = .ok (.getfield 29, 3) := by decide +kernel
theorem dX11_breaking_13 : decode cX11_breaking 13 = .ok (.iload_n 2, 1) := by decide +kernel
theorem dX11_breaking_14 : decode cX11_breaking 14 = .ok (.invokevirtual 110, 3) := by decide +kernel
theorem dX11_breaking_17 : decode cX11_breaking 17 = .ok (.invokevirtual 68, 3) := by decide +kernel
theorem dX11_breaking_20 : decode cX11_breaking 20 = .ok (.ifCond .ne 5, 3) := by decide +kernel
theorem dX11_breaking_23 : decode cX11_breaking 23 = .ok (.iconst 0, 1) := by decide +kernel
theorem dX11_breaking_24 : decode cX11_breaking 24 = .ok (.ireturn, 1) := by decide +kernel
theorem dX11_breaking_25 : decode cX11_breaking 25 = .ok (.aload_n 0, 1) := by decide +kernel
theorem dX11_breaking_26 : decode cX11_breaking 26 = .ok (.getfield 46, 3) := by decide +kernel
theorem dX11_breaking_29 : decode cX11_breaking 29 = .ok (.invokevirtual 113, 3) := by decide +kernel
theorem dX11_breaking_32 : decode cX11_breaking 32 = .ok (.iload_n 1, 1) := by decide +kernel
theorem dX11_breaking_33 : decode cX11_breaking 33 = .ok (.iload_n 2, 1) := by decide +kernel
theorem dX11_breaking_34 : decode cX11_breaking 34 = .ok (.invokevirtual 157, 3) := by decide +kernel
theorem dX11_breaking_37 : decode cX11_breaking 37 = .ok (.iload_n 3, 1) := by decide +kernel
theorem dX11_breaking_38 : decode cX11_breaking 38 = .ok (.if_icmp .ne 9, 3) := by decide +kernel
theorem dX11_breaking_41 : decode cX11_breaking 41 = .ok (.aload_n 0, 1) := by decide +kernel
theorem dX11_breaking_42 : decode cX11_breaking 42 = .ok (.iconst 5, 1) := by decide +kernel
theorem dX11_breaking_43 : decode cX11_breaking 43 = .ok (.invokevirtual 78, 3) := by decide +kernel
theorem dX11_breaking_46 : decode cX11_breaking 46 = .ok (.ireturn, 1) := by decide +kernel
theorem dX11_breaking_47 : decode cX11_breaking 47 = .ok (.aload_n 0, 1) := by decide +kernel
theorem dX11_breaking_48 : decode cX11_breaking 48 = .ok (.getfield 46, 3) := by decide +kernel
theorem dX11_breaking_51 : decode cX11_breaking 51 = .ok (.invokevirtual 247, 3) := by decide +kernel
theorem dX11_breaking_54 : decode cX11_breaking 54 = .ok (.iload_n 1, 1) := by decide +kernel
theorem dX11_breaking_55 : decode cX11_breaking 55 = .ok (.iload_n 2, 1) := by decide +kernel
theorem dX11_breaking_56 : decode cX11_breaking 56 = .ok (.invokevirtual 271, 3) := by decide +kernel
theorem dX11_breaking_59 : decode cX11_breaking 59 = .ok (.iconst 1, 1) := by decide +kernel
theorem dX11_breaking_60 : decode cX11_breaking 60 = .ok (.ireturn, 1) := by decide +kernel
theorem dX11_undo_0 : decode cX11_undo 0 = .ok (.aload_n 0, 1) := by decide +kernel
theorem dX11_undo_1 : decode cX11_undo 1 = .ok (.aload_n 0, 1) := by decide +kernel
theorem dX11_undo_2 : decode cX11_undo 2 = .ok (.getfield 46, 3) := by decide +kernel
theorem dX11_undo_5 : decode cX11_undo 5 = .ok (.invokevirtual 274, 3) := by decide +kernel
theorem dX11_undo_8 : decode cX11_undo 8 = .ok (.ifCond .eq 7, 3) := by decide +kernel
theorem dX11_undo_11 : decode cX11_undo 11 = .ok (.iconst 0, 1) := by decide +kernel
theorem dX11_undo_12 : decode cX11_undo 12 = .ok (.goto 5, 3) := by decide +kernel
theorem dX11_undo_15 : decode cX11_undo 15 = .ok (.bipush 6, 2) := by decide +kernel
theorem dX11_undo_17 : decode cX11_undo 17 = .ok (.putfield 17, 3) := by decide +kernel
theorem dX11_undo_20 : decode cX11_undo 20 = .ok (.aload_n 0, 1) := by decide +kernel
theorem dX11_undo_21 : decode cX11_undo 21 = .ok (.getfield 17, 3) := by decide +kernel
theorem dX11_undo_24 : decode cX11_undo 24 = .ok (.ifCond .ne 7, 3) := by decide +kernel
theorem dX11_undo_27 : decode cX11_undo 27 = .ok (.iconst 1, 1) := by decide +kernel
theorem dX11_undo_28 : decode cX11_undo 28 = .ok (.goto 4, 3) := by decide +kernel
theorem dX11_undo_31 : decode cX11_undo 31 = .ok (.iconst 0, 1) := by decide +kernel
theorem dX11_undo_32 : decode cX11_undo 32 = .ok (.ireturn, 1) := by decide +kernel
theorem dX11_redo_0 : decode cX11_redo 0 = .ok (.aload_n 0, 1) := by decide +kernel
theorem dX11_redo_1 : decode cX11_redo 1 = .ok (.aload_n 0, 1) := by decide +kernel
theorem dX11_redo_2 : decode cX11_redo 2 = .ok (.getfield 46, 3) := by decide +kernel
theorem dX11_redo_5 : decode cX11_redo 5 = .ok (.invokevirtual 277, 3) := by decide +kernel
theorem dX11_redo_8 : decode cX11_redo 8 = .ok (.ifCond .eq 7, 3) := by decide +kernel
theorem dX11_redo_11 : decode cX11_redo 11 = .ok (.iconst 0, 1) := by decide +kernel
theorem dX11_redo_12 : decode cX11_redo 12 = .ok (.goto 5, 3) := by decide +kernel
theorem dX11_redo_15 : decode cX11_redo 15 = .ok (.bipush 6, 2) := by decide +kernel
theorem dX11_redo_17 : decode cX11_redo 17 = .ok (.putfield 17, 3) := by decide +kernel
theorem dX11_redo_20 : decode cX11_redo 20 = .ok (.aload_n 0, 1) := by decide +kernel
theorem dX11_redo_21 : decode cX11_redo 21 = .ok (.getfield 17, 3) := by decide +kernel
theorem dX11_redo_24 : decode cX11_redo 24 = .ok (.ifCond .ne 7, 3) := by decide +kernel
theorem dX11_redo_27 : decode cX11_redo 27 = .ok (.iconst 1, 1) := by decide +kernel
theorem dX11_redo_28 : decode cX11_redo 28 = .ok (.goto 4, 3) := by decide +kernel
theorem dX11_redo_31 : decode cX11_redo 31 = .ok (.iconst 0, 1) := by decide +kernel
theorem dX11_redo_32 : decode cX11_redo 32 = .ok (.ireturn, 1) := by decide +kernel
theorem dX11_image_0 : decode cX11_image 0 = .ok (.aload_n 0, 1) := by decide +kernel
theorem dX11_image_1 : decode cX11_image 1 = .ok (.aload_n 0, 1) := by decide +kernel
theorem dX11_image_2 : decode cX11_image 2 = .ok (.getfield 29, 3) := by decide +kernel
theorem dX11_image_5 : decode cX11_image 5 = .ok (.invokevirtual 150, 3) := by decide +kernel
theorem dX11_image_8 : decode cX11_image 8 = .ok (.iconst 1, 1) := by decide +kernel
theorem dX11_image_9 : decode cX11_image 9 = .ok (.invokevirtual 68, 3) := by decide +kernel
theorem dX11_image_12 : decode cX11_image 12 = .ok (.ifCond .ne 5, 3) := by decide +kernel
theorem dX11_image_15 : decode cX11_image 15 = .ok (.iconst (-1), 1) := by decide +kernel
theorem dX11_image_16 : decode cX11_image 16 = .ok (.ireturn, 1) := by decide +kernel
theorem dX11_image_17 : decode cX11_image 17 = .ok (.aload_n 0, 1) := by decide +kernel
theorem dX11_image_18 : decode cX11_image 18 = .ok (.getfield 46, 3) := by decide +kernel
theorem dX11_image_21 : decode cX11_image 21 = .ok (.getfield 280, 3) := by decide +kernel
theorem dX11_image_24 : decode cX11_image 24 = .ok (.iconst 3, 1) := by decide +kernel
theorem dX11_image_25 : decode cX11_image 25 = .ok (.if_icmp .lt 11, 3) := by decide +kernel
theorem dX11_image_28 : decode cX11_image 28 = .ok (.aload_n 0, 1) := by decide +kernel
theorem dX11_image_29 : decode cX11_image 29 = .ok (.iconst 3, 1) := by decide +kernel
theorem dX11_image_30 : decode cX11_image 30 = .ok (.invokevirtual 78, 3) := by decide +kernel
theorem dX11_image_33 : decode cX11_image 33 = .ok (.pop, 1) := by decide +kernel
theorem dX11_image_34 : decode cX11_image 34 = .ok (.iconst (-1), 1) := by decide +kernel
theorem dX11_image_35 : decode cX11_image 35 = .ok (.ireturn, 1) := by decide +kernel
theorem dX11_image_36 : decode cX11_image 36 = .ok (.aload_n 0, 1) := by decide +kernel
theorem dX11_image_37 : decode cX11_image 37 = .ok (.getfield 46, 3) := by decide +kernel
theorem dX11_image_40 : decode cX11_image 40 = .ok (.invokevirtual 283, 3) := by decide +kernel
theorem dX11_image_43 : decode cX11_image 43 = .ok (.ireturn, 1) := by decide +kernel
theorem dX11_back_0 : decode cX11_back 0 = .ok (.aload_n 0, 1) := by decide +kernel
theorem dX11_back_1 : decode cX11_back 1 = .ok (.iload_n 1, 1) := by decide +kernel
theorem dX11_back_2 : decode cX11_back 2 = .ok (.ifCond .lt 18, 3) := by decide +kernel
theorem dX11_back_5 : decode cX11_back 5 = .ok (.iload_n 1, 1) := by decide +kernel
theorem dX11_back_6 : decode cX11_back 6 = .ok (.aload_n 0, 1) := by decide +kernel
theorem dX11_back_7 : decode cX11_back 7 = .ok (.getfield 46, 3) := by decide +kernel
theorem dX11_back_10 : decode cX11_back 10 = .ok (.getfield 280, 3) := by decide +kernel
theorem dX11_back_13 : decode cX11_back 13 = .ok (.if_icmp .ge 7, 3) := by decide +kernel
theorem dX11_back_16 : decode cX11_back 16 = .ok (.iconst 1, 1) := by decide +kernel
theorem dX11_back_17 : decode cX11_back 17 = .ok (.goto 4, 3) := by decide +kernel
theorem dX11_back_20 : decode cX11_back 20 = .ok (.iconst 0, 1) := by decide +kernel
theorem dX11_back_21 : decode cX11_back 21 = .ok (.iconst 1, 1) := by decide +kernel
theorem dX11_back_22 : decode cX11_back 22 = .ok (.invokevirtual 68, 3) := by decide +kernel
theorem dX11_back_25 : decode cX11_back 25 = .ok (.ifCond .ne 5, 3) := by decide +kernel
theorem dX11_back_28 : decode cX11_back 28 = .ok (.iconst 0, 1) := by decide +kernel
theorem dX11_back_29 : decode cX11_back 29 = .ok (.ireturn, 1) := by decide +kernel
theorem dX11_back_30 : decode cX11_back 30 = .ok (.aload_n 0, 1) := by decide +kernel
theorem dX11_back_31 : decode cX11_back 31 = .ok (.getfield 46, 3) := by decide +kernel
theorem dX11_back_34 : decode cX11_back 34 = .ok (.aload_n 0, 1) := by decide +kernel
theorem dX11_back_35 : decode cX11_back 35 = .ok (.getfield 46, 3) := by decide +kernel
theorem dX11_back_38 : decode cX11_back 38 = .ok (.getfield 286, 3) := by decide +kernel
theorem dX11_back_41 : decode cX11_back 41 = .ok (.iload_n 1, 1) := by decide +kernel
theorem dX11_back_42 : decode cX11_back 42 = .ok (.aaload, 1) := by decide +kernel
theorem dX11_back_43 : decode cX11_back 43 = .ok (.invokevirtual 89, 3) := by decide +kernel
theorem dX11_back_46 : decode cX11_back 46 = .ok (.iconst 1, 1) := by decide +kernel
theorem dX11_back_47 : decode cX11_back 47 = .ok (.ireturn, 1) := by decide +kernel
theorem dX11_lending_0 : decode cX11_lending 0 = .ok (.aload_n 0, 1) := by decide +kernel
theorem dX11_lending_1 : decode cX11_lending 1 = .ok (.getfield 46, 3) := by decide +kernel
theorem dX11_lending_4 : decode cX11_lending 4 = .ok (.invokevirtual 113, 3) := by decide +kernel
theorem dX11_lending_7 : decode cX11_lending 7 = .ok (.astore_n 3, 1) := by decide +kernel
theorem dX11_lending_8 : decode cX11_lending 8 = .ok (.aload_n 0, 1) := by decide +kernel
theorem dX11_lending_9 : decode cX11_lending 9 = .ok (.iload_n 1, 1) := by decide +kernel
theorem dX11_lending_10 : decode cX11_lending 10 = .ok (.ifCond .lt 24, 3) := by decide +kernel
theorem dX11_lending_13 : decode cX11_lending 13 = .ok (.iload_n 1, 1) := by decide +kernel
theorem dX11_lending_14 : decode cX11_lending 14 = .ok (.aload_n 3, 1) := by decide +kernel
theorem dX11_lending_15 : decode cX11_lending 15 = .ok (.getfield 290, 3) := by decide +kernel
theorem dX11_lending_18 : decode cX11_lending 18 = .ok (.if_icmp .ge 16, 3) := by decide +kernel
theorem dX11_lending_21 : decode cX11_lending 21 = .ok (.iload_n 2, 1) := by decide +kernel
theorem dX11_lending_22 : decode cX11_lending 22 = .ok (.ifCond .lt 12, 3) := by decide +kernel
theorem dX11_lending_25 : decode cX11_lending 25 = .ok (.iload_n 2, 1) := by decide +kernel
theorem dX11_lending_26 : decode cX11_lending 26 = .ok (.iconst 3, 1) := by decide +kernel
theorem dX11_lending_27 : decode cX11_lending 27 = .ok (.if_icmp .gt 7, 3) := by decide +kernel
theorem dX11_lending_30 : decode cX11_lending 30 = .ok (.iconst 1, 1) := by decide +kernel
theorem dX11_lending_31 : decode cX11_lending 31 = .ok (.goto 4, 3) := by decide +kernel
theorem dX11_lending_34 : decode cX11_lending 34 = .ok (.iconst 0, 1) := by decide +kernel
theorem dX11_lending_35 : decode cX11_lending 35 = .ok (.iconst 1, 1) := by decide +kernel
theorem dX11_lending_36 : decode cX11_lending 36 = .ok (.invokevirtual 68, 3) := by decide +kernel
theorem dX11_lending_39 : decode cX11_lending 39 = .ok (.ifCond .ne 5, 3) := by decide +kernel
theorem dX11_lending_42 : decode cX11_lending 42 = .ok (.iconst (-1), 1) := by decide +kernel
theorem dX11_lending_43 : decode cX11_lending 43 = .ok (.ireturn, 1) := by decide +kernel
theorem dX11_lending_44 : decode cX11_lending 44 = .ok (.iload_n 2, 1) := by decide +kernel
theorem dX11_lending_45 : decode cX11_lending 45 = .ok (.tableswitch 45 0 2 #[27, 33, 39], 27) := by decide +kernel
theorem dX11_lending_72 : decode cX11_lending 72 = .ok (.aload_n 3, 1) := by decide +kernel
theorem dX11_lending_73 : decode cX11_lending 73 = .ok (.iload_n 1, 1) := by decide +kernel
theorem dX11_lending_74 : decode cX11_lending 74 = .ok (.invokevirtual 293, 3) := by decide +kernel
theorem dX11_lending_77 : decode cX11_lending 77 = .ok (.ireturn, 1) := by decide +kernel
theorem dX11_lending_78 : decode cX11_lending 78 = .ok (.aload_n 3, 1) := by decide +kernel
theorem dX11_lending_79 : decode cX11_lending 79 = .ok (.iload_n 1, 1) := by decide +kernel
theorem dX11_lending_80 : decode cX11_lending 80 = .ok (.invokevirtual 296, 3) := by decide +kernel
theorem dX11_lending_83 : decode cX11_lending 83 = .ok (.ireturn, 1) := by decide +kernel
theorem dX11_lending_84 : decode cX11_lending 84 = .ok (.aload_n 3, 1) := by decide +kernel
theorem dX11_lending_85 : decode cX11_lending 85 = .ok (.iload_n 1, 1) := by decide +kernel
theorem dX11_lending_86 : decode cX11_lending 86 = .ok (.invokevirtual 261, 3) := by decide +kernel
theorem dX11_lending_89 : decode cX11_lending 89 = .ok (.ireturn, 1) := by decide +kernel
theorem dX11_lending_90 : decode cX11_lending 90 = .ok (.aload_n 3, 1) := by decide +kernel
theorem dX11_lending_91 : decode cX11_lending 91 = .ok (.iload_n 1, 1) := by decide +kernel
theorem dX11_lending_92 : decode cX11_lending 92 = .ok (.invokevirtual 264, 3) := by decide +kernel
theorem dX11_lending_95 : decode cX11_lending 95 = .ok (.ireturn, 1) := by decide +kernel
theorem dX11_mask_0 : decode cX11_mask 0 = .ok (.aload_n 0, 1) := by decide +kernel
theorem dX11_mask_1 : decode cX11_mask 1 = .ok (.aload_n 0, 1) := by decide +kernel
theorem dX11_mask_2 : decode cX11_mask 2 = .ok (.getfield 29, 3) := by decide +kernel
theorem dX11_mask_5 : decode cX11_mask 5 = .ok (.iload_n 1, 1) := by decide +kernel
theorem dX11_mask_6 : decode cX11_mask 6 = .ok (.invokevirtual 96, 3) := by decide +kernel
theorem dX11_mask_9 : decode cX11_mask 9 = .ok (.ifCond .eq 16, 3) := by decide +kernel
theorem dX11_mask_12 : decode cX11_mask 12 = .ok (.iload_n 2, 1) := by decide +kernel
theorem dX11_mask_13 : decode cX11_mask 13 = .ok (.ifCond .lt 12, 3) := by decide +kernel
theorem dX11_mask_16 : decode cX11_mask 16 = .ok (.iload_n 2, 1) := by decide +kernel
theorem dX11_mask_17 : decode cX11_mask 17 = .ok (.iconst 1, 1) := by decide +kernel
theorem dX11_mask_18 : decode cX11_mask 18 = .ok (.if_icmp .gt 7, 3) := by decide +kernel
theorem dX11_mask_21 : decode cX11_mask 21 = .ok (.iconst 1, 1) := by decide +kernel
theorem dX11_mask_22 : decode cX11_mask 22 = .ok (.goto 4, 3) := by decide +kernel
theorem dX11_mask_25 : decode cX11_mask 25 = .ok (.iconst 0, 1) := by decide +kernel
theorem dX11_mask_26 : decode cX11_mask 26 = .ok (.iconst 1, 1) := by decide +kernel
theorem dX11_mask_27 : decode cX11_mask 27 = .ok (.invokevirtual 68, 3) := by decide +kernel
theorem dX11_mask_30 : decode cX11_mask 30 = .ok (.ifCond .ne 5, 3) := by decide +kernel
theorem dX11_mask_33 : decode cX11_mask 33 = .ok (.iconst (-1), 1) := by decide +kernel
theorem dX11_mask_34 : decode cX11_mask 34 = .ok (.ireturn, 1) := by decide +kernel
theorem dX11_mask_35 : decode cX11_mask 35 = .ok (.iload_n 2, 1) := by decide +kernel
theorem dX11_mask_36 : decode cX11_mask 36 = .ok (.ifCond .ne 18, 3) := by decide +kernel
theorem dX11_mask_39 : decode cX11_mask 39 = .ok (.aload_n 0, 1) := by decide +kernel
theorem dX11_mask_40 : decode cX11_mask 40 = .ok (.getfield 29, 3) := by decide +kernel
theorem dX11_mask_43 : decode cX11_mask 43 = .ok (.getfield 299, 3) := by decide +kernel
theorem dX11_mask_46 : decode cX11_mask 46 = .ok (.iload_n 1, 1) := by decide +kernel
theorem dX11_mask_47 : decode cX11_mask 47 = .ok (.aaload, 1) := by decide +kernel
theorem dX11_mask_48 : decode cX11_mask 48 = .ok (.getfield 303, 3) := by decide +kernel
theorem dX11_mask_51 : decode cX11_mask 51 = .ok (.goto 15, 3) := by decide +kernel
theorem dX11_mask_54 : decode cX11_mask 54 = .ok (.aload_n 0, 1) := by decide +kernel
theorem dX11_mask_55 : decode cX11_mask 55 = .ok (.getfield 29, 3) := by decide +kernel
theorem dX11_mask_58 : decode cX11_mask 58 = .ok (.getfield 299, 3) := by decide +kernel
theorem dX11_mask_61 : decode cX11_mask 61 = .ok (.iload_n 1, 1) := by decide +kernel
theorem dX11_mask_62 : decode cX11_mask 62 = .ok (.aaload, 1) := by decide +kernel
theorem dX11_mask_63 : decode cX11_mask 63 = .ok (.getfield 308, 3) := by decide +kernel
theorem dX11_mask_66 : decode cX11_mask 66 = .ok (.ireturn, 1) := by decide +kernel
theorem dX11_person_0 : decode cX11_person 0 = .ok (.aload_n 0, 1) := by decide +kernel
theorem dX11_person_1 : decode cX11_person 1 = .ok (.aload_n 0, 1) := by decide +kernel
theorem dX11_person_2 : decode cX11_person 2 = .ok (.getfield 29, 3) := by decide +kernel
theorem dX11_person_5 : decode cX11_person 5 = .ok (.iload_n 1, 1) := by decide +kernel
theorem dX11_person_6 : decode cX11_person 6 = .ok (.invokevirtual 99, 3) := by decide +kernel
theorem dX11_person_9 : decode cX11_person 9 = .ok (.ifCond .eq 16, 3) := by decide +kernel
theorem dX11_person_12 : decode cX11_person 12 = .ok (.iload_n 2, 1) := by decide +kernel
theorem dX11_person_13 : decode cX11_person 13 = .ok (.ifCond .lt 12, 3) := by decide +kernel
theorem dX11_person_16 : decode cX11_person 16 = .ok (.iload_n 2, 1) := by decide +kernel
theorem dX11_person_17 : decode cX11_person 17 = .ok (.iconst 4, 1) := by decide +kernel
theorem dX11_person_18 : decode cX11_person 18 = .ok (.if_icmp .gt 7, 3) := by decide +kernel
theorem dX11_person_21 : decode cX11_person 21 = .ok (.iconst 1, 1) := by decide +kernel
theorem dX11_person_22 : decode cX11_person 22 = .ok (.goto 4, 3) := by decide +kernel
theorem dX11_person_25 : decode cX11_person 25 = .ok (.iconst 0, 1) := by decide +kernel
theorem dX11_person_26 : decode cX11_person 26 = .ok (.iconst 1, 1) := by decide +kernel
theorem dX11_person_27 : decode cX11_person 27 = .ok (.invokevirtual 68, 3) := by decide +kernel
theorem dX11_person_30 : decode cX11_person 30 = .ok (.ifCond .ne 5, 3) := by decide +kernel
theorem dX11_person_33 : decode cX11_person 33 = .ok (.iconst (-1), 1) := by decide +kernel
theorem dX11_person_34 : decode cX11_person 34 = .ok (.ireturn, 1) := by decide +kernel
theorem dX11_person_35 : decode cX11_person 35 = .ok (.aload_n 0, 1) := by decide +kernel
theorem dX11_person_36 : decode cX11_person 36 = .ok (.getfield 29, 3) := by decide +kernel
theorem dX11_person_39 : decode cX11_person 39 = .ok (.getfield 218, 3) := by decide +kernel
theorem dX11_person_42 : decode cX11_person 42 = .ok (.iload_n 1, 1) := by decide +kernel
theorem dX11_person_43 : decode cX11_person 43 = .ok (.aaload, 1) := by decide +kernel
theorem dX11_person_44 : decode cX11_person 44 = .ok (.astore_n 3, 1) := by decide +kernel
theorem dX11_person_45 : decode cX11_person 45 = .ok (.iload_n 2, 1) := by decide +kernel
theorem dX11_person_46 : decode cX11_person 46 = .ok (.tableswitch 53 0 3 #[30, 35, 40, 48], 30) := by decide +kernel
theorem dX11_person_76 : decode cX11_person 76 = .ok (.aload_n 3, 1) := by decide +kernel
theorem dX11_person_77 : decode cX11_person 77 = .ok (.getfield 311, 3) := by decide +kernel
theorem dX11_person_80 : decode cX11_person 80 = .ok (.ireturn, 1) := by decide +kernel
theorem dX11_person_81 : decode cX11_person 81 = .ok (.aload_n 3, 1) := by decide +kernel
theorem dX11_person_82 : decode cX11_person 82 = .ok (.getfield 314, 3) := by decide +kernel
theorem dX11_person_85 : decode cX11_person 85 = .ok (.ireturn, 1) := by decide +kernel
theorem dX11_person_86 : decode cX11_person 86 = .ok (.aload_n 3, 1) := by decide +kernel
theorem dX11_person_87 : decode cX11_person 87 = .ok (.getfield 317, 3) := by decide +kernel
theorem dX11_person_90 : decode cX11_person 90 = .ok (.invokestatic 106, 3) := by decide +kernel
theorem dX11_person_93 : decode cX11_person 93 = .ok (.ireturn, 1) := by decide +kernel
theorem dX11_person_94 : decode cX11_person 94 = .ok (.aload_n 3, 1) := by decide +kernel
theorem dX11_person_95 : decode cX11_person 95 = .ok (.getfield 321, 3) := by decide +kernel
theorem dX11_person_98 : decode cX11_person 98 = .ok (.ireturn, 1) := by decide +kernel
theorem dX11_person_99 : decode cX11_person 99 = .ok (.aload_n 3, 1) := by decide +kernel
theorem dX11_person_100 : decode cX11_person 100 = .ok (.getfield 324, 3) := by decide +kernel
theorem dX11_person_103 : decode cX11_person 103 = .ok (.ireturn, 1) := by decide +kernel
theorem dX11_led_0 : decode cX11_led 0 = .ok (.aload_n 0, 1) := by decide +kernel
theorem dX11_led_1 : decode cX11_led 1 = .ok (.getfield 29, 3) := by decide +kernel
theorem dX11_led_4 : decode cX11_led 4 = .ok (.iload_n 1, 1) := by decide +kernel
theorem dX11_led_5 : decode cX11_led 5 = .ok (.invokevirtual 110, 3) := by decide +kernel
theorem dX11_led_8 : decode cX11_led 8 = .ok (.ifCond .eq 7, 3) := by decide +kernel
theorem dX11_led_11 : decode cX11_led 11 = .ok (.iload_n 2, 1) := by decide +kernel
theorem dX11_led_12 : decode cX11_led 12 = .ok (.ifCond .ge 11, 3) := by decide +kernel
theorem dX11_led_15 : decode cX11_led 15 = .ok (.new 327, 3) := by decide +kernel
theorem dX11_led_18 : decode cX11_led 18 = .ok (.dup, 1) := by decide +kernel
theorem dX11_led_19 : decode cX11_led 19 = .ok (.invokespecial 329, 3) := by decide +kernel
theorem dX11_led_22 : decode cX11_led 22 = .ok (.athrow, 1) := by decide +kernel
theorem dX11_led_23 : decode cX11_led 23 = .ok (.iload_n 2, 1) := by decide +kernel
theorem dX11_led_24 : decode cX11_led 24 = .ok (.istore_n 3, 1) := by decide +kernel
theorem dX11_led_25 : decode cX11_led 25 = .ok (.iconst 0, 1) := by decide +kernel
theorem dX11_led_26 : decode cX11_led 26 = .ok (.istore 4, 2) := by decide +kernel
theorem dX11_led_28 : decode cX11_led 28 = .ok (.iload 4, 2) := by decide +kernel
theorem dX11_led_30 : decode cX11_led 30 = .ok (.aload_n 0, 1) := by decide +kernel
theorem dX11_led_31 : decode cX11_led 31 = .ok (.getfield 29, 3) := by decide +kernel
theorem dX11_led_34 : decode cX11_led 34 = .ok (.getfield 93, 3) := by decide +kernel
theorem dX11_led_37 : decode cX11_led 37 = .ok (.if_icmp .ge 35, 3) := by decide +kernel
theorem dX11_led_40 : decode cX11_led 40 = .ok (.aload_n 0, 1) := by decide +kernel
theorem dX11_led_41 : decode cX11_led 41 = .ok (.getfield 46, 3) := by decide +kernel
theorem dX11_led_44 : decode cX11_led 44 = .ok (.invokevirtual 113, 3) := by decide +kernel
theorem dX11_led_47 : decode cX11_led 47 = .ok (.iload 4, 2) := by decide +kernel
theorem dX11_led_49 : decode cX11_led 49 = .ok (.iload_n 1, 1) := by decide +kernel
theorem dX11_led_50 : decode cX11_led 50 = .ok (.invokevirtual 254, 3) := by decide +kernel
theorem dX11_led_53 : decode cX11_led 53 = .ok (.ifCond .ge 13, 3) := by decide +kernel
theorem dX11_led_56 : decode cX11_led 56 = .ok (.iload_n 3, 1) := by decide +kernel
theorem dX11_led_57 : decode cX11_led 57 = .ok (.ifCond .ne 6, 3) := by decide +kernel
theorem dX11_led_60 : decode cX11_led 60 = .ok (.iload 4, 2) := by decide +kernel
theorem dX11_led_62 : decode cX11_led 62 = .ok (.ireturn, 1) := by decide +kernel
theorem dX11_led_63 : decode cX11_led 63 = .ok (.iinc 3 (-1), 3) := by decide +kernel
theorem dX11_led_66 : decode cX11_led 66 = .ok (.iinc 4 1, 3) := by decide +kernel
theorem dX11_led_69 : decode cX11_led 69 = .ok (.goto (-41), 3) := by decide +kernel
theorem dX11_led_72 : decode cX11_led 72 = .ok (.new 327, 3) := by decide +kernel
theorem dX11_led_75 : decode cX11_led 75 = .ok (.dup, 1) := by decide +kernel
theorem dX11_led_76 : decode cX11_led 76 = .ok (.invokespecial 329, 3) := by decide +kernel
theorem dX11_led_79 : decode cX11_led 79 = .ok (.athrow, 1) := by decide +kernel
theorem dX11_size_0 : decode cX11_size 0 = .ok (.iload_n 1, 1) := by decide +kernel
theorem dX11_size_1 : decode cX11_size 1 = .ok (.tableswitch 159 0 11 #[63, 71, 79, 87, 95, 106, 114, 122, 130, 138, 146, 154], 63) := by decide +kernel
theorem dX11_size_64 : decode cX11_size 64 = .ok (.aload_n 0, 1) := by decide +kernel
theorem dX11_size_65 : decode cX11_size 65 = .ok (.getfield 29, 3) := by decide +kernel
theorem dX11_size_68 : decode cX11_size 68 = .ok (.getfield 93, 3) := by decide +kernel
theorem dX11_size_71 : decode cX11_size 71 = .ok (.ireturn, 1) := by decide +kernel
theorem dX11_size_72 : decode cX11_size 72 = .ok (.aload_n 0, 1) := by decide +kernel
theorem dX11_size_73 : decode cX11_size 73 = .ok (.getfield 29, 3) := by decide +kernel
theorem dX11_size_76 : decode cX11_size 76 = .ok (.getfield 330, 3) := by decide +kernel
theorem dX11_size_79 : decode cX11_size 79 = .ok (.ireturn, 1) := by decide +kernel
theorem dX11_size_80 : decode cX11_size 80 = .ok (.aload_n 0, 1) := by decide +kernel
theorem dX11_size_81 : decode cX11_size 81 = .ok (.getfield 29, 3) := by decide +kernel
theorem dX11_size_84 : decode cX11_size 84 = .ok (.getfield 333, 3) := by decide +kernel
theorem dX11_size_87 : decode cX11_size 87 = .ok (.ireturn, 1) := by decide +kernel
theorem dX11_size_88 : decode cX11_size 88 = .ok (.aload_n 0, 1) := by decide +kernel
theorem dX11_size_89 : decode cX11_size 89 = .ok (.getfield 29, 3) := by decide +kernel
theorem dX11_size_92 : decode cX11_size 92 = .ok (.getfield 336, 3) := by decide +kernel
theorem dX11_size_95 : decode cX11_size 95 = .ok (.ireturn, 1) := by decide +kernel
theorem dX11_size_96 : decode cX11_size 96 = .ok (.aload_n 0, 1) := by decide +kernel
theorem dX11_size_97 : decode cX11_size 97 = .ok (.getfield 46, 3) := by decide +kernel
theorem dX11_size_100 : decode cX11_size 100 = .ok (.invokevirtual 113, 3) := by decide +kernel
theorem dX11_size_103 : decode cX11_size 103 = .ok (.getfield 290, 3) := by decide +kernel
theorem dX11_size_106 : decode cX11_size 106 = .ok (.ireturn, 1) := by decide +kernel
theorem dX11_size_107 : decode cX11_size 107 = .ok (.aload_n 0, 1) := by decide +kernel
theorem dX11_size_108 : decode cX11_size 108 = .ok (.getfield 29, 3) := by decide +kernel
theorem dX11_size_111 : decode cX11_size 111 = .ok (.getfield 339, 3) := by decide +kernel
theorem dX11_size_114 : decode cX11_size 114 = .ok (.ireturn, 1) := by decide +kernel
theorem dX11_size_115 : decode cX11_size 115 = .ok (.aload_n 0, 1) := by decide +kernel
theorem dX11_size_116 : decode cX11_size 116 = .ok (.getfield 29, 3) := by decide +kernel
theorem dX11_size_119 : decode cX11_size 119 = .ok (.getfield 342, 3) := by decide +kernel
theorem dX11_size_122 : decode cX11_size 122 = .ok (.ireturn, 1) := by decide +kernel
theorem dX11_size_123 : decode cX11_size 123 = .ok (.aload_n 0, 1) := by decide +kernel
theorem dX11_size_124 : decode cX11_size 124 = .ok (.getfield 29, 3) := by decide +kernel
theorem dX11_size_127 : decode cX11_size 127 = .ok (.getfield 154, 3) := by decide +kernel
theorem dX11_size_130 : decode cX11_size 130 = .ok (.ireturn, 1) := by decide +kernel
theorem dX11_size_131 : decode cX11_size 131 = .ok (.aload_n 0, 1) := by decide +kernel
theorem dX11_size_132 : decode cX11_size 132 = .ok (.getfield 46, 3) := by decide +kernel
theorem dX11_size_135 : decode cX11_size 135 = .ok (.getfield 345, 3) := by decide +kernel
theorem dX11_size_138 : decode cX11_size 138 = .ok (.ireturn, 1) := by decide +kernel
theorem dX11_size_139 : decode cX11_size 139 = .ok (.aload_n 0, 1) := by decide +kernel
theorem dX11_size_140 : decode cX11_size 140 = .ok (.getfield 46, 3) := by decide +kernel
theorem dX11_size_143 : decode cX11_size 143 = .ok (.getfield 348, 3) := by decide +kernel
theorem dX11_size_146 : decode cX11_size 146 = .ok (.ireturn, 1) := by decide +kernel
theorem dX11_size_147 : decode cX11_size 147 = .ok (.aload_n 0, 1) := by decide +kernel
theorem dX11_size_148 : decode cX11_size 148 = .ok (.getfield 46, 3) := by decide +kernel
theorem dX11_size_151 : decode cX11_size 151 = .ok (.getfield 280, 3) := by decide +kernel
theorem dX11_size_154 : decode cX11_size 154 = .ok (.ireturn, 1) := by decide +kernel
theorem dX11_size_155 : decode cX11_size 155 = .ok (.aload_n 0, 1) := by decide +kernel
theorem dX11_size_156 : decode cX11_size 156 = .ok (.getfield 13, 3) := by decide +kernel
theorem dX11_size_159 : decode cX11_size 159 = .ok (.ireturn, 1) := by decide +kernel
theorem dX11_size_160 : decode cX11_size 160 = .ok (.iconst (-1), 1) := by decide +kernel
theorem dX11_size_161 : decode cX11_size 161 = .ok (.ireturn, 1) := by decide +kernel
theorem dX11_trouble_0 : decode cX11_trouble 0 = .ok (.aload_n 0, 1) := by decide +kernel
theorem dX11_trouble_1 : decode cX11_trouble 1 = .ok (.getfield 17, 3) := by decide +kernel
theorem dX11_trouble_4 : decode cX11_trouble 4 = .ok (.ireturn, 1) := by decide +kernel
theorem dX11_admit_0 : decode cX11_admit 0 = .ok (.iload_n 1, 1) := by decide +kernel
theorem dX11_admit_1 : decode cX11_admit 1 = .ok (.ifCond .ne 11, 3) := by decide +kernel
theorem dX11_admit_4 : decode cX11_admit 4 = .ok (.aload_n 0, 1) := by decide +kernel
theorem dX11_admit_5 : decode cX11_admit 5 = .ok (.iconst 1, 1) := by decide +kernel
theorem dX11_admit_6 : decode cX11_admit 6 = .ok (.putfield 17, 3) := by decide +kernel
theorem dX11_admit_9 : decode cX11_admit 9 = .ok (.goto 20, 3) := by decide +kernel
theorem dX11_admit_12 : decode cX11_admit 12 = .ok (.iload_n 2, 1) := by decide +kernel
theorem dX11_admit_13 : decode cX11_admit 13 = .ok (.ifCond .ne 11, 3) := by decide +kernel
theorem dX11_admit_16 : decode cX11_admit 16 = .ok (.aload_n 0, 1) := by decide +kernel
theorem dX11_admit_17 : decode cX11_admit 17 = .ok (.iconst 2, 1) := by decide +kernel
theorem dX11_admit_18 : decode cX11_admit 18 = .ok (.putfield 17, 3) := by decide +kernel
theorem dX11_admit_21 : decode cX11_admit 21 = .ok (.goto 8, 3) := by decide +kernel
theorem dX11_admit_24 : decode cX11_admit 24 = .ok (.aload_n 0, 1) := by decide +kernel
theorem dX11_admit_25 : decode cX11_admit 25 = .ok (.iconst 0, 1) := by decide +kernel
theorem dX11_admit_26 : decode cX11_admit 26 = .ok (.putfield 17, 3) := by decide +kernel
theorem dX11_admit_29 : decode cX11_admit 29 = .ok (.aload_n 0, 1) := by decide +kernel
theorem dX11_admit_30 : decode cX11_admit 30 = .ok (.getfield 17, 3) := by decide +kernel
theorem dX11_admit_33 : decode cX11_admit 33 = .ok (.ifCond .ne 7, 3) := by decide +kernel
theorem dX11_admit_36 : decode cX11_admit 36 = .ok (.iconst 1, 1) := by decide +kernel
theorem dX11_admit_37 : decode cX11_admit 37 = .ok (.goto 4, 3) := by decide +kernel
theorem dX11_admit_40 : decode cX11_admit 40 = .ok (.iconst 0, 1) := by decide +kernel
theorem dX11_admit_41 : decode cX11_admit 41 = .ok (.ireturn, 1) := by decide +kernel
theorem dX11_refuse_0 : decode cX11_refuse 0 = .ok (.aload_n 0, 1) := by decide +kernel
theorem dX11_refuse_1 : decode cX11_refuse 1 = .ok (.iload_n 1, 1) := by decide +kernel
theorem dX11_refuse_2 : decode cX11_refuse 2 = .ok (.putfield 17, 3) := by decide +kernel
theorem dX11_refuse_5 : decode cX11_refuse 5 = .ok (.iconst 0, 1) := by decide +kernel
theorem dX11_refuse_6 : decode cX11_refuse 6 = .ok (.ireturn, 1) := by decide +kernel
theorem dX11_putOnTape_0 : decode cX11_putOnTape 0 = .ok (.bipush 24, 2) := by decide +kernel
theorem dX11_putOnTape_2 : decode cX11_putOnTape 2 = .ok (.istore_n 2, 1) := by decide +kernel
theorem dX11_putOnTape_3 : decode cX11_putOnTape 3 = .ok (.iload_n 2, 1) := by decide +kernel
theorem dX11_putOnTape_4 : decode cX11_putOnTape 4 = .ok (.ifCond .lt 42, 3) := by decide +kernel
theorem dX11_putOnTape_7 : decode cX11_putOnTape 7 = .ok (.aload_n 0, 1) := by decide +kernel
theorem dX11_putOnTape_8 : decode cX11_putOnTape 8 = .ok (.getfield 13, 3) := by decide +kernel
theorem dX11_putOnTape_11 : decode cX11_putOnTape 11 = .ok (.sipush 900, 3) := by decide +kernel
theorem dX11_putOnTape_14 : decode cX11_putOnTape 14 = .ok (.if_icmp .ge 32, 3) := by decide +kernel
theorem dX11_putOnTape_17 : decode cX11_putOnTape 17 = .ok (.aload_n 0, 1) := by decide +kernel
theorem dX11_putOnTape_18 : decode cX11_putOnTape 18 = .ok (.getfield 9, 3) := by decide +kernel
theorem dX11_putOnTape_21 : decode cX11_putOnTape 21 = .ok (.aload_n 0, 1) := by decide +kernel
theorem dX11_putOnTape_22 : decode cX11_putOnTape 22 = .ok (.getfield 13, 3) := by decide +kernel
theorem dX11_putOnTape_25 : decode cX11_putOnTape 25 = .ok (.iload_n 1, 1) := by decide +kernel
theorem dX11_putOnTape_26 : decode cX11_putOnTape 26 = .ok (.iload_n 2, 1) := by decide +kernel
theorem dX11_putOnTape_27 : decode cX11_putOnTape 27 = .ok (.iushr, 1) := by decide +kernel
theorem dX11_putOnTape_28 : decode cX11_putOnTape 28 = .ok (.i2b, 1) := by decide +kernel
theorem dX11_putOnTape_29 : decode cX11_putOnTape 29 = .ok (.bastore, 1) := by decide +kernel
theorem dX11_putOnTape_30 : decode cX11_putOnTape 30 = .ok (.aload_n 0, 1) := by decide +kernel
theorem dX11_putOnTape_31 : decode cX11_putOnTape 31 = .ok (.dup, 1) := by decide +kernel
theorem dX11_putOnTape_32 : decode cX11_putOnTape 32 = .ok (.getfield 13, 3) := by decide +kernel
theorem dX11_putOnTape_35 : decode cX11_putOnTape 35 = .ok (.iconst 1, 1) := by decide +kernel
theorem dX11_putOnTape_36 : decode cX11_putOnTape 36 = .ok (.iadd, 1) := by decide +kernel
theorem dX11_putOnTape_37 : decode cX11_putOnTape 37 = .ok (.putfield 13, 3) := by decide +kernel
theorem dX11_putOnTape_40 : decode cX11_putOnTape 40 = .ok (.iinc 2 (-8), 3) := by decide +kernel
theorem dX11_putOnTape_43 : decode cX11_putOnTape 43 = .ok (.goto (-40), 3) := by decide +kernel
theorem dX11_putOnTape_46 : decode cX11_putOnTape 46 = .ok (.return_, 1) := by decide +kernel
theorem dX11_areTwoMasks_0 : decode cX11_areTwoMasks 0 = .ok (.aload_n 0, 1) := by decide +kernel
theorem dX11_areTwoMasks_1 : decode cX11_areTwoMasks 1 = .ok (.getfield 29, 3) := by decide +kernel
theorem dX11_areTwoMasks_4 : decode cX11_areTwoMasks 4 = .ok (.iload_n 1, 1) := by decide +kernel
theorem dX11_areTwoMasks_5 : decode cX11_areTwoMasks 5 = .ok (.invokevirtual 96, 3) := by decide +kernel
theorem dX11_areTwoMasks_8 : decode cX11_areTwoMasks 8 = .ok (.ifCond .eq 23, 3) := by decide +kernel
theorem dX11_areTwoMasks_11 : decode cX11_areTwoMasks 11 = .ok (.aload_n 0, 1) := by decide +kernel
theorem dX11_areTwoMasks_12 : decode cX11_areTwoMasks 12 = .ok (.getfield 29, 3) := by decide +kernel
theorem dX11_areTwoMasks_15 : decode cX11_areTwoMasks 15 = .ok (.iload_n 2, 1) := by decide +kernel
theorem dX11_areTwoMasks_16 : decode cX11_areTwoMasks 16 = .ok (.invokevirtual 96, 3) := by decide +kernel
theorem dX11_areTwoMasks_19 : decode cX11_areTwoMasks 19 = .ok (.ifCond .eq 12, 3) := by decide +kernel
theorem dX11_areTwoMasks_22 : decode cX11_areTwoMasks 22 = .ok (.iload_n 1, 1) := by decide +kernel
theorem dX11_areTwoMasks_23 : decode cX11_areTwoMasks 23 = .ok (.iload_n 2, 1) := by decide +kernel
theorem dX11_areTwoMasks_24 : decode cX11_areTwoMasks 24 = .ok (.if_icmp .eq 7, 3) := by decide +kernel
theorem dX11_areTwoMasks_27 : decode cX11_areTwoMasks 27 = .ok (.iconst 1, 1) := by decide +kernel
theorem dX11_areTwoMasks_28 : decode cX11_areTwoMasks 28 = .ok (.goto 4, 3) := by decide +kernel
theorem dX11_areTwoMasks_31 : decode cX11_areTwoMasks 31 = .ok (.iconst 0, 1) := by decide +kernel
theorem dX11_areTwoMasks_32 : decode cX11_areTwoMasks 32 = .ok (.ireturn, 1) := by decide +kernel
theorem dX11_asNumber_0 : decode cX11_asNumber 0 = .ok (.iload_n 0, 1) := by decide +kernel
theorem dX11_asNumber_1 : decode cX11_asNumber 1 = .ok (.ifCond .eq 7, 3) := by decide +kernel
theorem dX11_asNumber_4 : decode cX11_asNumber 4 = .ok (.iconst 1, 1) := by decide +kernel
theorem dX11_asNumber_5 : decode cX11_asNumber 5 = .ok (.goto 4, 3) := by decide +kernel
theorem dX11_asNumber_8 : decode cX11_asNumber 8 = .ok (.iconst 0, 1) := by decide +kernel
theorem dX11_asNumber_9 : decode cX11_asNumber 9 = .ok (.ireturn, 1) := by decide +kernel
theorem dX11_commonDivisor_0 : decode cX11_commonDivisor 0 = .ok (.iload_n 0, 1) := by decide +kernel
theorem dX11_commonDivisor_1 : decode cX11_commonDivisor 1 = .ok (.istore_n 2, 1) := by decide +kernel
theorem dX11_commonDivisor_2 : decode cX11_commonDivisor 2 = .ok (.iload_n 1, 1) := by decide +kernel
theorem dX11_commonDivisor_3 : decode cX11_commonDivisor 3 = .ok (.istore_n 3, 1) := by decide +kernel
theorem dX11_commonDivisor_4 : decode cX11_commonDivisor 4 = .ok (.iconst 0, 1) := by decide +kernel
theorem dX11_commonDivisor_5 : decode cX11_commonDivisor 5 = .ok (.istore 4, 2) := by decide +kernel
theorem dX11_commonDivisor_7 : decode cX11_commonDivisor 7 = .ok (.iload 4, 2) := by decide +kernel
theorem dX11_commonDivisor_9 : decode cX11_commonDivisor 9 = .ok (.bipush 64, 2) := by decide +kernel
theorem dX11_commonDivisor_11 : decode cX11_commonDivisor 11 = .ok (.if_icmp .ge 23, 3) := by decide +kernel
theorem dX11_commonDivisor_14 : decode cX11_commonDivisor 14 = .ok (.iload_n 3, 1) := by decide +kernel
theorem dX11_commonDivisor_15 : decode cX11_commonDivisor 15 = .ok (.ifCond .eq 19, 3) := by decide +kernel
theorem dX11_commonDivisor_18 : decode cX11_commonDivisor 18 = .ok (.iload_n 2, 1) := by decide +kernel
theorem dX11_commonDivisor_19 : decode cX11_commonDivisor 19 = .ok (.iload_n 3, 1) := by decide +kernel
theorem dX11_commonDivisor_20 : decode cX11_commonDivisor 20 = .ok (.irem, 1) := by decide +kernel
theorem dX11_commonDivisor_21 : decode cX11_commonDivisor 21 = .ok (.istore 5, 2) := by decide +kernel
theorem dX11_commonDivisor_23 : decode cX11_commonDivisor 23 = .ok (.iload_n 3, 1) := by decide +kernel
theorem dX11_commonDivisor_24 : decode cX11_commonDivisor 24 = .ok (.istore_n 2, 1) := by decide +kernel
theorem dX11_commonDivisor_25 : decode cX11_commonDivisor 25 = .ok (.iload 5, 2) := by decide +kernel
theorem dX11_commonDivisor_27 : decode cX11_commonDivisor 27 = .ok (.istore_n 3, 1) := by decide +kernel
theorem dX11_commonDivisor_28 : decode cX11_commonDivisor 28 = .ok (.iinc 4 1, 3) := by decide +kernel
theorem dX11_commonDivisor_31 : decode cX11_commonDivisor 31 = .ok (.goto (-24), 3) := by decide +kernel
theorem dX11_commonDivisor_34 : decode cX11_commonDivisor 34 = .ok (.iconst 1, 1) := by decide +kernel
theorem dX11_commonDivisor_35 : decode cX11_commonDivisor 35 = .ok (.iload_n 2, 1) := by decide +kernel
theorem dX11_commonDivisor_36 : decode cX11_commonDivisor 36 = .ok (.invokestatic 351, 3) := by decide +kernel
theorem dX11_commonDivisor_39 : decode cX11_commonDivisor 39 = .ok (.ireturn, 1) := by decide +kernel
/-! the class's whole state, by what it means: the tape and its length, TROUBLE, fault and place, the book, the ledgers (S 0 now, S k those that redo leads to, S (13 - k) those that undo leads to), how many can be undone and redone, the images -/
abbrev LSt : Type := Nat × lends × (Nat → Nat)
/-- a ledger that can be: all in bounds, each fits, masks and persons have one at a time, in order -/
def LOK (F : bkF) (s : LSt) : Prop :=
  s.1 ≤ 20 ∧ (∀ i, i < s.1 → ok4 (s.2.1 i) ∧ (s.2.1 i).1 < F 2 ∧ (s.2.1 i).2.1 < F 3 ∧ (s.2.1 i).2.2.2 ≤ F 0 ∧ fitF F (s.2.1 i).1 (s.2.1 i).2.1 = true) ∧
  (∀ i j, i < j → j < s.1 → ((s.2.1 i).1 < (s.2.1 j).1 ∨ ((s.2.1 i).1 = (s.2.1 j).1 ∧ (s.2.1 i).2.2.2 < (s.2.1 j).2.2.1)) ∧ ((s.2.1 i).2.1 = (s.2.1 j).2.1 → (s.2.1 i).2.2.2 < (s.2.1 j).2.2.1 ∨ (s.2.1 j).2.2.2 < (s.2.1 i).2.2.1)) ∧ (∀ p, s.2.2 p < 2097152)
theorem LOK.pers {F : bkF} {s : LSt} (h : LOK F s) : pers F s.1 s.2.1 := fun i hi => ⟨(h.2.1 i hi).2.1, (h.2.1 i hi).2.2.1, (h.2.1 i hi).2.2.2.1⟩
def byt (n : Nat) : Int32 := (nI n).toInt8.toInt32
def ring (t k : Nat) : Nat := 97 + 3 * ((t + k) % 13)
def live (u r k : Nat) : Prop := k < 13 ∧ (k ≤ r ∨ 13 - u ≤ k)
/-- the letters of a word as one number -/
def wln : List Nat → Nat → Nat
  | [], a => a
  | c :: w, a => wln w (a * 32 + (c - 96))
def rsvW : List (List Nat) := [[116, 111, 119, 110], [119, 111, 114, 107], [109, 97, 115, 107], [112, 101, 114, 115, 111, 110], [112, 114, 111, 109, 105, 115, 101], [108, 101, 110, 116], [115, 101, 101, 110], [108, 101, 116, 116, 101, 114], [98, 114, 101, 97, 107], [99, 104, 105, 108, 100], [104, 97, 98, 105, 116], [100, 111, 101, 115], [115, 105, 122, 101]]
def rsv (i : Nat) : Int64 := Int64.ofNat (wln (rsvW.getD i []) 0)
def ClsB (I : HI) (L : HL) (R : HR) (B B2 t : Nat) (tp : Nat → Nat) (nt tr fa pl : Nat) (F : bkF) (S : Nat → LSt) (u r : Nat) (im : Nat → LSt) (ic : Nat) : Prop :=
  RO R ∧ (R 0 5 = some B ∧ R 0 6 = some B2 ∧ SH B = .inl 0 ∧ SH B2 = .inl 0 ∧ B ≠ B2) ∧ (I 0 1 = nI nt ∧ nt ≤ 900 ∧ ∀ i, i < nt → I 1 i = byt (tp i) ∧ tp i < 256) ∧ (I 0 2 = nI tr ∧ tr < 7 ∧ I 0 3 = nI fa ∧ fa < 8 ∧ (tr = 4 → I 0 4 = nI pl ∧ pl ≤ 900)) ∧
  (BkI I B F ∧ FOK F ∧ (F 0 = 0 → F 1 = 0 ∧ F 2 = 0 ∧ F 3 = 0 ∧ F 4 = 0 ∧ F 5 = 0 ∧ F 6 = 0)) ∧ (I 94 1 = nI t ∧ t < 13 ∧ I 94 2 = nI u ∧ I 94 3 = nI r ∧ u + r ≤ 12 ∧ ∀ k, live u r k → LDI I (ring t k) (S k).1 (S k).2.1 (S k).2.2 ∧ LOK F (S k)) ∧ (I 94 5 = nI ic ∧ ic ≤ 3 ∧ ∀ c, c < ic → LDI I (136 + 3 * c) (im c).1 (im c).2.1 (im c).2.2 ∧ LOK F (im c)) ∧ (∀ i, i < 13 → L 91 i = rsv i ∧ I 92 i = nI 3)
section
variable {I : HI} {L : HL} {R : HR} {B B2 t : Nat} {tp : Nat → Nat} {nt tr fa pl : Nat} {F : bkF} {S : Nat → LSt} {u r : Nat} {im : Nat → LSt} {ic : Nat}
theorem cb_R (h : ClsB I L R B B2 t tp nt tr fa pl F S u r im ic) : RO R := h.1
theorem cb_b (h : ClsB I L R B B2 t tp nt tr fa pl F S u r im ic) : R 0 5 = some B := h.2.1.1
theorem cb_B (h : ClsB I L R B B2 t tp nt tr fa pl F S u r im ic) : SH B = .inl 0 := h.2.1.2.2.1
theorem cb_F (h : ClsB I L R B B2 t tp nt tr fa pl F S u r im ic) : BkI I B F := h.2.2.2.2.1.1
theorem cb_O (h : ClsB I L R B B2 t tp nt tr fa pl F S u r im ic) : FOK F := h.2.2.2.2.1.2.1
theorem cb_1 (h : ClsB I L R B B2 t tp nt tr fa pl F S u r im ic) : I 94 1 = nI t := h.2.2.2.2.2.1.1
theorem cb_t (h : ClsB I L R B B2 t tp nt tr fa pl F S u r im ic) : t < 13 := h.2.2.2.2.2.1.2.1
theorem live0 (u r : Nat) : live u r 0 := ⟨by decide, Or.inl (Nat.zero_le _)⟩
theorem ring0 (h : t < 13) : ring t 0 = 97 + 3 * t := by unfold ring; rw [Nat.add_zero, Nat.mod_eq_of_lt h]
theorem cb_L (h : ClsB I L R B B2 t tp nt tr fa pl F S u r im ic) : LDI I (97 + 3 * t) (S 0).1 (S 0).2.1 (S 0).2.2 := by
  have := (h.2.2.2.2.2.1.2.2.2.2.2 0 (live0 u r)).1
  rw [ring0 (cb_t h)] at this
  exact this
theorem cb_K (h : ClsB I L R B B2 t tp nt tr fa pl F S u r im ic) : LOK F (S 0) := (h.2.2.2.2.2.1.2.2.2.2.2 0 (live0 u r)).2
theorem cb_R5 (h : ClsB I L R B B2 t tp nt tr fa pl F S u r im ic) : B ≠ 0 ∧ B + 42 < 88 := by
  rcases sh_b2 B (sh_lto h.2.1.2.2.1) h.2.1.2.2.1 with rfl | rfl <;> decide
/-- TROUBLE told anew, and what is neither told nor lent -/
theorem cb_fr {I' : HI} {R' : HR} {v : Nat} (h : ClsB I L R B B2 t tp nt tr fa pl F S u r im ic) (hv : v < 7) (h4 : v = 4 → tr = 4) (hx : ∀ x, x < 145 → x ≠ 0 → I' x = I x) (h0 : ∀ j, j ≠ 2 → I' 0 j = I 0 j) (h2 : I' 0 2 = nI v) (hR : RO R') (hr : R' 0 = R 0) : ClsB I' L R' B B2 t tp nt v fa pl F S u r im ic := by
  have hb := cb_R5 h
  obtain ⟨a1, ⟨b1, b2, b3, b4, b5⟩, ⟨c1, c2, c3⟩, ⟨d1, d2, d3, d4, d5⟩, ⟨e1, e2, e3⟩, ⟨f1, f2, f3, f4, f5, f6⟩, ⟨g1, g2, g3⟩, k1⟩ := h
  refine ⟨hR, ⟨by rw [hr]; exact b1, by rw [hr]; exact b2, b3, b4, b5⟩, ⟨by rw [h0 1 (by decide)]; exact c1, c2, fun i hi => by rw [hx 1 (by decide) (by decide)]; exact c3 i hi⟩, ⟨h2, hv, by rw [h0 3 (by decide)]; exact d3, d4, fun q => by rw [h0 4 (by decide)]; exact d5 (h4 q)⟩, ⟨?_, e2, e3⟩, ⟨by rw [hx 94 (by decide) (by decide)]; exact f1, f2, by rw [hx 94 (by decide) (by decide)]; exact f3, by rw [hx 94 (by decide) (by decide)]; exact f4, f5, fun k hk => ⟨(f6 k hk).1.same (hx _ (by unfold ring; omega) (by unfold ring; omega)) (hx _ (by unfold ring; omega) (by omega)) (hx _ (by unfold ring; omega) (by omega)), (f6 k hk).2⟩⟩, ⟨by rw [hx 94 (by decide) (by decide)]; exact g1, g2, fun c hc => ⟨(g3 c hc).1.same (hx _ (by omega) (by omega)) (hx _ (by omega) (by omega)) (hx _ (by omega) (by omega)), (g3 c hc).2⟩⟩, fun i hi => ⟨(k1 i hi).1, by rw [hx 92 (by decide) (by decide)]; exact (k1 i hi).2⟩⟩
  have o2 := e2.2.2.1
  have o3 := e2.2.2.2.1
  have o4 := e2.2.2.2.2.1
  have o5 := e2.2.2.2.2.2.1
  have o6 := e2.2.2.2.2.2.2.1
  obtain ⟨q1, q2, q3, q4, q5, q6⟩ := e1
  exact ⟨fun j hj => by rw [hx B (by omega) (by omega)]; exact q1 j hj, fun m hm j hj => by rw [hx _ (by omega) (by omega)]; exact q2 m hm j hj, fun p hp j hj => by rw [hx _ (by omega) (by omega)]; exact q3 p hp j hj, fun o ho j hj => by rw [hx _ (by omega) (by omega)]; exact q4 o ho j hj, fun s hs j hj => by rw [hx _ (by omega) (by omega)]; exact q5 s hs j hj, fun l hl => by rw [hx _ (by omega) (by omega), hx _ (by omega) (by omega), hx _ (by omega) (by omega)]; exact q6 l hl⟩
theorem cb_tr {v : Nat} (h : ClsB I L R B B2 t tp nt tr fa pl F S u r im ic) (hv : v < 7) (h4 : v ≠ 4) : ClsB (ui I 0 2 (nI v)) L R B B2 t tp nt v fa pl F S u r im ic :=
  cb_fr h hv (fun q => absurd q h4) (fun x _ h => ui_ne h) (fun j h => ui_o h) (ui_s _ _ _ _) h.1 rfl
theorem cb_q {I' : HI} {R' : HR} (h : ClsB I L R B B2 t tp nt tr fa pl F S u r im ic) (hx : ∀ x, x < 145 → I' x = I x) (hR : RO R') (hr : R' 0 = R 0) : ClsB I' L R' B B2 t tp nt tr fa pl F S u r im ic :=
  cb_fr h h.2.2.2.1.2.1 id (fun x q _ => hx x q) (fun j _ => by rw [hx 0 (by decide)]) (by rw [hx 0 (by decide)]; exact h.2.2.2.1.1) hR hr
end
def trc (p q : Bool) : Nat := if p = false then 1 else if q = false then 2 else 0
theorem trc_lt (p q : Bool) : trc p q < 7 ∧ trc p q ≠ 4 := by cases p <;> cases q <;> decide
theorem trc_0 {p q : Bool} (h : (p && q) = true) : trc p q = 0 := by cases p <;> cases q <;> first | rfl | cases h
