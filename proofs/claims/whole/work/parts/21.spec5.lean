theorem dX0_clear_0 : decode cX0_clear 0 = .ok (.aload_n 0, 1) := by decide +kernel
theorem dX0_clear_1 : decode cX0_clear 1 = .ok (.iconst 0, 1) := by decide +kernel
theorem dX0_clear_2 : decode cX0_clear 2 = .ok (.putfield 56, 3) := by decide +kernel
theorem dX0_clear_5 : decode cX0_clear 5 = .ok (.aload_n 0, 1) := by decide +kernel
theorem dX0_clear_6 : decode cX0_clear 6 = .ok (.iconst 0, 1) := by decide +kernel
theorem dX0_clear_7 : decode cX0_clear 7 = .ok (.putfield 60, 3) := by decide +kernel
theorem dX0_clear_10 : decode cX0_clear 10 = .ok (.aload_n 0, 1) := by decide +kernel
theorem dX0_clear_11 : decode cX0_clear 11 = .ok (.iconst 0, 1) := by decide +kernel
theorem dX0_clear_12 : decode cX0_clear 12 = .ok (.putfield 63, 3) := by decide +kernel
theorem dX0_clear_15 : decode cX0_clear 15 = .ok (.aload_n 0, 1) := by decide +kernel
theorem dX0_clear_16 : decode cX0_clear 16 = .ok (.iconst 0, 1) := by decide +kernel
theorem dX0_clear_17 : decode cX0_clear 17 = .ok (.putfield 66, 3) := by decide +kernel
theorem dX0_clear_20 : decode cX0_clear 20 = .ok (.aload_n 0, 1) := by decide +kernel
theorem dX0_clear_21 : decode cX0_clear 21 = .ok (.iconst 0, 1) := by decide +kernel
theorem dX0_clear_22 : decode cX0_clear 22 = .ok (.putfield 69, 3) := by decide +kernel
theorem dX0_clear_25 : decode cX0_clear 25 = .ok (.aload_n 0, 1) := by decide +kernel
theorem dX0_clear_26 : decode cX0_clear 26 = .ok (.iconst 0, 1) := by decide +kernel
theorem dX0_clear_27 : decode cX0_clear 27 = .ok (.putfield 72, 3) := by decide +kernel
theorem dX0_clear_30 : decode cX0_clear 30 = .ok (.aload_n 0, 1) := by decide +kernel
theorem dX0_clear_31 : decode cX0_clear 31 = .ok (.iconst 0, 1) := by decide +kernel
theorem dX0_clear_32 : decode cX0_clear 32 = .ok (.putfield 75, 3) := by decide +kernel
theorem dX0_clear_35 : decode cX0_clear 35 = .ok (.aload_n 0, 1) := by decide +kernel
theorem dX0_clear_36 : decode cX0_clear 36 = .ok (.getfield 48, 3) := by decide +kernel
theorem dX0_clear_39 : decode cX0_clear 39 = .ok (.invokevirtual 78, 3) := by decide +kernel
theorem dX0_clear_42 : decode cX0_clear 42 = .ok (.return_, 1) := by decide +kernel
theorem dX0_isTold_0 : decode cX0_isTold 0 = .ok (.aload_n 0, 1) := by decide +kernel
theorem dX0_isTold_1 : decode cX0_isTold 1 = .ok (.getfield 56, 3) := by decide +kernel
theorem dX0_isTold_4 : decode cX0_isTold 4 = .ok (.ifCond .le 7, 3) := by decide +kernel
theorem dX0_isTold_7 : decode cX0_isTold 7 = .ok (.iconst 1, 1) := by decide +kernel
theorem dX0_isTold_8 : decode cX0_isTold 8 = .ok (.goto 4, 3) := by decide +kernel
theorem dX0_isTold_11 : decode cX0_isTold 11 = .ok (.iconst 0, 1) := by decide +kernel
theorem dX0_isTold_12 : decode cX0_isTold 12 = .ok (.ireturn, 1) := by decide +kernel
theorem dX0_hasMask_0 : decode cX0_hasMask 0 = .ok (.iload_n 1, 1) := by decide +kernel
theorem dX0_hasMask_1 : decode cX0_hasMask 1 = .ok (.ifCond .lt 15, 3) := by decide +kernel
theorem dX0_hasMask_4 : decode cX0_hasMask 4 = .ok (.iload_n 1, 1) := by decide +kernel
theorem dX0_hasMask_5 : decode cX0_hasMask 5 = .ok (.aload_n 0, 1) := by decide +kernel
theorem dX0_hasMask_6 : decode cX0_hasMask 6 = .ok (.getfield 63, 3) := by decide +kernel
theorem dX0_hasMask_9 : decode cX0_hasMask 9 = .ok (.if_icmp .ge 7, 3) := by decide +kernel
theorem dX0_hasMask_12 : decode cX0_hasMask 12 = .ok (.iconst 1, 1) := by decide +kernel
theorem dX0_hasMask_13 : decode cX0_hasMask 13 = .ok (.goto 4, 3) := by decide +kernel
theorem dX0_hasMask_16 : decode cX0_hasMask 16 = .ok (.iconst 0, 1) := by decide +kernel
theorem dX0_hasMask_17 : decode cX0_hasMask 17 = .ok (.ireturn, 1) := by decide +kernel
theorem dX0_hasPerson_0 : decode cX0_hasPerson 0 = .ok (.iload_n 1, 1) := by decide +kernel
theorem dX0_hasPerson_1 : decode cX0_hasPerson 1 = .ok (.ifCond .lt 15, 3) := by decide +kernel
theorem dX0_hasPerson_4 : decode cX0_hasPerson 4 = .ok (.iload_n 1, 1) := by decide +kernel
theorem dX0_hasPerson_5 : decode cX0_hasPerson 5 = .ok (.aload_n 0, 1) := by decide +kernel
theorem dX0_hasPerson_6 : decode cX0_hasPerson 6 = .ok (.getfield 66, 3) := by decide +kernel
theorem dX0_hasPerson_9 : decode cX0_hasPerson 9 = .ok (.if_icmp .ge 7, 3) := by decide +kernel
theorem dX0_hasPerson_12 : decode cX0_hasPerson 12 = .ok (.iconst 1, 1) := by decide +kernel
theorem dX0_hasPerson_13 : decode cX0_hasPerson 13 = .ok (.goto 4, 3) := by decide +kernel
theorem dX0_hasPerson_16 : decode cX0_hasPerson 16 = .ok (.iconst 0, 1) := by decide +kernel
theorem dX0_hasPerson_17 : decode cX0_hasPerson 17 = .ok (.ireturn, 1) := by decide +kernel
theorem dX0_hasPromise_0 : decode cX0_hasPromise 0 = .ok (.iload_n 1, 1) := by decide +kernel
theorem dX0_hasPromise_1 : decode cX0_hasPromise 1 = .ok (.ifCond .lt 15, 3) := by decide +kernel
theorem dX0_hasPromise_4 : decode cX0_hasPromise 4 = .ok (.iload_n 1, 1) := by decide +kernel
theorem dX0_hasPromise_5 : decode cX0_hasPromise 5 = .ok (.aload_n 0, 1) := by decide +kernel
theorem dX0_hasPromise_6 : decode cX0_hasPromise 6 = .ok (.getfield 69, 3) := by decide +kernel
theorem dX0_hasPromise_9 : decode cX0_hasPromise 9 = .ok (.if_icmp .ge 7, 3) := by decide +kernel
theorem dX0_hasPromise_12 : decode cX0_hasPromise 12 = .ok (.iconst 1, 1) := by decide +kernel
theorem dX0_hasPromise_13 : decode cX0_hasPromise 13 = .ok (.goto 4, 3) := by decide +kernel
theorem dX0_hasPromise_16 : decode cX0_hasPromise 16 = .ok (.iconst 0, 1) := by decide +kernel
theorem dX0_hasPromise_17 : decode cX0_hasPromise 17 = .ok (.ireturn, 1) := by decide +kernel
theorem dX0_hasSighting_0 : decode cX0_hasSighting 0 = .ok (.iload_n 1, 1) := by decide +kernel
theorem dX0_hasSighting_1 : decode cX0_hasSighting 1 = .ok (.ifCond .lt 15, 3) := by decide +kernel
theorem dX0_hasSighting_4 : decode cX0_hasSighting 4 = .ok (.iload_n 1, 1) := by decide +kernel
theorem dX0_hasSighting_5 : decode cX0_hasSighting 5 = .ok (.aload_n 0, 1) := by decide +kernel
theorem dX0_hasSighting_6 : decode cX0_hasSighting 6 = .ok (.getfield 72, 3) := by decide +kernel
theorem dX0_hasSighting_9 : decode cX0_hasSighting 9 = .ok (.if_icmp .ge 7, 3) := by decide +kernel
theorem dX0_hasSighting_12 : decode cX0_hasSighting 12 = .ok (.iconst 1, 1) := by decide +kernel
theorem dX0_hasSighting_13 : decode cX0_hasSighting 13 = .ok (.goto 4, 3) := by decide +kernel
theorem dX0_hasSighting_16 : decode cX0_hasSighting 16 = .ok (.iconst 0, 1) := by decide +kernel
theorem dX0_hasSighting_17 : decode cX0_hasSighting 17 = .ok (.ireturn, 1) := by decide +kernel
theorem dX0_hasDay_0 : decode cX0_hasDay 0 = .ok (.iload_n 1, 1) := by decide +kernel
theorem dX0_hasDay_1 : decode cX0_hasDay 1 = .ok (.iconst 1, 1) := by decide +kernel
theorem dX0_hasDay_2 : decode cX0_hasDay 2 = .ok (.if_icmp .lt 15, 3) := by decide +kernel
theorem dX0_hasDay_5 : decode cX0_hasDay 5 = .ok (.iload_n 1, 1) := by decide +kernel
theorem dX0_hasDay_6 : decode cX0_hasDay 6 = .ok (.aload_n 0, 1) := by decide +kernel
theorem dX0_hasDay_7 : decode cX0_hasDay 7 = .ok (.getfield 56, 3) := by decide +kernel
theorem dX0_hasDay_10 : decode cX0_hasDay 10 = .ok (.if_icmp .gt 7, 3) := by decide +kernel
theorem dX0_hasDay_13 : decode cX0_hasDay 13 = .ok (.iconst 1, 1) := by decide +kernel
theorem dX0_hasDay_14 : decode cX0_hasDay 14 = .ok (.goto 4, 3) := by decide +kernel
theorem dX0_hasDay_17 : decode cX0_hasDay 17 = .ok (.iconst 0, 1) := by decide +kernel
theorem dX0_hasDay_18 : decode cX0_hasDay 18 = .ok (.ireturn, 1) := by decide +kernel
theorem dX0_hasDayOrNone_0 : decode cX0_hasDayOrNone 0 = .ok (.iload_n 1, 1) := by decide +kernel
theorem dX0_hasDayOrNone_1 : decode cX0_hasDayOrNone 1 = .ok (.ifCond .lt 15, 3) := by decide +kernel
theorem dX0_hasDayOrNone_4 : decode cX0_hasDayOrNone 4 = .ok (.iload_n 1, 1) := by decide +kernel
theorem dX0_hasDayOrNone_5 : decode cX0_hasDayOrNone 5 = .ok (.aload_n 0, 1) := by decide +kernel
theorem dX0_hasDayOrNone_6 : decode cX0_hasDayOrNone 6 = .ok (.getfield 56, 3) := by decide +kernel
theorem dX0_hasDayOrNone_9 : decode cX0_hasDayOrNone 9 = .ok (.if_icmp .gt 7, 3) := by decide +kernel
theorem dX0_hasDayOrNone_12 : decode cX0_hasDayOrNone 12 = .ok (.iconst 1, 1) := by decide +kernel
theorem dX0_hasDayOrNone_13 : decode cX0_hasDayOrNone 13 = .ok (.goto 4, 3) := by decide +kernel
theorem dX0_hasDayOrNone_16 : decode cX0_hasDayOrNone 16 = .ok (.iconst 0, 1) := by decide +kernel
theorem dX0_hasDayOrNone_17 : decode cX0_hasDayOrNone 17 = .ok (.ireturn, 1) := by decide +kernel
theorem dX0_hasDays_0 : decode cX0_hasDays 0 = .ok (.aload_n 0, 1) := by decide +kernel
theorem dX0_hasDays_1 : decode cX0_hasDays 1 = .ok (.iload_n 1, 1) := by decide +kernel
theorem dX0_hasDays_2 : decode cX0_hasDays 2 = .ok (.invokevirtual 81, 3) := by decide +kernel
theorem dX0_hasDays_5 : decode cX0_hasDays 5 = .ok (.ifCond .eq 20, 3) := by decide +kernel
theorem dX0_hasDays_8 : decode cX0_hasDays 8 = .ok (.aload_n 0, 1) := by decide +kernel
theorem dX0_hasDays_9 : decode cX0_hasDays 9 = .ok (.iload_n 2, 1) := by decide +kernel
theorem dX0_hasDays_10 : decode cX0_hasDays 10 = .ok (.invokevirtual 81, 3) := by decide +kernel
theorem dX0_hasDays_13 : decode cX0_hasDays 13 = .ok (.ifCond .eq 12, 3) := by decide +kernel
theorem dX0_hasDays_16 : decode cX0_hasDays 16 = .ok (.iload_n 1, 1) := by decide +kernel
theorem dX0_hasDays_17 : decode cX0_hasDays 17 = .ok (.iload_n 2, 1) := by decide +kernel
theorem dX0_hasDays_18 : decode cX0_hasDays 18 = .ok (.if_icmp .gt 7, 3) := by decide +kernel
theorem dX0_hasDays_21 : decode cX0_hasDays 21 = .ok (.iconst 1, 1) := by decide +kernel
theorem dX0_hasDays_22 : decode cX0_hasDays 22 = .ok (.goto 4, 3) := by decide +kernel
theorem dX0_hasDays_25 : decode cX0_hasDays 25 = .ok (.iconst 0, 1) := by decide +kernel
theorem dX0_hasDays_26 : decode cX0_hasDays 26 = .ok (.ireturn, 1) := by decide +kernel
theorem dX0_suits_0 : decode cX0_suits 0 = .ok (.aload_n 0, 1) := by decide +kernel
theorem dX0_suits_1 : decode cX0_suits 1 = .ok (.getfield 11, 3) := by decide +kernel
theorem dX0_suits_4 : decode cX0_suits 4 = .ok (.iload_n 1, 1) := by decide +kernel
theorem dX0_suits_5 : decode cX0_suits 5 = .ok (.aaload, 1) := by decide +kernel
theorem dX0_suits_6 : decode cX0_suits 6 = .ok (.aload_n 0, 1) := by decide +kernel
theorem dX0_suits_7 : decode cX0_suits 7 = .ok (.getfield 19, 3) := by decide +kernel
theorem dX0_suits_10 : decode cX0_suits 10 = .ok (.iload_n 2, 1) := by decide +kernel
theorem dX0_suits_11 : decode cX0_suits 11 = .ok (.aaload, 1) := by decide +kernel
theorem dX0_suits_12 : decode cX0_suits 12 = .ok (.invokevirtual 85, 3) := by decide +kernel
theorem dX0_suits_15 : decode cX0_suits 15 = .ok (.ireturn, 1) := by decide +kernel
theorem dX0_canLend_0 : decode cX0_canLend 0 = .ok (.aload_n 0, 1) := by decide +kernel
theorem dX0_canLend_1 : decode cX0_canLend 1 = .ok (.iload_n 1, 1) := by decide +kernel
theorem dX0_canLend_2 : decode cX0_canLend 2 = .ok (.iload_n 2, 1) := by decide +kernel
theorem dX0_canLend_3 : decode cX0_canLend 3 = .ok (.invokevirtual 89, 3) := by decide +kernel
theorem dX0_canLend_6 : decode cX0_canLend 6 = .ok (.ifCond .eq 31, 3) := by decide +kernel
theorem dX0_canLend_9 : decode cX0_canLend 9 = .ok (.aload 5, 2) := by decide +kernel
theorem dX0_canLend_11 : decode cX0_canLend 11 = .ok (.iload_n 1, 1) := by decide +kernel
theorem dX0_canLend_12 : decode cX0_canLend 12 = .ok (.iload_n 3, 1) := by decide +kernel
theorem dX0_canLend_13 : decode cX0_canLend 13 = .ok (.iload 4, 2) := by decide +kernel
theorem dX0_canLend_15 : decode cX0_canLend 15 = .ok (.invokevirtual 92, 3) := by decide +kernel
theorem dX0_canLend_18 : decode cX0_canLend 18 = .ok (.ifCond .eq 19, 3) := by decide +kernel
theorem dX0_canLend_21 : decode cX0_canLend 21 = .ok (.aload 5, 2) := by decide +kernel
theorem dX0_canLend_23 : decode cX0_canLend 23 = .ok (.iload_n 2, 1) := by decide +kernel
theorem dX0_canLend_24 : decode cX0_canLend 24 = .ok (.iload_n 3, 1) := by decide +kernel
theorem dX0_canLend_25 : decode cX0_canLend 25 = .ok (.iload 4, 2) := by decide +kernel
theorem dX0_canLend_27 : decode cX0_canLend 27 = .ok (.invokevirtual 96, 3) := by decide +kernel
theorem dX0_canLend_30 : decode cX0_canLend 30 = .ok (.ifCond .eq 7, 3) := by decide +kernel
theorem dX0_canLend_33 : decode cX0_canLend 33 = .ok (.iconst 1, 1) := by decide +kernel
theorem dX0_canLend_34 : decode cX0_canLend 34 = .ok (.goto 4, 3) := by decide +kernel
theorem dX0_canLend_37 : decode cX0_canLend 37 = .ok (.iconst 0, 1) := by decide +kernel
theorem dX0_canLend_38 : decode cX0_canLend 38 = .ok (.ireturn, 1) := by decide +kernel
theorem dX0_couldDo_0 : decode cX0_couldDo 0 = .ok (.aload_n 0, 1) := by decide +kernel
theorem dX0_couldDo_1 : decode cX0_couldDo 1 = .ok (.iload_n 1, 1) := by decide +kernel
theorem dX0_couldDo_2 : decode cX0_couldDo 2 = .ok (.invokevirtual 99, 3) := by decide +kernel
theorem dX0_couldDo_5 : decode cX0_couldDo 5 = .ok (.ifCond .eq 28, 3) := by decide +kernel
theorem dX0_couldDo_8 : decode cX0_couldDo 8 = .ok (.aload_n 0, 1) := by decide +kernel
theorem dX0_couldDo_9 : decode cX0_couldDo 9 = .ok (.getfield 19, 3) := by decide +kernel
theorem dX0_couldDo_12 : decode cX0_couldDo 12 = .ok (.iload_n 1, 1) := by decide +kernel
theorem dX0_couldDo_13 : decode cX0_couldDo 13 = .ok (.aaload, 1) := by decide +kernel
theorem dX0_couldDo_14 : decode cX0_couldDo 14 = .ok (.aload_n 0, 1) := by decide +kernel
theorem dX0_couldDo_15 : decode cX0_couldDo 15 = .ok (.getfield 25, 3) := by decide +kernel
theorem dX0_couldDo_18 : decode cX0_couldDo 18 = .ok (.iload_n 2, 1) := by decide +kernel
theorem dX0_couldDo_19 : decode cX0_couldDo 19 = .ok (.aaload, 1) := by decide +kernel
theorem dX0_couldDo_20 : decode cX0_couldDo 20 = .ok (.getfield 102, 3) := by decide +kernel
theorem dX0_couldDo_23 : decode cX0_couldDo 23 = .ok (.invokevirtual 105, 3) := by decide +kernel
theorem dX0_couldDo_26 : decode cX0_couldDo 26 = .ok (.ifCond .eq 7, 3) := by decide +kernel
theorem dX0_couldDo_29 : decode cX0_couldDo 29 = .ok (.iconst 1, 1) := by decide +kernel
theorem dX0_couldDo_30 : decode cX0_couldDo 30 = .ok (.goto 4, 3) := by decide +kernel
theorem dX0_couldDo_33 : decode cX0_couldDo 33 = .ok (.iconst 0, 1) := by decide +kernel
theorem dX0_couldDo_34 : decode cX0_couldDo 34 = .ok (.ireturn, 1) := by decide +kernel
theorem dX0_wouldDo_0 : decode cX0_wouldDo 0 = .ok (.aload_n 0, 1) := by decide +kernel
theorem dX0_wouldDo_1 : decode cX0_wouldDo 1 = .ok (.iload_n 1, 1) := by decide +kernel
theorem dX0_wouldDo_2 : decode cX0_wouldDo 2 = .ok (.iload_n 2, 1) := by decide +kernel
theorem dX0_wouldDo_3 : decode cX0_wouldDo 3 = .ok (.invokevirtual 108, 3) := by decide +kernel
theorem dX0_wouldDo_6 : decode cX0_wouldDo 6 = .ok (.ifCond .ne 5, 3) := by decide +kernel
theorem dX0_wouldDo_9 : decode cX0_wouldDo 9 = .ok (.iconst 0, 1) := by decide +kernel
theorem dX0_wouldDo_10 : decode cX0_wouldDo 10 = .ok (.ireturn, 1) := by decide +kernel
theorem dX0_wouldDo_11 : decode cX0_wouldDo 11 = .ok (.aload_n 0, 1) := by decide +kernel
theorem dX0_wouldDo_12 : decode cX0_wouldDo 12 = .ok (.getfield 25, 3) := by decide +kernel
theorem dX0_wouldDo_15 : decode cX0_wouldDo 15 = .ok (.iload_n 2, 1) := by decide +kernel
theorem dX0_wouldDo_16 : decode cX0_wouldDo 16 = .ok (.aaload, 1) := by decide +kernel
theorem dX0_wouldDo_17 : decode cX0_wouldDo 17 = .ok (.astore_n 3, 1) := by decide +kernel
theorem dX0_wouldDo_18 : decode cX0_wouldDo 18 = .ok (.iconst 0, 1) := by decide +kernel
theorem dX0_wouldDo_19 : decode cX0_wouldDo 19 = .ok (.istore 4, 2) := by decide +kernel
theorem dX0_wouldDo_21 : decode cX0_wouldDo 21 = .ok (.iconst 0, 1) := by decide +kernel
theorem dX0_wouldDo_22 : decode cX0_wouldDo 22 = .ok (.istore 5, 2) := by decide +kernel
theorem dX0_wouldDo_24 : decode cX0_wouldDo 24 = .ok (.iload 5, 2) := by decide +kernel
theorem dX0_wouldDo_26 : decode cX0_wouldDo 26 = .ok (.iload_n 2, 1) := by decide +kernel
theorem dX0_wouldDo_27 : decode cX0_wouldDo 27 = .ok (.if_icmp .ge 43, 3) := by decide +kernel
theorem dX0_wouldDo_30 : decode cX0_wouldDo 30 = .ok (.aload_n 0, 1) := by decide +kernel
theorem dX0_wouldDo_31 : decode cX0_wouldDo 31 = .ok (.getfield 25, 3) := by decide +kernel
theorem dX0_wouldDo_34 : decode cX0_wouldDo 34 = .ok (.iload 5, 2) := by decide +kernel
theorem dX0_wouldDo_36 : decode cX0_wouldDo 36 = .ok (.aaload, 1) := by decide +kernel
theorem dX0_wouldDo_37 : decode cX0_wouldDo 37 = .ok (.aload_n 3, 1) := by decide +kernel
theorem dX0_wouldDo_38 : decode cX0_wouldDo 38 = .ok (.getfield 111, 3) := by decide +kernel
theorem dX0_wouldDo_41 : decode cX0_wouldDo 41 = .ok (.aload_n 3, 1) := by decide +kernel
theorem dX0_wouldDo_42 : decode cX0_wouldDo 42 = .ok (.getfield 114, 3) := by decide +kernel
theorem dX0_wouldDo_45 : decode cX0_wouldDo 45 = .ok (.invokevirtual 117, 3) := by decide +kernel
theorem dX0_wouldDo_48 : decode cX0_wouldDo 48 = .ok (.ifCond .eq 16, 3) := by decide +kernel
theorem dX0_wouldDo_51 : decode cX0_wouldDo 51 = .ok (.aload_n 0, 1) := by decide +kernel
theorem dX0_wouldDo_52 : decode cX0_wouldDo 52 = .ok (.iload_n 1, 1) := by decide +kernel
theorem dX0_wouldDo_53 : decode cX0_wouldDo 53 = .ok (.iload 5, 2) := by decide +kernel
theorem dX0_wouldDo_55 : decode cX0_wouldDo 55 = .ok (.invokevirtual 108, 3) := by decide +kernel
theorem dX0_wouldDo_58 : decode cX0_wouldDo 58 = .ok (.ifCond .eq 6, 3) := by decide +kernel
theorem dX0_wouldDo_61 : decode cX0_wouldDo 61 = .ok (.iinc 4 1, 3) := by decide +kernel
theorem dX0_wouldDo_64 : decode cX0_wouldDo 64 = .ok (.iinc 5 1, 3) := by decide +kernel
theorem dX0_wouldDo_67 : decode cX0_wouldDo 67 = .ok (.goto (-43), 3) := by decide +kernel
theorem dX0_wouldDo_70 : decode cX0_wouldDo 70 = .ok (.iload 4, 2) := by decide +kernel
theorem dX0_wouldDo_72 : decode cX0_wouldDo 72 = .ok (.aload_n 0, 1) := by decide +kernel
theorem dX0_wouldDo_73 : decode cX0_wouldDo 73 = .ok (.getfield 11, 3) := by decide +kernel
theorem dX0_wouldDo_76 : decode cX0_wouldDo 76 = .ok (.aload_n 3, 1) := by decide +kernel
theorem dX0_wouldDo_77 : decode cX0_wouldDo 77 = .ok (.getfield 111, 3) := by decide +kernel
theorem dX0_wouldDo_80 : decode cX0_wouldDo 80 = .ok (.aaload, 1) := by decide +kernel
theorem dX0_wouldDo_81 : decode cX0_wouldDo 81 = .ok (.invokevirtual 120, 3) := by decide +kernel
theorem dX0_wouldDo_84 : decode cX0_wouldDo 84 = .ok (.if_icmp .ge 7, 3) := by decide +kernel
theorem dX0_wouldDo_87 : decode cX0_wouldDo 87 = .ok (.iconst 1, 1) := by decide +kernel
theorem dX0_wouldDo_88 : decode cX0_wouldDo 88 = .ok (.goto 4, 3) := by decide +kernel
theorem dX0_wouldDo_91 : decode cX0_wouldDo 91 = .ok (.iconst 0, 1) := by decide +kernel
theorem dX0_wouldDo_92 : decode cX0_wouldDo 92 = .ok (.ireturn, 1) := by decide +kernel
theorem dX0_debtorOf_0 : decode cX0_debtorOf 0 = .ok (.aload_n 2, 1) := by decide +kernel
theorem dX0_debtorOf_1 : decode cX0_debtorOf 1 = .ok (.aload_n 0, 1) := by decide +kernel
theorem dX0_debtorOf_2 : decode cX0_debtorOf 2 = .ok (.getfield 25, 3) := by decide +kernel
theorem dX0_debtorOf_5 : decode cX0_debtorOf 5 = .ok (.iload_n 1, 1) := by decide +kernel
theorem dX0_debtorOf_6 : decode cX0_debtorOf 6 = .ok (.aaload, 1) := by decide +kernel
theorem dX0_debtorOf_7 : decode cX0_debtorOf 7 = .ok (.getfield 111, 3) := by decide +kernel
theorem dX0_debtorOf_10 : decode cX0_debtorOf 10 = .ok (.aload_n 0, 1) := by decide +kernel
theorem dX0_debtorOf_11 : decode cX0_debtorOf 11 = .ok (.getfield 25, 3) := by decide +kernel
theorem dX0_debtorOf_14 : decode cX0_debtorOf 14 = .ok (.iload_n 1, 1) := by decide +kernel
theorem dX0_debtorOf_15 : decode cX0_debtorOf 15 = .ok (.aaload, 1) := by decide +kernel
theorem dX0_debtorOf_16 : decode cX0_debtorOf 16 = .ok (.getfield 114, 3) := by decide +kernel
theorem dX0_debtorOf_19 : decode cX0_debtorOf 19 = .ok (.invokevirtual 124, 3) := by decide +kernel
theorem dX0_debtorOf_22 : decode cX0_debtorOf 22 = .ok (.ireturn, 1) := by decide +kernel
theorem dX0_isDone_0 : decode cX0_isDone 0 = .ok (.aload_n 0, 1) := by decide +kernel
theorem dX0_isDone_1 : decode cX0_isDone 1 = .ok (.iload_n 1, 1) := by decide +kernel
theorem dX0_isDone_2 : decode cX0_isDone 2 = .ok (.aload_n 2, 1) := by decide +kernel
theorem dX0_isDone_3 : decode cX0_isDone 3 = .ok (.invokevirtual 128, 3) := by decide +kernel
theorem dX0_isDone_6 : decode cX0_isDone 6 = .ok (.istore_n 3, 1) := by decide +kernel
theorem dX0_isDone_7 : decode cX0_isDone 7 = .ok (.aload_n 0, 1) := by decide +kernel
theorem dX0_isDone_8 : decode cX0_isDone 8 = .ok (.iload_n 3, 1) := by decide +kernel
theorem dX0_isDone_9 : decode cX0_isDone 9 = .ok (.iload_n 1, 1) := by decide +kernel
theorem dX0_isDone_10 : decode cX0_isDone 10 = .ok (.invokevirtual 132, 3) := by decide +kernel
theorem dX0_isDone_13 : decode cX0_isDone 13 = .ok (.ifCond .eq 24, 3) := by decide +kernel
theorem dX0_isDone_16 : decode cX0_isDone 16 = .ok (.aload_n 2, 1) := by decide +kernel
theorem dX0_isDone_17 : decode cX0_isDone 17 = .ok (.iload_n 3, 1) := by decide +kernel
theorem dX0_isDone_18 : decode cX0_isDone 18 = .ok (.aload_n 0, 1) := by decide +kernel
theorem dX0_isDone_19 : decode cX0_isDone 19 = .ok (.getfield 25, 3) := by decide +kernel
theorem dX0_isDone_22 : decode cX0_isDone 22 = .ok (.iload_n 1, 1) := by decide +kernel
theorem dX0_isDone_23 : decode cX0_isDone 23 = .ok (.aaload, 1) := by decide +kernel
theorem dX0_isDone_24 : decode cX0_isDone 24 = .ok (.getfield 114, 3) := by decide +kernel
theorem dX0_isDone_27 : decode cX0_isDone 27 = .ok (.invokevirtual 135, 3) := by decide +kernel
theorem dX0_isDone_30 : decode cX0_isDone 30 = .ok (.ifCond .ne 7, 3) := by decide +kernel
theorem dX0_isDone_33 : decode cX0_isDone 33 = .ok (.iconst 1, 1) := by decide +kernel
theorem dX0_isDone_34 : decode cX0_isDone 34 = .ok (.goto 4, 3) := by decide +kernel
theorem dX0_isDone_37 : decode cX0_isDone 37 = .ok (.iconst 0, 1) := by decide +kernel
theorem dX0_isDone_38 : decode cX0_isDone 38 = .ok (.ireturn, 1) := by decide +kernel
theorem dX0_creditBehind_0 : decode cX0_creditBehind 0 = .ok (.aload_n 0, 1) := by decide +kernel
theorem dX0_creditBehind_1 : decode cX0_creditBehind 1 = .ok (.getfield 11, 3) := by decide +kernel
theorem dX0_creditBehind_4 : decode cX0_creditBehind 4 = .ok (.iload_n 1, 1) := by decide +kernel
theorem dX0_creditBehind_5 : decode cX0_creditBehind 5 = .ok (.aaload, 1) := by decide +kernel
theorem dX0_creditBehind_6 : decode cX0_creditBehind 6 = .ok (.getfield 138, 3) := by decide +kernel
theorem dX0_creditBehind_9 : decode cX0_creditBehind 9 = .ok (.istore 4, 2) := by decide +kernel
theorem dX0_creditBehind_11 : decode cX0_creditBehind 11 = .ok (.iconst 1, 1) := by decide +kernel
theorem dX0_creditBehind_12 : decode cX0_creditBehind 12 = .ok (.istore 5, 2) := by decide +kernel
theorem dX0_creditBehind_14 : decode cX0_creditBehind 14 = .ok (.iload 5, 2) := by decide +kernel
theorem dX0_creditBehind_16 : decode cX0_creditBehind 16 = .ok (.iload_n 2, 1) := by decide +kernel
theorem dX0_creditBehind_17 : decode cX0_creditBehind 17 = .ok (.if_icmp .gt 78, 3) := by decide +kernel
theorem dX0_creditBehind_20 : decode cX0_creditBehind 20 = .ok (.iconst 0, 1) := by decide +kernel
theorem dX0_creditBehind_21 : decode cX0_creditBehind 21 = .ok (.istore 6, 2) := by decide +kernel
theorem dX0_creditBehind_23 : decode cX0_creditBehind 23 = .ok (.iload 6, 2) := by decide +kernel
theorem dX0_creditBehind_25 : decode cX0_creditBehind 25 = .ok (.aload_n 0, 1) := by decide +kernel
theorem dX0_creditBehind_26 : decode cX0_creditBehind 26 = .ok (.getfield 69, 3) := by decide +kernel
theorem dX0_creditBehind_29 : decode cX0_creditBehind 29 = .ok (.if_icmp .ge 60, 3) := by decide +kernel
theorem dX0_creditBehind_32 : decode cX0_creditBehind 32 = .ok (.aload_n 0, 1) := by decide +kernel
theorem dX0_creditBehind_33 : decode cX0_creditBehind 33 = .ok (.getfield 25, 3) := by decide +kernel
theorem dX0_creditBehind_36 : decode cX0_creditBehind 36 = .ok (.iload 6, 2) := by decide +kernel
theorem dX0_creditBehind_38 : decode cX0_creditBehind 38 = .ok (.aaload, 1) := by decide +kernel
theorem dX0_creditBehind_39 : decode cX0_creditBehind 39 = .ok (.iload_n 1, 1) := by decide +kernel
theorem dX0_creditBehind_40 : decode cX0_creditBehind 40 = .ok (.iload 5, 2) := by decide +kernel
theorem dX0_creditBehind_42 : decode cX0_creditBehind 42 = .ok (.invokevirtual 117, 3) := by decide +kernel
theorem dX0_creditBehind_45 : decode cX0_creditBehind 45 = .ok (.ifCond .eq 38, 3) := by decide +kernel
theorem dX0_creditBehind_48 : decode cX0_creditBehind 48 = .ok (.iload 4, 2) := by decide +kernel
theorem dX0_creditBehind_50 : decode cX0_creditBehind 50 = .ok (.aload_n 0, 1) := by decide +kernel
theorem dX0_creditBehind_51 : decode cX0_creditBehind 51 = .ok (.getfield 25, 3) := by decide +kernel
theorem dX0_creditBehind_54 : decode cX0_creditBehind 54 = .ok (.iload 6, 2) := by decide +kernel
theorem dX0_creditBehind_56 : decode cX0_creditBehind 56 = .ok (.aaload, 1) := by decide +kernel
theorem dX0_creditBehind_57 : decode cX0_creditBehind 57 = .ok (.aload_n 0, 1) := by decide +kernel
theorem dX0_creditBehind_58 : decode cX0_creditBehind 58 = .ok (.iload 6, 2) := by decide +kernel
theorem dX0_creditBehind_60 : decode cX0_creditBehind 60 = .ok (.aload_n 3, 1) := by decide +kernel
theorem dX0_creditBehind_61 : decode cX0_creditBehind 61 = .ok (.invokevirtual 141, 3) := by decide +kernel
theorem dX0_creditBehind_64 : decode cX0_creditBehind 64 = .ok (.invokevirtual 145, 3) := by decide +kernel
theorem dX0_creditBehind_67 : decode cX0_creditBehind 67 = .ok (.iadd, 1) := by decide +kernel
theorem dX0_creditBehind_68 : decode cX0_creditBehind 68 = .ok (.istore 7, 2) := by decide +kernel
theorem dX0_creditBehind_70 : decode cX0_creditBehind 70 = .ok (.iconst 0, 1) := by decide +kernel
theorem dX0_creditBehind_71 : decode cX0_creditBehind 71 = .ok (.bipush 99, 2) := by decide +kernel
theorem dX0_creditBehind_73 : decode cX0_creditBehind 73 = .ok (.iload 7, 2) := by decide +kernel
theorem dX0_creditBehind_75 : decode cX0_creditBehind 75 = .ok (.invokestatic 149, 3) := by decide +kernel
theorem dX0_creditBehind_78 : decode cX0_creditBehind 78 = .ok (.invokestatic 154, 3) := by decide +kernel
theorem dX0_creditBehind_81 : decode cX0_creditBehind 81 = .ok (.istore 4, 2) := by decide +kernel
theorem dX0_creditBehind_83 : decode cX0_creditBehind 83 = .ok (.iinc 6 1, 3) := by decide +kernel
theorem dX0_creditBehind_86 : decode cX0_creditBehind 86 = .ok (.goto (-63), 3) := by decide +kernel
theorem dX0_creditBehind_89 : decode cX0_creditBehind 89 = .ok (.iinc 5 1, 3) := by decide +kernel
theorem dX0_creditBehind_92 : decode cX0_creditBehind 92 = .ok (.goto (-78), 3) := by decide +kernel
theorem dX0_creditBehind_95 : decode cX0_creditBehind 95 = .ok (.iload 4, 2) := by decide +kernel
theorem dX0_creditBehind_97 : decode cX0_creditBehind 97 = .ok (.ireturn, 1) := by decide +kernel
theorem dX0_finesOf_0 : decode cX0_finesOf 0 = .ok (.iconst 0, 1) := by decide +kernel
theorem dX0_finesOf_1 : decode cX0_finesOf 1 = .ok (.istore 4, 2) := by decide +kernel
theorem dX0_finesOf_3 : decode cX0_finesOf 3 = .ok (.iconst 0, 1) := by decide +kernel
theorem dX0_finesOf_4 : decode cX0_finesOf 4 = .ok (.istore 5, 2) := by decide +kernel
theorem dX0_finesOf_6 : decode cX0_finesOf 6 = .ok (.iload 5, 2) := by decide +kernel
theorem dX0_finesOf_8 : decode cX0_finesOf 8 = .ok (.aload_n 0, 1) := by decide +kernel
theorem dX0_finesOf_9 : decode cX0_finesOf 9 = .ok (.getfield 69, 3) := by decide +kernel
theorem dX0_finesOf_12 : decode cX0_finesOf 12 = .ok (.if_icmp .ge 59, 3) := by decide +kernel
theorem dX0_finesOf_15 : decode cX0_finesOf 15 = .ok (.aload_n 0, 1) := by decide +kernel
theorem dX0_finesOf_16 : decode cX0_finesOf 16 = .ok (.getfield 25, 3) := by decide +kernel
theorem dX0_finesOf_19 : decode cX0_finesOf 19 = .ok (.iload 5, 2) := by decide +kernel
theorem dX0_finesOf_21 : decode cX0_finesOf 21 = .ok (.aaload, 1) := by decide +kernel
theorem dX0_finesOf_22 : decode cX0_finesOf 22 = .ok (.getfield 114, 3) := by decide +kernel
theorem dX0_finesOf_25 : decode cX0_finesOf 25 = .ok (.iload_n 2, 1) := by decide +kernel
theorem dX0_finesOf_26 : decode cX0_finesOf 26 = .ok (.if_icmp .gt 39, 3) := by decide +kernel
theorem dX0_finesOf_29 : decode cX0_finesOf 29 = .ok (.aload_n 0, 1) := by decide +kernel
theorem dX0_finesOf_30 : decode cX0_finesOf 30 = .ok (.iload 5, 2) := by decide +kernel
theorem dX0_finesOf_32 : decode cX0_finesOf 32 = .ok (.aload_n 3, 1) := by decide +kernel
theorem dX0_finesOf_33 : decode cX0_finesOf 33 = .ok (.invokevirtual 128, 3) := by decide +kernel
theorem dX0_finesOf_36 : decode cX0_finesOf 36 = .ok (.iload_n 1, 1) := by decide +kernel
theorem dX0_finesOf_37 : decode cX0_finesOf 37 = .ok (.if_icmp .ne 28, 3) := by decide +kernel
theorem dX0_finesOf_40 : decode cX0_finesOf 40 = .ok (.aload_n 0, 1) := by decide +kernel
theorem dX0_finesOf_41 : decode cX0_finesOf 41 = .ok (.iload 5, 2) := by decide +kernel
theorem dX0_finesOf_43 : decode cX0_finesOf 43 = .ok (.aload_n 3, 1) := by decide +kernel
theorem dX0_finesOf_44 : decode cX0_finesOf 44 = .ok (.invokevirtual 141, 3) := by decide +kernel
theorem dX0_finesOf_47 : decode cX0_finesOf 47 = .ok (.ifCond .ne 18, 3) := by decide +kernel
theorem dX0_finesOf_50 : decode cX0_finesOf 50 = .ok (.iload 4, 2) := by decide +kernel
theorem dX0_finesOf_52 : decode cX0_finesOf 52 = .ok (.aload_n 0, 1) := by decide +kernel
theorem dX0_finesOf_53 : decode cX0_finesOf 53 = .ok (.getfield 25, 3) := by decide +kernel
theorem dX0_finesOf_56 : decode cX0_finesOf 56 = .ok (.iload 5, 2) := by decide +kernel
theorem dX0_finesOf_58 : decode cX0_finesOf 58 = .ok (.aaload, 1) := by decide +kernel
theorem dX0_finesOf_59 : decode cX0_finesOf 59 = .ok (.getfield 157, 3) := by decide +kernel
theorem dX0_finesOf_62 : decode cX0_finesOf 62 = .ok (.iadd, 1) := by decide +kernel
theorem dX0_finesOf_63 : decode cX0_finesOf 63 = .ok (.istore 4, 2) := by decide +kernel
theorem dX0_finesOf_65 : decode cX0_finesOf 65 = .ok (.iinc 5 1, 3) := by decide +kernel
theorem dX0_finesOf_68 : decode cX0_finesOf 68 = .ok (.goto (-62), 3) := by decide +kernel
theorem dX0_finesOf_71 : decode cX0_finesOf 71 = .ok (.iload 4, 2) := by decide +kernel
theorem dX0_finesOf_73 : decode cX0_finesOf 73 = .ok (.ireturn, 1) := by decide +kernel
theorem dX0_earningsOf_0 : decode cX0_earningsOf 0 = .ok (.iconst 0, 1) := by decide +kernel
theorem dX0_earningsOf_1 : decode cX0_earningsOf 1 = .ok (.istore 4, 2) := by decide +kernel
theorem dX0_earningsOf_3 : decode cX0_earningsOf 3 = .ok (.iconst 0, 1) := by decide +kernel
theorem dX0_earningsOf_4 : decode cX0_earningsOf 4 = .ok (.istore 5, 2) := by decide +kernel
theorem dX0_earningsOf_6 : decode cX0_earningsOf 6 = .ok (.iload 5, 2) := by decide +kernel
theorem dX0_earningsOf_8 : decode cX0_earningsOf 8 = .ok (.aload_n 0, 1) := by decide +kernel
theorem dX0_earningsOf_9 : decode cX0_earningsOf 9 = .ok (.getfield 69, 3) := by decide +kernel
theorem dX0_earningsOf_12 : decode cX0_earningsOf 12 = .ok (.if_icmp .ge 70, 3) := by decide +kernel
theorem dX0_earningsOf_15 : decode cX0_earningsOf 15 = .ok (.aload_n 0, 1) := by decide +kernel
theorem dX0_earningsOf_16 : decode cX0_earningsOf 16 = .ok (.getfield 25, 3) := by decide +kernel
theorem dX0_earningsOf_19 : decode cX0_earningsOf 19 = .ok (.iload 5, 2) := by decide +kernel
theorem dX0_earningsOf_21 : decode cX0_earningsOf 21 = .ok (.aaload, 1) := by decide +kernel
theorem dX0_earningsOf_22 : decode cX0_earningsOf 22 = .ok (.getfield 114, 3) := by decide +kernel
theorem dX0_earningsOf_25 : decode cX0_earningsOf 25 = .ok (.iload_n 2, 1) := by decide +kernel
theorem dX0_earningsOf_26 : decode cX0_earningsOf 26 = .ok (.if_icmp .gt 50, 3) := by decide +kernel
theorem dX0_earningsOf_29 : decode cX0_earningsOf 29 = .ok (.aload_n 0, 1) := by decide +kernel
theorem dX0_earningsOf_30 : decode cX0_earningsOf 30 = .ok (.iload 5, 2) := by decide +kernel
theorem dX0_earningsOf_32 : decode cX0_earningsOf 32 = .ok (.aload_n 3, 1) := by decide +kernel
theorem dX0_earningsOf_33 : decode cX0_earningsOf 33 = .ok (.invokevirtual 128, 3) := by decide +kernel
theorem dX0_earningsOf_36 : decode cX0_earningsOf 36 = .ok (.iload_n 1, 1) := by decide +kernel
theorem dX0_earningsOf_37 : decode cX0_earningsOf 37 = .ok (.if_icmp .ne 39, 3) := by decide +kernel
theorem dX0_earningsOf_40 : decode cX0_earningsOf 40 = .ok (.aload_n 0, 1) := by decide +kernel
theorem dX0_earningsOf_41 : decode cX0_earningsOf 41 = .ok (.iload 5, 2) := by decide +kernel
theorem dX0_earningsOf_43 : decode cX0_earningsOf 43 = .ok (.aload_n 3, 1) := by decide +kernel
theorem dX0_earningsOf_44 : decode cX0_earningsOf 44 = .ok (.invokevirtual 141, 3) := by decide +kernel
theorem dX0_earningsOf_47 : decode cX0_earningsOf 47 = .ok (.ifCond .eq 29, 3) := by decide +kernel
theorem dX0_earningsOf_50 : decode cX0_earningsOf 50 = .ok (.iload 4, 2) := by decide +kernel
theorem dX0_earningsOf_52 : decode cX0_earningsOf 52 = .ok (.aload_n 0, 1) := by decide +kernel
theorem dX0_earningsOf_53 : decode cX0_earningsOf 53 = .ok (.getfield 25, 3) := by decide +kernel
theorem dX0_earningsOf_56 : decode cX0_earningsOf 56 = .ok (.iload 5, 2) := by decide +kernel
theorem dX0_earningsOf_58 : decode cX0_earningsOf 58 = .ok (.aaload, 1) := by decide +kernel
theorem dX0_earningsOf_59 : decode cX0_earningsOf 59 = .ok (.getfield 160, 3) := by decide +kernel
theorem dX0_earningsOf_62 : decode cX0_earningsOf 62 = .ok (.aload_n 0, 1) := by decide +kernel
theorem dX0_earningsOf_63 : decode cX0_earningsOf 63 = .ok (.getfield 25, 3) := by decide +kernel
theorem dX0_earningsOf_66 : decode cX0_earningsOf 66 = .ok (.iload 5, 2) := by decide +kernel
theorem dX0_earningsOf_68 : decode cX0_earningsOf 68 = .ok (.aaload, 1) := by decide +kernel
theorem dX0_earningsOf_69 : decode cX0_earningsOf 69 = .ok (.getfield 163, 3) := by decide +kernel
theorem dX0_earningsOf_72 : decode cX0_earningsOf 72 = .ok (.isub, 1) := by decide +kernel
theorem dX0_earningsOf_73 : decode cX0_earningsOf 73 = .ok (.iadd, 1) := by decide +kernel
theorem dX0_earningsOf_74 : decode cX0_earningsOf 74 = .ok (.istore 4, 2) := by decide +kernel
theorem dX0_earningsOf_76 : decode cX0_earningsOf 76 = .ok (.iinc 5 1, 3) := by decide +kernel
theorem dX0_earningsOf_79 : decode cX0_earningsOf 79 = .ok (.goto (-73), 3) := by decide +kernel
theorem dX0_earningsOf_82 : decode cX0_earningsOf 82 = .ok (.iload 4, 2) := by decide +kernel
theorem dX0_earningsOf_84 : decode cX0_earningsOf 84 = .ok (.ireturn, 1) := by decide +kernel
theorem dX0_balanceOn_0 : decode cX0_balanceOn 0 = .ok (.iconst 0, 1) := by decide +kernel
theorem dX0_balanceOn_1 : decode cX0_balanceOn 1 = .ok (.istore_n 3, 1) := by decide +kernel
theorem dX0_balanceOn_2 : decode cX0_balanceOn 2 = .ok (.iconst 0, 1) := by decide +kernel
theorem dX0_balanceOn_3 : decode cX0_balanceOn 3 = .ok (.istore 4, 2) := by decide +kernel
theorem dX0_balanceOn_5 : decode cX0_balanceOn 5 = .ok (.iload 4, 2) := by decide +kernel
theorem dX0_balanceOn_7 : decode cX0_balanceOn 7 = .ok (.aload_n 0, 1) := by decide +kernel
theorem dX0_balanceOn_8 : decode cX0_balanceOn 8 = .ok (.getfield 69, 3) := by decide +kernel
theorem dX0_balanceOn_11 : decode cX0_balanceOn 11 = .ok (.if_icmp .ge 43, 3) := by decide +kernel
theorem dX0_balanceOn_14 : decode cX0_balanceOn 14 = .ok (.aload_n 0, 1) := by decide +kernel
theorem dX0_balanceOn_15 : decode cX0_balanceOn 15 = .ok (.getfield 25, 3) := by decide +kernel
theorem dX0_balanceOn_18 : decode cX0_balanceOn 18 = .ok (.iload 4, 2) := by decide +kernel
theorem dX0_balanceOn_20 : decode cX0_balanceOn 20 = .ok (.aaload, 1) := by decide +kernel
theorem dX0_balanceOn_21 : decode cX0_balanceOn 21 = .ok (.getfield 114, 3) := by decide +kernel
theorem dX0_balanceOn_24 : decode cX0_balanceOn 24 = .ok (.iload_n 1, 1) := by decide +kernel
theorem dX0_balanceOn_25 : decode cX0_balanceOn 25 = .ok (.if_icmp .ne 23, 3) := by decide +kernel
theorem dX0_balanceOn_28 : decode cX0_balanceOn 28 = .ok (.iload_n 3, 1) := by decide +kernel
theorem dX0_balanceOn_29 : decode cX0_balanceOn 29 = .ok (.aload_n 0, 1) := by decide +kernel
theorem dX0_balanceOn_30 : decode cX0_balanceOn 30 = .ok (.getfield 25, 3) := by decide +kernel
theorem dX0_balanceOn_33 : decode cX0_balanceOn 33 = .ok (.iload 4, 2) := by decide +kernel
theorem dX0_balanceOn_35 : decode cX0_balanceOn 35 = .ok (.aaload, 1) := by decide +kernel
theorem dX0_balanceOn_36 : decode cX0_balanceOn 36 = .ok (.aload_n 0, 1) := by decide +kernel
theorem dX0_balanceOn_37 : decode cX0_balanceOn 37 = .ok (.iload 4, 2) := by decide +kernel
theorem dX0_balanceOn_39 : decode cX0_balanceOn 39 = .ok (.aload_n 2, 1) := by decide +kernel
theorem dX0_balanceOn_40 : decode cX0_balanceOn 40 = .ok (.invokevirtual 141, 3) := by decide +kernel
theorem dX0_balanceOn_43 : decode cX0_balanceOn 43 = .ok (.invokevirtual 145, 3) := by decide +kernel
theorem dX0_balanceOn_46 : decode cX0_balanceOn 46 = .ok (.iadd, 1) := by decide +kernel
theorem dX0_balanceOn_47 : decode cX0_balanceOn 47 = .ok (.istore_n 3, 1) := by decide +kernel
theorem dX0_balanceOn_48 : decode cX0_balanceOn 48 = .ok (.iinc 4 1, 3) := by decide +kernel
theorem dX0_balanceOn_51 : decode cX0_balanceOn 51 = .ok (.goto (-46), 3) := by decide +kernel
theorem dX0_balanceOn_54 : decode cX0_balanceOn 54 = .ok (.iload_n 3, 1) := by decide +kernel
theorem dX0_balanceOn_55 : decode cX0_balanceOn 55 = .ok (.ireturn, 1) := by decide +kernel
theorem dX0_balanceIf_0 : decode cX0_balanceIf 0 = .ok (.iconst 0, 1) := by decide +kernel
theorem dX0_balanceIf_1 : decode cX0_balanceIf 1 = .ok (.istore 4, 2) := by decide +kernel
theorem dX0_balanceIf_3 : decode cX0_balanceIf 3 = .ok (.iconst 0, 1) := by decide +kernel
theorem dX0_balanceIf_4 : decode cX0_balanceIf 4 = .ok (.istore 5, 2) := by decide +kernel
theorem dX0_balanceIf_6 : decode cX0_balanceIf 6 = .ok (.iload 5, 2) := by decide +kernel
theorem dX0_balanceIf_8 : decode cX0_balanceIf 8 = .ok (.aload_n 0, 1) := by decide +kernel
theorem dX0_balanceIf_9 : decode cX0_balanceIf 9 = .ok (.getfield 69, 3) := by decide +kernel
theorem dX0_balanceIf_12 : decode cX0_balanceIf 12 = .ok (.if_icmp .ge 46, 3) := by decide +kernel
theorem dX0_balanceIf_15 : decode cX0_balanceIf 15 = .ok (.aload_n 0, 1) := by decide +kernel
theorem dX0_balanceIf_16 : decode cX0_balanceIf 16 = .ok (.getfield 25, 3) := by decide +kernel
theorem dX0_balanceIf_19 : decode cX0_balanceIf 19 = .ok (.iload 5, 2) := by decide +kernel
theorem dX0_balanceIf_21 : decode cX0_balanceIf 21 = .ok (.aaload, 1) := by decide +kernel
theorem dX0_balanceIf_22 : decode cX0_balanceIf 22 = .ok (.iload_n 1, 1) := by decide +kernel
theorem dX0_balanceIf_23 : decode cX0_balanceIf 23 = .ok (.iload_n 3, 1) := by decide +kernel
theorem dX0_balanceIf_24 : decode cX0_balanceIf 24 = .ok (.invokevirtual 117, 3) := by decide +kernel
theorem dX0_balanceIf_27 : decode cX0_balanceIf 27 = .ok (.ifCond .eq 25, 3) := by decide +kernel
theorem dX0_balanceIf_30 : decode cX0_balanceIf 30 = .ok (.iload 4, 2) := by decide +kernel
theorem dX0_balanceIf_32 : decode cX0_balanceIf 32 = .ok (.aload_n 0, 1) := by decide +kernel
theorem dX0_balanceIf_33 : decode cX0_balanceIf 33 = .ok (.getfield 25, 3) := by decide +kernel
theorem dX0_balanceIf_36 : decode cX0_balanceIf 36 = .ok (.iload 5, 2) := by decide +kernel
theorem dX0_balanceIf_38 : decode cX0_balanceIf 38 = .ok (.aaload, 1) := by decide +kernel
theorem dX0_balanceIf_39 : decode cX0_balanceIf 39 = .ok (.aload_n 0, 1) := by decide +kernel
theorem dX0_balanceIf_40 : decode cX0_balanceIf 40 = .ok (.iload_n 2, 1) := by decide +kernel
theorem dX0_balanceIf_41 : decode cX0_balanceIf 41 = .ok (.iload 5, 2) := by decide +kernel
theorem dX0_balanceIf_43 : decode cX0_balanceIf 43 = .ok (.invokevirtual 132, 3) := by decide +kernel
theorem dX0_balanceIf_46 : decode cX0_balanceIf 46 = .ok (.invokevirtual 145, 3) := by decide +kernel
theorem dX0_balanceIf_49 : decode cX0_balanceIf 49 = .ok (.iadd, 1) := by decide +kernel
theorem dX0_balanceIf_50 : decode cX0_balanceIf 50 = .ok (.istore 4, 2) := by decide +kernel
theorem dX0_balanceIf_52 : decode cX0_balanceIf 52 = .ok (.iinc 5 1, 3) := by decide +kernel
theorem dX0_balanceIf_55 : decode cX0_balanceIf 55 = .ok (.goto (-49), 3) := by decide +kernel
theorem dX0_balanceIf_58 : decode cX0_balanceIf 58 = .ok (.iload 4, 2) := by decide +kernel
theorem dX0_balanceIf_60 : decode cX0_balanceIf 60 = .ok (.ireturn, 1) := by decide +kernel
theorem dX0_leastDeposit_0 : decode cX0_leastDeposit 0 = .ok (.iconst 0, 1) := by decide +kernel
theorem dX0_leastDeposit_1 : decode cX0_leastDeposit 1 = .ok (.istore_n 2, 1) := by decide +kernel
theorem dX0_leastDeposit_2 : decode cX0_leastDeposit 2 = .ok (.iconst 0, 1) := by decide +kernel
theorem dX0_leastDeposit_3 : decode cX0_leastDeposit 3 = .ok (.istore_n 3, 1) := by decide +kernel
theorem dX0_leastDeposit_4 : decode cX0_leastDeposit 4 = .ok (.iload_n 3, 1) := by decide +kernel
theorem dX0_leastDeposit_5 : decode cX0_leastDeposit 5 = .ok (.aload_n 0, 1) := by decide +kernel
theorem dX0_leastDeposit_6 : decode cX0_leastDeposit 6 = .ok (.getfield 69, 3) := by decide +kernel
theorem dX0_leastDeposit_9 : decode cX0_leastDeposit 9 = .ok (.if_icmp .ge 56, 3) := by decide +kernel
theorem dX0_leastDeposit_12 : decode cX0_leastDeposit 12 = .ok (.aload_n 0, 1) := by decide +kernel
theorem dX0_leastDeposit_13 : decode cX0_leastDeposit 13 = .ok (.iload_n 3, 1) := by decide +kernel
theorem dX0_leastDeposit_14 : decode cX0_leastDeposit 14 = .ok (.aload_n 1, 1) := by decide +kernel
theorem dX0_leastDeposit_15 : decode cX0_leastDeposit 15 = .ok (.invokevirtual 166, 3) := by decide +kernel
theorem dX0_leastDeposit_18 : decode cX0_leastDeposit 18 = .ok (.ifCond .eq 41, 3) := by decide +kernel
theorem dX0_leastDeposit_21 : decode cX0_leastDeposit 21 = .ok (.aload_n 0, 1) := by decide +kernel
theorem dX0_leastDeposit_22 : decode cX0_leastDeposit 22 = .ok (.getfield 25, 3) := by decide +kernel
theorem dX0_leastDeposit_25 : decode cX0_leastDeposit 25 = .ok (.iload_n 3, 1) := by decide +kernel
theorem dX0_leastDeposit_26 : decode cX0_leastDeposit 26 = .ok (.aaload, 1) := by decide +kernel
theorem dX0_leastDeposit_27 : decode cX0_leastDeposit 27 = .ok (.getfield 163, 3) := by decide +kernel
theorem dX0_leastDeposit_30 : decode cX0_leastDeposit 30 = .ok (.aload_n 0, 1) := by decide +kernel
theorem dX0_leastDeposit_31 : decode cX0_leastDeposit 31 = .ok (.getfield 25, 3) := by decide +kernel
theorem dX0_leastDeposit_34 : decode cX0_leastDeposit 34 = .ok (.iload_n 3, 1) := by decide +kernel
theorem dX0_leastDeposit_35 : decode cX0_leastDeposit 35 = .ok (.aaload, 1) := by decide +kernel
theorem dX0_leastDeposit_36 : decode cX0_leastDeposit 36 = .ok (.getfield 157, 3) := by decide +kernel
theorem dX0_leastDeposit_39 : decode cX0_leastDeposit 39 = .ok (.if_icmp .le 6, 3) := by decide +kernel
theorem dX0_leastDeposit_42 : decode cX0_leastDeposit 42 = .ok (.bipush (-2), 2) := by decide +kernel
theorem dX0_leastDeposit_44 : decode cX0_leastDeposit 44 = .ok (.ireturn, 1) := by decide +kernel
theorem dX0_leastDeposit_45 : decode cX0_leastDeposit 45 = .ok (.iload_n 2, 1) := by decide +kernel
theorem dX0_leastDeposit_46 : decode cX0_leastDeposit 46 = .ok (.aload_n 0, 1) := by decide +kernel
theorem dX0_leastDeposit_47 : decode cX0_leastDeposit 47 = .ok (.getfield 25, 3) := by decide +kernel
theorem dX0_leastDeposit_50 : decode cX0_leastDeposit 50 = .ok (.iload_n 3, 1) := by decide +kernel
theorem dX0_leastDeposit_51 : decode cX0_leastDeposit 51 = .ok (.aaload, 1) := by decide +kernel
theorem dX0_leastDeposit_52 : decode cX0_leastDeposit 52 = .ok (.getfield 163, 3) := by decide +kernel
theorem dX0_leastDeposit_55 : decode cX0_leastDeposit 55 = .ok (.invokestatic 154, 3) := by decide +kernel
theorem dX0_leastDeposit_58 : decode cX0_leastDeposit 58 = .ok (.istore_n 2, 1) := by decide +kernel
theorem dX0_leastDeposit_59 : decode cX0_leastDeposit 59 = .ok (.iinc 3 1, 3) := by decide +kernel
theorem dX0_leastDeposit_62 : decode cX0_leastDeposit 62 = .ok (.goto (-58), 3) := by decide +kernel
theorem dX0_leastDeposit_65 : decode cX0_leastDeposit 65 = .ok (.iload_n 2, 1) := by decide +kernel
theorem dX0_leastDeposit_66 : decode cX0_leastDeposit 66 = .ok (.ireturn, 1) := by decide +kernel
theorem dX0_isBeforeHandingOn_0 : decode cX0_isBeforeHandingOn 0 = .ok (.aload_n 2, 1) := by decide +kernel
theorem dX0_isBeforeHandingOn_1 : decode cX0_isBeforeHandingOn 1 = .ok (.aload_n 0, 1) := by decide +kernel
theorem dX0_isBeforeHandingOn_2 : decode cX0_isBeforeHandingOn 2 = .ok (.getfield 25, 3) := by decide +kernel
theorem dX0_isBeforeHandingOn_5 : decode cX0_isBeforeHandingOn 5 = .ok (.iload_n 1, 1) := by decide +kernel
theorem dX0_isBeforeHandingOn_6 : decode cX0_isBeforeHandingOn 6 = .ok (.aaload, 1) := by decide +kernel
theorem dX0_isBeforeHandingOn_7 : decode cX0_isBeforeHandingOn 7 = .ok (.getfield 111, 3) := by decide +kernel
theorem dX0_isBeforeHandingOn_10 : decode cX0_isBeforeHandingOn 10 = .ok (.aload_n 0, 1) := by decide +kernel
theorem dX0_isBeforeHandingOn_11 : decode cX0_isBeforeHandingOn 11 = .ok (.getfield 25, 3) := by decide +kernel
theorem dX0_isBeforeHandingOn_14 : decode cX0_isBeforeHandingOn 14 = .ok (.iload_n 1, 1) := by decide +kernel
theorem dX0_isBeforeHandingOn_15 : decode cX0_isBeforeHandingOn 15 = .ok (.aaload, 1) := by decide +kernel
theorem dX0_isBeforeHandingOn_16 : decode cX0_isBeforeHandingOn 16 = .ok (.getfield 114, 3) := by decide +kernel
theorem dX0_isBeforeHandingOn_19 : decode cX0_isBeforeHandingOn 19 = .ok (.invokevirtual 169, 3) := by decide +kernel
theorem dX0_isBeforeHandingOn_22 : decode cX0_isBeforeHandingOn 22 = .ok (.istore_n 3, 1) := by decide +kernel
theorem dX0_isBeforeHandingOn_23 : decode cX0_isBeforeHandingOn 23 = .ok (.iload_n 3, 1) := by decide +kernel
theorem dX0_isBeforeHandingOn_24 : decode cX0_isBeforeHandingOn 24 = .ok (.ifCond .lt 37, 3) := by decide +kernel
theorem dX0_isBeforeHandingOn_27 : decode cX0_isBeforeHandingOn 27 = .ok (.aload_n 2, 1) := by decide +kernel
theorem dX0_isBeforeHandingOn_28 : decode cX0_isBeforeHandingOn 28 = .ok (.iload_n 3, 1) := by decide +kernel
theorem dX0_isBeforeHandingOn_29 : decode cX0_isBeforeHandingOn 29 = .ok (.invokevirtual 172, 3) := by decide +kernel
theorem dX0_isBeforeHandingOn_32 : decode cX0_isBeforeHandingOn 32 = .ok (.aload_n 0, 1) := by decide +kernel
theorem dX0_isBeforeHandingOn_33 : decode cX0_isBeforeHandingOn 33 = .ok (.getfield 25, 3) := by decide +kernel
theorem dX0_isBeforeHandingOn_36 : decode cX0_isBeforeHandingOn 36 = .ok (.iload_n 1, 1) := by decide +kernel
theorem dX0_isBeforeHandingOn_37 : decode cX0_isBeforeHandingOn 37 = .ok (.aaload, 1) := by decide +kernel
theorem dX0_isBeforeHandingOn_38 : decode cX0_isBeforeHandingOn 38 = .ok (.getfield 114, 3) := by decide +kernel
theorem dX0_isBeforeHandingOn_41 : decode cX0_isBeforeHandingOn 41 = .ok (.if_icmp .ne 20, 3) := by decide +kernel
theorem dX0_isBeforeHandingOn_44 : decode cX0_isBeforeHandingOn 44 = .ok (.aload_n 0, 1) := by decide +kernel
theorem dX0_isBeforeHandingOn_45 : decode cX0_isBeforeHandingOn 45 = .ok (.aload_n 2, 1) := by decide +kernel
theorem dX0_isBeforeHandingOn_46 : decode cX0_isBeforeHandingOn 46 = .ok (.iload_n 3, 1) := by decide +kernel
theorem dX0_isBeforeHandingOn_47 : decode cX0_isBeforeHandingOn 47 = .ok (.invokevirtual 176, 3) := by decide +kernel
theorem dX0_isBeforeHandingOn_50 : decode cX0_isBeforeHandingOn 50 = .ok (.iload_n 1, 1) := by decide +kernel
theorem dX0_isBeforeHandingOn_51 : decode cX0_isBeforeHandingOn 51 = .ok (.invokevirtual 108, 3) := by decide +kernel
theorem dX0_isBeforeHandingOn_54 : decode cX0_isBeforeHandingOn 54 = .ok (.ifCond .eq 7, 3) := by decide +kernel
theorem dX0_isBeforeHandingOn_57 : decode cX0_isBeforeHandingOn 57 = .ok (.iconst 1, 1) := by decide +kernel
theorem dX0_isBeforeHandingOn_58 : decode cX0_isBeforeHandingOn 58 = .ok (.goto 4, 3) := by decide +kernel
theorem dX0_isBeforeHandingOn_61 : decode cX0_isBeforeHandingOn 61 = .ok (.iconst 0, 1) := by decide +kernel
theorem dX0_isBeforeHandingOn_62 : decode cX0_isBeforeHandingOn 62 = .ok (.ireturn, 1) := by decide +kernel
theorem dX0_priceOf_0 : decode cX0_priceOf 0 = .ok (.iconst 0, 1) := by decide +kernel
theorem dX0_priceOf_1 : decode cX0_priceOf 1 = .ok (.istore 5, 2) := by decide +kernel
theorem dX0_priceOf_3 : decode cX0_priceOf 3 = .ok (.iconst 0, 1) := by decide +kernel
theorem dX0_priceOf_4 : decode cX0_priceOf 4 = .ok (.istore 6, 2) := by decide +kernel
theorem dX0_priceOf_6 : decode cX0_priceOf 6 = .ok (.iload 6, 2) := by decide +kernel
theorem dX0_priceOf_8 : decode cX0_priceOf 8 = .ok (.aload_n 0, 1) := by decide +kernel
theorem dX0_priceOf_9 : decode cX0_priceOf 9 = .ok (.getfield 69, 3) := by decide +kernel
theorem dX0_priceOf_12 : decode cX0_priceOf 12 = .ok (.if_icmp .ge 56, 3) := by decide +kernel
theorem dX0_priceOf_15 : decode cX0_priceOf 15 = .ok (.aload_n 0, 1) := by decide +kernel
theorem dX0_priceOf_16 : decode cX0_priceOf 16 = .ok (.getfield 25, 3) := by decide +kernel
theorem dX0_priceOf_19 : decode cX0_priceOf 19 = .ok (.iload 6, 2) := by decide +kernel
theorem dX0_priceOf_21 : decode cX0_priceOf 21 = .ok (.aaload, 1) := by decide +kernel
theorem dX0_priceOf_22 : decode cX0_priceOf 22 = .ok (.astore 7, 2) := by decide +kernel
theorem dX0_priceOf_24 : decode cX0_priceOf 24 = .ok (.aload 7, 2) := by decide +kernel
theorem dX0_priceOf_26 : decode cX0_priceOf 26 = .ok (.getfield 111, 3) := by decide +kernel
theorem dX0_priceOf_29 : decode cX0_priceOf 29 = .ok (.iload_n 1, 1) := by decide +kernel
theorem dX0_priceOf_30 : decode cX0_priceOf 30 = .ok (.if_icmp .ne 32, 3) := by decide +kernel
theorem dX0_priceOf_33 : decode cX0_priceOf 33 = .ok (.aload 7, 2) := by decide +kernel
theorem dX0_priceOf_35 : decode cX0_priceOf 35 = .ok (.getfield 114, 3) := by decide +kernel
theorem dX0_priceOf_38 : decode cX0_priceOf 38 = .ok (.iload_n 3, 1) := by decide +kernel
theorem dX0_priceOf_39 : decode cX0_priceOf 39 = .ok (.if_icmp .lt 23, 3) := by decide +kernel
theorem dX0_priceOf_42 : decode cX0_priceOf 42 = .ok (.aload 7, 2) := by decide +kernel
theorem dX0_priceOf_44 : decode cX0_priceOf 44 = .ok (.getfield 114, 3) := by decide +kernel
theorem dX0_priceOf_47 : decode cX0_priceOf 47 = .ok (.iload 4, 2) := by decide +kernel
theorem dX0_priceOf_49 : decode cX0_priceOf 49 = .ok (.if_icmp .gt 13, 3) := by decide +kernel
theorem dX0_priceOf_52 : decode cX0_priceOf 52 = .ok (.iload 5, 2) := by decide +kernel
theorem dX0_priceOf_54 : decode cX0_priceOf 54 = .ok (.aload 7, 2) := by decide +kernel
theorem dX0_priceOf_56 : decode cX0_priceOf 56 = .ok (.getfield 157, 3) := by decide +kernel
theorem dX0_priceOf_59 : decode cX0_priceOf 59 = .ok (.iadd, 1) := by decide +kernel
theorem dX0_priceOf_60 : decode cX0_priceOf 60 = .ok (.istore 5, 2) := by decide +kernel
theorem dX0_priceOf_62 : decode cX0_priceOf 62 = .ok (.iinc 6 1, 3) := by decide +kernel
theorem dX0_priceOf_65 : decode cX0_priceOf 65 = .ok (.goto (-59), 3) := by decide +kernel
theorem dX0_priceOf_68 : decode cX0_priceOf 68 = .ok (.iload 5, 2) := by decide +kernel
theorem dX0_priceOf_70 : decode cX0_priceOf 70 = .ok (.bipush 100, 2) := by decide +kernel
theorem dX0_priceOf_72 : decode cX0_priceOf 72 = .ok (.aload_n 0, 1) := by decide +kernel
theorem dX0_priceOf_73 : decode cX0_priceOf 73 = .ok (.getfield 19, 3) := by decide +kernel
theorem dX0_priceOf_76 : decode cX0_priceOf 76 = .ok (.iload_n 2, 1) := by decide +kernel
theorem dX0_priceOf_77 : decode cX0_priceOf 77 = .ok (.aaload, 1) := by decide +kernel
theorem dX0_priceOf_78 : decode cX0_priceOf 78 = .ok (.getfield 179, 3) := by decide +kernel
theorem dX0_priceOf_81 : decode cX0_priceOf 81 = .ok (.isub, 1) := by decide +kernel
theorem dX0_priceOf_82 : decode cX0_priceOf 82 = .ok (.imul, 1) := by decide +kernel
theorem dX0_priceOf_83 : decode cX0_priceOf 83 = .ok (.bipush 99, 2) := by decide +kernel
theorem dX0_priceOf_85 : decode cX0_priceOf 85 = .ok (.iadd, 1) := by decide +kernel
theorem dX0_priceOf_86 : decode cX0_priceOf 86 = .ok (.bipush 100, 2) := by decide +kernel
theorem dX0_priceOf_88 : decode cX0_priceOf 88 = .ok (.idiv, 1) := by decide +kernel
theorem dX0_priceOf_89 : decode cX0_priceOf 89 = .ok (.ireturn, 1) := by decide +kernel
/-! a book: F in the reference's flat layout -/
abbrev bkF : Type := Nat → Nat
def BkI (I : HI) (B : Nat) (F : bkF) : Prop :=
  (∀ j, j < 7 → I B j = nI (F j)) ∧ (∀ m, m < F 2 → ∀ j, j < 3 → I (B + 11 + m) j = nI (F (8 + 6 * j + m))) ∧ (∀ p, p < F 3 → ∀ j, j < 5 → I (B + 17 + p) j = nI (F (26 + 6 * j + p))) ∧
  (∀ o, o < F 4 → ∀ j, j < 6 → I (B + 23 + o) j = nI (F (56 + 6 * o + j))) ∧ (∀ s, s < F 5 → ∀ j, j < 5 → I (B + 35 + s) j = nI (F (128 + 5 * s + j))) ∧
  (∀ l, l < F 6 → I (B + 5) l = nI (F (168 + 3 * l)) ∧ I (B + 6) l = nI (F (169 + 3 * l)) ∧ I (B + 7) l = nI (F (170 + 3 * l)))
def FOK (F : bkF) : Prop :=
  F 0 ≤ 20 ∧ F 1 ≤ 5 ∧ F 2 ≤ 6 ∧ F 3 ≤ 6 ∧ F 4 ≤ 12 ∧ F 5 ≤ 8 ∧ F 6 ≤ 8 ∧ (∀ m, m < F 2 → F (8 + m) < 5 ∧ F (14 + m) < 10 ∧ F (20 + m) < 100) ∧ (∀ p, p < F 3 → F (26 + p) < 10 ∧ F (32 + p) < 100 ∧ F (38 + p) < 2 ∧ F (44 + p) < 5 ∧ F (50 + p) < 32) ∧
  (∀ o, o < F 4 → F (56 + 6 * o) < F 2 ∧ F (57 + 6 * o) < 5 ∧ 1 ≤ F (58 + 6 * o) ∧ F (58 + 6 * o) ≤ F 0 ∧ F (59 + 6 * o) < 100 ∧ F (60 + 6 * o) < 100 ∧ F (61 + 6 * o) < 100) ∧
  (∀ s, s < F 5 → F (128 + 5 * s) < F 2 ∧ 1 ≤ F (129 + 5 * s) ∧ F (129 + 5 * s) ≤ F 0 ∧ F (130 + 5 * s) < 24 ∧ F (131 + 5 * s) < 10 ∧ F (132 + 5 * s) < 5) ∧
  (∀ l, l < F 6 → F (168 + 3 * l) < F 2 ∧ F (169 + 3 * l) < F 2 ∧ F (168 + 3 * l) ≠ F (169 + 3 * l) ∧ 1 ≤ F (170 + 3 * l) ∧ F (170 + 3 * l) ≤ F 0)
theorem fk_m {F : bkF} (h : FOK F) {m : Nat} (hm : m < F 2) : F (8 + m) < 5 ∧ F (14 + m) < 10 ∧ F (20 + m) < 100 := h.2.2.2.2.2.2.2.1 m hm
theorem fk_p {F : bkF} (h : FOK F) {p : Nat} (hp : p < F 3) : F (26 + p) < 10 ∧ F (32 + p) < 100 ∧ F (38 + p) < 2 ∧ F (44 + p) < 5 ∧ F (50 + p) < 32 := h.2.2.2.2.2.2.2.2.1 p hp
theorem fk_o {F : bkF} (h : FOK F) {o : Nat} (ho : o < F 4) : F (56 + 6 * o) < F 2 ∧ F (57 + 6 * o) < 5 ∧ 1 ≤ F (58 + 6 * o) ∧ F (58 + 6 * o) ≤ F 0 ∧ F (59 + 6 * o) < 100 ∧ F (60 + 6 * o) < 100 ∧ F (61 + 6 * o) < 100 := h.2.2.2.2.2.2.2.2.2.1 o ho
theorem fk_s {F : bkF} (h : FOK F) {s : Nat} (hs : s < F 5) : F (128 + 5 * s) < F 2 ∧ 1 ≤ F (129 + 5 * s) ∧ F (129 + 5 * s) ≤ F 0 ∧ F (130 + 5 * s) < 24 ∧ F (131 + 5 * s) < 10 ∧ F (132 + 5 * s) < 5 := h.2.2.2.2.2.2.2.2.2.2.1 s hs
theorem fk_l {F : bkF} (h : FOK F) {l : Nat} (hl : l < F 6) : F (168 + 3 * l) < F 2 ∧ F (169 + 3 * l) < F 2 ∧ F (168 + 3 * l) ≠ F (169 + 3 * l) ∧ 1 ≤ F (170 + 3 * l) ∧ F (170 + 3 * l) ≤ F 0 := h.2.2.2.2.2.2.2.2.2.2.2 l hl
theorem bx0 {I : HI} {B : Nat} {F : bkF} (h : BkI I B F) : I B 0 = nI (F 0) := h.1 0 (by decide)
theorem bx1 {I : HI} {B : Nat} {F : bkF} (h : BkI I B F) : I B 1 = nI (F 1) := h.1 1 (by decide)
theorem bx2 {I : HI} {B : Nat} {F : bkF} (h : BkI I B F) : I B 2 = nI (F 2) := h.1 2 (by decide)
theorem bx3 {I : HI} {B : Nat} {F : bkF} (h : BkI I B F) : I B 3 = nI (F 3) := h.1 3 (by decide)
theorem bx4 {I : HI} {B : Nat} {F : bkF} (h : BkI I B F) : I B 4 = nI (F 4) := h.1 4 (by decide)
theorem bx5 {I : HI} {B : Nat} {F : bkF} (h : BkI I B F) : I B 5 = nI (F 5) := h.1 5 (by decide)
theorem bx6 {I : HI} {B : Nat} {F : bkF} (h : BkI I B F) : I B 6 = nI (F 6) := h.1 6 (by decide)
theorem bm0 {I : HI} {B m : Nat} {F : bkF} (h : BkI I B F) (hm : m < F 2) : I (B + 11 + m) 0 = nI (F (8 + m)) := h.2.1 m hm 0 (by decide)
theorem bm1 {I : HI} {B m : Nat} {F : bkF} (h : BkI I B F) (hm : m < F 2) : I (B + 11 + m) 1 = nI (F (14 + m)) := h.2.1 m hm 1 (by decide)
theorem bm2 {I : HI} {B m : Nat} {F : bkF} (h : BkI I B F) (hm : m < F 2) : I (B + 11 + m) 2 = nI (F (20 + m)) := h.2.1 m hm 2 (by decide)
theorem bp0 {I : HI} {B p : Nat} {F : bkF} (h : BkI I B F) (hp : p < F 3) : I (B + 17 + p) 0 = nI (F (26 + p)) := h.2.2.1 p hp 0 (by decide)
theorem bp1 {I : HI} {B p : Nat} {F : bkF} (h : BkI I B F) (hp : p < F 3) : I (B + 17 + p) 1 = nI (F (32 + p)) := h.2.2.1 p hp 1 (by decide)
theorem bp2 {I : HI} {B p : Nat} {F : bkF} (h : BkI I B F) (hp : p < F 3) : I (B + 17 + p) 2 = nI (F (38 + p)) := h.2.2.1 p hp 2 (by decide)
theorem bp3 {I : HI} {B p : Nat} {F : bkF} (h : BkI I B F) (hp : p < F 3) : I (B + 17 + p) 3 = nI (F (44 + p)) := h.2.2.1 p hp 3 (by decide)
theorem bp4 {I : HI} {B p : Nat} {F : bkF} (h : BkI I B F) (hp : p < F 3) : I (B + 17 + p) 4 = nI (F (50 + p)) := h.2.2.1 p hp 4 (by decide)
theorem bo0 {I : HI} {B o : Nat} {F : bkF} (h : BkI I B F) (ho : o < F 4) : I (B + 23 + o) 0 = nI (F (56 + 6 * o)) := by rw [h.2.2.2.1 o ho 0 (by decide)]; congr 2 <;> omega
theorem bo1 {I : HI} {B o : Nat} {F : bkF} (h : BkI I B F) (ho : o < F 4) : I (B + 23 + o) 1 = nI (F (57 + 6 * o)) := by rw [h.2.2.2.1 o ho 1 (by decide)]; congr 2 <;> omega
theorem bo2 {I : HI} {B o : Nat} {F : bkF} (h : BkI I B F) (ho : o < F 4) : I (B + 23 + o) 2 = nI (F (58 + 6 * o)) := by rw [h.2.2.2.1 o ho 2 (by decide)]; congr 2 <;> omega
theorem bo3 {I : HI} {B o : Nat} {F : bkF} (h : BkI I B F) (ho : o < F 4) : I (B + 23 + o) 3 = nI (F (59 + 6 * o)) := by rw [h.2.2.2.1 o ho 3 (by decide)]; congr 2 <;> omega
theorem bo4 {I : HI} {B o : Nat} {F : bkF} (h : BkI I B F) (ho : o < F 4) : I (B + 23 + o) 4 = nI (F (60 + 6 * o)) := by rw [h.2.2.2.1 o ho 4 (by decide)]; congr 2 <;> omega
theorem bo5 {I : HI} {B o : Nat} {F : bkF} (h : BkI I B F) (ho : o < F 4) : I (B + 23 + o) 5 = nI (F (61 + 6 * o)) := by rw [h.2.2.2.1 o ho 5 (by decide)]; congr 2 <;> omega
theorem bs0 {I : HI} {B s : Nat} {F : bkF} (h : BkI I B F) (hs : s < F 5) : I (B + 35 + s) 0 = nI (F (128 + 5 * s)) := by rw [h.2.2.2.2.1 s hs 0 (by decide)]; congr 2 <;> omega
theorem bs1 {I : HI} {B s : Nat} {F : bkF} (h : BkI I B F) (hs : s < F 5) : I (B + 35 + s) 1 = nI (F (129 + 5 * s)) := by rw [h.2.2.2.2.1 s hs 1 (by decide)]; congr 2 <;> omega
theorem bs2 {I : HI} {B s : Nat} {F : bkF} (h : BkI I B F) (hs : s < F 5) : I (B + 35 + s) 2 = nI (F (130 + 5 * s)) := by rw [h.2.2.2.2.1 s hs 2 (by decide)]; congr 2 <;> omega
theorem bs3 {I : HI} {B s : Nat} {F : bkF} (h : BkI I B F) (hs : s < F 5) : I (B + 35 + s) 3 = nI (F (131 + 5 * s)) := by rw [h.2.2.2.2.1 s hs 3 (by decide)]; congr 2 <;> omega
theorem bs4 {I : HI} {B s : Nat} {F : bkF} (h : BkI I B F) (hs : s < F 5) : I (B + 35 + s) 4 = nI (F (132 + 5 * s)) := by rw [h.2.2.2.2.1 s hs 4 (by decide)]; congr 2 <;> omega
theorem BkI.mk {I : HI} {B m : Nat} {F : bkF} (h : BkI I B F) (hO : FOK F) (hm : m < F 2) : MkI I (B + 11 + m) (F (8 + m)) (F (14 + m)) := ⟨bm0 h hm, bm1 h hm, (fk_m hO hm).1, (fk_m hO hm).2.1⟩
theorem BkI.ps {I : HI} {B p : Nat} {F : bkF} (h : BkI I B F) (hO : FOK F) (hp : p < F 3) : PsI I (B + 17 + p) (F (26 + p)) (F (32 + p)) (F (38 + p)) (F (44 + p)) (F (50 + p)) := ⟨bp0 h hp, bp1 h hp, bp2 h hp, bp3 h hp, bp4 h hp, fk_p hO hp⟩
theorem BkI.sg {I : HI} {B s : Nat} {F : bkF} (h : BkI I B F) (hO : FOK F) (hs : s < F 5) : SgI I (B + 35 + s) (F (128 + 5 * s)) (F (129 + 5 * s)) (F (130 + 5 * s)) (F (131 + 5 * s)) (F (132 + 5 * s)) := by
  obtain ⟨q1, q2, q3, q4, q5, q6⟩ := fk_s hO hs
  have h2 := hO.2.2.1
  have h0 := hO.1
  exact ⟨bs0 h hs, bs1 h hs, bs2 h hs, bs3 h hs, bs4 h hs, by omega, by omega, by omega, q5, q6⟩
def fitF (F : bkF) (m p : Nat) : Bool := fitv (F (8 + m)) (F (14 + m)) (F (26 + p)) (F (32 + p)) (F (38 + p))
def inb (x : Int32) (n : Nat) : Bool := decide (0 ≤ x) && decide (x < nI n)
def ind (x : Int32) (n : Nat) : Bool := decide (nI 1 ≤ x) && decide (x ≤ nI n)
def indn (x : Int32) (n : Nat) : Bool := decide (0 ≤ x) && decide (x ≤ nI n)
def eP : Option Nat → Int32
  | none => -2
  | some p => nI p
def couldV (F : bkF) (op : Option Nat) (o : Nat) : Bool := match op with
  | none => false
  | some p => (F (50 + p)).testBit (F (57 + 6 * o))
def cup (p : Nat → Bool) (i : Nat) : Nat → Nat
  | 0 => 0
  | j + 1 => (if p i then 1 else 0) + cup p (i + 1) j
theorem cup_le (p : Nat → Bool) : ∀ j i, cup p i j ≤ j
  | 0, _ => Nat.le_refl _
  | j + 1, i => by unfold cup; have := cup_le p j (i + 1); split <;> omega
def aheadp (F : bkF) (op : Option Nat) (o i : Nat) : Bool := decide (F (56 + 6 * i) = F (56 + 6 * o)) && decide (F (58 + 6 * i) = F (58 + 6 * o)) && couldV F op i
def handsF (F : bkF) (m : Nat) : Nat := if F (8 + m) = 3 then 2 else 1
def wouldV (F : bkF) (op : Option Nat) (o : Nat) : Bool := couldV F op o && decide (cup (aheadp F op o) 0 o < handsF F (F (56 + 6 * o)))
def oweI (F : bkF) (n : Nat) (g : lends) (o : Nat) : Option Nat := fup (hitm g (F (56 + 6 * o)) (F (58 + 6 * o)) (F (58 + 6 * o))) 0 n
def owe (F : bkF) (n : Nat) (g : lends) (o : Nat) : Option Nat := (oweI F n g o).map (fun i => (g i).2.1)
theorem eM_eP (g : lends) (f : q4 → Nat) (o : Option Nat) : eM g f o = eP (o.map (fun i => f (g i))) := by cases o <;> rfl
def doneV (F : bkF) (n : Nat) (g : lends) (br : Nat → Nat) (o : Nat) : Bool := match owe F n g o with
  | none => false
  | some p => wouldV F (some p) o && !(br p).testBit (F (58 + 6 * o))
/-- a sum, from i on, among j, beginning with a -/
def sui (f : Nat → Int32) (i : Nat) : Nat → Int32 → Int32
  | 0, a => a
  | j + 1, a => sui f (i + 1) j (a + f i)
def pers (F : bkF) (n : Nat) (g : lends) : Prop := ∀ i, i < n → (g i).1 < F 2 ∧ (g i).2.1 < F 3 ∧ (g i).2.2.2 ≤ F 0
theorem owe_lt {F : bkF} {n : Nat} {g : lends} {o p : Nat} (hp : pers F n g) (h : owe F n g o = some p) : p < F 3 := by
  unfold owe oweI at h
  cases hf : fup (hitm g (F (56 + 6 * o)) (F (58 + 6 * o)) (F (58 + 6 * o))) 0 n with
  | none => rw [hf] at h; cases h
  | some i =>
    rw [hf] at h
    cases h
    have := fup_some hf
    exact (hp i (by omega)).2.1
