theorem dX4_cell_0 : decode cX4_cell 0 = .ok (.iload_n 1, 1) := by decide +kernel
theorem dX4_cell_1 : decode cX4_cell 1 = .ok (.ifCond .lt 25, 3) := by decide +kernel
theorem dX4_cell_4 : decode cX4_cell 4 = .ok (.iload_n 1, 1) := by decide +kernel
theorem dX4_cell_5 : decode cX4_cell 5 = .ok (.aload_n 0, 1) := by decide +kernel
theorem dX4_cell_6 : decode cX4_cell 6 = .ok (.getfield 18, 3) := by decide +kernel
theorem dX4_cell_9 : decode cX4_cell 9 = .ok (.if_icmp .ge 17, 3) := by decide +kernel
theorem dX4_cell_12 : decode cX4_cell 12 = .ok (.iload_n 2, 1) := by decide +kernel
theorem dX4_cell_13 : decode cX4_cell 13 = .ok (.ifCond .lt 13, 3) := by decide +kernel
theorem dX4_cell_16 : decode cX4_cell 16 = .ok (.iload_n 2, 1) := by decide +kernel
theorem dX4_cell_17 : decode cX4_cell 17 = .ok (.bipush 32, 2) := by decide +kernel
theorem dX4_cell_19 : decode cX4_cell 19 = .ok (.if_icmp .ge 7, 3) := by decide +kernel
theorem dX4_cell_22 : decode cX4_cell 22 = .ok (.iconst 1, 1) := by decide +kernel
theorem dX4_cell_23 : decode cX4_cell 23 = .ok (.goto 4, 3) := by decide +kernel
theorem dX4_cell_26 : decode cX4_cell 26 = .ok (.iconst 0, 1) := by decide +kernel
theorem dX4_cell_27 : decode cX4_cell 27 = .ok (.istore_n 3, 1) := by decide +kernel
theorem dX4_cell_28 : decode cX4_cell 28 = .ok (.iload_n 3, 1) := by decide +kernel
theorem dX4_cell_29 : decode cX4_cell 29 = .ok (.ifCond .eq 17, 3) := by decide +kernel
theorem dX4_cell_32 : decode cX4_cell 32 = .ok (.aload_n 0, 1) := by decide +kernel
theorem dX4_cell_33 : decode cX4_cell 33 = .ok (.getfield 24, 3) := by decide +kernel
theorem dX4_cell_36 : decode cX4_cell 36 = .ok (.iload_n 1, 1) := by decide +kernel
theorem dX4_cell_37 : decode cX4_cell 37 = .ok (.bipush 32, 2) := by decide +kernel
theorem dX4_cell_39 : decode cX4_cell 39 = .ok (.imul, 1) := by decide +kernel
theorem dX4_cell_40 : decode cX4_cell 40 = .ok (.iload_n 2, 1) := by decide +kernel
theorem dX4_cell_41 : decode cX4_cell 41 = .ok (.iadd, 1) := by decide +kernel
theorem dX4_cell_42 : decode cX4_cell 42 = .ok (.iaload, 1) := by decide +kernel
theorem dX4_cell_43 : decode cX4_cell 43 = .ok (.goto 4, 3) := by decide +kernel
theorem dX4_cell_46 : decode cX4_cell 46 = .ok (.iconst 0, 1) := by decide +kernel
theorem dX4_cell_47 : decode cX4_cell 47 = .ok (.ireturn, 1) := by decide +kernel
theorem dX4_count_0 : decode cX4_count 0 = .ok (.aload_n 0, 1) := by decide +kernel
theorem dX4_count_1 : decode cX4_count 1 = .ok (.getfield 18, 3) := by decide +kernel
theorem dX4_count_4 : decode cX4_count 4 = .ok (.ireturn, 1) := by decide +kernel
theorem dX4_countLost_0 : decode cX4_countLost 0 = .ok (.iconst 0, 1) := by decide +kernel
theorem dX4_countLost_1 : decode cX4_countLost 1 = .ok (.istore_n 1, 1) := by decide +kernel
theorem dX4_countLost_2 : decode cX4_countLost 2 = .ok (.iconst 0, 1) := by decide +kernel
theorem dX4_countLost_3 : decode cX4_countLost 3 = .ok (.istore_n 2, 1) := by decide +kernel
theorem dX4_countLost_4 : decode cX4_countLost 4 = .ok (.iload_n 2, 1) := by decide +kernel
theorem dX4_countLost_5 : decode cX4_countLost 5 = .ok (.aload_n 0, 1) := by decide +kernel
theorem dX4_countLost_6 : decode cX4_countLost 6 = .ok (.getfield 18, 3) := by decide +kernel
theorem dX4_countLost_9 : decode cX4_countLost 9 = .ok (.if_icmp .ge 21, 3) := by decide +kernel
theorem dX4_countLost_12 : decode cX4_countLost 12 = .ok (.aload_n 0, 1) := by decide +kernel
theorem dX4_countLost_13 : decode cX4_countLost 13 = .ok (.getfield 28, 3) := by decide +kernel
theorem dX4_countLost_16 : decode cX4_countLost 16 = .ok (.iload_n 2, 1) := by decide +kernel
theorem dX4_countLost_17 : decode cX4_countLost 17 = .ok (.baload, 1) := by decide +kernel
theorem dX4_countLost_18 : decode cX4_countLost 18 = .ok (.ifCond .eq 6, 3) := by decide +kernel
theorem dX4_countLost_21 : decode cX4_countLost 21 = .ok (.iinc 1 1, 3) := by decide +kernel
theorem dX4_countLost_24 : decode cX4_countLost 24 = .ok (.iinc 2 1, 3) := by decide +kernel
theorem dX4_countLost_27 : decode cX4_countLost 27 = .ok (.goto (-23), 3) := by decide +kernel
theorem dX4_countLost_30 : decode cX4_countLost 30 = .ok (.iload_n 1, 1) := by decide +kernel
theorem dX4_countLost_31 : decode cX4_countLost 31 = .ok (.ireturn, 1) := by decide +kernel
theorem dX4_has_0 : decode cX4_has 0 = .ok (.iload_n 1, 1) := by decide +kernel
theorem dX4_has_1 : decode cX4_has 1 = .ok (.ifCond .lt 15, 3) := by decide +kernel
theorem dX4_has_4 : decode cX4_has 4 = .ok (.iload_n 1, 1) := by decide +kernel
theorem dX4_has_5 : decode cX4_has 5 = .ok (.aload_n 0, 1) := by decide +kernel
theorem dX4_has_6 : decode cX4_has 6 = .ok (.getfield 18, 3) := by decide +kernel
theorem dX4_has_9 : decode cX4_has 9 = .ok (.if_icmp .ge 7, 3) := by decide +kernel
theorem dX4_has_12 : decode cX4_has 12 = .ok (.iconst 1, 1) := by decide +kernel
theorem dX4_has_13 : decode cX4_has 13 = .ok (.goto 4, 3) := by decide +kernel
theorem dX4_has_16 : decode cX4_has 16 = .ok (.iconst 0, 1) := by decide +kernel
theorem dX4_has_17 : decode cX4_has 17 = .ok (.ireturn, 1) := by decide +kernel
theorem dX4_hasCell_0 : decode cX4_hasCell 0 = .ok (.iload_n 1, 1) := by decide +kernel
theorem dX4_hasCell_1 : decode cX4_hasCell 1 = .ok (.ifCond .lt 25, 3) := by decide +kernel
theorem dX4_hasCell_4 : decode cX4_hasCell 4 = .ok (.iload_n 1, 1) := by decide +kernel
theorem dX4_hasCell_5 : decode cX4_hasCell 5 = .ok (.aload_n 0, 1) := by decide +kernel
theorem dX4_hasCell_6 : decode cX4_hasCell 6 = .ok (.getfield 18, 3) := by decide +kernel
theorem dX4_hasCell_9 : decode cX4_hasCell 9 = .ok (.if_icmp .ge 17, 3) := by decide +kernel
theorem dX4_hasCell_12 : decode cX4_hasCell 12 = .ok (.iload_n 2, 1) := by decide +kernel
theorem dX4_hasCell_13 : decode cX4_hasCell 13 = .ok (.ifCond .lt 13, 3) := by decide +kernel
theorem dX4_hasCell_16 : decode cX4_hasCell 16 = .ok (.iload_n 2, 1) := by decide +kernel
theorem dX4_hasCell_17 : decode cX4_hasCell 17 = .ok (.bipush 32, 2) := by decide +kernel
theorem dX4_hasCell_19 : decode cX4_hasCell 19 = .ok (.if_icmp .ge 7, 3) := by decide +kernel
theorem dX4_hasCell_22 : decode cX4_hasCell 22 = .ok (.iconst 1, 1) := by decide +kernel
theorem dX4_hasCell_23 : decode cX4_hasCell 23 = .ok (.goto 4, 3) := by decide +kernel
theorem dX4_hasCell_26 : decode cX4_hasCell 26 = .ok (.iconst 0, 1) := by decide +kernel
theorem dX4_hasCell_27 : decode cX4_hasCell 27 = .ok (.ireturn, 1) := by decide +kernel
theorem dX4_init_0 : decode cX4_init 0 = .ok (.aload_n 0, 1) := by decide +kernel
theorem dX4_init_1 : decode cX4_init 1 = .ok (.invokespecial 3, 3) := by decide +kernel
theorem dX4_init_4 : decode cX4_init 4 = .ok (.aload_n 0, 1) := by decide +kernel
theorem dX4_init_5 : decode cX4_init 5 = .ok (.bipush 8, 2) := by decide +kernel
theorem dX4_init_7 : decode cX4_init 7 = .ok (.iload_n 1, 1) := by decide +kernel
theorem dX4_init_8 : decode cX4_init 8 = .ok (.bipush 60, 2) := by decide +kernel
theorem dX4_init_10 : decode cX4_init 10 = .ok (.invokestatic 9, 3) := by decide +kernel
theorem dX4_init_13 : decode cX4_init 13 = .ok (.invokestatic 15, 3) := by decide +kernel
theorem dX4_init_16 : decode cX4_init 16 = .ok (.putfield 18, 3) := by decide +kernel
theorem dX4_init_19 : decode cX4_init 19 = .ok (.aload_n 0, 1) := by decide +kernel
theorem dX4_init_20 : decode cX4_init 20 = .ok (.aload_n 0, 1) := by decide +kernel
theorem dX4_init_21 : decode cX4_init 21 = .ok (.getfield 18, 3) := by decide +kernel
theorem dX4_init_24 : decode cX4_init 24 = .ok (.bipush 32, 2) := by decide +kernel
theorem dX4_init_26 : decode cX4_init 26 = .ok (.imul, 1) := by decide +kernel
theorem dX4_init_27 : decode cX4_init 27 = .ok (.newarray .int, 2) := by decide +kernel
theorem dX4_init_29 : decode cX4_init 29 = .ok (.putfield 24, 3) := by decide +kernel
theorem dX4_init_32 : decode cX4_init 32 = .ok (.aload_n 0, 1) := by decide +kernel
theorem dX4_init_33 : decode cX4_init 33 = .ok (.aload_n 0, 1) := by decide +kernel
theorem dX4_init_34 : decode cX4_init 34 = .ok (.getfield 18, 3) := by decide +kernel
theorem dX4_init_37 : decode cX4_init 37 = .ok (.newarray .boolean, 2) := by decide +kernel
theorem dX4_init_39 : decode cX4_init 39 = .ok (.putfield 28, 3) := by decide +kernel
theorem dX4_init_42 : decode cX4_init 42 = .ok (.aload_n 0, 1) := by decide +kernel
theorem dX4_init_43 : decode cX4_init 43 = .ok (.aload_n 0, 1) := by decide +kernel
theorem dX4_init_44 : decode cX4_init 44 = .ok (.getfield 18, 3) := by decide +kernel
theorem dX4_init_47 : decode cX4_init 47 = .ok (.newarray .int, 2) := by decide +kernel
theorem dX4_init_49 : decode cX4_init 49 = .ok (.putfield 32, 3) := by decide +kernel
theorem dX4_init_52 : decode cX4_init 52 = .ok (.return_, 1) := by decide +kernel
theorem dX4_content_0 : decode cX4_content 0 = .ok (.iload_n 2, 1) := by decide +kernel
theorem dX4_content_1 : decode cX4_content 1 = .ok (.ifCond .lt 20, 3) := by decide +kernel
theorem dX4_content_4 : decode cX4_content 4 = .ok (.iload_n 2, 1) := by decide +kernel
theorem dX4_content_5 : decode cX4_content 5 = .ok (.bipush 24, 2) := by decide +kernel
theorem dX4_content_7 : decode cX4_content 7 = .ok (.if_icmp .ge 14, 3) := by decide +kernel
theorem dX4_content_10 : decode cX4_content 10 = .ok (.aload_n 0, 1) := by decide +kernel
theorem dX4_content_11 : decode cX4_content 11 = .ok (.iload_n 1, 1) := by decide +kernel
theorem dX4_content_12 : decode cX4_content 12 = .ok (.iconst 4, 1) := by decide +kernel
theorem dX4_content_13 : decode cX4_content 13 = .ok (.iload_n 2, 1) := by decide +kernel
theorem dX4_content_14 : decode cX4_content 14 = .ok (.iadd, 1) := by decide +kernel
theorem dX4_content_15 : decode cX4_content 15 = .ok (.invokevirtual 35, 3) := by decide +kernel
theorem dX4_content_18 : decode cX4_content 18 = .ok (.goto 4, 3) := by decide +kernel
theorem dX4_content_21 : decode cX4_content 21 = .ok (.iconst 0, 1) := by decide +kernel
theorem dX4_content_22 : decode cX4_content 22 = .ok (.ireturn, 1) := by decide +kernel
theorem dX4_copyTo_0 : decode cX4_copyTo 0 = .ok (.aload_n 0, 1) := by decide +kernel
theorem dX4_copyTo_1 : decode cX4_copyTo 1 = .ok (.iload_n 1, 1) := by decide +kernel
theorem dX4_copyTo_2 : decode cX4_copyTo 2 = .ok (.invokevirtual 38, 3) := by decide +kernel
theorem dX4_copyTo_5 : decode cX4_copyTo 5 = .ok (.ifCond .eq 31, 3) := by decide +kernel
theorem dX4_copyTo_8 : decode cX4_copyTo 8 = .ok (.iload_n 3, 1) := by decide +kernel
theorem dX4_copyTo_9 : decode cX4_copyTo 9 = .ok (.ifCond .lt 27, 3) := by decide +kernel
theorem dX4_copyTo_12 : decode cX4_copyTo 12 = .ok (.iload_n 3, 1) := by decide +kernel
theorem dX4_copyTo_13 : decode cX4_copyTo 13 = .ok (.aload_n 2, 1) := by decide +kernel
theorem dX4_copyTo_14 : decode cX4_copyTo 14 = .ok (.arraylength, 1) := by decide +kernel
theorem dX4_copyTo_15 : decode cX4_copyTo 15 = .ok (.bipush 32, 2) := by decide +kernel
theorem dX4_copyTo_17 : decode cX4_copyTo 17 = .ok (.isub, 1) := by decide +kernel
theorem dX4_copyTo_18 : decode cX4_copyTo 18 = .ok (.if_icmp .gt 18, 3) := by decide +kernel
theorem dX4_copyTo_21 : decode cX4_copyTo 21 = .ok (.aload_n 0, 1) := by decide +kernel
theorem dX4_copyTo_22 : decode cX4_copyTo 22 = .ok (.getfield 24, 3) := by decide +kernel
theorem dX4_copyTo_25 : decode cX4_copyTo 25 = .ok (.iload_n 1, 1) := by decide +kernel
theorem dX4_copyTo_26 : decode cX4_copyTo 26 = .ok (.bipush 32, 2) := by decide +kernel
theorem dX4_copyTo_28 : decode cX4_copyTo 28 = .ok (.imul, 1) := by decide +kernel
theorem dX4_copyTo_29 : decode cX4_copyTo 29 = .ok (.aload_n 2, 1) := by decide +kernel
theorem dX4_copyTo_30 : decode cX4_copyTo 30 = .ok (.iload_n 3, 1) := by decide +kernel
theorem dX4_copyTo_31 : decode cX4_copyTo 31 = .ok (.bipush 32, 2) := by decide +kernel
theorem dX4_copyTo_33 : decode cX4_copyTo 33 = .ok (.invokestatic 55, 3) := by decide +kernel
theorem dX4_copyTo_36 : decode cX4_copyTo 36 = .ok (.return_, 1) := by decide +kernel
theorem dX4_hasContentOf_0 : decode cX4_hasContentOf 0 = .ok (.iconst 4, 1) := by decide +kernel
theorem dX4_hasContentOf_1 : decode cX4_hasContentOf 1 = .ok (.istore_n 3, 1) := by decide +kernel
theorem dX4_hasContentOf_2 : decode cX4_hasContentOf 2 = .ok (.iload_n 3, 1) := by decide +kernel
theorem dX4_hasContentOf_3 : decode cX4_hasContentOf 3 = .ok (.bipush 28, 2) := by decide +kernel
theorem dX4_hasContentOf_5 : decode cX4_hasContentOf 5 = .ok (.if_icmp .ge 25, 3) := by decide +kernel
theorem dX4_hasContentOf_8 : decode cX4_hasContentOf 8 = .ok (.aload_n 0, 1) := by decide +kernel
theorem dX4_hasContentOf_9 : decode cX4_hasContentOf 9 = .ok (.iload_n 1, 1) := by decide +kernel
theorem dX4_hasContentOf_10 : decode cX4_hasContentOf 10 = .ok (.iload_n 3, 1) := by decide +kernel
theorem dX4_hasContentOf_11 : decode cX4_hasContentOf 11 = .ok (.invokevirtual 35, 3) := by decide +kernel
theorem dX4_hasContentOf_14 : decode cX4_hasContentOf 14 = .ok (.aload_n 2, 1) := by decide +kernel
theorem dX4_hasContentOf_15 : decode cX4_hasContentOf 15 = .ok (.iload_n 3, 1) := by decide +kernel
theorem dX4_hasContentOf_16 : decode cX4_hasContentOf 16 = .ok (.invokevirtual 42, 3) := by decide +kernel
theorem dX4_hasContentOf_19 : decode cX4_hasContentOf 19 = .ok (.if_icmp .eq 5, 3) := by decide +kernel
theorem dX4_hasContentOf_22 : decode cX4_hasContentOf 22 = .ok (.iconst 0, 1) := by decide +kernel
theorem dX4_hasContentOf_23 : decode cX4_hasContentOf 23 = .ok (.ireturn, 1) := by decide +kernel
theorem dX4_hasContentOf_24 : decode cX4_hasContentOf 24 = .ok (.iinc 3 1, 3) := by decide +kernel
theorem dX4_hasContentOf_27 : decode cX4_hasContentOf 27 = .ok (.goto (-25), 3) := by decide +kernel
theorem dX4_hasContentOf_30 : decode cX4_hasContentOf 30 = .ok (.iconst 1, 1) := by decide +kernel
theorem dX4_hasContentOf_31 : decode cX4_hasContentOf 31 = .ok (.ireturn, 1) := by decide +kernel
theorem dX4_isLost_0 : decode cX4_isLost 0 = .ok (.aload_n 0, 1) := by decide +kernel
theorem dX4_isLost_1 : decode cX4_isLost 1 = .ok (.iload_n 1, 1) := by decide +kernel
theorem dX4_isLost_2 : decode cX4_isLost 2 = .ok (.invokevirtual 38, 3) := by decide +kernel
theorem dX4_isLost_5 : decode cX4_isLost 5 = .ok (.ifCond .eq 16, 3) := by decide +kernel
theorem dX4_isLost_8 : decode cX4_isLost 8 = .ok (.aload_n 0, 1) := by decide +kernel
theorem dX4_isLost_9 : decode cX4_isLost 9 = .ok (.getfield 28, 3) := by decide +kernel
theorem dX4_isLost_12 : decode cX4_isLost 12 = .ok (.iload_n 1, 1) := by decide +kernel
theorem dX4_isLost_13 : decode cX4_isLost 13 = .ok (.baload, 1) := by decide +kernel
theorem dX4_isLost_14 : decode cX4_isLost 14 = .ok (.ifCond .eq 7, 3) := by decide +kernel
theorem dX4_isLost_17 : decode cX4_isLost 17 = .ok (.iconst 1, 1) := by decide +kernel
theorem dX4_isLost_18 : decode cX4_isLost 18 = .ok (.goto 4, 3) := by decide +kernel
theorem dX4_isLost_21 : decode cX4_isLost 21 = .ok (.iconst 0, 1) := by decide +kernel
theorem dX4_isLost_22 : decode cX4_isLost 22 = .ok (.ireturn, 1) := by decide +kernel
theorem dX4_judge_0 : decode cX4_judge 0 = .ok (.aload_n 0, 1) := by decide +kernel
theorem dX4_judge_1 : decode cX4_judge 1 = .ok (.iload_n 1, 1) := by decide +kernel
theorem dX4_judge_2 : decode cX4_judge 2 = .ok (.invokevirtual 38, 3) := by decide +kernel
theorem dX4_judge_5 : decode cX4_judge 5 = .ok (.ifCond .ne 4, 3) := by decide +kernel
theorem dX4_judge_8 : decode cX4_judge 8 = .ok (.return_, 1) := by decide +kernel
theorem dX4_judge_9 : decode cX4_judge 9 = .ok (.iconst 0, 1) := by decide +kernel
theorem dX4_judge_10 : decode cX4_judge 10 = .ok (.istore_n 2, 1) := by decide +kernel
theorem dX4_judge_11 : decode cX4_judge 11 = .ok (.iconst 0, 1) := by decide +kernel
theorem dX4_judge_12 : decode cX4_judge 12 = .ok (.istore_n 3, 1) := by decide +kernel
theorem dX4_judge_13 : decode cX4_judge 13 = .ok (.iload_n 3, 1) := by decide +kernel
theorem dX4_judge_14 : decode cX4_judge 14 = .ok (.iconst 4, 1) := by decide +kernel
theorem dX4_judge_15 : decode cX4_judge 15 = .ok (.if_icmp .ge 24, 3) := by decide +kernel
theorem dX4_judge_18 : decode cX4_judge 18 = .ok (.iload_n 2, 1) := by decide +kernel
theorem dX4_judge_19 : decode cX4_judge 19 = .ok (.bipush 8, 2) := by decide +kernel
theorem dX4_judge_21 : decode cX4_judge 21 = .ok (.ishl, 1) := by decide +kernel
theorem dX4_judge_22 : decode cX4_judge 22 = .ok (.aload_n 0, 1) := by decide +kernel
theorem dX4_judge_23 : decode cX4_judge 23 = .ok (.iload_n 1, 1) := by decide +kernel
theorem dX4_judge_24 : decode cX4_judge 24 = .ok (.bipush 28, 2) := by decide +kernel
theorem dX4_judge_26 : decode cX4_judge 26 = .ok (.iload_n 3, 1) := by decide +kernel
theorem dX4_judge_27 : decode cX4_judge 27 = .ok (.iadd, 1) := by decide +kernel
theorem dX4_judge_28 : decode cX4_judge 28 = .ok (.invokevirtual 35, 3) := by decide +kernel
theorem dX4_judge_31 : decode cX4_judge 31 = .ok (.ior, 1) := by decide +kernel
theorem dX4_judge_32 : decode cX4_judge 32 = .ok (.istore_n 2, 1) := by decide +kernel
theorem dX4_judge_33 : decode cX4_judge 33 = .ok (.iinc 3 1, 3) := by decide +kernel
theorem dX4_judge_36 : decode cX4_judge 36 = .ok (.goto (-23), 3) := by decide +kernel
theorem dX4_judge_39 : decode cX4_judge 39 = .ok (.aload_n 0, 1) := by decide +kernel
theorem dX4_judge_40 : decode cX4_judge 40 = .ok (.iload_n 1, 1) := by decide +kernel
theorem dX4_judge_41 : decode cX4_judge 41 = .ok (.iconst 0, 1) := by decide +kernel
theorem dX4_judge_42 : decode cX4_judge 42 = .ok (.invokevirtual 35, 3) := by decide +kernel
theorem dX4_judge_45 : decode cX4_judge 45 = .ok (.istore_n 3, 1) := by decide +kernel
theorem dX4_judge_46 : decode cX4_judge 46 = .ok (.iload_n 3, 1) := by decide +kernel
theorem dX4_judge_47 : decode cX4_judge 47 = .ok (.iconst 1, 1) := by decide +kernel
theorem dX4_judge_48 : decode cX4_judge 48 = .ok (.if_icmp .lt 27, 3) := by decide +kernel
theorem dX4_judge_51 : decode cX4_judge 51 = .ok (.iload_n 3, 1) := by decide +kernel
theorem dX4_judge_52 : decode cX4_judge 52 = .ok (.iconst 4, 1) := by decide +kernel
theorem dX4_judge_53 : decode cX4_judge 53 = .ok (.if_icmp .gt 22, 3) := by decide +kernel
theorem dX4_judge_56 : decode cX4_judge 56 = .ok (.iload_n 2, 1) := by decide +kernel
theorem dX4_judge_57 : decode cX4_judge 57 = .ok (.aload_n 0, 1) := by decide +kernel
theorem dX4_judge_58 : decode cX4_judge 58 = .ok (.getfield 24, 3) := by decide +kernel
theorem dX4_judge_61 : decode cX4_judge 61 = .ok (.iload_n 1, 1) := by decide +kernel
theorem dX4_judge_62 : decode cX4_judge 62 = .ok (.bipush 32, 2) := by decide +kernel
theorem dX4_judge_64 : decode cX4_judge 64 = .ok (.imul, 1) := by decide +kernel
theorem dX4_judge_65 : decode cX4_judge 65 = .ok (.invokestatic 61, 3) := by decide +kernel
theorem dX4_judge_68 : decode cX4_judge 68 = .ok (.if_icmp .ne 7, 3) := by decide +kernel
theorem dX4_judge_71 : decode cX4_judge 71 = .ok (.iconst 1, 1) := by decide +kernel
theorem dX4_judge_72 : decode cX4_judge 72 = .ok (.goto 4, 3) := by decide +kernel
theorem dX4_judge_75 : decode cX4_judge 75 = .ok (.iconst 0, 1) := by decide +kernel
theorem dX4_judge_76 : decode cX4_judge 76 = .ok (.istore 4, 2) := by decide +kernel
theorem dX4_judge_78 : decode cX4_judge 78 = .ok (.aload_n 0, 1) := by decide +kernel
theorem dX4_judge_79 : decode cX4_judge 79 = .ok (.getfield 32, 3) := by decide +kernel
theorem dX4_judge_82 : decode cX4_judge 82 = .ok (.iload_n 1, 1) := by decide +kernel
theorem dX4_judge_83 : decode cX4_judge 83 = .ok (.iload 4, 2) := by decide +kernel
theorem dX4_judge_85 : decode cX4_judge 85 = .ok (.ifCond .eq 16, 3) := by decide +kernel
theorem dX4_judge_88 : decode cX4_judge 88 = .ok (.aload_n 0, 1) := by decide +kernel
theorem dX4_judge_89 : decode cX4_judge 89 = .ok (.getfield 28, 3) := by decide +kernel
theorem dX4_judge_92 : decode cX4_judge 92 = .ok (.iload_n 1, 1) := by decide +kernel
theorem dX4_judge_93 : decode cX4_judge 93 = .ok (.baload, 1) := by decide +kernel
theorem dX4_judge_94 : decode cX4_judge 94 = .ok (.ifCond .ne 7, 3) := by decide +kernel
theorem dX4_judge_97 : decode cX4_judge 97 = .ok (.iload_n 3, 1) := by decide +kernel
theorem dX4_judge_98 : decode cX4_judge 98 = .ok (.goto 4, 3) := by decide +kernel
theorem dX4_judge_101 : decode cX4_judge 101 = .ok (.iconst 0, 1) := by decide +kernel
theorem dX4_judge_102 : decode cX4_judge 102 = .ok (.iastore, 1) := by decide +kernel
theorem dX4_judge_103 : decode cX4_judge 103 = .ok (.return_, 1) := by decide +kernel
theorem dX4_markLost_0 : decode cX4_markLost 0 = .ok (.aload_n 0, 1) := by decide +kernel
theorem dX4_markLost_1 : decode cX4_markLost 1 = .ok (.iload_n 1, 1) := by decide +kernel
theorem dX4_markLost_2 : decode cX4_markLost 2 = .ok (.invokevirtual 38, 3) := by decide +kernel
theorem dX4_markLost_5 : decode cX4_markLost 5 = .ok (.ifCond .eq 17, 3) := by decide +kernel
theorem dX4_markLost_8 : decode cX4_markLost 8 = .ok (.aload_n 0, 1) := by decide +kernel
theorem dX4_markLost_9 : decode cX4_markLost 9 = .ok (.getfield 28, 3) := by decide +kernel
theorem dX4_markLost_12 : decode cX4_markLost 12 = .ok (.iload_n 1, 1) := by decide +kernel
theorem dX4_markLost_13 : decode cX4_markLost 13 = .ok (.iconst 1, 1) := by decide +kernel
theorem dX4_markLost_14 : decode cX4_markLost 14 = .ok (.bastore, 1) := by decide +kernel
theorem dX4_markLost_15 : decode cX4_markLost 15 = .ok (.aload_n 0, 1) := by decide +kernel
theorem dX4_markLost_16 : decode cX4_markLost 16 = .ok (.getfield 32, 3) := by decide +kernel
theorem dX4_markLost_19 : decode cX4_markLost 19 = .ok (.iload_n 1, 1) := by decide +kernel
theorem dX4_markLost_20 : decode cX4_markLost 20 = .ok (.iconst 0, 1) := by decide +kernel
theorem dX4_markLost_21 : decode cX4_markLost 21 = .ok (.iastore, 1) := by decide +kernel
theorem dX4_markLost_22 : decode cX4_markLost 22 = .ok (.return_, 1) := by decide +kernel
theorem dX4_wholeSort_0 : decode cX4_wholeSort 0 = .ok (.aload_n 0, 1) := by decide +kernel
theorem dX4_wholeSort_1 : decode cX4_wholeSort 1 = .ok (.iload_n 1, 1) := by decide +kernel
theorem dX4_wholeSort_2 : decode cX4_wholeSort 2 = .ok (.invokevirtual 38, 3) := by decide +kernel
theorem dX4_wholeSort_5 : decode cX4_wholeSort 5 = .ok (.ifCond .eq 12, 3) := by decide +kernel
theorem dX4_wholeSort_8 : decode cX4_wholeSort 8 = .ok (.aload_n 0, 1) := by decide +kernel
theorem dX4_wholeSort_9 : decode cX4_wholeSort 9 = .ok (.getfield 32, 3) := by decide +kernel
theorem dX4_wholeSort_12 : decode cX4_wholeSort 12 = .ok (.iload_n 1, 1) := by decide +kernel
theorem dX4_wholeSort_13 : decode cX4_wholeSort 13 = .ok (.iaload, 1) := by decide +kernel
theorem dX4_wholeSort_14 : decode cX4_wholeSort 14 = .ok (.goto 4, 3) := by decide +kernel
theorem dX4_wholeSort_17 : decode cX4_wholeSort 17 = .ok (.iconst 0, 1) := by decide +kernel
theorem dX4_wholeSort_18 : decode cX4_wholeSort 18 = .ok (.ireturn, 1) := by decide +kernel
theorem dX4_flip_0 : decode cX4_flip 0 = .ok (.aload_n 0, 1) := by decide +kernel
theorem dX4_flip_1 : decode cX4_flip 1 = .ok (.iload_n 1, 1) := by decide +kernel
theorem dX4_flip_2 : decode cX4_flip 2 = .ok (.iload_n 2, 1) := by decide +kernel
theorem dX4_flip_3 : decode cX4_flip 3 = .ok (.invokevirtual 47, 3) := by decide +kernel
theorem dX4_flip_6 : decode cX4_flip 6 = .ok (.ifCond .eq 27, 3) := by decide +kernel
theorem dX4_flip_9 : decode cX4_flip 9 = .ok (.aload_n 0, 1) := by decide +kernel
theorem dX4_flip_10 : decode cX4_flip 10 = .ok (.getfield 24, 3) := by decide +kernel
theorem dX4_flip_13 : decode cX4_flip 13 = .ok (.iload_n 1, 1) := by decide +kernel
theorem dX4_flip_14 : decode cX4_flip 14 = .ok (.bipush 32, 2) := by decide +kernel
theorem dX4_flip_16 : decode cX4_flip 16 = .ok (.imul, 1) := by decide +kernel
theorem dX4_flip_17 : decode cX4_flip 17 = .ok (.iload_n 2, 1) := by decide +kernel
theorem dX4_flip_18 : decode cX4_flip 18 = .ok (.iadd, 1) := by decide +kernel
theorem dX4_flip_19 : decode cX4_flip 19 = .ok (.dup2, 1) := by decide +kernel
theorem dX4_flip_20 : decode cX4_flip 20 = .ok (.iaload, 1) := by decide +kernel
theorem dX4_flip_21 : decode cX4_flip 21 = .ok (.iload_n 3, 1) := by decide +kernel
theorem dX4_flip_22 : decode cX4_flip 22 = .ok (.sipush 255, 3) := by decide +kernel
theorem dX4_flip_25 : decode cX4_flip 25 = .ok (.iand, 1) := by decide +kernel
theorem dX4_flip_26 : decode cX4_flip 26 = .ok (.ixor, 1) := by decide +kernel
theorem dX4_flip_27 : decode cX4_flip 27 = .ok (.iastore, 1) := by decide +kernel
theorem dX4_flip_28 : decode cX4_flip 28 = .ok (.aload_n 0, 1) := by decide +kernel
theorem dX4_flip_29 : decode cX4_flip 29 = .ok (.iload_n 1, 1) := by decide +kernel
theorem dX4_flip_30 : decode cX4_flip 30 = .ok (.invokevirtual 51, 3) := by decide +kernel
theorem dX4_flip_33 : decode cX4_flip 33 = .ok (.return_, 1) := by decide +kernel
theorem dX4_store_0 : decode cX4_store 0 = .ok (.aload_n 0, 1) := by decide +kernel
theorem dX4_store_1 : decode cX4_store 1 = .ok (.iload_n 1, 1) := by decide +kernel
theorem dX4_store_2 : decode cX4_store 2 = .ok (.invokevirtual 38, 3) := by decide +kernel
theorem dX4_store_5 : decode cX4_store 5 = .ok (.ifCond .ne 4, 3) := by decide +kernel
theorem dX4_store_8 : decode cX4_store 8 = .ok (.return_, 1) := by decide +kernel
theorem dX4_store_9 : decode cX4_store 9 = .ok (.iconst 0, 1) := by decide +kernel
theorem dX4_store_10 : decode cX4_store 10 = .ok (.istore 4, 2) := by decide +kernel
theorem dX4_store_12 : decode cX4_store 12 = .ok (.iload 4, 2) := by decide +kernel
theorem dX4_store_14 : decode cX4_store 14 = .ok (.iload_n 3, 1) := by decide +kernel
theorem dX4_store_15 : decode cX4_store 15 = .ok (.if_icmp .ge 34, 3) := by decide +kernel
theorem dX4_store_18 : decode cX4_store 18 = .ok (.iload 4, 2) := by decide +kernel
theorem dX4_store_20 : decode cX4_store 20 = .ok (.bipush 32, 2) := by decide +kernel
theorem dX4_store_22 : decode cX4_store 22 = .ok (.if_icmp .ge 27, 3) := by decide +kernel
theorem dX4_store_25 : decode cX4_store 25 = .ok (.aload_n 0, 1) := by decide +kernel
theorem dX4_store_26 : decode cX4_store 26 = .ok (.getfield 24, 3) := by decide +kernel
theorem dX4_store_29 : decode cX4_store 29 = .ok (.iload_n 1, 1) := by decide +kernel
theorem dX4_store_30 : decode cX4_store 30 = .ok (.bipush 32, 2) := by decide +kernel
theorem dX4_store_32 : decode cX4_store 32 = .ok (.imul, 1) := by decide +kernel
theorem dX4_store_33 : decode cX4_store 33 = .ok (.iload 4, 2) := by decide +kernel
theorem dX4_store_35 : decode cX4_store 35 = .ok (.iadd, 1) := by decide +kernel
theorem dX4_store_36 : decode cX4_store 36 = .ok (.aload_n 2, 1) := by decide +kernel
theorem dX4_store_37 : decode cX4_store 37 = .ok (.iload 4, 2) := by decide +kernel
theorem dX4_store_39 : decode cX4_store 39 = .ok (.invokevirtual 42, 3) := by decide +kernel
theorem dX4_store_42 : decode cX4_store 42 = .ok (.iastore, 1) := by decide +kernel
theorem dX4_store_43 : decode cX4_store 43 = .ok (.iinc 4 1, 3) := by decide +kernel
theorem dX4_store_46 : decode cX4_store 46 = .ok (.goto (-34), 3) := by decide +kernel
theorem dX4_store_49 : decode cX4_store 49 = .ok (.aload_n 0, 1) := by decide +kernel
theorem dX4_store_50 : decode cX4_store 50 = .ok (.getfield 28, 3) := by decide +kernel
theorem dX4_store_53 : decode cX4_store 53 = .ok (.iload_n 1, 1) := by decide +kernel
theorem dX4_store_54 : decode cX4_store 54 = .ok (.iconst 0, 1) := by decide +kernel
theorem dX4_store_55 : decode cX4_store 55 = .ok (.bastore, 1) := by decide +kernel
theorem dX4_store_56 : decode cX4_store 56 = .ok (.aload_n 0, 1) := by decide +kernel
theorem dX4_store_57 : decode cX4_store 57 = .ok (.iload_n 1, 1) := by decide +kernel
theorem dX4_store_58 : decode cX4_store 58 = .ok (.invokevirtual 51, 3) := by decide +kernel
theorem dX4_store_61 : decode cX4_store 61 = .ok (.return_, 1) := by decide +kernel
theorem dX4_takeBack_0 : decode cX4_takeBack 0 = .ok (.aload_n 0, 1) := by decide +kernel
theorem dX4_takeBack_1 : decode cX4_takeBack 1 = .ok (.iload_n 1, 1) := by decide +kernel
theorem dX4_takeBack_2 : decode cX4_takeBack 2 = .ok (.iload_n 2, 1) := by decide +kernel
theorem dX4_takeBack_3 : decode cX4_takeBack 3 = .ok (.invokevirtual 47, 3) := by decide +kernel
theorem dX4_takeBack_6 : decode cX4_takeBack 6 = .ok (.ifCond .eq 18, 3) := by decide +kernel
theorem dX4_takeBack_9 : decode cX4_takeBack 9 = .ok (.iload 4, 2) := by decide +kernel
theorem dX4_takeBack_11 : decode cX4_takeBack 11 = .ok (.ifCond .lt 13, 3) := by decide +kernel
theorem dX4_takeBack_14 : decode cX4_takeBack 14 = .ok (.iload 4, 2) := by decide +kernel
theorem dX4_takeBack_16 : decode cX4_takeBack 16 = .ok (.aload_n 3, 1) := by decide +kernel
theorem dX4_takeBack_17 : decode cX4_takeBack 17 = .ok (.arraylength, 1) := by decide +kernel
theorem dX4_takeBack_18 : decode cX4_takeBack 18 = .ok (.bipush 32, 2) := by decide +kernel
theorem dX4_takeBack_20 : decode cX4_takeBack 20 = .ok (.isub, 1) := by decide +kernel
theorem dX4_takeBack_21 : decode cX4_takeBack 21 = .ok (.if_icmp .le 4, 3) := by decide +kernel
theorem dX4_takeBack_24 : decode cX4_takeBack 24 = .ok (.return_, 1) := by decide +kernel
theorem dX4_takeBack_25 : decode cX4_takeBack 25 = .ok (.aload_n 3, 1) := by decide +kernel
theorem dX4_takeBack_26 : decode cX4_takeBack 26 = .ok (.iload 4, 2) := by decide +kernel
theorem dX4_takeBack_28 : decode cX4_takeBack 28 = .ok (.iload_n 2, 1) := by decide +kernel
theorem dX4_takeBack_29 : decode cX4_takeBack 29 = .ok (.iadd, 1) := by decide +kernel
theorem dX4_takeBack_30 : decode cX4_takeBack 30 = .ok (.aload_n 0, 1) := by decide +kernel
theorem dX4_takeBack_31 : decode cX4_takeBack 31 = .ok (.getfield 24, 3) := by decide +kernel
theorem dX4_takeBack_34 : decode cX4_takeBack 34 = .ok (.iload_n 1, 1) := by decide +kernel
theorem dX4_takeBack_35 : decode cX4_takeBack 35 = .ok (.bipush 32, 2) := by decide +kernel
theorem dX4_takeBack_37 : decode cX4_takeBack 37 = .ok (.imul, 1) := by decide +kernel
theorem dX4_takeBack_38 : decode cX4_takeBack 38 = .ok (.iload_n 2, 1) := by decide +kernel
theorem dX4_takeBack_39 : decode cX4_takeBack 39 = .ok (.iadd, 1) := by decide +kernel
theorem dX4_takeBack_40 : decode cX4_takeBack 40 = .ok (.bipush 32, 2) := by decide +kernel
theorem dX4_takeBack_42 : decode cX4_takeBack 42 = .ok (.iload_n 2, 1) := by decide +kernel
theorem dX4_takeBack_43 : decode cX4_takeBack 43 = .ok (.isub, 1) := by decide +kernel
theorem dX4_takeBack_44 : decode cX4_takeBack 44 = .ok (.invokestatic 55, 3) := by decide +kernel
theorem dX4_takeBack_47 : decode cX4_takeBack 47 = .ok (.aload_n 0, 1) := by decide +kernel
theorem dX4_takeBack_48 : decode cX4_takeBack 48 = .ok (.getfield 28, 3) := by decide +kernel
theorem dX4_takeBack_51 : decode cX4_takeBack 51 = .ok (.iload_n 1, 1) := by decide +kernel
theorem dX4_takeBack_52 : decode cX4_takeBack 52 = .ok (.iload 5, 2) := by decide +kernel
theorem dX4_takeBack_54 : decode cX4_takeBack 54 = .ok (.bastore, 1) := by decide +kernel
theorem dX4_takeBack_55 : decode cX4_takeBack 55 = .ok (.aload_n 0, 1) := by decide +kernel
theorem dX4_takeBack_56 : decode cX4_takeBack 56 = .ok (.iload_n 1, 1) := by decide +kernel
theorem dX4_takeBack_57 : decode cX4_takeBack 57 = .ok (.invokevirtual 51, 3) := by decide +kernel
theorem dX4_takeBack_60 : decode cX4_takeBack 60 = .ok (.return_, 1) := by decide +kernel
