theorem dX6_quotient_0 : decode cX6_quotient 0 = .ok (.iconst 0, 1) := by decide +kernel
theorem dX6_quotient_1 : decode cX6_quotient 1 = .ok (.istore_n 2, 1) := by decide +kernel
theorem dX6_quotient_2 : decode cX6_quotient 2 = .ok (.iload_n 2, 1) := by decide +kernel
theorem dX6_quotient_3 : decode cX6_quotient 3 = .ok (.iload_n 1, 1) := by decide +kernel
theorem dX6_quotient_4 : decode cX6_quotient 4 = .ok (.invokestatic 138, 3) := by decide +kernel
theorem dX6_quotient_7 : decode cX6_quotient 7 = .ok (.iload_n 0, 1) := by decide +kernel
theorem dX6_quotient_8 : decode cX6_quotient 8 = .ok (.if_icmp .eq 9, 3) := by decide +kernel
theorem dX6_quotient_11 : decode cX6_quotient 11 = .ok (.iinc 2 1, 3) := by decide +kernel
theorem dX6_quotient_14 : decode cX6_quotient 14 = .ok (.goto (-12), 3) := by decide +kernel
theorem dX6_quotient_17 : decode cX6_quotient 17 = .ok (.iload_n 2, 1) := by decide +kernel
theorem dX6_quotient_18 : decode cX6_quotient 18 = .ok (.ireturn, 1) := by decide +kernel
theorem dX6_sectorOf_0 : decode cX6_sectorOf 0 = .ok (.iconst (-1), 1) := by decide +kernel
theorem dX6_sectorOf_1 : decode cX6_sectorOf 1 = .ok (.istore_n 2, 1) := by decide +kernel
theorem dX6_sectorOf_2 : decode cX6_sectorOf 2 = .ok (.iconst 2, 1) := by decide +kernel
theorem dX6_sectorOf_3 : decode cX6_sectorOf 3 = .ok (.istore_n 3, 1) := by decide +kernel
theorem dX6_sectorOf_4 : decode cX6_sectorOf 4 = .ok (.iload_n 3, 1) := by decide +kernel
theorem dX6_sectorOf_5 : decode cX6_sectorOf 5 = .ok (.aload_n 0, 1) := by decide +kernel
theorem dX6_sectorOf_6 : decode cX6_sectorOf 6 = .ok (.getfield 21, 3) := by decide +kernel
theorem dX6_sectorOf_9 : decode cX6_sectorOf 9 = .ok (.if_icmp .ge 55, 3) := by decide +kernel
theorem dX6_sectorOf_12 : decode cX6_sectorOf 12 = .ok (.aload_n 0, 1) := by decide +kernel
theorem dX6_sectorOf_13 : decode cX6_sectorOf 13 = .ok (.iload_n 3, 1) := by decide +kernel
theorem dX6_sectorOf_14 : decode cX6_sectorOf 14 = .ok (.invokevirtual 86, 3) := by decide +kernel
theorem dX6_sectorOf_17 : decode cX6_sectorOf 17 = .ok (.iconst 3, 1) := by decide +kernel
theorem dX6_sectorOf_18 : decode cX6_sectorOf 18 = .ok (.if_icmp .ne 38, 3) := by decide +kernel
theorem dX6_sectorOf_21 : decode cX6_sectorOf 21 = .ok (.aload_n 0, 1) := by decide +kernel
theorem dX6_sectorOf_22 : decode cX6_sectorOf 22 = .ok (.getfield 7, 3) := by decide +kernel
theorem dX6_sectorOf_25 : decode cX6_sectorOf 25 = .ok (.bipush 32, 2) := by decide +kernel
theorem dX6_sectorOf_27 : decode cX6_sectorOf 27 = .ok (.iload_n 3, 1) := by decide +kernel
theorem dX6_sectorOf_28 : decode cX6_sectorOf 28 = .ok (.imul, 1) := by decide +kernel
theorem dX6_sectorOf_29 : decode cX6_sectorOf 29 = .ok (.iconst 2, 1) := by decide +kernel
theorem dX6_sectorOf_30 : decode cX6_sectorOf 30 = .ok (.iadd, 1) := by decide +kernel
theorem dX6_sectorOf_31 : decode cX6_sectorOf 31 = .ok (.iaload, 1) := by decide +kernel
theorem dX6_sectorOf_32 : decode cX6_sectorOf 32 = .ok (.iload_n 1, 1) := by decide +kernel
theorem dX6_sectorOf_33 : decode cX6_sectorOf 33 = .ok (.if_icmp .ne 23, 3) := by decide +kernel
theorem dX6_sectorOf_36 : decode cX6_sectorOf 36 = .ok (.aload_n 0, 1) := by decide +kernel
theorem dX6_sectorOf_37 : decode cX6_sectorOf 37 = .ok (.getfield 7, 3) := by decide +kernel
theorem dX6_sectorOf_40 : decode cX6_sectorOf 40 = .ok (.bipush 32, 2) := by decide +kernel
theorem dX6_sectorOf_42 : decode cX6_sectorOf 42 = .ok (.iload_n 3, 1) := by decide +kernel
theorem dX6_sectorOf_43 : decode cX6_sectorOf 43 = .ok (.imul, 1) := by decide +kernel
theorem dX6_sectorOf_44 : decode cX6_sectorOf 44 = .ok (.iconst 3, 1) := by decide +kernel
theorem dX6_sectorOf_45 : decode cX6_sectorOf 45 = .ok (.iadd, 1) := by decide +kernel
theorem dX6_sectorOf_46 : decode cX6_sectorOf 46 = .ok (.iaload, 1) := by decide +kernel
theorem dX6_sectorOf_47 : decode cX6_sectorOf 47 = .ok (.bipush 96, 2) := by decide +kernel
theorem dX6_sectorOf_49 : decode cX6_sectorOf 49 = .ok (.if_icmp .gt 7, 3) := by decide +kernel
theorem dX6_sectorOf_52 : decode cX6_sectorOf 52 = .ok (.iload_n 3, 1) := by decide +kernel
theorem dX6_sectorOf_53 : decode cX6_sectorOf 53 = .ok (.goto 4, 3) := by decide +kernel
theorem dX6_sectorOf_56 : decode cX6_sectorOf 56 = .ok (.iload_n 2, 1) := by decide +kernel
theorem dX6_sectorOf_57 : decode cX6_sectorOf 57 = .ok (.istore_n 2, 1) := by decide +kernel
theorem dX6_sectorOf_58 : decode cX6_sectorOf 58 = .ok (.iinc 3 1, 3) := by decide +kernel
theorem dX6_sectorOf_61 : decode cX6_sectorOf 61 = .ok (.goto (-57), 3) := by decide +kernel
theorem dX6_sectorOf_64 : decode cX6_sectorOf 64 = .ok (.iload_n 2, 1) := by decide +kernel
theorem dX6_sectorOf_65 : decode cX6_sectorOf 65 = .ok (.ireturn, 1) := by decide +kernel
theorem dX6_symbolOf_0 : decode cX6_symbolOf 0 = .ok (.iconst (-1), 1) := by decide +kernel
theorem dX6_symbolOf_1 : decode cX6_symbolOf 1 = .ok (.istore_n 3, 1) := by decide +kernel
theorem dX6_symbolOf_2 : decode cX6_symbolOf 2 = .ok (.iconst 2, 1) := by decide +kernel
theorem dX6_symbolOf_3 : decode cX6_symbolOf 3 = .ok (.istore 4, 2) := by decide +kernel
theorem dX6_symbolOf_5 : decode cX6_symbolOf 5 = .ok (.iload 4, 2) := by decide +kernel
theorem dX6_symbolOf_7 : decode cX6_symbolOf 7 = .ok (.aload_n 0, 1) := by decide +kernel
theorem dX6_symbolOf_8 : decode cX6_symbolOf 8 = .ok (.getfield 21, 3) := by decide +kernel
theorem dX6_symbolOf_11 : decode cX6_symbolOf 11 = .ok (.if_icmp .ge 58, 3) := by decide +kernel
theorem dX6_symbolOf_14 : decode cX6_symbolOf 14 = .ok (.aload_n 0, 1) := by decide +kernel
theorem dX6_symbolOf_15 : decode cX6_symbolOf 15 = .ok (.iload 4, 2) := by decide +kernel
theorem dX6_symbolOf_17 : decode cX6_symbolOf 17 = .ok (.invokevirtual 86, 3) := by decide +kernel
theorem dX6_symbolOf_20 : decode cX6_symbolOf 20 = .ok (.iconst 4, 1) := by decide +kernel
theorem dX6_symbolOf_21 : decode cX6_symbolOf 21 = .ok (.if_icmp .ne 40, 3) := by decide +kernel
theorem dX6_symbolOf_24 : decode cX6_symbolOf 24 = .ok (.aload_n 0, 1) := by decide +kernel
theorem dX6_symbolOf_25 : decode cX6_symbolOf 25 = .ok (.getfield 7, 3) := by decide +kernel
theorem dX6_symbolOf_28 : decode cX6_symbolOf 28 = .ok (.bipush 32, 2) := by decide +kernel
theorem dX6_symbolOf_30 : decode cX6_symbolOf 30 = .ok (.iload 4, 2) := by decide +kernel
theorem dX6_symbolOf_32 : decode cX6_symbolOf 32 = .ok (.imul, 1) := by decide +kernel
theorem dX6_symbolOf_33 : decode cX6_symbolOf 33 = .ok (.iconst 1, 1) := by decide +kernel
theorem dX6_symbolOf_34 : decode cX6_symbolOf 34 = .ok (.iadd, 1) := by decide +kernel
theorem dX6_symbolOf_35 : decode cX6_symbolOf 35 = .ok (.iaload, 1) := by decide +kernel
theorem dX6_symbolOf_36 : decode cX6_symbolOf 36 = .ok (.iload_n 1, 1) := by decide +kernel
theorem dX6_symbolOf_37 : decode cX6_symbolOf 37 = .ok (.if_icmp .ne 24, 3) := by decide +kernel
theorem dX6_symbolOf_40 : decode cX6_symbolOf 40 = .ok (.aload_n 0, 1) := by decide +kernel
theorem dX6_symbolOf_41 : decode cX6_symbolOf 41 = .ok (.getfield 7, 3) := by decide +kernel
theorem dX6_symbolOf_44 : decode cX6_symbolOf 44 = .ok (.bipush 32, 2) := by decide +kernel
theorem dX6_symbolOf_46 : decode cX6_symbolOf 46 = .ok (.iload 4, 2) := by decide +kernel
theorem dX6_symbolOf_48 : decode cX6_symbolOf 48 = .ok (.imul, 1) := by decide +kernel
theorem dX6_symbolOf_49 : decode cX6_symbolOf 49 = .ok (.iconst 2, 1) := by decide +kernel
theorem dX6_symbolOf_50 : decode cX6_symbolOf 50 = .ok (.iadd, 1) := by decide +kernel
theorem dX6_symbolOf_51 : decode cX6_symbolOf 51 = .ok (.iaload, 1) := by decide +kernel
theorem dX6_symbolOf_52 : decode cX6_symbolOf 52 = .ok (.iload_n 2, 1) := by decide +kernel
theorem dX6_symbolOf_53 : decode cX6_symbolOf 53 = .ok (.if_icmp .ne 8, 3) := by decide +kernel
theorem dX6_symbolOf_56 : decode cX6_symbolOf 56 = .ok (.iload 4, 2) := by decide +kernel
theorem dX6_symbolOf_58 : decode cX6_symbolOf 58 = .ok (.goto 4, 3) := by decide +kernel
theorem dX6_symbolOf_61 : decode cX6_symbolOf 61 = .ok (.iload_n 3, 1) := by decide +kernel
theorem dX6_symbolOf_62 : decode cX6_symbolOf 62 = .ok (.istore_n 3, 1) := by decide +kernel
theorem dX6_symbolOf_63 : decode cX6_symbolOf 63 = .ok (.iinc 4 1, 3) := by decide +kernel
theorem dX6_symbolOf_66 : decode cX6_symbolOf 66 = .ok (.goto (-61), 3) := by decide +kernel
theorem dX6_symbolOf_69 : decode cX6_symbolOf 69 = .ok (.iload_n 3, 1) := by decide +kernel
theorem dX6_symbolOf_70 : decode cX6_symbolOf 70 = .ok (.ireturn, 1) := by decide +kernel
theorem dX6_whole_0 : decode cX6_whole 0 = .ok (.aload_n 0, 1) := by decide +kernel
theorem dX6_whole_1 : decode cX6_whole 1 = .ok (.iconst 0, 1) := by decide +kernel
theorem dX6_whole_2 : decode cX6_whole 2 = .ok (.putfield 70, 3) := by decide +kernel
theorem dX6_whole_5 : decode cX6_whole 5 = .ok (.aload_n 0, 1) := by decide +kernel
theorem dX6_whole_6 : decode cX6_whole 6 = .ok (.iload_n 1, 1) := by decide +kernel
theorem dX6_whole_7 : decode cX6_whole 7 = .ok (.invokevirtual 200, 3) := by decide +kernel
theorem dX6_whole_10 : decode cX6_whole 10 = .ok (.ifCond .eq 11, 3) := by decide +kernel
theorem dX6_whole_13 : decode cX6_whole 13 = .ok (.aload_n 0, 1) := by decide +kernel
theorem dX6_whole_14 : decode cX6_whole 14 = .ok (.iload_n 1, 1) := by decide +kernel
theorem dX6_whole_15 : decode cX6_whole 15 = .ok (.invokevirtual 86, 3) := by decide +kernel
theorem dX6_whole_18 : decode cX6_whole 18 = .ok (.goto 5, 3) := by decide +kernel
theorem dX6_whole_21 : decode cX6_whole 21 = .ok (.bipush (-2), 2) := by decide +kernel
theorem dX6_whole_23 : decode cX6_whole 23 = .ok (.ireturn, 1) := by decide +kernel
theorem dX6_write_0 : decode cX6_write 0 = .ok (.aload_n 0, 1) := by decide +kernel
theorem dX6_write_1 : decode cX6_write 1 = .ok (.invokevirtual 90, 3) := by decide +kernel
theorem dX6_write_4 : decode cX6_write 4 = .ok (.aload_n 0, 1) := by decide +kernel
theorem dX6_write_5 : decode cX6_write 5 = .ok (.getfield 31, 3) := by decide +kernel
theorem dX6_write_8 : decode cX6_write 8 = .ok (.aload_n 0, 1) := by decide +kernel
theorem dX6_write_9 : decode cX6_write 9 = .ok (.getfield 93, 3) := by decide +kernel
theorem dX6_write_12 : decode cX6_write 12 = .ok (.iload_n 1, 1) := by decide +kernel
theorem dX6_write_13 : decode cX6_write 13 = .ok (.iastore, 1) := by decide +kernel
theorem dX6_write_14 : decode cX6_write 14 = .ok (.aload_n 0, 1) := by decide +kernel
theorem dX6_write_15 : decode cX6_write 15 = .ok (.getfield 37, 3) := by decide +kernel
theorem dX6_write_18 : decode cX6_write 18 = .ok (.aload_n 0, 1) := by decide +kernel
theorem dX6_write_19 : decode cX6_write 19 = .ok (.getfield 93, 3) := by decide +kernel
theorem dX6_write_22 : decode cX6_write 22 = .ok (.aload_n 0, 1) := by decide +kernel
theorem dX6_write_23 : decode cX6_write 23 = .ok (.getfield 13, 3) := by decide +kernel
theorem dX6_write_26 : decode cX6_write 26 = .ok (.iload_n 1, 1) := by decide +kernel
theorem dX6_write_27 : decode cX6_write 27 = .ok (.baload, 1) := by decide +kernel
theorem dX6_write_28 : decode cX6_write 28 = .ok (.bastore, 1) := by decide +kernel
theorem dX6_write_29 : decode cX6_write 29 = .ok (.iconst 0, 1) := by decide +kernel
theorem dX6_write_30 : decode cX6_write 30 = .ok (.istore_n 2, 1) := by decide +kernel
theorem dX6_write_31 : decode cX6_write 31 = .ok (.iload_n 2, 1) := by decide +kernel
theorem dX6_write_32 : decode cX6_write 32 = .ok (.bipush 32, 2) := by decide +kernel
theorem dX6_write_34 : decode cX6_write 34 = .ok (.if_icmp .ge 51, 3) := by decide +kernel
theorem dX6_write_37 : decode cX6_write 37 = .ok (.aload_n 0, 1) := by decide +kernel
theorem dX6_write_38 : decode cX6_write 38 = .ok (.getfield 34, 3) := by decide +kernel
theorem dX6_write_41 : decode cX6_write 41 = .ok (.bipush 32, 2) := by decide +kernel
theorem dX6_write_43 : decode cX6_write 43 = .ok (.aload_n 0, 1) := by decide +kernel
theorem dX6_write_44 : decode cX6_write 44 = .ok (.getfield 93, 3) := by decide +kernel
theorem dX6_write_47 : decode cX6_write 47 = .ok (.imul, 1) := by decide +kernel
theorem dX6_write_48 : decode cX6_write 48 = .ok (.iload_n 2, 1) := by decide +kernel
theorem dX6_write_49 : decode cX6_write 49 = .ok (.iadd, 1) := by decide +kernel
theorem dX6_write_50 : decode cX6_write 50 = .ok (.aload_n 0, 1) := by decide +kernel
theorem dX6_write_51 : decode cX6_write 51 = .ok (.getfield 7, 3) := by decide +kernel
theorem dX6_write_54 : decode cX6_write 54 = .ok (.bipush 32, 2) := by decide +kernel
theorem dX6_write_56 : decode cX6_write 56 = .ok (.iload_n 1, 1) := by decide +kernel
theorem dX6_write_57 : decode cX6_write 57 = .ok (.imul, 1) := by decide +kernel
theorem dX6_write_58 : decode cX6_write 58 = .ok (.iload_n 2, 1) := by decide +kernel
theorem dX6_write_59 : decode cX6_write 59 = .ok (.iadd, 1) := by decide +kernel
theorem dX6_write_60 : decode cX6_write 60 = .ok (.iaload, 1) := by decide +kernel
theorem dX6_write_61 : decode cX6_write 61 = .ok (.iastore, 1) := by decide +kernel
theorem dX6_write_62 : decode cX6_write 62 = .ok (.aload_n 0, 1) := by decide +kernel
theorem dX6_write_63 : decode cX6_write 63 = .ok (.getfield 7, 3) := by decide +kernel
theorem dX6_write_66 : decode cX6_write 66 = .ok (.bipush 32, 2) := by decide +kernel
theorem dX6_write_68 : decode cX6_write 68 = .ok (.iload_n 1, 1) := by decide +kernel
theorem dX6_write_69 : decode cX6_write 69 = .ok (.imul, 1) := by decide +kernel
theorem dX6_write_70 : decode cX6_write 70 = .ok (.iload_n 2, 1) := by decide +kernel
theorem dX6_write_71 : decode cX6_write 71 = .ok (.iadd, 1) := by decide +kernel
theorem dX6_write_72 : decode cX6_write 72 = .ok (.aload_n 0, 1) := by decide +kernel
theorem dX6_write_73 : decode cX6_write 73 = .ok (.getfield 40, 3) := by decide +kernel
theorem dX6_write_76 : decode cX6_write 76 = .ok (.iload_n 2, 1) := by decide +kernel
theorem dX6_write_77 : decode cX6_write 77 = .ok (.iaload, 1) := by decide +kernel
theorem dX6_write_78 : decode cX6_write 78 = .ok (.iastore, 1) := by decide +kernel
theorem dX6_write_79 : decode cX6_write 79 = .ok (.iinc 2 1, 3) := by decide +kernel
theorem dX6_write_82 : decode cX6_write 82 = .ok (.goto (-51), 3) := by decide +kernel
theorem dX6_write_85 : decode cX6_write 85 = .ok (.aload_n 0, 1) := by decide +kernel
theorem dX6_write_86 : decode cX6_write 86 = .ok (.getfield 13, 3) := by decide +kernel
theorem dX6_write_89 : decode cX6_write 89 = .ok (.iload_n 1, 1) := by decide +kernel
theorem dX6_write_90 : decode cX6_write 90 = .ok (.iconst 0, 1) := by decide +kernel
theorem dX6_write_91 : decode cX6_write 91 = .ok (.bastore, 1) := by decide +kernel
theorem dX6_write_92 : decode cX6_write 92 = .ok (.aload_n 0, 1) := by decide +kernel
theorem dX6_write_93 : decode cX6_write 93 = .ok (.dup, 1) := by decide +kernel
theorem dX6_write_94 : decode cX6_write 94 = .ok (.getfield 93, 3) := by decide +kernel
theorem dX6_write_97 : decode cX6_write 97 = .ok (.iconst 1, 1) := by decide +kernel
theorem dX6_write_98 : decode cX6_write 98 = .ok (.iadd, 1) := by decide +kernel
theorem dX6_write_99 : decode cX6_write 99 = .ok (.putfield 93, 3) := by decide +kernel
theorem dX6_write_102 : decode cX6_write 102 = .ok (.return_, 1) := by decide +kernel
theorem dX6_append_0 : decode cX6_append 0 = .ok (.aload_n 0, 1) := by decide +kernel
theorem dX6_append_1 : decode cX6_append 1 = .ok (.aload_n 0, 1) := by decide +kernel
theorem dX6_append_2 : decode cX6_append 2 = .ok (.getfield 21, 3) := by decide +kernel
theorem dX6_append_5 : decode cX6_append 5 = .ok (.invokevirtual 96, 3) := by decide +kernel
theorem dX6_append_8 : decode cX6_append 8 = .ok (.aload_n 0, 1) := by decide +kernel
theorem dX6_append_9 : decode cX6_append 9 = .ok (.dup, 1) := by decide +kernel
theorem dX6_append_10 : decode cX6_append 10 = .ok (.getfield 21, 3) := by decide +kernel
theorem dX6_append_13 : decode cX6_append 13 = .ok (.iconst 1, 1) := by decide +kernel
theorem dX6_append_14 : decode cX6_append 14 = .ok (.iadd, 1) := by decide +kernel
theorem dX6_append_15 : decode cX6_append 15 = .ok (.putfield 21, 3) := by decide +kernel
theorem dX6_append_18 : decode cX6_append 18 = .ok (.aload_n 0, 1) := by decide +kernel
theorem dX6_append_19 : decode cX6_append 19 = .ok (.getfield 21, 3) := by decide +kernel
theorem dX6_append_22 : decode cX6_append 22 = .ok (.iconst 1, 1) := by decide +kernel
theorem dX6_append_23 : decode cX6_append 23 = .ok (.isub, 1) := by decide +kernel
theorem dX6_append_24 : decode cX6_append 24 = .ok (.ireturn, 1) := by decide +kernel
theorem dX6_at_0 : decode cX6_at 0 = .ok (.aload_n 0, 1) := by decide +kernel
theorem dX6_at_1 : decode cX6_at 1 = .ok (.iconst 0, 1) := by decide +kernel
theorem dX6_at_2 : decode cX6_at 2 = .ok (.putfield 70, 3) := by decide +kernel
theorem dX6_at_5 : decode cX6_at 5 = .ok (.aload_n 0, 1) := by decide +kernel
theorem dX6_at_6 : decode cX6_at 6 = .ok (.iload_n 1, 1) := by decide +kernel
theorem dX6_at_7 : decode cX6_at 7 = .ok (.invokevirtual 141, 3) := by decide +kernel
theorem dX6_at_10 : decode cX6_at 10 = .ok (.ifCond .ne 6, 3) := by decide +kernel
theorem dX6_at_13 : decode cX6_at 13 = .ok (.bipush (-2), 2) := by decide +kernel
theorem dX6_at_15 : decode cX6_at 15 = .ok (.ireturn, 1) := by decide +kernel
theorem dX6_at_16 : decode cX6_at 16 = .ok (.aload_n 0, 1) := by decide +kernel
theorem dX6_at_17 : decode cX6_at 17 = .ok (.getfield 17, 3) := by decide +kernel
theorem dX6_at_20 : decode cX6_at 20 = .ok (.ifCond .eq 11, 3) := by decide +kernel
theorem dX6_at_23 : decode cX6_at 23 = .ok (.aload_n 0, 1) := by decide +kernel
theorem dX6_at_24 : decode cX6_at 24 = .ok (.iload_n 1, 1) := by decide +kernel
theorem dX6_at_25 : decode cX6_at 25 = .ok (.invokevirtual 144, 3) := by decide +kernel
theorem dX6_at_28 : decode cX6_at 28 = .ok (.goto 4, 3) := by decide +kernel
theorem dX6_at_31 : decode cX6_at 31 = .ok (.iconst (-1), 1) := by decide +kernel
theorem dX6_at_32 : decode cX6_at 32 = .ok (.istore_n 3, 1) := by decide +kernel
theorem dX6_at_33 : decode cX6_at 33 = .ok (.iload_n 3, 1) := by decide +kernel
theorem dX6_at_34 : decode cX6_at 34 = .ok (.iconst (-1), 1) := by decide +kernel
theorem dX6_at_35 : decode cX6_at 35 = .ok (.if_icmp .ne 6, 3) := by decide +kernel
theorem dX6_at_38 : decode cX6_at 38 = .ok (.bipush (-3), 2) := by decide +kernel
theorem dX6_at_40 : decode cX6_at 40 = .ok (.ireturn, 1) := by decide +kernel
theorem dX6_at_41 : decode cX6_at 41 = .ok (.iload_n 2, 1) := by decide +kernel
theorem dX6_at_42 : decode cX6_at 42 = .ok (.ifCond .lt 12, 3) := by decide +kernel
theorem dX6_at_45 : decode cX6_at 45 = .ok (.iload_n 2, 1) := by decide +kernel
theorem dX6_at_46 : decode cX6_at 46 = .ok (.aload_n 0, 1) := by decide +kernel
theorem dX6_at_47 : decode cX6_at 47 = .ok (.iload_n 3, 1) := by decide +kernel
theorem dX6_at_48 : decode cX6_at 48 = .ok (.invokevirtual 103, 3) := by decide +kernel
theorem dX6_at_51 : decode cX6_at 51 = .ok (.if_icmp .lt 10, 3) := by decide +kernel
theorem dX6_at_54 : decode cX6_at 54 = .ok (.aload_n 0, 1) := by decide +kernel
theorem dX6_at_55 : decode cX6_at 55 = .ok (.iconst 1, 1) := by decide +kernel
theorem dX6_at_56 : decode cX6_at 56 = .ok (.putfield 70, 3) := by decide +kernel
theorem dX6_at_59 : decode cX6_at 59 = .ok (.iconst 0, 1) := by decide +kernel
theorem dX6_at_60 : decode cX6_at 60 = .ok (.ireturn, 1) := by decide +kernel
theorem dX6_at_61 : decode cX6_at 61 = .ok (.aload_n 0, 1) := by decide +kernel
theorem dX6_at_62 : decode cX6_at 62 = .ok (.iload_n 3, 1) := by decide +kernel
theorem dX6_at_63 : decode cX6_at 63 = .ok (.iload_n 2, 1) := by decide +kernel
theorem dX6_at_64 : decode cX6_at 64 = .ok (.bipush 24, 2) := by decide +kernel
theorem dX6_at_66 : decode cX6_at 66 = .ok (.idiv, 1) := by decide +kernel
theorem dX6_at_67 : decode cX6_at 67 = .ok (.invokevirtual 109, 3) := by decide +kernel
theorem dX6_at_70 : decode cX6_at 70 = .ok (.istore 4, 2) := by decide +kernel
theorem dX6_at_72 : decode cX6_at 72 = .ok (.aload_n 0, 1) := by decide +kernel
theorem dX6_at_73 : decode cX6_at 73 = .ok (.iload 4, 2) := by decide +kernel
theorem dX6_at_75 : decode cX6_at 75 = .ok (.invokevirtual 113, 3) := by decide +kernel
theorem dX6_at_78 : decode cX6_at 78 = .ok (.ifCond .eq 23, 3) := by decide +kernel
theorem dX6_at_81 : decode cX6_at 81 = .ok (.aload_n 0, 1) := by decide +kernel
theorem dX6_at_82 : decode cX6_at 82 = .ok (.getfield 7, 3) := by decide +kernel
theorem dX6_at_85 : decode cX6_at 85 = .ok (.bipush 32, 2) := by decide +kernel
theorem dX6_at_87 : decode cX6_at 87 = .ok (.iload 4, 2) := by decide +kernel
theorem dX6_at_89 : decode cX6_at 89 = .ok (.imul, 1) := by decide +kernel
theorem dX6_at_90 : decode cX6_at 90 = .ok (.iconst 4, 1) := by decide +kernel
theorem dX6_at_91 : decode cX6_at 91 = .ok (.iadd, 1) := by decide +kernel
theorem dX6_at_92 : decode cX6_at 92 = .ok (.iload_n 2, 1) := by decide +kernel
theorem dX6_at_93 : decode cX6_at 93 = .ok (.bipush 24, 2) := by decide +kernel
theorem dX6_at_95 : decode cX6_at 95 = .ok (.irem, 1) := by decide +kernel
theorem dX6_at_96 : decode cX6_at 96 = .ok (.iadd, 1) := by decide +kernel
theorem dX6_at_97 : decode cX6_at 97 = .ok (.iaload, 1) := by decide +kernel
theorem dX6_at_98 : decode cX6_at 98 = .ok (.goto 5, 3) := by decide +kernel
theorem dX6_at_101 : decode cX6_at 101 = .ok (.bipush (-5), 2) := by decide +kernel
theorem dX6_at_103 : decode cX6_at 103 = .ok (.ireturn, 1) := by decide +kernel
theorem dX6_cut_0 : decode cX6_cut 0 = .ok (.aload_n 0, 1) := by decide +kernel
theorem dX6_cut_1 : decode cX6_cut 1 = .ok (.iconst 0, 1) := by decide +kernel
theorem dX6_cut_2 : decode cX6_cut 2 = .ok (.putfield 70, 3) := by decide +kernel
theorem dX6_cut_5 : decode cX6_cut 5 = .ok (.iload_n 2, 1) := by decide +kernel
theorem dX6_cut_6 : decode cX6_cut 6 = .ok (.iconst 1, 1) := by decide +kernel
theorem dX6_cut_7 : decode cX6_cut 7 = .ok (.bipush 31, 2) := by decide +kernel
theorem dX6_cut_9 : decode cX6_cut 9 = .ok (.invokestatic 73, 3) := by decide +kernel
theorem dX6_cut_12 : decode cX6_cut 12 = .ok (.ifCond .eq 15, 3) := by decide +kernel
theorem dX6_cut_15 : decode cX6_cut 15 = .ok (.iload_n 1, 1) := by decide +kernel
theorem dX6_cut_16 : decode cX6_cut 16 = .ok (.iconst 0, 1) := by decide +kernel
theorem dX6_cut_17 : decode cX6_cut 17 = .ok (.aload_n 0, 1) := by decide +kernel
theorem dX6_cut_18 : decode cX6_cut 18 = .ok (.getfield 93, 3) := by decide +kernel
theorem dX6_cut_21 : decode cX6_cut 21 = .ok (.invokestatic 73, 3) := by decide +kernel
theorem dX6_cut_24 : decode cX6_cut 24 = .ok (.ifCond .ne 6, 3) := by decide +kernel
theorem dX6_cut_27 : decode cX6_cut 27 = .ok (.bipush (-2), 2) := by decide +kernel
theorem dX6_cut_29 : decode cX6_cut 29 = .ok (.ireturn, 1) := by decide +kernel
theorem dX6_cut_30 : decode cX6_cut 30 = .ok (.aload_n 0, 1) := by decide +kernel
theorem dX6_cut_31 : decode cX6_cut 31 = .ok (.getfield 17, 3) := by decide +kernel
theorem dX6_cut_34 : decode cX6_cut 34 = .ok (.ifCond .ne 6, 3) := by decide +kernel
theorem dX6_cut_37 : decode cX6_cut 37 = .ok (.bipush (-3), 2) := by decide +kernel
theorem dX6_cut_39 : decode cX6_cut 39 = .ok (.ireturn, 1) := by decide +kernel
theorem dX6_cut_40 : decode cX6_cut 40 = .ok (.iload_n 1, 1) := by decide +kernel
theorem dX6_cut_41 : decode cX6_cut 41 = .ok (.aload_n 0, 1) := by decide +kernel
theorem dX6_cut_42 : decode cX6_cut 42 = .ok (.getfield 93, 3) := by decide +kernel
theorem dX6_cut_45 : decode cX6_cut 45 = .ok (.if_icmp .ne 25, 3) := by decide +kernel
theorem dX6_cut_48 : decode cX6_cut 48 = .ok (.aload_n 0, 1) := by decide +kernel
theorem dX6_cut_49 : decode cX6_cut 49 = .ok (.aload_n 0, 1) := by decide +kernel
theorem dX6_cut_50 : decode cX6_cut 50 = .ok (.getfield 153, 3) := by decide +kernel
theorem dX6_cut_53 : decode cX6_cut 53 = .ok (.iconst 1, 1) := by decide +kernel
theorem dX6_cut_54 : decode cX6_cut 54 = .ok (.iadd, 1) := by decide +kernel
theorem dX6_cut_55 : decode cX6_cut 55 = .ok (.invokevirtual 156, 3) := by decide +kernel
theorem dX6_cut_58 : decode cX6_cut 58 = .ok (.aload_n 0, 1) := by decide +kernel
theorem dX6_cut_59 : decode cX6_cut 59 = .ok (.aload_n 0, 1) := by decide +kernel
theorem dX6_cut_60 : decode cX6_cut 60 = .ok (.getfield 153, 3) := by decide +kernel
theorem dX6_cut_63 : decode cX6_cut 63 = .ok (.iconst 1, 1) := by decide +kernel
theorem dX6_cut_64 : decode cX6_cut 64 = .ok (.iadd, 1) := by decide +kernel
theorem dX6_cut_65 : decode cX6_cut 65 = .ok (.iconst 1, 1) := by decide +kernel
theorem dX6_cut_66 : decode cX6_cut 66 = .ok (.iand, 1) := by decide +kernel
theorem dX6_cut_67 : decode cX6_cut 67 = .ok (.invokevirtual 96, 3) := by decide +kernel
theorem dX6_cut_70 : decode cX6_cut 70 = .ok (.aload_n 0, 1) := by decide +kernel
theorem dX6_cut_71 : decode cX6_cut 71 = .ok (.getfield 93, 3) := by decide +kernel
theorem dX6_cut_74 : decode cX6_cut 74 = .ok (.iconst 1, 1) := by decide +kernel
theorem dX6_cut_75 : decode cX6_cut 75 = .ok (.isub, 1) := by decide +kernel
theorem dX6_cut_76 : decode cX6_cut 76 = .ok (.istore_n 3, 1) := by decide +kernel
theorem dX6_cut_77 : decode cX6_cut 77 = .ok (.iload_n 3, 1) := by decide +kernel
theorem dX6_cut_78 : decode cX6_cut 78 = .ok (.iload_n 1, 1) := by decide +kernel
theorem dX6_cut_79 : decode cX6_cut 79 = .ok (.if_icmp .lt 93, 3) := by decide +kernel
theorem dX6_cut_82 : decode cX6_cut 82 = .ok (.aload_n 0, 1) := by decide +kernel
theorem dX6_cut_83 : decode cX6_cut 83 = .ok (.getfield 31, 3) := by decide +kernel
theorem dX6_cut_86 : decode cX6_cut 86 = .ok (.iload_n 3, 1) := by decide +kernel
theorem dX6_cut_87 : decode cX6_cut 87 = .ok (.iaload, 1) := by decide +kernel
theorem dX6_cut_88 : decode cX6_cut 88 = .ok (.istore 4, 2) := by decide +kernel
theorem dX6_cut_90 : decode cX6_cut 90 = .ok (.iload_n 3, 1) := by decide +kernel
theorem dX6_cut_91 : decode cX6_cut 91 = .ok (.iload_n 1, 1) := by decide +kernel
theorem dX6_cut_92 : decode cX6_cut 92 = .ok (.if_icmp .ne 7, 3) := by decide +kernel
theorem dX6_cut_95 : decode cX6_cut 95 = .ok (.iload_n 2, 1) := by decide +kernel
theorem dX6_cut_96 : decode cX6_cut 96 = .ok (.goto 4, 3) := by decide +kernel
theorem dX6_cut_99 : decode cX6_cut 99 = .ok (.iconst 0, 1) := by decide +kernel
theorem dX6_cut_100 : decode cX6_cut 100 = .ok (.istore 5, 2) := by decide +kernel
theorem dX6_cut_102 : decode cX6_cut 102 = .ok (.iload 5, 2) := by decide +kernel
theorem dX6_cut_104 : decode cX6_cut 104 = .ok (.bipush 32, 2) := by decide +kernel
theorem dX6_cut_106 : decode cX6_cut 106 = .ok (.if_icmp .ge 34, 3) := by decide +kernel
theorem dX6_cut_109 : decode cX6_cut 109 = .ok (.aload_n 0, 1) := by decide +kernel
theorem dX6_cut_110 : decode cX6_cut 110 = .ok (.getfield 7, 3) := by decide +kernel
theorem dX6_cut_113 : decode cX6_cut 113 = .ok (.bipush 32, 2) := by decide +kernel
theorem dX6_cut_115 : decode cX6_cut 115 = .ok (.iload 4, 2) := by decide +kernel
theorem dX6_cut_117 : decode cX6_cut 117 = .ok (.imul, 1) := by decide +kernel
theorem dX6_cut_118 : decode cX6_cut 118 = .ok (.iload 5, 2) := by decide +kernel
theorem dX6_cut_120 : decode cX6_cut 120 = .ok (.iadd, 1) := by decide +kernel
theorem dX6_cut_121 : decode cX6_cut 121 = .ok (.aload_n 0, 1) := by decide +kernel
theorem dX6_cut_122 : decode cX6_cut 122 = .ok (.getfield 34, 3) := by decide +kernel
theorem dX6_cut_125 : decode cX6_cut 125 = .ok (.bipush 32, 2) := by decide +kernel
theorem dX6_cut_127 : decode cX6_cut 127 = .ok (.iload_n 3, 1) := by decide +kernel
theorem dX6_cut_128 : decode cX6_cut 128 = .ok (.imul, 1) := by decide +kernel
theorem dX6_cut_129 : decode cX6_cut 129 = .ok (.iload 5, 2) := by decide +kernel
theorem dX6_cut_131 : decode cX6_cut 131 = .ok (.iadd, 1) := by decide +kernel
theorem dX6_cut_132 : decode cX6_cut 132 = .ok (.iaload, 1) := by decide +kernel
theorem dX6_cut_133 : decode cX6_cut 133 = .ok (.iastore, 1) := by decide +kernel
theorem dX6_cut_134 : decode cX6_cut 134 = .ok (.iinc 5 1, 3) := by decide +kernel
theorem dX6_cut_137 : decode cX6_cut 137 = .ok (.goto (-35), 3) := by decide +kernel
theorem dX6_cut_140 : decode cX6_cut 140 = .ok (.aload_n 0, 1) := by decide +kernel
theorem dX6_cut_141 : decode cX6_cut 141 = .ok (.getfield 13, 3) := by decide +kernel
theorem dX6_cut_144 : decode cX6_cut 144 = .ok (.iload 4, 2) := by decide +kernel
theorem dX6_cut_146 : decode cX6_cut 146 = .ok (.iload_n 3, 1) := by decide +kernel
theorem dX6_cut_147 : decode cX6_cut 147 = .ok (.iload_n 1, 1) := by decide +kernel
theorem dX6_cut_148 : decode cX6_cut 148 = .ok (.if_icmp .le 16, 3) := by decide +kernel
theorem dX6_cut_151 : decode cX6_cut 151 = .ok (.aload_n 0, 1) := by decide +kernel
theorem dX6_cut_152 : decode cX6_cut 152 = .ok (.getfield 37, 3) := by decide +kernel
theorem dX6_cut_155 : decode cX6_cut 155 = .ok (.iload_n 3, 1) := by decide +kernel
theorem dX6_cut_156 : decode cX6_cut 156 = .ok (.baload, 1) := by decide +kernel
theorem dX6_cut_157 : decode cX6_cut 157 = .ok (.ifCond .eq 7, 3) := by decide +kernel
theorem dX6_cut_160 : decode cX6_cut 160 = .ok (.iconst 1, 1) := by decide +kernel
theorem dX6_cut_161 : decode cX6_cut 161 = .ok (.goto 4, 3) := by decide +kernel
theorem dX6_cut_164 : decode cX6_cut 164 = .ok (.iconst 0, 1) := by decide +kernel
theorem dX6_cut_165 : decode cX6_cut 165 = .ok (.bastore, 1) := by decide +kernel
theorem dX6_cut_166 : decode cX6_cut 166 = .ok (.iinc 3 (-1), 3) := by decide +kernel
theorem dX6_cut_169 : decode cX6_cut 169 = .ok (.goto (-92), 3) := by decide +kernel
theorem dX6_cut_172 : decode cX6_cut 172 = .ok (.aload_n 0, 1) := by decide +kernel
theorem dX6_cut_173 : decode cX6_cut 173 = .ok (.iconst 0, 1) := by decide +kernel
theorem dX6_cut_174 : decode cX6_cut 174 = .ok (.putfield 93, 3) := by decide +kernel
theorem dX6_cut_177 : decode cX6_cut 177 = .ok (.aload_n 0, 1) := by decide +kernel
theorem dX6_cut_178 : decode cX6_cut 178 = .ok (.iconst (-1), 1) := by decide +kernel
theorem dX6_cut_179 : decode cX6_cut 179 = .ok (.putfield 25, 3) := by decide +kernel
theorem dX6_cut_182 : decode cX6_cut 182 = .ok (.aload_n 0, 1) := by decide +kernel
theorem dX6_cut_183 : decode cX6_cut 183 = .ok (.iconst 0, 1) := by decide +kernel
theorem dX6_cut_184 : decode cX6_cut 184 = .ok (.putfield 17, 3) := by decide +kernel
theorem dX6_cut_187 : decode cX6_cut 187 = .ok (.iconst 1, 1) := by decide +kernel
theorem dX6_cut_188 : decode cX6_cut 188 = .ok (.ireturn, 1) := by decide +kernel
theorem dX6_fill_0 : decode cX6_fill 0 = .ok (.aload_n 0, 1) := by decide +kernel
theorem dX6_fill_1 : decode cX6_fill 1 = .ok (.iconst 2, 1) := by decide +kernel
theorem dX6_fill_2 : decode cX6_fill 2 = .ok (.iconst 0, 1) := by decide +kernel
theorem dX6_fill_3 : decode cX6_fill 3 = .ok (.iconst 0, 1) := by decide +kernel
theorem dX6_fill_4 : decode cX6_fill 4 = .ok (.iconst 0, 1) := by decide +kernel
theorem dX6_fill_5 : decode cX6_fill 5 = .ok (.invokevirtual 121, 3) := by decide +kernel
theorem dX6_fill_8 : decode cX6_fill 8 = .ok (.iconst 0, 1) := by decide +kernel
theorem dX6_fill_9 : decode cX6_fill 9 = .ok (.istore_n 3, 1) := by decide +kernel
theorem dX6_fill_10 : decode cX6_fill 10 = .ok (.iload_n 3, 1) := by decide +kernel
theorem dX6_fill_11 : decode cX6_fill 11 = .ok (.bipush 24, 2) := by decide +kernel
theorem dX6_fill_13 : decode cX6_fill 13 = .ok (.if_icmp .ge 20, 3) := by decide +kernel
theorem dX6_fill_16 : decode cX6_fill 16 = .ok (.aload_n 0, 1) := by decide +kernel
theorem dX6_fill_17 : decode cX6_fill 17 = .ok (.getfield 40, 3) := by decide +kernel
theorem dX6_fill_20 : decode cX6_fill 20 = .ok (.iconst 4, 1) := by decide +kernel
theorem dX6_fill_21 : decode cX6_fill 21 = .ok (.iload_n 3, 1) := by decide +kernel
theorem dX6_fill_22 : decode cX6_fill 22 = .ok (.iadd, 1) := by decide +kernel
theorem dX6_fill_23 : decode cX6_fill 23 = .ok (.aload_n 2, 1) := by decide +kernel
theorem dX6_fill_24 : decode cX6_fill 24 = .ok (.iload_n 3, 1) := by decide +kernel
theorem dX6_fill_25 : decode cX6_fill 25 = .ok (.iaload, 1) := by decide +kernel
theorem dX6_fill_26 : decode cX6_fill 26 = .ok (.iastore, 1) := by decide +kernel
theorem dX6_fill_27 : decode cX6_fill 27 = .ok (.iinc 3 1, 3) := by decide +kernel
theorem dX6_fill_30 : decode cX6_fill 30 = .ok (.goto (-20), 3) := by decide +kernel
theorem dX6_fill_33 : decode cX6_fill 33 = .ok (.aload_n 0, 1) := by decide +kernel
theorem dX6_fill_34 : decode cX6_fill 34 = .ok (.iconst 0, 1) := by decide +kernel
theorem dX6_fill_35 : decode cX6_fill 35 = .ok (.putfield 93, 3) := by decide +kernel
theorem dX6_fill_38 : decode cX6_fill 38 = .ok (.aload_n 0, 1) := by decide +kernel
theorem dX6_fill_39 : decode cX6_fill 39 = .ok (.iload_n 1, 1) := by decide +kernel
theorem dX6_fill_40 : decode cX6_fill 40 = .ok (.invokevirtual 96, 3) := by decide +kernel
theorem dX6_fill_43 : decode cX6_fill 43 = .ok (.aload_n 0, 1) := by decide +kernel
theorem dX6_fill_44 : decode cX6_fill 44 = .ok (.dup, 1) := by decide +kernel
theorem dX6_fill_45 : decode cX6_fill 45 = .ok (.getfield 165, 3) := by decide +kernel
theorem dX6_fill_48 : decode cX6_fill 48 = .ok (.iconst 1, 1) := by decide +kernel
theorem dX6_fill_49 : decode cX6_fill 49 = .ok (.iadd, 1) := by decide +kernel
theorem dX6_fill_50 : decode cX6_fill 50 = .ok (.putfield 165, 3) := by decide +kernel
theorem dX6_fill_53 : decode cX6_fill 53 = .ok (.return_, 1) := by decide +kernel
theorem dX6_findRest_0 : decode cX6_findRest 0 = .ok (.iconst 0, 1) := by decide +kernel
theorem dX6_findRest_1 : decode cX6_findRest 1 = .ok (.istore 5, 2) := by decide +kernel
theorem dX6_findRest_3 : decode cX6_findRest 3 = .ok (.iload 5, 2) := by decide +kernel
theorem dX6_findRest_5 : decode cX6_findRest 5 = .ok (.bipush 24, 2) := by decide +kernel
theorem dX6_findRest_7 : decode cX6_findRest 7 = .ok (.if_icmp .ge 103, 3) := by decide +kernel
theorem dX6_findRest_10 : decode cX6_findRest 10 = .ok (.aload_n 0, 1) := by decide +kernel
theorem dX6_findRest_11 : decode cX6_findRest 11 = .ok (.getfield 7, 3) := by decide +kernel
theorem dX6_findRest_14 : decode cX6_findRest 14 = .ok (.bipush 32, 2) := by decide +kernel
theorem dX6_findRest_16 : decode cX6_findRest 16 = .ok (.iload_n 2, 1) := by decide +kernel
theorem dX6_findRest_17 : decode cX6_findRest 17 = .ok (.imul, 1) := by decide +kernel
theorem dX6_findRest_18 : decode cX6_findRest 18 = .ok (.iconst 4, 1) := by decide +kernel
theorem dX6_findRest_19 : decode cX6_findRest 19 = .ok (.iadd, 1) := by decide +kernel
theorem dX6_findRest_20 : decode cX6_findRest 20 = .ok (.iload 5, 2) := by decide +kernel
theorem dX6_findRest_22 : decode cX6_findRest 22 = .ok (.iadd, 1) := by decide +kernel
theorem dX6_findRest_23 : decode cX6_findRest 23 = .ok (.iaload, 1) := by decide +kernel
theorem dX6_findRest_24 : decode cX6_findRest 24 = .ok (.istore 6, 2) := by decide +kernel
theorem dX6_findRest_26 : decode cX6_findRest 26 = .ok (.iconst 0, 1) := by decide +kernel
theorem dX6_findRest_27 : decode cX6_findRest 27 = .ok (.istore 7, 2) := by decide +kernel
theorem dX6_findRest_29 : decode cX6_findRest 29 = .ok (.iload 7, 2) := by decide +kernel
theorem dX6_findRest_31 : decode cX6_findRest 31 = .ok (.aload_n 0, 1) := by decide +kernel
theorem dX6_findRest_32 : decode cX6_findRest 32 = .ok (.iload_n 1, 1) := by decide +kernel
theorem dX6_findRest_33 : decode cX6_findRest 33 = .ok (.invokevirtual 106, 3) := by decide +kernel
theorem dX6_findRest_36 : decode cX6_findRest 36 = .ok (.if_icmp .ge 61, 3) := by decide +kernel
theorem dX6_findRest_39 : decode cX6_findRest 39 = .ok (.aload_n 0, 1) := by decide +kernel
theorem dX6_findRest_40 : decode cX6_findRest 40 = .ok (.iload_n 1, 1) := by decide +kernel
theorem dX6_findRest_41 : decode cX6_findRest 41 = .ok (.iload 7, 2) := by decide +kernel
theorem dX6_findRest_43 : decode cX6_findRest 43 = .ok (.invokevirtual 109, 3) := by decide +kernel
theorem dX6_findRest_46 : decode cX6_findRest 46 = .ok (.istore 8, 2) := by decide +kernel
theorem dX6_findRest_48 : decode cX6_findRest 48 = .ok (.aload_n 0, 1) := by decide +kernel
theorem dX6_findRest_49 : decode cX6_findRest 49 = .ok (.iload 8, 2) := by decide +kernel
theorem dX6_findRest_51 : decode cX6_findRest 51 = .ok (.invokevirtual 113, 3) := by decide +kernel
theorem dX6_findRest_54 : decode cX6_findRest 54 = .ok (.ifCond .eq 33, 3) := by decide +kernel
theorem dX6_findRest_57 : decode cX6_findRest 57 = .ok (.iload 6, 2) := by decide +kernel
theorem dX6_findRest_59 : decode cX6_findRest 59 = .ok (.aload_n 0, 1) := by decide +kernel
theorem dX6_findRest_60 : decode cX6_findRest 60 = .ok (.getfield 7, 3) := by decide +kernel
theorem dX6_findRest_63 : decode cX6_findRest 63 = .ok (.bipush 32, 2) := by decide +kernel
theorem dX6_findRest_65 : decode cX6_findRest 65 = .ok (.iload 8, 2) := by decide +kernel
theorem dX6_findRest_67 : decode cX6_findRest 67 = .ok (.imul, 1) := by decide +kernel
theorem dX6_findRest_68 : decode cX6_findRest 68 = .ok (.iconst 4, 1) := by decide +kernel
theorem dX6_findRest_69 : decode cX6_findRest 69 = .ok (.iadd, 1) := by decide +kernel
theorem dX6_findRest_70 : decode cX6_findRest 70 = .ok (.iload 5, 2) := by decide +kernel
theorem dX6_findRest_72 : decode cX6_findRest 72 = .ok (.iadd, 1) := by decide +kernel
theorem dX6_findRest_73 : decode cX6_findRest 73 = .ok (.iaload, 1) := by decide +kernel
theorem dX6_findRest_74 : decode cX6_findRest 74 = .ok (.iload_n 3, 1) := by decide +kernel
theorem dX6_findRest_75 : decode cX6_findRest 75 = .ok (.iload 7, 2) := by decide +kernel
theorem dX6_findRest_77 : decode cX6_findRest 77 = .ok (.invokestatic 150, 3) := by decide +kernel
theorem dX6_findRest_80 : decode cX6_findRest 80 = .ok (.invokestatic 138, 3) := by decide +kernel
theorem dX6_findRest_83 : decode cX6_findRest 83 = .ok (.ixor, 1) := by decide +kernel
theorem dX6_findRest_84 : decode cX6_findRest 84 = .ok (.goto 5, 3) := by decide +kernel
theorem dX6_findRest_87 : decode cX6_findRest 87 = .ok (.iload 6, 2) := by decide +kernel
theorem dX6_findRest_89 : decode cX6_findRest 89 = .ok (.istore 6, 2) := by decide +kernel
theorem dX6_findRest_91 : decode cX6_findRest 91 = .ok (.iinc 7 1, 3) := by decide +kernel
theorem dX6_findRest_94 : decode cX6_findRest 94 = .ok (.goto (-65), 3) := by decide +kernel
theorem dX6_findRest_97 : decode cX6_findRest 97 = .ok (.aload 4, 2) := by decide +kernel
theorem dX6_findRest_99 : decode cX6_findRest 99 = .ok (.iload 5, 2) := by decide +kernel
theorem dX6_findRest_101 : decode cX6_findRest 101 = .ok (.iload 6, 2) := by decide +kernel
theorem dX6_findRest_103 : decode cX6_findRest 103 = .ok (.iastore, 1) := by decide +kernel
theorem dX6_findRest_104 : decode cX6_findRest 104 = .ok (.iinc 5 1, 3) := by decide +kernel
theorem dX6_findRest_107 : decode cX6_findRest 107 = .ok (.goto (-104), 3) := by decide +kernel
theorem dX6_findRest_110 : decode cX6_findRest 110 = .ok (.return_, 1) := by decide +kernel
theorem dX6_findUnknown_0 : decode cX6_findUnknown 0 = .ok (.aload_n 0, 1) := by decide +kernel
theorem dX6_findUnknown_1 : decode cX6_findUnknown 1 = .ok (.iconst 0, 1) := by decide +kernel
theorem dX6_findUnknown_2 : decode cX6_findUnknown 2 = .ok (.putfield 172, 3) := by decide +kernel
theorem dX6_findUnknown_5 : decode cX6_findUnknown 5 = .ok (.iconst 1, 1) := by decide +kernel
theorem dX6_findUnknown_6 : decode cX6_findUnknown 6 = .ok (.istore_n 2, 1) := by decide +kernel
theorem dX6_findUnknown_7 : decode cX6_findUnknown 7 = .ok (.iconst 0, 1) := by decide +kernel
theorem dX6_findUnknown_8 : decode cX6_findUnknown 8 = .ok (.istore_n 3, 1) := by decide +kernel
theorem dX6_findUnknown_9 : decode cX6_findUnknown 9 = .ok (.iload_n 3, 1) := by decide +kernel
theorem dX6_findUnknown_10 : decode cX6_findUnknown 10 = .ok (.aload_n 0, 1) := by decide +kernel
theorem dX6_findUnknown_11 : decode cX6_findUnknown 11 = .ok (.iload_n 1, 1) := by decide +kernel
theorem dX6_findUnknown_12 : decode cX6_findUnknown 12 = .ok (.invokevirtual 106, 3) := by decide +kernel
theorem dX6_findUnknown_15 : decode cX6_findUnknown 15 = .ok (.if_icmp .ge 158, 3) := by decide +kernel
theorem dX6_findUnknown_18 : decode cX6_findUnknown 18 = .ok (.aload_n 0, 1) := by decide +kernel
theorem dX6_findUnknown_19 : decode cX6_findUnknown 19 = .ok (.iload_n 1, 1) := by decide +kernel
theorem dX6_findUnknown_20 : decode cX6_findUnknown 20 = .ok (.iload_n 3, 1) := by decide +kernel
theorem dX6_findUnknown_21 : decode cX6_findUnknown 21 = .ok (.invokevirtual 109, 3) := by decide +kernel
theorem dX6_findUnknown_24 : decode cX6_findUnknown 24 = .ok (.istore 4, 2) := by decide +kernel
theorem dX6_findUnknown_26 : decode cX6_findUnknown 26 = .ok (.aload_n 0, 1) := by decide +kernel
theorem dX6_findUnknown_27 : decode cX6_findUnknown 27 = .ok (.iload 4, 2) := by decide +kernel
theorem dX6_findUnknown_29 : decode cX6_findUnknown 29 = .ok (.invokevirtual 113, 3) := by decide +kernel
theorem dX6_findUnknown_32 : decode cX6_findUnknown 32 = .ok (.ifCond .eq 6, 3) := by decide +kernel
theorem dX6_findUnknown_35 : decode cX6_findUnknown 35 = .ok (.goto 132, 3) := by decide +kernel
theorem dX6_findUnknown_38 : decode cX6_findUnknown 38 = .ok (.iload_n 2, 1) := by decide +kernel
theorem dX6_findUnknown_39 : decode cX6_findUnknown 39 = .ok (.ifCond .eq 16, 3) := by decide +kernel
theorem dX6_findUnknown_42 : decode cX6_findUnknown 42 = .ok (.aload_n 0, 1) := by decide +kernel
theorem dX6_findUnknown_43 : decode cX6_findUnknown 43 = .ok (.iload 4, 2) := by decide +kernel
theorem dX6_findUnknown_45 : decode cX6_findUnknown 45 = .ok (.invokevirtual 82, 3) := by decide +kernel
theorem dX6_findUnknown_48 : decode cX6_findUnknown 48 = .ok (.ifCond .eq 7, 3) := by decide +kernel
theorem dX6_findUnknown_51 : decode cX6_findUnknown 51 = .ok (.iconst 1, 1) := by decide +kernel
theorem dX6_findUnknown_52 : decode cX6_findUnknown 52 = .ok (.goto 4, 3) := by decide +kernel
theorem dX6_findUnknown_55 : decode cX6_findUnknown 55 = .ok (.iconst 0, 1) := by decide +kernel
theorem dX6_findUnknown_56 : decode cX6_findUnknown 56 = .ok (.istore_n 2, 1) := by decide +kernel
theorem dX6_findUnknown_57 : decode cX6_findUnknown 57 = .ok (.iconst 0, 1) := by decide +kernel
theorem dX6_findUnknown_58 : decode cX6_findUnknown 58 = .ok (.istore 5, 2) := by decide +kernel
theorem dX6_findUnknown_60 : decode cX6_findUnknown 60 = .ok (.iload 5, 2) := by decide +kernel
theorem dX6_findUnknown_62 : decode cX6_findUnknown 62 = .ok (.aload_n 0, 1) := by decide +kernel
theorem dX6_findUnknown_63 : decode cX6_findUnknown 63 = .ok (.getfield 172, 3) := by decide +kernel
theorem dX6_findUnknown_66 : decode cX6_findUnknown 66 = .ok (.if_icmp .ge 21, 3) := by decide +kernel
theorem dX6_findUnknown_69 : decode cX6_findUnknown 69 = .ok (.aload_n 0, 1) := by decide +kernel
theorem dX6_findUnknown_70 : decode cX6_findUnknown 70 = .ok (.getfield 46, 3) := by decide +kernel
theorem dX6_findUnknown_73 : decode cX6_findUnknown 73 = .ok (.iload 5, 2) := by decide +kernel
theorem dX6_findUnknown_75 : decode cX6_findUnknown 75 = .ok (.iaload, 1) := by decide +kernel
theorem dX6_findUnknown_76 : decode cX6_findUnknown 76 = .ok (.iload 4, 2) := by decide +kernel
theorem dX6_findUnknown_78 : decode cX6_findUnknown 78 = .ok (.if_icmp .eq 9, 3) := by decide +kernel
theorem dX6_findUnknown_81 : decode cX6_findUnknown 81 = .ok (.iinc 5 1, 3) := by decide +kernel
theorem dX6_findUnknown_84 : decode cX6_findUnknown 84 = .ok (.goto (-24), 3) := by decide +kernel
theorem dX6_findUnknown_87 : decode cX6_findUnknown 87 = .ok (.iload 5, 2) := by decide +kernel
theorem dX6_findUnknown_89 : decode cX6_findUnknown 89 = .ok (.aload_n 0, 1) := by decide +kernel
theorem dX6_findUnknown_90 : decode cX6_findUnknown 90 = .ok (.getfield 172, 3) := by decide +kernel
theorem dX6_findUnknown_93 : decode cX6_findUnknown 93 = .ok (.if_icmp .ne 38, 3) := by decide +kernel
theorem dX6_findUnknown_96 : decode cX6_findUnknown 96 = .ok (.aload_n 0, 1) := by decide +kernel
theorem dX6_findUnknown_97 : decode cX6_findUnknown 97 = .ok (.getfield 46, 3) := by decide +kernel
theorem dX6_findUnknown_100 : decode cX6_findUnknown 100 = .ok (.iload 5, 2) := by decide +kernel
theorem dX6_findUnknown_102 : decode cX6_findUnknown 102 = .ok (.iload 4, 2) := by decide +kernel
theorem dX6_findUnknown_104 : decode cX6_findUnknown 104 = .ok (.iastore, 1) := by decide +kernel
theorem dX6_findUnknown_105 : decode cX6_findUnknown 105 = .ok (.aload_n 0, 1) := by decide +kernel
theorem dX6_findUnknown_106 : decode cX6_findUnknown 106 = .ok (.getfield 49, 3) := by decide +kernel
theorem dX6_findUnknown_109 : decode cX6_findUnknown 109 = .ok (.iload 5, 2) := by decide +kernel
theorem dX6_findUnknown_111 : decode cX6_findUnknown 111 = .ok (.iconst 0, 1) := by decide +kernel
theorem dX6_findUnknown_112 : decode cX6_findUnknown 112 = .ok (.iastore, 1) := by decide +kernel
theorem dX6_findUnknown_113 : decode cX6_findUnknown 113 = .ok (.aload_n 0, 1) := by decide +kernel
theorem dX6_findUnknown_114 : decode cX6_findUnknown 114 = .ok (.getfield 52, 3) := by decide +kernel
theorem dX6_findUnknown_117 : decode cX6_findUnknown 117 = .ok (.iload 5, 2) := by decide +kernel
theorem dX6_findUnknown_119 : decode cX6_findUnknown 119 = .ok (.iconst 0, 1) := by decide +kernel
theorem dX6_findUnknown_120 : decode cX6_findUnknown 120 = .ok (.iastore, 1) := by decide +kernel
theorem dX6_findUnknown_121 : decode cX6_findUnknown 121 = .ok (.aload_n 0, 1) := by decide +kernel
theorem dX6_findUnknown_122 : decode cX6_findUnknown 122 = .ok (.dup, 1) := by decide +kernel
theorem dX6_findUnknown_123 : decode cX6_findUnknown 123 = .ok (.getfield 172, 3) := by decide +kernel
theorem dX6_findUnknown_126 : decode cX6_findUnknown 126 = .ok (.iconst 1, 1) := by decide +kernel
theorem dX6_findUnknown_127 : decode cX6_findUnknown 127 = .ok (.iadd, 1) := by decide +kernel
theorem dX6_findUnknown_128 : decode cX6_findUnknown 128 = .ok (.putfield 172, 3) := by decide +kernel
theorem dX6_findUnknown_131 : decode cX6_findUnknown 131 = .ok (.aload_n 0, 1) := by decide +kernel
theorem dX6_findUnknown_132 : decode cX6_findUnknown 132 = .ok (.getfield 49, 3) := by decide +kernel
theorem dX6_findUnknown_135 : decode cX6_findUnknown 135 = .ok (.iload 5, 2) := by decide +kernel
theorem dX6_findUnknown_137 : decode cX6_findUnknown 137 = .ok (.aload_n 0, 1) := by decide +kernel
theorem dX6_findUnknown_138 : decode cX6_findUnknown 138 = .ok (.getfield 49, 3) := by decide +kernel
theorem dX6_findUnknown_141 : decode cX6_findUnknown 141 = .ok (.iload 5, 2) := by decide +kernel
theorem dX6_findUnknown_143 : decode cX6_findUnknown 143 = .ok (.iaload, 1) := by decide +kernel
theorem dX6_findUnknown_144 : decode cX6_findUnknown 144 = .ok (.iconst 1, 1) := by decide +kernel
theorem dX6_findUnknown_145 : decode cX6_findUnknown 145 = .ok (.ixor, 1) := by decide +kernel
theorem dX6_findUnknown_146 : decode cX6_findUnknown 146 = .ok (.iastore, 1) := by decide +kernel
theorem dX6_findUnknown_147 : decode cX6_findUnknown 147 = .ok (.aload_n 0, 1) := by decide +kernel
theorem dX6_findUnknown_148 : decode cX6_findUnknown 148 = .ok (.getfield 52, 3) := by decide +kernel
theorem dX6_findUnknown_151 : decode cX6_findUnknown 151 = .ok (.iload 5, 2) := by decide +kernel
theorem dX6_findUnknown_153 : decode cX6_findUnknown 153 = .ok (.aload_n 0, 1) := by decide +kernel
theorem dX6_findUnknown_154 : decode cX6_findUnknown 154 = .ok (.getfield 52, 3) := by decide +kernel
theorem dX6_findUnknown_157 : decode cX6_findUnknown 157 = .ok (.iload 5, 2) := by decide +kernel
theorem dX6_findUnknown_159 : decode cX6_findUnknown 159 = .ok (.iaload, 1) := by decide +kernel
theorem dX6_findUnknown_160 : decode cX6_findUnknown 160 = .ok (.iconst 1, 1) := by decide +kernel
theorem dX6_findUnknown_161 : decode cX6_findUnknown 161 = .ok (.iload_n 3, 1) := by decide +kernel
theorem dX6_findUnknown_162 : decode cX6_findUnknown 162 = .ok (.invokestatic 150, 3) := by decide +kernel
theorem dX6_findUnknown_165 : decode cX6_findUnknown 165 = .ok (.ixor, 1) := by decide +kernel
theorem dX6_findUnknown_166 : decode cX6_findUnknown 166 = .ok (.iastore, 1) := by decide +kernel
theorem dX6_findUnknown_167 : decode cX6_findUnknown 167 = .ok (.iinc 3 1, 3) := by decide +kernel
theorem dX6_findUnknown_170 : decode cX6_findUnknown 170 = .ok (.goto (-161), 3) := by decide +kernel
theorem dX6_findUnknown_173 : decode cX6_findUnknown 173 = .ok (.iload_n 2, 1) := by decide +kernel
theorem dX6_findUnknown_174 : decode cX6_findUnknown 174 = .ok (.ireturn, 1) := by decide +kernel
theorem dX6_isOne_0 : decode cX6_isOne 0 = .ok (.iload_n 1, 1) := by decide +kernel
theorem dX6_isOne_1 : decode cX6_isOne 1 = .ok (.ifCond .eq 16, 3) := by decide +kernel
theorem dX6_isOne_4 : decode cX6_isOne 4 = .ok (.aload_n 0, 1) := by decide +kernel
theorem dX6_isOne_5 : decode cX6_isOne 5 = .ok (.getfield 49, 3) := by decide +kernel
theorem dX6_isOne_8 : decode cX6_isOne 8 = .ok (.iconst 0, 1) := by decide +kernel
theorem dX6_isOne_9 : decode cX6_isOne 9 = .ok (.iaload, 1) := by decide +kernel
theorem dX6_isOne_10 : decode cX6_isOne 10 = .ok (.ifCond .eq 7, 3) := by decide +kernel
theorem dX6_isOne_13 : decode cX6_isOne 13 = .ok (.iconst 1, 1) := by decide +kernel
theorem dX6_isOne_14 : decode cX6_isOne 14 = .ok (.goto 4, 3) := by decide +kernel
theorem dX6_isOne_17 : decode cX6_isOne 17 = .ok (.iconst 0, 1) := by decide +kernel
theorem dX6_isOne_18 : decode cX6_isOne 18 = .ok (.istore_n 3, 1) := by decide +kernel
theorem dX6_isOne_19 : decode cX6_isOne 19 = .ok (.iload_n 2, 1) := by decide +kernel
theorem dX6_isOne_20 : decode cX6_isOne 20 = .ok (.ifCond .eq 16, 3) := by decide +kernel
theorem dX6_isOne_23 : decode cX6_isOne 23 = .ok (.aload_n 0, 1) := by decide +kernel
theorem dX6_isOne_24 : decode cX6_isOne 24 = .ok (.getfield 52, 3) := by decide +kernel
theorem dX6_isOne_27 : decode cX6_isOne 27 = .ok (.iconst 0, 1) := by decide +kernel
theorem dX6_isOne_28 : decode cX6_isOne 28 = .ok (.iaload, 1) := by decide +kernel
theorem dX6_isOne_29 : decode cX6_isOne 29 = .ok (.ifCond .eq 7, 3) := by decide +kernel
theorem dX6_isOne_32 : decode cX6_isOne 32 = .ok (.iconst 1, 1) := by decide +kernel
theorem dX6_isOne_33 : decode cX6_isOne 33 = .ok (.goto 4, 3) := by decide +kernel
theorem dX6_isOne_36 : decode cX6_isOne 36 = .ok (.iconst 0, 1) := by decide +kernel
theorem dX6_isOne_37 : decode cX6_isOne 37 = .ok (.istore 4, 2) := by decide +kernel
theorem dX6_isOne_39 : decode cX6_isOne 39 = .ok (.iload_n 3, 1) := by decide +kernel
theorem dX6_isOne_40 : decode cX6_isOne 40 = .ok (.ifCond .ne 8, 3) := by decide +kernel
theorem dX6_isOne_43 : decode cX6_isOne 43 = .ok (.iload 4, 2) := by decide +kernel
theorem dX6_isOne_45 : decode cX6_isOne 45 = .ok (.ifCond .eq 7, 3) := by decide +kernel
theorem dX6_isOne_48 : decode cX6_isOne 48 = .ok (.iconst 1, 1) := by decide +kernel
theorem dX6_isOne_49 : decode cX6_isOne 49 = .ok (.goto 4, 3) := by decide +kernel
theorem dX6_isOne_52 : decode cX6_isOne 52 = .ok (.iconst 0, 1) := by decide +kernel
theorem dX6_isOne_53 : decode cX6_isOne 53 = .ok (.istore 5, 2) := by decide +kernel
theorem dX6_isOne_55 : decode cX6_isOne 55 = .ok (.iconst 0, 1) := by decide +kernel
theorem dX6_isOne_56 : decode cX6_isOne 56 = .ok (.istore 6, 2) := by decide +kernel
theorem dX6_isOne_58 : decode cX6_isOne 58 = .ok (.iload 6, 2) := by decide +kernel
theorem dX6_isOne_60 : decode cX6_isOne 60 = .ok (.bipush 24, 2) := by decide +kernel
theorem dX6_isOne_62 : decode cX6_isOne 62 = .ok (.if_icmp .ge 118, 3) := by decide +kernel
theorem dX6_isOne_65 : decode cX6_isOne 65 = .ok (.iload 5, 2) := by decide +kernel
theorem dX6_isOne_67 : decode cX6_isOne 67 = .ok (.ifCond .eq 113, 3) := by decide +kernel
theorem dX6_isOne_70 : decode cX6_isOne 70 = .ok (.aload_n 0, 1) := by decide +kernel
theorem dX6_isOne_71 : decode cX6_isOne 71 = .ok (.getfield 61, 3) := by decide +kernel
theorem dX6_isOne_74 : decode cX6_isOne 74 = .ok (.iload 6, 2) := by decide +kernel
theorem dX6_isOne_76 : decode cX6_isOne 76 = .ok (.iload_n 3, 1) := by decide +kernel
theorem dX6_isOne_77 : decode cX6_isOne 77 = .ok (.ifCond .eq 13, 3) := by decide +kernel
theorem dX6_isOne_80 : decode cX6_isOne 80 = .ok (.aload_n 0, 1) := by decide +kernel
theorem dX6_isOne_81 : decode cX6_isOne 81 = .ok (.getfield 55, 3) := by decide +kernel
theorem dX6_isOne_84 : decode cX6_isOne 84 = .ok (.iload 6, 2) := by decide +kernel
theorem dX6_isOne_86 : decode cX6_isOne 86 = .ok (.iaload, 1) := by decide +kernel
theorem dX6_isOne_87 : decode cX6_isOne 87 = .ok (.goto 19, 3) := by decide +kernel
theorem dX6_isOne_90 : decode cX6_isOne 90 = .ok (.aload_n 0, 1) := by decide +kernel
theorem dX6_isOne_91 : decode cX6_isOne 91 = .ok (.getfield 58, 3) := by decide +kernel
theorem dX6_isOne_94 : decode cX6_isOne 94 = .ok (.iload 6, 2) := by decide +kernel
theorem dX6_isOne_96 : decode cX6_isOne 96 = .ok (.iaload, 1) := by decide +kernel
theorem dX6_isOne_97 : decode cX6_isOne 97 = .ok (.aload_n 0, 1) := by decide +kernel
theorem dX6_isOne_98 : decode cX6_isOne 98 = .ok (.getfield 52, 3) := by decide +kernel
theorem dX6_isOne_101 : decode cX6_isOne 101 = .ok (.iconst 0, 1) := by decide +kernel
theorem dX6_isOne_102 : decode cX6_isOne 102 = .ok (.iaload, 1) := by decide +kernel
theorem dX6_isOne_103 : decode cX6_isOne 103 = .ok (.invokestatic 175, 3) := by decide +kernel
theorem dX6_isOne_106 : decode cX6_isOne 106 = .ok (.iastore, 1) := by decide +kernel
theorem dX6_isOne_107 : decode cX6_isOne 107 = .ok (.iload_n 1, 1) := by decide +kernel
theorem dX6_isOne_108 : decode cX6_isOne 108 = .ok (.ifCond .eq 29, 3) := by decide +kernel
theorem dX6_isOne_111 : decode cX6_isOne 111 = .ok (.aload_n 0, 1) := by decide +kernel
theorem dX6_isOne_112 : decode cX6_isOne 112 = .ok (.getfield 61, 3) := by decide +kernel
theorem dX6_isOne_115 : decode cX6_isOne 115 = .ok (.iload 6, 2) := by decide +kernel
theorem dX6_isOne_117 : decode cX6_isOne 117 = .ok (.iaload, 1) := by decide +kernel
theorem dX6_isOne_118 : decode cX6_isOne 118 = .ok (.aload_n 0, 1) := by decide +kernel
theorem dX6_isOne_119 : decode cX6_isOne 119 = .ok (.getfield 49, 3) := by decide +kernel
theorem dX6_isOne_122 : decode cX6_isOne 122 = .ok (.iconst 0, 1) := by decide +kernel
theorem dX6_isOne_123 : decode cX6_isOne 123 = .ok (.iaload, 1) := by decide +kernel
theorem dX6_isOne_124 : decode cX6_isOne 124 = .ok (.invokestatic 138, 3) := by decide +kernel
theorem dX6_isOne_127 : decode cX6_isOne 127 = .ok (.aload_n 0, 1) := by decide +kernel
theorem dX6_isOne_128 : decode cX6_isOne 128 = .ok (.getfield 55, 3) := by decide +kernel
theorem dX6_isOne_131 : decode cX6_isOne 131 = .ok (.iload 6, 2) := by decide +kernel
theorem dX6_isOne_133 : decode cX6_isOne 133 = .ok (.iaload, 1) := by decide +kernel
theorem dX6_isOne_134 : decode cX6_isOne 134 = .ok (.if_icmp .ne 37, 3) := by decide +kernel
theorem dX6_isOne_137 : decode cX6_isOne 137 = .ok (.iload_n 2, 1) := by decide +kernel
theorem dX6_isOne_138 : decode cX6_isOne 138 = .ok (.ifCond .eq 29, 3) := by decide +kernel
theorem dX6_isOne_141 : decode cX6_isOne 141 = .ok (.aload_n 0, 1) := by decide +kernel
theorem dX6_isOne_142 : decode cX6_isOne 142 = .ok (.getfield 61, 3) := by decide +kernel
theorem dX6_isOne_145 : decode cX6_isOne 145 = .ok (.iload 6, 2) := by decide +kernel
theorem dX6_isOne_147 : decode cX6_isOne 147 = .ok (.iaload, 1) := by decide +kernel
theorem dX6_isOne_148 : decode cX6_isOne 148 = .ok (.aload_n 0, 1) := by decide +kernel
theorem dX6_isOne_149 : decode cX6_isOne 149 = .ok (.getfield 52, 3) := by decide +kernel
theorem dX6_isOne_152 : decode cX6_isOne 152 = .ok (.iconst 0, 1) := by decide +kernel
theorem dX6_isOne_153 : decode cX6_isOne 153 = .ok (.iaload, 1) := by decide +kernel
theorem dX6_isOne_154 : decode cX6_isOne 154 = .ok (.invokestatic 138, 3) := by decide +kernel
theorem dX6_isOne_157 : decode cX6_isOne 157 = .ok (.aload_n 0, 1) := by decide +kernel
theorem dX6_isOne_158 : decode cX6_isOne 158 = .ok (.getfield 58, 3) := by decide +kernel
theorem dX6_isOne_161 : decode cX6_isOne 161 = .ok (.iload 6, 2) := by decide +kernel
theorem dX6_isOne_163 : decode cX6_isOne 163 = .ok (.iaload, 1) := by decide +kernel
theorem dX6_isOne_164 : decode cX6_isOne 164 = .ok (.if_icmp .ne 7, 3) := by decide +kernel
theorem dX6_isOne_167 : decode cX6_isOne 167 = .ok (.iconst 1, 1) := by decide +kernel
theorem dX6_isOne_168 : decode cX6_isOne 168 = .ok (.goto 4, 3) := by decide +kernel
theorem dX6_isOne_171 : decode cX6_isOne 171 = .ok (.iconst 0, 1) := by decide +kernel
theorem dX6_isOne_172 : decode cX6_isOne 172 = .ok (.istore 5, 2) := by decide +kernel
theorem dX6_isOne_174 : decode cX6_isOne 174 = .ok (.iinc 6 1, 3) := by decide +kernel
theorem dX6_isOne_177 : decode cX6_isOne 177 = .ok (.goto (-119), 3) := by decide +kernel
theorem dX6_isOne_180 : decode cX6_isOne 180 = .ok (.iload 5, 2) := by decide +kernel
theorem dX6_isOne_182 : decode cX6_isOne 182 = .ok (.ireturn, 1) := by decide +kernel
theorem dX6_isTwo_0 : decode cX6_isTwo 0 = .ok (.aload_n 0, 1) := by decide +kernel
theorem dX6_isTwo_1 : decode cX6_isTwo 1 = .ok (.getfield 49, 3) := by decide +kernel
theorem dX6_isTwo_4 : decode cX6_isTwo 4 = .ok (.iconst 0, 1) := by decide +kernel
theorem dX6_isTwo_5 : decode cX6_isTwo 5 = .ok (.iaload, 1) := by decide +kernel
theorem dX6_isTwo_6 : decode cX6_isTwo 6 = .ok (.aload_n 0, 1) := by decide +kernel
theorem dX6_isTwo_7 : decode cX6_isTwo 7 = .ok (.getfield 52, 3) := by decide +kernel
theorem dX6_isTwo_10 : decode cX6_isTwo 10 = .ok (.iconst 1, 1) := by decide +kernel
theorem dX6_isTwo_11 : decode cX6_isTwo 11 = .ok (.iaload, 1) := by decide +kernel
theorem dX6_isTwo_12 : decode cX6_isTwo 12 = .ok (.invokestatic 138, 3) := by decide +kernel
theorem dX6_isTwo_15 : decode cX6_isTwo 15 = .ok (.aload_n 0, 1) := by decide +kernel
theorem dX6_isTwo_16 : decode cX6_isTwo 16 = .ok (.getfield 49, 3) := by decide +kernel
theorem dX6_isTwo_19 : decode cX6_isTwo 19 = .ok (.iconst 1, 1) := by decide +kernel
theorem dX6_isTwo_20 : decode cX6_isTwo 20 = .ok (.iaload, 1) := by decide +kernel
theorem dX6_isTwo_21 : decode cX6_isTwo 21 = .ok (.aload_n 0, 1) := by decide +kernel
theorem dX6_isTwo_22 : decode cX6_isTwo 22 = .ok (.getfield 52, 3) := by decide +kernel
theorem dX6_isTwo_25 : decode cX6_isTwo 25 = .ok (.iconst 0, 1) := by decide +kernel
theorem dX6_isTwo_26 : decode cX6_isTwo 26 = .ok (.iaload, 1) := by decide +kernel
theorem dX6_isTwo_27 : decode cX6_isTwo 27 = .ok (.invokestatic 138, 3) := by decide +kernel
theorem dX6_isTwo_30 : decode cX6_isTwo 30 = .ok (.ixor, 1) := by decide +kernel
theorem dX6_isTwo_31 : decode cX6_isTwo 31 = .ok (.istore_n 2, 1) := by decide +kernel
theorem dX6_isTwo_32 : decode cX6_isTwo 32 = .ok (.iconst 0, 1) := by decide +kernel
theorem dX6_isTwo_33 : decode cX6_isTwo 33 = .ok (.istore_n 3, 1) := by decide +kernel
theorem dX6_isTwo_34 : decode cX6_isTwo 34 = .ok (.iload_n 3, 1) := by decide +kernel
theorem dX6_isTwo_35 : decode cX6_isTwo 35 = .ok (.bipush 24, 2) := by decide +kernel
theorem dX6_isTwo_37 : decode cX6_isTwo 37 = .ok (.if_icmp .ge 99, 3) := by decide +kernel
theorem dX6_isTwo_40 : decode cX6_isTwo 40 = .ok (.iload_n 1, 1) := by decide +kernel
theorem dX6_isTwo_41 : decode cX6_isTwo 41 = .ok (.ifCond .eq 95, 3) := by decide +kernel
theorem dX6_isTwo_44 : decode cX6_isTwo 44 = .ok (.iload_n 2, 1) := by decide +kernel
theorem dX6_isTwo_45 : decode cX6_isTwo 45 = .ok (.ifCond .eq 91, 3) := by decide +kernel
theorem dX6_isTwo_48 : decode cX6_isTwo 48 = .ok (.aload_n 0, 1) := by decide +kernel
theorem dX6_isTwo_49 : decode cX6_isTwo 49 = .ok (.getfield 61, 3) := by decide +kernel
theorem dX6_isTwo_52 : decode cX6_isTwo 52 = .ok (.iload_n 3, 1) := by decide +kernel
theorem dX6_isTwo_53 : decode cX6_isTwo 53 = .ok (.aload_n 0, 1) := by decide +kernel
theorem dX6_isTwo_54 : decode cX6_isTwo 54 = .ok (.getfield 55, 3) := by decide +kernel
theorem dX6_isTwo_57 : decode cX6_isTwo 57 = .ok (.iload_n 3, 1) := by decide +kernel
theorem dX6_isTwo_58 : decode cX6_isTwo 58 = .ok (.iaload, 1) := by decide +kernel
theorem dX6_isTwo_59 : decode cX6_isTwo 59 = .ok (.aload_n 0, 1) := by decide +kernel
theorem dX6_isTwo_60 : decode cX6_isTwo 60 = .ok (.getfield 52, 3) := by decide +kernel
theorem dX6_isTwo_63 : decode cX6_isTwo 63 = .ok (.iconst 1, 1) := by decide +kernel
theorem dX6_isTwo_64 : decode cX6_isTwo 64 = .ok (.iaload, 1) := by decide +kernel
theorem dX6_isTwo_65 : decode cX6_isTwo 65 = .ok (.invokestatic 138, 3) := by decide +kernel
theorem dX6_isTwo_68 : decode cX6_isTwo 68 = .ok (.aload_n 0, 1) := by decide +kernel
theorem dX6_isTwo_69 : decode cX6_isTwo 69 = .ok (.getfield 58, 3) := by decide +kernel
theorem dX6_isTwo_72 : decode cX6_isTwo 72 = .ok (.iload_n 3, 1) := by decide +kernel
theorem dX6_isTwo_73 : decode cX6_isTwo 73 = .ok (.iaload, 1) := by decide +kernel
theorem dX6_isTwo_74 : decode cX6_isTwo 74 = .ok (.aload_n 0, 1) := by decide +kernel
theorem dX6_isTwo_75 : decode cX6_isTwo 75 = .ok (.getfield 49, 3) := by decide +kernel
theorem dX6_isTwo_78 : decode cX6_isTwo 78 = .ok (.iconst 1, 1) := by decide +kernel
theorem dX6_isTwo_79 : decode cX6_isTwo 79 = .ok (.iaload, 1) := by decide +kernel
theorem dX6_isTwo_80 : decode cX6_isTwo 80 = .ok (.invokestatic 138, 3) := by decide +kernel
theorem dX6_isTwo_83 : decode cX6_isTwo 83 = .ok (.ixor, 1) := by decide +kernel
theorem dX6_isTwo_84 : decode cX6_isTwo 84 = .ok (.iload_n 2, 1) := by decide +kernel
theorem dX6_isTwo_85 : decode cX6_isTwo 85 = .ok (.invokestatic 175, 3) := by decide +kernel
theorem dX6_isTwo_88 : decode cX6_isTwo 88 = .ok (.iastore, 1) := by decide +kernel
theorem dX6_isTwo_89 : decode cX6_isTwo 89 = .ok (.aload_n 0, 1) := by decide +kernel
theorem dX6_isTwo_90 : decode cX6_isTwo 90 = .ok (.getfield 64, 3) := by decide +kernel
theorem dX6_isTwo_93 : decode cX6_isTwo 93 = .ok (.iload_n 3, 1) := by decide +kernel
theorem dX6_isTwo_94 : decode cX6_isTwo 94 = .ok (.aload_n 0, 1) := by decide +kernel
theorem dX6_isTwo_95 : decode cX6_isTwo 95 = .ok (.getfield 58, 3) := by decide +kernel
theorem dX6_isTwo_98 : decode cX6_isTwo 98 = .ok (.iload_n 3, 1) := by decide +kernel
theorem dX6_isTwo_99 : decode cX6_isTwo 99 = .ok (.iaload, 1) := by decide +kernel
theorem dX6_isTwo_100 : decode cX6_isTwo 100 = .ok (.aload_n 0, 1) := by decide +kernel
theorem dX6_isTwo_101 : decode cX6_isTwo 101 = .ok (.getfield 49, 3) := by decide +kernel
theorem dX6_isTwo_104 : decode cX6_isTwo 104 = .ok (.iconst 0, 1) := by decide +kernel
theorem dX6_isTwo_105 : decode cX6_isTwo 105 = .ok (.iaload, 1) := by decide +kernel
theorem dX6_isTwo_106 : decode cX6_isTwo 106 = .ok (.invokestatic 138, 3) := by decide +kernel
theorem dX6_isTwo_109 : decode cX6_isTwo 109 = .ok (.aload_n 0, 1) := by decide +kernel
theorem dX6_isTwo_110 : decode cX6_isTwo 110 = .ok (.getfield 55, 3) := by decide +kernel
theorem dX6_isTwo_113 : decode cX6_isTwo 113 = .ok (.iload_n 3, 1) := by decide +kernel
theorem dX6_isTwo_114 : decode cX6_isTwo 114 = .ok (.iaload, 1) := by decide +kernel
theorem dX6_isTwo_115 : decode cX6_isTwo 115 = .ok (.aload_n 0, 1) := by decide +kernel
theorem dX6_isTwo_116 : decode cX6_isTwo 116 = .ok (.getfield 52, 3) := by decide +kernel
theorem dX6_isTwo_119 : decode cX6_isTwo 119 = .ok (.iconst 0, 1) := by decide +kernel
theorem dX6_isTwo_120 : decode cX6_isTwo 120 = .ok (.iaload, 1) := by decide +kernel
theorem dX6_isTwo_121 : decode cX6_isTwo 121 = .ok (.invokestatic 138, 3) := by decide +kernel
theorem dX6_isTwo_124 : decode cX6_isTwo 124 = .ok (.ixor, 1) := by decide +kernel
theorem dX6_isTwo_125 : decode cX6_isTwo 125 = .ok (.iload_n 2, 1) := by decide +kernel
theorem dX6_isTwo_126 : decode cX6_isTwo 126 = .ok (.invokestatic 175, 3) := by decide +kernel
theorem dX6_isTwo_129 : decode cX6_isTwo 129 = .ok (.iastore, 1) := by decide +kernel
theorem dX6_isTwo_130 : decode cX6_isTwo 130 = .ok (.iinc 3 1, 3) := by decide +kernel
theorem dX6_isTwo_133 : decode cX6_isTwo 133 = .ok (.goto (-99), 3) := by decide +kernel
theorem dX6_isTwo_136 : decode cX6_isTwo 136 = .ok (.iload_n 1, 1) := by decide +kernel
theorem dX6_isTwo_137 : decode cX6_isTwo 137 = .ok (.ifCond .eq 11, 3) := by decide +kernel
theorem dX6_isTwo_140 : decode cX6_isTwo 140 = .ok (.iload_n 2, 1) := by decide +kernel
theorem dX6_isTwo_141 : decode cX6_isTwo 141 = .ok (.ifCond .eq 7, 3) := by decide +kernel
theorem dX6_isTwo_144 : decode cX6_isTwo 144 = .ok (.iconst 1, 1) := by decide +kernel
theorem dX6_isTwo_145 : decode cX6_isTwo 145 = .ok (.goto 4, 3) := by decide +kernel
theorem dX6_isTwo_148 : decode cX6_isTwo 148 = .ok (.iconst 0, 1) := by decide +kernel
theorem dX6_isTwo_149 : decode cX6_isTwo 149 = .ok (.ireturn, 1) := by decide +kernel
