theorem dX2_filling_0 : decode cX2_filling 0 = .ok (.iload_n 1, 1) := by decide +kernel
theorem dX2_filling_1 : decode cX2_filling 1 = .ok (.ifCond .lt 22, 3) := by decide +kernel
theorem dX2_filling_4 : decode cX2_filling 4 = .ok (.iload_n 1, 1) := by decide +kernel
theorem dX2_filling_5 : decode cX2_filling 5 = .ok (.iconst 2, 1) := by decide +kernel
theorem dX2_filling_6 : decode cX2_filling 6 = .ok (.if_icmp .ge 17, 3) := by decide +kernel
theorem dX2_filling_9 : decode cX2_filling 9 = .ok (.iload_n 2, 1) := by decide +kernel
theorem dX2_filling_10 : decode cX2_filling 10 = .ok (.ifCond .lt 13, 3) := by decide +kernel
theorem dX2_filling_13 : decode cX2_filling 13 = .ok (.iload_n 2, 1) := by decide +kernel
theorem dX2_filling_14 : decode cX2_filling 14 = .ok (.bipush 24, 2) := by decide +kernel
theorem dX2_filling_16 : decode cX2_filling 16 = .ok (.if_icmp .ge 7, 3) := by decide +kernel
theorem dX2_filling_19 : decode cX2_filling 19 = .ok (.iconst 1, 1) := by decide +kernel
theorem dX2_filling_20 : decode cX2_filling 20 = .ok (.goto 4, 3) := by decide +kernel
theorem dX2_filling_23 : decode cX2_filling 23 = .ok (.iconst 0, 1) := by decide +kernel
theorem dX2_filling_24 : decode cX2_filling 24 = .ok (.istore_n 3, 1) := by decide +kernel
theorem dX2_filling_25 : decode cX2_filling 25 = .ok (.iload_n 3, 1) := by decide +kernel
theorem dX2_filling_26 : decode cX2_filling 26 = .ok (.ifCond .eq 17, 3) := by decide +kernel
theorem dX2_filling_29 : decode cX2_filling 29 = .ok (.aload_n 0, 1) := by decide +kernel
theorem dX2_filling_30 : decode cX2_filling 30 = .ok (.getfield 21, 3) := by decide +kernel
theorem dX2_filling_33 : decode cX2_filling 33 = .ok (.iload_n 1, 1) := by decide +kernel
theorem dX2_filling_34 : decode cX2_filling 34 = .ok (.bipush 24, 2) := by decide +kernel
theorem dX2_filling_36 : decode cX2_filling 36 = .ok (.imul, 1) := by decide +kernel
theorem dX2_filling_37 : decode cX2_filling 37 = .ok (.iload_n 2, 1) := by decide +kernel
theorem dX2_filling_38 : decode cX2_filling 38 = .ok (.iadd, 1) := by decide +kernel
theorem dX2_filling_39 : decode cX2_filling 39 = .ok (.iaload, 1) := by decide +kernel
theorem dX2_filling_40 : decode cX2_filling 40 = .ok (.goto 4, 3) := by decide +kernel
theorem dX2_filling_43 : decode cX2_filling 43 = .ok (.iconst 0, 1) := by decide +kernel
theorem dX2_filling_44 : decode cX2_filling 44 = .ok (.ireturn, 1) := by decide +kernel
theorem dX2_init_0 : decode cX2_init 0 = .ok (.aload_n 0, 1) := by decide +kernel
theorem dX2_init_1 : decode cX2_init 1 = .ok (.invokespecial 3, 3) := by decide +kernel
theorem dX2_init_4 : decode cX2_init 4 = .ok (.aload_n 0, 1) := by decide +kernel
theorem dX2_init_5 : decode cX2_init 5 = .ok (.iconst 4, 1) := by decide +kernel
theorem dX2_init_6 : decode cX2_init 6 = .ok (.newarray .int, 2) := by decide +kernel
theorem dX2_init_8 : decode cX2_init 8 = .ok (.putfield 9, 3) := by decide +kernel
theorem dX2_init_11 : decode cX2_init 11 = .ok (.aload_n 0, 1) := by decide +kernel
theorem dX2_init_12 : decode cX2_init 12 = .ok (.iconst 4, 1) := by decide +kernel
theorem dX2_init_13 : decode cX2_init 13 = .ok (.newarray .int, 2) := by decide +kernel
theorem dX2_init_15 : decode cX2_init 15 = .ok (.putfield 15, 3) := by decide +kernel
theorem dX2_init_18 : decode cX2_init 18 = .ok (.aload_n 0, 1) := by decide +kernel
theorem dX2_init_19 : decode cX2_init 19 = .ok (.iconst 4, 1) := by decide +kernel
theorem dX2_init_20 : decode cX2_init 20 = .ok (.newarray .int, 2) := by decide +kernel
theorem dX2_init_22 : decode cX2_init 22 = .ok (.putfield 18, 3) := by decide +kernel
theorem dX2_init_25 : decode cX2_init 25 = .ok (.aload_n 0, 1) := by decide +kernel
theorem dX2_init_26 : decode cX2_init 26 = .ok (.bipush 48, 2) := by decide +kernel
theorem dX2_init_28 : decode cX2_init 28 = .ok (.newarray .int, 2) := by decide +kernel
theorem dX2_init_30 : decode cX2_init 30 = .ok (.putfield 21, 3) := by decide +kernel
theorem dX2_init_33 : decode cX2_init 33 = .ok (.return_, 1) := by decide +kernel
theorem dX2_note_0 : decode cX2_note 0 = .ok (.iconst 0, 1) := by decide +kernel
theorem dX2_note_1 : decode cX2_note 1 = .ok (.istore_n 3, 1) := by decide +kernel
theorem dX2_note_2 : decode cX2_note 2 = .ok (.iload_n 3, 1) := by decide +kernel
theorem dX2_note_3 : decode cX2_note 3 = .ok (.aload_n 0, 1) := by decide +kernel
theorem dX2_note_4 : decode cX2_note 4 = .ok (.getfield 24, 3) := by decide +kernel
theorem dX2_note_7 : decode cX2_note 7 = .ok (.if_icmp .ge 24, 3) := by decide +kernel
theorem dX2_note_10 : decode cX2_note 10 = .ok (.iload_n 3, 1) := by decide +kernel
theorem dX2_note_11 : decode cX2_note 11 = .ok (.iconst 4, 1) := by decide +kernel
theorem dX2_note_12 : decode cX2_note 12 = .ok (.if_icmp .ge 19, 3) := by decide +kernel
theorem dX2_note_15 : decode cX2_note 15 = .ok (.aload_n 0, 1) := by decide +kernel
theorem dX2_note_16 : decode cX2_note 16 = .ok (.getfield 9, 3) := by decide +kernel
theorem dX2_note_19 : decode cX2_note 19 = .ok (.iload_n 3, 1) := by decide +kernel
theorem dX2_note_20 : decode cX2_note 20 = .ok (.iaload, 1) := by decide +kernel
theorem dX2_note_21 : decode cX2_note 21 = .ok (.iload_n 1, 1) := by decide +kernel
theorem dX2_note_22 : decode cX2_note 22 = .ok (.if_icmp .eq 9, 3) := by decide +kernel
theorem dX2_note_25 : decode cX2_note 25 = .ok (.iinc 3 1, 3) := by decide +kernel
theorem dX2_note_28 : decode cX2_note 28 = .ok (.goto (-26), 3) := by decide +kernel
theorem dX2_note_31 : decode cX2_note 31 = .ok (.iload_n 3, 1) := by decide +kernel
theorem dX2_note_32 : decode cX2_note 32 = .ok (.iconst 4, 1) := by decide +kernel
theorem dX2_note_33 : decode cX2_note 33 = .ok (.if_icmp .lt 4, 3) := by decide +kernel
theorem dX2_note_36 : decode cX2_note 36 = .ok (.return_, 1) := by decide +kernel
theorem dX2_note_37 : decode cX2_note 37 = .ok (.iload_n 3, 1) := by decide +kernel
theorem dX2_note_38 : decode cX2_note 38 = .ok (.aload_n 0, 1) := by decide +kernel
theorem dX2_note_39 : decode cX2_note 39 = .ok (.getfield 24, 3) := by decide +kernel
theorem dX2_note_42 : decode cX2_note 42 = .ok (.if_icmp .ne 20, 3) := by decide +kernel
theorem dX2_note_45 : decode cX2_note 45 = .ok (.aload_n 0, 1) := by decide +kernel
theorem dX2_note_46 : decode cX2_note 46 = .ok (.getfield 9, 3) := by decide +kernel
theorem dX2_note_49 : decode cX2_note 49 = .ok (.iload_n 3, 1) := by decide +kernel
theorem dX2_note_50 : decode cX2_note 50 = .ok (.iload_n 1, 1) := by decide +kernel
theorem dX2_note_51 : decode cX2_note 51 = .ok (.iastore, 1) := by decide +kernel
theorem dX2_note_52 : decode cX2_note 52 = .ok (.aload_n 0, 1) := by decide +kernel
theorem dX2_note_53 : decode cX2_note 53 = .ok (.dup, 1) := by decide +kernel
theorem dX2_note_54 : decode cX2_note 54 = .ok (.getfield 24, 3) := by decide +kernel
theorem dX2_note_57 : decode cX2_note 57 = .ok (.iconst 1, 1) := by decide +kernel
theorem dX2_note_58 : decode cX2_note 58 = .ok (.iadd, 1) := by decide +kernel
theorem dX2_note_59 : decode cX2_note 59 = .ok (.putfield 24, 3) := by decide +kernel
theorem dX2_note_62 : decode cX2_note 62 = .ok (.aload_n 0, 1) := by decide +kernel
theorem dX2_note_63 : decode cX2_note 63 = .ok (.getfield 15, 3) := by decide +kernel
theorem dX2_note_66 : decode cX2_note 66 = .ok (.iload_n 3, 1) := by decide +kernel
theorem dX2_note_67 : decode cX2_note 67 = .ok (.dup2, 1) := by decide +kernel
theorem dX2_note_68 : decode cX2_note 68 = .ok (.iaload, 1) := by decide +kernel
theorem dX2_note_69 : decode cX2_note 69 = .ok (.iconst 1, 1) := by decide +kernel
theorem dX2_note_70 : decode cX2_note 70 = .ok (.ixor, 1) := by decide +kernel
theorem dX2_note_71 : decode cX2_note 71 = .ok (.iastore, 1) := by decide +kernel
theorem dX2_note_72 : decode cX2_note 72 = .ok (.aload_n 0, 1) := by decide +kernel
theorem dX2_note_73 : decode cX2_note 73 = .ok (.getfield 18, 3) := by decide +kernel
theorem dX2_note_76 : decode cX2_note 76 = .ok (.iload_n 3, 1) := by decide +kernel
theorem dX2_note_77 : decode cX2_note 77 = .ok (.dup2, 1) := by decide +kernel
theorem dX2_note_78 : decode cX2_note 78 = .ok (.iaload, 1) := by decide +kernel
theorem dX2_note_79 : decode cX2_note 79 = .ok (.iload_n 2, 1) := by decide +kernel
theorem dX2_note_80 : decode cX2_note 80 = .ok (.ixor, 1) := by decide +kernel
theorem dX2_note_81 : decode cX2_note 81 = .ok (.iastore, 1) := by decide +kernel
theorem dX2_note_82 : decode cX2_note 82 = .ok (.return_, 1) := by decide +kernel
theorem dX2_sectorOf_0 : decode cX2_sectorOf 0 = .ok (.iload_n 1, 1) := by decide +kernel
theorem dX2_sectorOf_1 : decode cX2_sectorOf 1 = .ok (.ifCond .lt 25, 3) := by decide +kernel
theorem dX2_sectorOf_4 : decode cX2_sectorOf 4 = .ok (.iload_n 1, 1) := by decide +kernel
theorem dX2_sectorOf_5 : decode cX2_sectorOf 5 = .ok (.aload_n 0, 1) := by decide +kernel
theorem dX2_sectorOf_6 : decode cX2_sectorOf 6 = .ok (.getfield 24, 3) := by decide +kernel
theorem dX2_sectorOf_9 : decode cX2_sectorOf 9 = .ok (.if_icmp .ge 17, 3) := by decide +kernel
theorem dX2_sectorOf_12 : decode cX2_sectorOf 12 = .ok (.iload_n 1, 1) := by decide +kernel
theorem dX2_sectorOf_13 : decode cX2_sectorOf 13 = .ok (.iconst 4, 1) := by decide +kernel
theorem dX2_sectorOf_14 : decode cX2_sectorOf 14 = .ok (.if_icmp .ge 12, 3) := by decide +kernel
theorem dX2_sectorOf_17 : decode cX2_sectorOf 17 = .ok (.aload_n 0, 1) := by decide +kernel
theorem dX2_sectorOf_18 : decode cX2_sectorOf 18 = .ok (.getfield 9, 3) := by decide +kernel
theorem dX2_sectorOf_21 : decode cX2_sectorOf 21 = .ok (.iload_n 1, 1) := by decide +kernel
theorem dX2_sectorOf_22 : decode cX2_sectorOf 22 = .ok (.iaload, 1) := by decide +kernel
theorem dX2_sectorOf_23 : decode cX2_sectorOf 23 = .ok (.goto 4, 3) := by decide +kernel
theorem dX2_sectorOf_26 : decode cX2_sectorOf 26 = .ok (.iconst (-1), 1) := by decide +kernel
theorem dX2_sectorOf_27 : decode cX2_sectorOf 27 = .ok (.ireturn, 1) := by decide +kernel
theorem dX2_size_0 : decode cX2_size 0 = .ok (.aload_n 0, 1) := by decide +kernel
theorem dX2_size_1 : decode cX2_size 1 = .ok (.getfield 24, 3) := by decide +kernel
theorem dX2_size_4 : decode cX2_size 4 = .ok (.ireturn, 1) := by decide +kernel
theorem dX2_clear_0 : decode cX2_clear 0 = .ok (.aload_n 0, 1) := by decide +kernel
theorem dX2_clear_1 : decode cX2_clear 1 = .ok (.iconst 0, 1) := by decide +kernel
theorem dX2_clear_2 : decode cX2_clear 2 = .ok (.putfield 24, 3) := by decide +kernel
theorem dX2_clear_5 : decode cX2_clear 5 = .ok (.aload_n 0, 1) := by decide +kernel
theorem dX2_clear_6 : decode cX2_clear 6 = .ok (.getfield 15, 3) := by decide +kernel
theorem dX2_clear_9 : decode cX2_clear 9 = .ok (.iconst 0, 1) := by decide +kernel
theorem dX2_clear_10 : decode cX2_clear 10 = .ok (.invokestatic 28, 3) := by decide +kernel
theorem dX2_clear_13 : decode cX2_clear 13 = .ok (.aload_n 0, 1) := by decide +kernel
theorem dX2_clear_14 : decode cX2_clear 14 = .ok (.getfield 18, 3) := by decide +kernel
theorem dX2_clear_17 : decode cX2_clear 17 = .ok (.iconst 0, 1) := by decide +kernel
theorem dX2_clear_18 : decode cX2_clear 18 = .ok (.invokestatic 28, 3) := by decide +kernel
theorem dX2_clear_21 : decode cX2_clear 21 = .ok (.return_, 1) := by decide +kernel
theorem dX2_solve_0 : decode cX2_solve 0 = .ok (.iload_n 1, 1) := by decide +kernel
theorem dX2_solve_1 : decode cX2_solve 1 = .ok (.ifCond .lt 9, 3) := by decide +kernel
theorem dX2_solve_4 : decode cX2_solve 4 = .ok (.iload_n 1, 1) := by decide +kernel
theorem dX2_solve_5 : decode cX2_solve 5 = .ok (.bipush 24, 2) := by decide +kernel
theorem dX2_solve_7 : decode cX2_solve 7 = .ok (.if_icmp .lt 5, 3) := by decide +kernel
theorem dX2_solve_10 : decode cX2_solve 10 = .ok (.iconst 0, 1) := by decide +kernel
theorem dX2_solve_11 : decode cX2_solve 11 = .ok (.ireturn, 1) := by decide +kernel
theorem dX2_solve_12 : decode cX2_solve 12 = .ok (.aload_n 0, 1) := by decide +kernel
theorem dX2_solve_13 : decode cX2_solve 13 = .ok (.getfield 24, 3) := by decide +kernel
theorem dX2_solve_16 : decode cX2_solve 16 = .ok (.iconst 2, 1) := by decide +kernel
theorem dX2_solve_17 : decode cX2_solve 17 = .ok (.if_icmp .ne 84, 3) := by decide +kernel
theorem dX2_solve_20 : decode cX2_solve 20 = .ok (.iload_n 2, 1) := by decide +kernel
theorem dX2_solve_21 : decode cX2_solve 21 = .ok (.aload_n 0, 1) := by decide +kernel
theorem dX2_solve_22 : decode cX2_solve 22 = .ok (.getfield 18, 3) := by decide +kernel
theorem dX2_solve_25 : decode cX2_solve 25 = .ok (.iconst 1, 1) := by decide +kernel
theorem dX2_solve_26 : decode cX2_solve 26 = .ok (.iaload, 1) := by decide +kernel
theorem dX2_solve_27 : decode cX2_solve 27 = .ok (.invokestatic 34, 3) := by decide +kernel
theorem dX2_solve_30 : decode cX2_solve 30 = .ok (.iload_n 3, 1) := by decide +kernel
theorem dX2_solve_31 : decode cX2_solve 31 = .ok (.aload_n 0, 1) := by decide +kernel
theorem dX2_solve_32 : decode cX2_solve 32 = .ok (.getfield 15, 3) := by decide +kernel
theorem dX2_solve_35 : decode cX2_solve 35 = .ok (.iconst 1, 1) := by decide +kernel
theorem dX2_solve_36 : decode cX2_solve 36 = .ok (.iaload, 1) := by decide +kernel
theorem dX2_solve_37 : decode cX2_solve 37 = .ok (.invokestatic 34, 3) := by decide +kernel
theorem dX2_solve_40 : decode cX2_solve 40 = .ok (.ixor, 1) := by decide +kernel
theorem dX2_solve_41 : decode cX2_solve 41 = .ok (.istore 4, 2) := by decide +kernel
theorem dX2_solve_43 : decode cX2_solve 43 = .ok (.iload_n 3, 1) := by decide +kernel
theorem dX2_solve_44 : decode cX2_solve 44 = .ok (.aload_n 0, 1) := by decide +kernel
theorem dX2_solve_45 : decode cX2_solve 45 = .ok (.getfield 15, 3) := by decide +kernel
theorem dX2_solve_48 : decode cX2_solve 48 = .ok (.iconst 0, 1) := by decide +kernel
theorem dX2_solve_49 : decode cX2_solve 49 = .ok (.iaload, 1) := by decide +kernel
theorem dX2_solve_50 : decode cX2_solve 50 = .ok (.invokestatic 34, 3) := by decide +kernel
theorem dX2_solve_53 : decode cX2_solve 53 = .ok (.iload_n 2, 1) := by decide +kernel
theorem dX2_solve_54 : decode cX2_solve 54 = .ok (.aload_n 0, 1) := by decide +kernel
theorem dX2_solve_55 : decode cX2_solve 55 = .ok (.getfield 18, 3) := by decide +kernel
theorem dX2_solve_58 : decode cX2_solve 58 = .ok (.iconst 0, 1) := by decide +kernel
theorem dX2_solve_59 : decode cX2_solve 59 = .ok (.iaload, 1) := by decide +kernel
theorem dX2_solve_60 : decode cX2_solve 60 = .ok (.invokestatic 34, 3) := by decide +kernel
theorem dX2_solve_63 : decode cX2_solve 63 = .ok (.ixor, 1) := by decide +kernel
theorem dX2_solve_64 : decode cX2_solve 64 = .ok (.istore 5, 2) := by decide +kernel
theorem dX2_solve_66 : decode cX2_solve 66 = .ok (.aload_n 0, 1) := by decide +kernel
theorem dX2_solve_67 : decode cX2_solve 67 = .ok (.getfield 21, 3) := by decide +kernel
theorem dX2_solve_70 : decode cX2_solve 70 = .ok (.iload_n 1, 1) := by decide +kernel
theorem dX2_solve_71 : decode cX2_solve 71 = .ok (.iload 4, 2) := by decide +kernel
theorem dX2_solve_73 : decode cX2_solve 73 = .ok (.aload_n 0, 1) := by decide +kernel
theorem dX2_solve_74 : decode cX2_solve 74 = .ok (.getfield 44, 3) := by decide +kernel
theorem dX2_solve_77 : decode cX2_solve 77 = .ok (.invokestatic 34, 3) := by decide +kernel
theorem dX2_solve_80 : decode cX2_solve 80 = .ok (.iastore, 1) := by decide +kernel
theorem dX2_solve_81 : decode cX2_solve 81 = .ok (.aload_n 0, 1) := by decide +kernel
theorem dX2_solve_82 : decode cX2_solve 82 = .ok (.getfield 21, 3) := by decide +kernel
theorem dX2_solve_85 : decode cX2_solve 85 = .ok (.bipush 24, 2) := by decide +kernel
theorem dX2_solve_87 : decode cX2_solve 87 = .ok (.iload_n 1, 1) := by decide +kernel
theorem dX2_solve_88 : decode cX2_solve 88 = .ok (.iadd, 1) := by decide +kernel
theorem dX2_solve_89 : decode cX2_solve 89 = .ok (.iload 5, 2) := by decide +kernel
theorem dX2_solve_91 : decode cX2_solve 91 = .ok (.aload_n 0, 1) := by decide +kernel
theorem dX2_solve_92 : decode cX2_solve 92 = .ok (.getfield 44, 3) := by decide +kernel
theorem dX2_solve_95 : decode cX2_solve 95 = .ok (.invokestatic 34, 3) := by decide +kernel
theorem dX2_solve_98 : decode cX2_solve 98 = .ok (.iastore, 1) := by decide +kernel
theorem dX2_solve_99 : decode cX2_solve 99 = .ok (.iconst 1, 1) := by decide +kernel
theorem dX2_solve_100 : decode cX2_solve 100 = .ok (.ireturn, 1) := by decide +kernel
theorem dX2_solve_101 : decode cX2_solve 101 = .ok (.aload_n 0, 1) := by decide +kernel
theorem dX2_solve_102 : decode cX2_solve 102 = .ok (.getfield 15, 3) := by decide +kernel
theorem dX2_solve_105 : decode cX2_solve 105 = .ok (.iconst 0, 1) := by decide +kernel
theorem dX2_solve_106 : decode cX2_solve 106 = .ok (.iaload, 1) := by decide +kernel
theorem dX2_solve_107 : decode cX2_solve 107 = .ok (.ifCond .eq 7, 3) := by decide +kernel
theorem dX2_solve_110 : decode cX2_solve 110 = .ok (.iload_n 2, 1) := by decide +kernel
theorem dX2_solve_111 : decode cX2_solve 111 = .ok (.goto 4, 3) := by decide +kernel
theorem dX2_solve_114 : decode cX2_solve 114 = .ok (.iload_n 3, 1) := by decide +kernel
theorem dX2_solve_115 : decode cX2_solve 115 = .ok (.aload_n 0, 1) := by decide +kernel
theorem dX2_solve_116 : decode cX2_solve 116 = .ok (.getfield 44, 3) := by decide +kernel
theorem dX2_solve_119 : decode cX2_solve 119 = .ok (.invokestatic 34, 3) := by decide +kernel
theorem dX2_solve_122 : decode cX2_solve 122 = .ok (.istore 4, 2) := by decide +kernel
theorem dX2_solve_124 : decode cX2_solve 124 = .ok (.aload_n 0, 1) := by decide +kernel
theorem dX2_solve_125 : decode cX2_solve 125 = .ok (.getfield 21, 3) := by decide +kernel
theorem dX2_solve_128 : decode cX2_solve 128 = .ok (.iload_n 1, 1) := by decide +kernel
theorem dX2_solve_129 : decode cX2_solve 129 = .ok (.iload 4, 2) := by decide +kernel
theorem dX2_solve_131 : decode cX2_solve 131 = .ok (.iastore, 1) := by decide +kernel
theorem dX2_solve_132 : decode cX2_solve 132 = .ok (.aload_n 0, 1) := by decide +kernel
theorem dX2_solve_133 : decode cX2_solve 133 = .ok (.getfield 15, 3) := by decide +kernel
theorem dX2_solve_136 : decode cX2_solve 136 = .ok (.iconst 0, 1) := by decide +kernel
theorem dX2_solve_137 : decode cX2_solve 137 = .ok (.iaload, 1) := by decide +kernel
theorem dX2_solve_138 : decode cX2_solve 138 = .ok (.iload 4, 2) := by decide +kernel
theorem dX2_solve_140 : decode cX2_solve 140 = .ok (.invokestatic 34, 3) := by decide +kernel
theorem dX2_solve_143 : decode cX2_solve 143 = .ok (.iload_n 2, 1) := by decide +kernel
theorem dX2_solve_144 : decode cX2_solve 144 = .ok (.if_icmp .ne 22, 3) := by decide +kernel
theorem dX2_solve_147 : decode cX2_solve 147 = .ok (.aload_n 0, 1) := by decide +kernel
theorem dX2_solve_148 : decode cX2_solve 148 = .ok (.getfield 18, 3) := by decide +kernel
theorem dX2_solve_151 : decode cX2_solve 151 = .ok (.iconst 0, 1) := by decide +kernel
theorem dX2_solve_152 : decode cX2_solve 152 = .ok (.iaload, 1) := by decide +kernel
theorem dX2_solve_153 : decode cX2_solve 153 = .ok (.iload 4, 2) := by decide +kernel
theorem dX2_solve_155 : decode cX2_solve 155 = .ok (.invokestatic 34, 3) := by decide +kernel
theorem dX2_solve_158 : decode cX2_solve 158 = .ok (.iload_n 3, 1) := by decide +kernel
theorem dX2_solve_159 : decode cX2_solve 159 = .ok (.if_icmp .ne 7, 3) := by decide +kernel
theorem dX2_solve_162 : decode cX2_solve 162 = .ok (.iconst 1, 1) := by decide +kernel
theorem dX2_solve_163 : decode cX2_solve 163 = .ok (.goto 4, 3) := by decide +kernel
theorem dX2_solve_166 : decode cX2_solve 166 = .ok (.iconst 0, 1) := by decide +kernel
theorem dX2_solve_167 : decode cX2_solve 167 = .ok (.ireturn, 1) := by decide +kernel
theorem dX2_prepare_0 : decode cX2_prepare 0 = .ok (.aload_n 0, 1) := by decide +kernel
theorem dX2_prepare_1 : decode cX2_prepare 1 = .ok (.getfield 24, 3) := by decide +kernel
theorem dX2_prepare_4 : decode cX2_prepare 4 = .ok (.iconst 1, 1) := by decide +kernel
theorem dX2_prepare_5 : decode cX2_prepare 5 = .ok (.if_icmp .lt 11, 3) := by decide +kernel
theorem dX2_prepare_8 : decode cX2_prepare 8 = .ok (.aload_n 0, 1) := by decide +kernel
theorem dX2_prepare_9 : decode cX2_prepare 9 = .ok (.getfield 24, 3) := by decide +kernel
theorem dX2_prepare_12 : decode cX2_prepare 12 = .ok (.iconst 2, 1) := by decide +kernel
theorem dX2_prepare_13 : decode cX2_prepare 13 = .ok (.if_icmp .le 5, 3) := by decide +kernel
theorem dX2_prepare_16 : decode cX2_prepare 16 = .ok (.iconst 0, 1) := by decide +kernel
theorem dX2_prepare_17 : decode cX2_prepare 17 = .ok (.ireturn, 1) := by decide +kernel
theorem dX2_prepare_18 : decode cX2_prepare 18 = .ok (.iload_n 1, 1) := by decide +kernel
theorem dX2_prepare_19 : decode cX2_prepare 19 = .ok (.ifCond .ne 11, 3) := by decide +kernel
theorem dX2_prepare_22 : decode cX2_prepare 22 = .ok (.aload_n 0, 1) := by decide +kernel
theorem dX2_prepare_23 : decode cX2_prepare 23 = .ok (.getfield 15, 3) := by decide +kernel
theorem dX2_prepare_26 : decode cX2_prepare 26 = .ok (.iconst 0, 1) := by decide +kernel
theorem dX2_prepare_27 : decode cX2_prepare 27 = .ok (.invokestatic 28, 3) := by decide +kernel
theorem dX2_prepare_30 : decode cX2_prepare 30 = .ok (.iload_n 2, 1) := by decide +kernel
theorem dX2_prepare_31 : decode cX2_prepare 31 = .ok (.ifCond .ne 11, 3) := by decide +kernel
theorem dX2_prepare_34 : decode cX2_prepare 34 = .ok (.aload_n 0, 1) := by decide +kernel
theorem dX2_prepare_35 : decode cX2_prepare 35 = .ok (.getfield 18, 3) := by decide +kernel
theorem dX2_prepare_38 : decode cX2_prepare 38 = .ok (.iconst 0, 1) := by decide +kernel
theorem dX2_prepare_39 : decode cX2_prepare 39 = .ok (.invokestatic 28, 3) := by decide +kernel
theorem dX2_prepare_42 : decode cX2_prepare 42 = .ok (.aload_n 0, 1) := by decide +kernel
theorem dX2_prepare_43 : decode cX2_prepare 43 = .ok (.getfield 24, 3) := by decide +kernel
theorem dX2_prepare_46 : decode cX2_prepare 46 = .ok (.iconst 2, 1) := by decide +kernel
theorem dX2_prepare_47 : decode cX2_prepare 47 = .ok (.if_icmp .ne 37, 3) := by decide +kernel
theorem dX2_prepare_50 : decode cX2_prepare 50 = .ok (.aload_n 0, 1) := by decide +kernel
theorem dX2_prepare_51 : decode cX2_prepare 51 = .ok (.getfield 15, 3) := by decide +kernel
theorem dX2_prepare_54 : decode cX2_prepare 54 = .ok (.iconst 0, 1) := by decide +kernel
theorem dX2_prepare_55 : decode cX2_prepare 55 = .ok (.iaload, 1) := by decide +kernel
theorem dX2_prepare_56 : decode cX2_prepare 56 = .ok (.aload_n 0, 1) := by decide +kernel
theorem dX2_prepare_57 : decode cX2_prepare 57 = .ok (.getfield 18, 3) := by decide +kernel
theorem dX2_prepare_60 : decode cX2_prepare 60 = .ok (.iconst 1, 1) := by decide +kernel
theorem dX2_prepare_61 : decode cX2_prepare 61 = .ok (.iaload, 1) := by decide +kernel
theorem dX2_prepare_62 : decode cX2_prepare 62 = .ok (.invokestatic 34, 3) := by decide +kernel
theorem dX2_prepare_65 : decode cX2_prepare 65 = .ok (.aload_n 0, 1) := by decide +kernel
theorem dX2_prepare_66 : decode cX2_prepare 66 = .ok (.getfield 15, 3) := by decide +kernel
theorem dX2_prepare_69 : decode cX2_prepare 69 = .ok (.iconst 1, 1) := by decide +kernel
theorem dX2_prepare_70 : decode cX2_prepare 70 = .ok (.iaload, 1) := by decide +kernel
theorem dX2_prepare_71 : decode cX2_prepare 71 = .ok (.aload_n 0, 1) := by decide +kernel
theorem dX2_prepare_72 : decode cX2_prepare 72 = .ok (.getfield 18, 3) := by decide +kernel
theorem dX2_prepare_75 : decode cX2_prepare 75 = .ok (.iconst 0, 1) := by decide +kernel
theorem dX2_prepare_76 : decode cX2_prepare 76 = .ok (.iaload, 1) := by decide +kernel
theorem dX2_prepare_77 : decode cX2_prepare 77 = .ok (.invokestatic 34, 3) := by decide +kernel
theorem dX2_prepare_80 : decode cX2_prepare 80 = .ok (.ixor, 1) := by decide +kernel
theorem dX2_prepare_81 : decode cX2_prepare 81 = .ok (.goto 27, 3) := by decide +kernel
theorem dX2_prepare_84 : decode cX2_prepare 84 = .ok (.aload_n 0, 1) := by decide +kernel
theorem dX2_prepare_85 : decode cX2_prepare 85 = .ok (.getfield 15, 3) := by decide +kernel
theorem dX2_prepare_88 : decode cX2_prepare 88 = .ok (.iconst 0, 1) := by decide +kernel
theorem dX2_prepare_89 : decode cX2_prepare 89 = .ok (.iaload, 1) := by decide +kernel
theorem dX2_prepare_90 : decode cX2_prepare 90 = .ok (.ifCond .eq 12, 3) := by decide +kernel
theorem dX2_prepare_93 : decode cX2_prepare 93 = .ok (.aload_n 0, 1) := by decide +kernel
theorem dX2_prepare_94 : decode cX2_prepare 94 = .ok (.getfield 15, 3) := by decide +kernel
theorem dX2_prepare_97 : decode cX2_prepare 97 = .ok (.iconst 0, 1) := by decide +kernel
theorem dX2_prepare_98 : decode cX2_prepare 98 = .ok (.iaload, 1) := by decide +kernel
theorem dX2_prepare_99 : decode cX2_prepare 99 = .ok (.goto 9, 3) := by decide +kernel
theorem dX2_prepare_102 : decode cX2_prepare 102 = .ok (.aload_n 0, 1) := by decide +kernel
theorem dX2_prepare_103 : decode cX2_prepare 103 = .ok (.getfield 18, 3) := by decide +kernel
theorem dX2_prepare_106 : decode cX2_prepare 106 = .ok (.iconst 0, 1) := by decide +kernel
theorem dX2_prepare_107 : decode cX2_prepare 107 = .ok (.iaload, 1) := by decide +kernel
theorem dX2_prepare_108 : decode cX2_prepare 108 = .ok (.istore_n 3, 1) := by decide +kernel
theorem dX2_prepare_109 : decode cX2_prepare 109 = .ok (.aload_n 0, 1) := by decide +kernel
theorem dX2_prepare_110 : decode cX2_prepare 110 = .ok (.iload_n 3, 1) := by decide +kernel
theorem dX2_prepare_111 : decode cX2_prepare 111 = .ok (.invokestatic 40, 3) := by decide +kernel
theorem dX2_prepare_114 : decode cX2_prepare 114 = .ok (.putfield 44, 3) := by decide +kernel
theorem dX2_prepare_117 : decode cX2_prepare 117 = .ok (.aload_n 0, 1) := by decide +kernel
theorem dX2_prepare_118 : decode cX2_prepare 118 = .ok (.getfield 44, 3) := by decide +kernel
theorem dX2_prepare_121 : decode cX2_prepare 121 = .ok (.ifCond .eq 7, 3) := by decide +kernel
theorem dX2_prepare_124 : decode cX2_prepare 124 = .ok (.iconst 1, 1) := by decide +kernel
theorem dX2_prepare_125 : decode cX2_prepare 125 = .ok (.goto 4, 3) := by decide +kernel
theorem dX2_prepare_128 : decode cX2_prepare 128 = .ok (.iconst 0, 1) := by decide +kernel
theorem dX2_prepare_129 : decode cX2_prepare 129 = .ok (.ireturn, 1) := by decide +kernel
