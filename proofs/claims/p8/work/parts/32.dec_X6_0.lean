theorem dX6_begin_0 : decode cX6_begin 0 = .ok (.iconst 0, 1) := by decide +kernel
theorem dX6_begin_1 : decode cX6_begin 1 = .ok (.istore 5, 2) := by decide +kernel
theorem dX6_begin_3 : decode cX6_begin 3 = .ok (.iload 5, 2) := by decide +kernel
theorem dX6_begin_5 : decode cX6_begin 5 = .ok (.bipush 32, 2) := by decide +kernel
theorem dX6_begin_7 : decode cX6_begin 7 = .ok (.if_icmp .ge 17, 3) := by decide +kernel
theorem dX6_begin_10 : decode cX6_begin 10 = .ok (.aload_n 0, 1) := by decide +kernel
theorem dX6_begin_11 : decode cX6_begin 11 = .ok (.getfield 40, 3) := by decide +kernel
theorem dX6_begin_14 : decode cX6_begin 14 = .ok (.iload 5, 2) := by decide +kernel
theorem dX6_begin_16 : decode cX6_begin 16 = .ok (.iconst 0, 1) := by decide +kernel
theorem dX6_begin_17 : decode cX6_begin 17 = .ok (.iastore, 1) := by decide +kernel
theorem dX6_begin_18 : decode cX6_begin 18 = .ok (.iinc 5 1, 3) := by decide +kernel
theorem dX6_begin_21 : decode cX6_begin 21 = .ok (.goto (-18), 3) := by decide +kernel
theorem dX6_begin_24 : decode cX6_begin 24 = .ok (.aload_n 0, 1) := by decide +kernel
theorem dX6_begin_25 : decode cX6_begin 25 = .ok (.getfield 40, 3) := by decide +kernel
theorem dX6_begin_28 : decode cX6_begin 28 = .ok (.iconst 0, 1) := by decide +kernel
theorem dX6_begin_29 : decode cX6_begin 29 = .ok (.iload_n 1, 1) := by decide +kernel
theorem dX6_begin_30 : decode cX6_begin 30 = .ok (.iastore, 1) := by decide +kernel
theorem dX6_begin_31 : decode cX6_begin 31 = .ok (.aload_n 0, 1) := by decide +kernel
theorem dX6_begin_32 : decode cX6_begin 32 = .ok (.getfield 40, 3) := by decide +kernel
theorem dX6_begin_35 : decode cX6_begin 35 = .ok (.iconst 1, 1) := by decide +kernel
theorem dX6_begin_36 : decode cX6_begin 36 = .ok (.iload_n 2, 1) := by decide +kernel
theorem dX6_begin_37 : decode cX6_begin 37 = .ok (.iastore, 1) := by decide +kernel
theorem dX6_begin_38 : decode cX6_begin 38 = .ok (.aload_n 0, 1) := by decide +kernel
theorem dX6_begin_39 : decode cX6_begin 39 = .ok (.getfield 40, 3) := by decide +kernel
theorem dX6_begin_42 : decode cX6_begin 42 = .ok (.iconst 2, 1) := by decide +kernel
theorem dX6_begin_43 : decode cX6_begin 43 = .ok (.iload_n 3, 1) := by decide +kernel
theorem dX6_begin_44 : decode cX6_begin 44 = .ok (.iastore, 1) := by decide +kernel
theorem dX6_begin_45 : decode cX6_begin 45 = .ok (.aload_n 0, 1) := by decide +kernel
theorem dX6_begin_46 : decode cX6_begin 46 = .ok (.getfield 40, 3) := by decide +kernel
theorem dX6_begin_49 : decode cX6_begin 49 = .ok (.iconst 3, 1) := by decide +kernel
theorem dX6_begin_50 : decode cX6_begin 50 = .ok (.iload 4, 2) := by decide +kernel
theorem dX6_begin_52 : decode cX6_begin 52 = .ok (.iastore, 1) := by decide +kernel
theorem dX6_begin_53 : decode cX6_begin 53 = .ok (.return_, 1) := by decide +kernel
theorem dX6_blockAt_0 : decode cX6_blockAt 0 = .ok (.aload_n 0, 1) := by decide +kernel
theorem dX6_blockAt_1 : decode cX6_blockAt 1 = .ok (.getfield 7, 3) := by decide +kernel
theorem dX6_blockAt_4 : decode cX6_blockAt 4 = .ok (.bipush 32, 2) := by decide +kernel
theorem dX6_blockAt_6 : decode cX6_blockAt 6 = .ok (.iload_n 1, 1) := by decide +kernel
theorem dX6_blockAt_7 : decode cX6_blockAt 7 = .ok (.imul, 1) := by decide +kernel
theorem dX6_blockAt_8 : decode cX6_blockAt 8 = .ok (.iconst 4, 1) := by decide +kernel
theorem dX6_blockAt_9 : decode cX6_blockAt 9 = .ok (.iadd, 1) := by decide +kernel
theorem dX6_blockAt_10 : decode cX6_blockAt 10 = .ok (.iload_n 2, 1) := by decide +kernel
theorem dX6_blockAt_11 : decode cX6_blockAt 11 = .ok (.iadd, 1) := by decide +kernel
theorem dX6_blockAt_12 : decode cX6_blockAt 12 = .ok (.iaload, 1) := by decide +kernel
theorem dX6_blockAt_13 : decode cX6_blockAt 13 = .ok (.ireturn, 1) := by decide +kernel
theorem dX6_generationAt_0 : decode cX6_generationAt 0 = .ok (.bipush 32, 2) := by decide +kernel
theorem dX6_generationAt_2 : decode cX6_generationAt 2 = .ok (.iload_n 1, 1) := by decide +kernel
theorem dX6_generationAt_3 : decode cX6_generationAt 3 = .ok (.imul, 1) := by decide +kernel
theorem dX6_generationAt_4 : decode cX6_generationAt 4 = .ok (.iconst 4, 1) := by decide +kernel
theorem dX6_generationAt_5 : decode cX6_generationAt 5 = .ok (.iadd, 1) := by decide +kernel
theorem dX6_generationAt_6 : decode cX6_generationAt 6 = .ok (.istore_n 2, 1) := by decide +kernel
theorem dX6_generationAt_7 : decode cX6_generationAt 7 = .ok (.aload_n 0, 1) := by decide +kernel
theorem dX6_generationAt_8 : decode cX6_generationAt 8 = .ok (.getfield 7, 3) := by decide +kernel
theorem dX6_generationAt_11 : decode cX6_generationAt 11 = .ok (.iload_n 2, 1) := by decide +kernel
theorem dX6_generationAt_12 : decode cX6_generationAt 12 = .ok (.iaload, 1) := by decide +kernel
theorem dX6_generationAt_13 : decode cX6_generationAt 13 = .ok (.bipush 24, 2) := by decide +kernel
theorem dX6_generationAt_15 : decode cX6_generationAt 15 = .ok (.ishl, 1) := by decide +kernel
theorem dX6_generationAt_16 : decode cX6_generationAt 16 = .ok (.aload_n 0, 1) := by decide +kernel
theorem dX6_generationAt_17 : decode cX6_generationAt 17 = .ok (.getfield 7, 3) := by decide +kernel
theorem dX6_generationAt_20 : decode cX6_generationAt 20 = .ok (.iload_n 2, 1) := by decide +kernel
theorem dX6_generationAt_21 : decode cX6_generationAt 21 = .ok (.iconst 1, 1) := by decide +kernel
theorem dX6_generationAt_22 : decode cX6_generationAt 22 = .ok (.iadd, 1) := by decide +kernel
theorem dX6_generationAt_23 : decode cX6_generationAt 23 = .ok (.iaload, 1) := by decide +kernel
theorem dX6_generationAt_24 : decode cX6_generationAt 24 = .ok (.bipush 16, 2) := by decide +kernel
theorem dX6_generationAt_26 : decode cX6_generationAt 26 = .ok (.ishl, 1) := by decide +kernel
theorem dX6_generationAt_27 : decode cX6_generationAt 27 = .ok (.ior, 1) := by decide +kernel
theorem dX6_generationAt_28 : decode cX6_generationAt 28 = .ok (.aload_n 0, 1) := by decide +kernel
theorem dX6_generationAt_29 : decode cX6_generationAt 29 = .ok (.getfield 7, 3) := by decide +kernel
theorem dX6_generationAt_32 : decode cX6_generationAt 32 = .ok (.iload_n 2, 1) := by decide +kernel
theorem dX6_generationAt_33 : decode cX6_generationAt 33 = .ok (.iconst 2, 1) := by decide +kernel
theorem dX6_generationAt_34 : decode cX6_generationAt 34 = .ok (.iadd, 1) := by decide +kernel
theorem dX6_generationAt_35 : decode cX6_generationAt 35 = .ok (.iaload, 1) := by decide +kernel
theorem dX6_generationAt_36 : decode cX6_generationAt 36 = .ok (.bipush 8, 2) := by decide +kernel
theorem dX6_generationAt_38 : decode cX6_generationAt 38 = .ok (.ishl, 1) := by decide +kernel
theorem dX6_generationAt_39 : decode cX6_generationAt 39 = .ok (.ior, 1) := by decide +kernel
theorem dX6_generationAt_40 : decode cX6_generationAt 40 = .ok (.aload_n 0, 1) := by decide +kernel
theorem dX6_generationAt_41 : decode cX6_generationAt 41 = .ok (.getfield 7, 3) := by decide +kernel
theorem dX6_generationAt_44 : decode cX6_generationAt 44 = .ok (.iload_n 2, 1) := by decide +kernel
theorem dX6_generationAt_45 : decode cX6_generationAt 45 = .ok (.iconst 3, 1) := by decide +kernel
theorem dX6_generationAt_46 : decode cX6_generationAt 46 = .ok (.iadd, 1) := by decide +kernel
theorem dX6_generationAt_47 : decode cX6_generationAt 47 = .ok (.iaload, 1) := by decide +kernel
theorem dX6_generationAt_48 : decode cX6_generationAt 48 = .ok (.ior, 1) := by decide +kernel
theorem dX6_generationAt_49 : decode cX6_generationAt 49 = .ok (.ireturn, 1) := by decide +kernel
theorem dX6_in_0 : decode cX6_in 0 = .ok (.iload_n 0, 1) := by decide +kernel
theorem dX6_in_1 : decode cX6_in 1 = .ok (.iload_n 1, 1) := by decide +kernel
theorem dX6_in_2 : decode cX6_in 2 = .ok (.if_icmp .lt 12, 3) := by decide +kernel
theorem dX6_in_5 : decode cX6_in 5 = .ok (.iload_n 0, 1) := by decide +kernel
theorem dX6_in_6 : decode cX6_in 6 = .ok (.iload_n 2, 1) := by decide +kernel
theorem dX6_in_7 : decode cX6_in 7 = .ok (.if_icmp .gt 7, 3) := by decide +kernel
theorem dX6_in_10 : decode cX6_in 10 = .ok (.iconst 1, 1) := by decide +kernel
theorem dX6_in_11 : decode cX6_in 11 = .ok (.goto 4, 3) := by decide +kernel
theorem dX6_in_14 : decode cX6_in 14 = .ok (.iconst 0, 1) := by decide +kernel
theorem dX6_in_15 : decode cX6_in 15 = .ok (.ireturn, 1) := by decide +kernel
theorem dX6_init_0 : decode cX6_init 0 = .ok (.aload_n 0, 1) := by decide +kernel
theorem dX6_init_1 : decode cX6_init 1 = .ok (.invokespecial 1, 3) := by decide +kernel
theorem dX6_init_4 : decode cX6_init 4 = .ok (.aload_n 0, 1) := by decide +kernel
theorem dX6_init_5 : decode cX6_init 5 = .ok (.sipush 1920, 3) := by decide +kernel
theorem dX6_init_8 : decode cX6_init 8 = .ok (.newarray .int, 2) := by decide +kernel
theorem dX6_init_10 : decode cX6_init 10 = .ok (.putfield 7, 3) := by decide +kernel
theorem dX6_init_13 : decode cX6_init 13 = .ok (.aload_n 0, 1) := by decide +kernel
theorem dX6_init_14 : decode cX6_init 14 = .ok (.bipush 60, 2) := by decide +kernel
theorem dX6_init_16 : decode cX6_init 16 = .ok (.newarray .boolean, 2) := by decide +kernel
theorem dX6_init_18 : decode cX6_init 18 = .ok (.putfield 13, 3) := by decide +kernel
theorem dX6_init_21 : decode cX6_init 21 = .ok (.aload_n 0, 1) := by decide +kernel
theorem dX6_init_22 : decode cX6_init 22 = .ok (.iconst 1, 1) := by decide +kernel
theorem dX6_init_23 : decode cX6_init 23 = .ok (.putfield 17, 3) := by decide +kernel
theorem dX6_init_26 : decode cX6_init 26 = .ok (.aload_n 0, 1) := by decide +kernel
theorem dX6_init_27 : decode cX6_init 27 = .ok (.iconst 2, 1) := by decide +kernel
theorem dX6_init_28 : decode cX6_init 28 = .ok (.putfield 21, 3) := by decide +kernel
theorem dX6_init_31 : decode cX6_init 31 = .ok (.aload_n 0, 1) := by decide +kernel
theorem dX6_init_32 : decode cX6_init 32 = .ok (.iconst (-1), 1) := by decide +kernel
theorem dX6_init_33 : decode cX6_init 33 = .ok (.putfield 25, 3) := by decide +kernel
theorem dX6_init_36 : decode cX6_init 36 = .ok (.aload_n 0, 1) := by decide +kernel
theorem dX6_init_37 : decode cX6_init 37 = .ok (.bipush 96, 2) := by decide +kernel
theorem dX6_init_39 : decode cX6_init 39 = .ok (.newarray .int, 2) := by decide +kernel
theorem dX6_init_41 : decode cX6_init 41 = .ok (.putfield 28, 3) := by decide +kernel
theorem dX6_init_44 : decode cX6_init 44 = .ok (.aload_n 0, 1) := by decide +kernel
theorem dX6_init_45 : decode cX6_init 45 = .ok (.bipush 64, 2) := by decide +kernel
theorem dX6_init_47 : decode cX6_init 47 = .ok (.newarray .int, 2) := by decide +kernel
theorem dX6_init_49 : decode cX6_init 49 = .ok (.putfield 31, 3) := by decide +kernel
theorem dX6_init_52 : decode cX6_init 52 = .ok (.aload_n 0, 1) := by decide +kernel
theorem dX6_init_53 : decode cX6_init 53 = .ok (.sipush 2048, 3) := by decide +kernel
theorem dX6_init_56 : decode cX6_init 56 = .ok (.newarray .int, 2) := by decide +kernel
theorem dX6_init_58 : decode cX6_init 58 = .ok (.putfield 34, 3) := by decide +kernel
theorem dX6_init_61 : decode cX6_init 61 = .ok (.aload_n 0, 1) := by decide +kernel
theorem dX6_init_62 : decode cX6_init 62 = .ok (.bipush 64, 2) := by decide +kernel
theorem dX6_init_64 : decode cX6_init 64 = .ok (.newarray .boolean, 2) := by decide +kernel
theorem dX6_init_66 : decode cX6_init 66 = .ok (.putfield 37, 3) := by decide +kernel
theorem dX6_init_69 : decode cX6_init 69 = .ok (.aload_n 0, 1) := by decide +kernel
theorem dX6_init_70 : decode cX6_init 70 = .ok (.bipush 32, 2) := by decide +kernel
theorem dX6_init_72 : decode cX6_init 72 = .ok (.newarray .int, 2) := by decide +kernel
theorem dX6_init_74 : decode cX6_init 74 = .ok (.putfield 40, 3) := by decide +kernel
theorem dX6_init_77 : decode cX6_init 77 = .ok (.aload_n 0, 1) := by decide +kernel
theorem dX6_init_78 : decode cX6_init 78 = .ok (.iconst 4, 1) := by decide +kernel
theorem dX6_init_79 : decode cX6_init 79 = .ok (.newarray .int, 2) := by decide +kernel
theorem dX6_init_81 : decode cX6_init 81 = .ok (.putfield 43, 3) := by decide +kernel
theorem dX6_init_84 : decode cX6_init 84 = .ok (.aload_n 0, 1) := by decide +kernel
theorem dX6_init_85 : decode cX6_init 85 = .ok (.iconst 4, 1) := by decide +kernel
theorem dX6_init_86 : decode cX6_init 86 = .ok (.newarray .int, 2) := by decide +kernel
theorem dX6_init_88 : decode cX6_init 88 = .ok (.putfield 46, 3) := by decide +kernel
theorem dX6_init_91 : decode cX6_init 91 = .ok (.aload_n 0, 1) := by decide +kernel
theorem dX6_init_92 : decode cX6_init 92 = .ok (.iconst 4, 1) := by decide +kernel
theorem dX6_init_93 : decode cX6_init 93 = .ok (.newarray .int, 2) := by decide +kernel
theorem dX6_init_95 : decode cX6_init 95 = .ok (.putfield 49, 3) := by decide +kernel
theorem dX6_init_98 : decode cX6_init 98 = .ok (.aload_n 0, 1) := by decide +kernel
theorem dX6_init_99 : decode cX6_init 99 = .ok (.iconst 4, 1) := by decide +kernel
theorem dX6_init_100 : decode cX6_init 100 = .ok (.newarray .int, 2) := by decide +kernel
theorem dX6_init_102 : decode cX6_init 102 = .ok (.putfield 52, 3) := by decide +kernel
theorem dX6_init_105 : decode cX6_init 105 = .ok (.aload_n 0, 1) := by decide +kernel
theorem dX6_init_106 : decode cX6_init 106 = .ok (.bipush 24, 2) := by decide +kernel
theorem dX6_init_108 : decode cX6_init 108 = .ok (.newarray .int, 2) := by decide +kernel
theorem dX6_init_110 : decode cX6_init 110 = .ok (.putfield 55, 3) := by decide +kernel
theorem dX6_init_113 : decode cX6_init 113 = .ok (.aload_n 0, 1) := by decide +kernel
theorem dX6_init_114 : decode cX6_init 114 = .ok (.bipush 24, 2) := by decide +kernel
theorem dX6_init_116 : decode cX6_init 116 = .ok (.newarray .int, 2) := by decide +kernel
theorem dX6_init_118 : decode cX6_init 118 = .ok (.putfield 58, 3) := by decide +kernel
theorem dX6_init_121 : decode cX6_init 121 = .ok (.aload_n 0, 1) := by decide +kernel
theorem dX6_init_122 : decode cX6_init 122 = .ok (.bipush 24, 2) := by decide +kernel
theorem dX6_init_124 : decode cX6_init 124 = .ok (.newarray .int, 2) := by decide +kernel
theorem dX6_init_126 : decode cX6_init 126 = .ok (.putfield 61, 3) := by decide +kernel
theorem dX6_init_129 : decode cX6_init 129 = .ok (.aload_n 0, 1) := by decide +kernel
theorem dX6_init_130 : decode cX6_init 130 = .ok (.bipush 24, 2) := by decide +kernel
theorem dX6_init_132 : decode cX6_init 132 = .ok (.newarray .int, 2) := by decide +kernel
theorem dX6_init_134 : decode cX6_init 134 = .ok (.putfield 64, 3) := by decide +kernel
theorem dX6_init_137 : decode cX6_init 137 = .ok (.aload_n 0, 1) := by decide +kernel
theorem dX6_init_138 : decode cX6_init 138 = .ok (.iload_n 1, 1) := by decide +kernel
theorem dX6_init_139 : decode cX6_init 139 = .ok (.bipush 8, 2) := by decide +kernel
theorem dX6_init_141 : decode cX6_init 141 = .ok (.if_icmp .ge 8, 3) := by decide +kernel
theorem dX6_init_144 : decode cX6_init 144 = .ok (.bipush 8, 2) := by decide +kernel
theorem dX6_init_146 : decode cX6_init 146 = .ok (.goto 15, 3) := by decide +kernel
theorem dX6_init_149 : decode cX6_init 149 = .ok (.iload_n 1, 1) := by decide +kernel
theorem dX6_init_150 : decode cX6_init 150 = .ok (.bipush 60, 2) := by decide +kernel
theorem dX6_init_152 : decode cX6_init 152 = .ok (.if_icmp .le 8, 3) := by decide +kernel
theorem dX6_init_155 : decode cX6_init 155 = .ok (.bipush 60, 2) := by decide +kernel
theorem dX6_init_157 : decode cX6_init 157 = .ok (.goto 4, 3) := by decide +kernel
theorem dX6_init_160 : decode cX6_init 160 = .ok (.iload_n 1, 1) := by decide +kernel
theorem dX6_init_161 : decode cX6_init 161 = .ok (.putfield 67, 3) := by decide +kernel
theorem dX6_init_164 : decode cX6_init 164 = .ok (.return_, 1) := by decide +kernel
theorem dX6_isInLog_0 : decode cX6_isInLog 0 = .ok (.iload_n 1, 1) := by decide +kernel
theorem dX6_isInLog_1 : decode cX6_isInLog 1 = .ok (.iconst 2, 1) := by decide +kernel
theorem dX6_isInLog_2 : decode cX6_isInLog 2 = .ok (.if_icmp .lt 15, 3) := by decide +kernel
theorem dX6_isInLog_5 : decode cX6_isInLog 5 = .ok (.iload_n 1, 1) := by decide +kernel
theorem dX6_isInLog_6 : decode cX6_isInLog 6 = .ok (.aload_n 0, 1) := by decide +kernel
theorem dX6_isInLog_7 : decode cX6_isInLog 7 = .ok (.getfield 21, 3) := by decide +kernel
theorem dX6_isInLog_10 : decode cX6_isInLog 10 = .ok (.if_icmp .ge 7, 3) := by decide +kernel
theorem dX6_isInLog_13 : decode cX6_isInLog 13 = .ok (.iconst 1, 1) := by decide +kernel
theorem dX6_isInLog_14 : decode cX6_isInLog 14 = .ok (.goto 4, 3) := by decide +kernel
theorem dX6_isInLog_17 : decode cX6_isInLog 17 = .ok (.iconst 0, 1) := by decide +kernel
theorem dX6_isInLog_18 : decode cX6_isInLog 18 = .ok (.ireturn, 1) := by decide +kernel
theorem dX6_sizeAt_0 : decode cX6_sizeAt 0 = .ok (.aload_n 0, 1) := by decide +kernel
theorem dX6_sizeAt_1 : decode cX6_sizeAt 1 = .ok (.getfield 7, 3) := by decide +kernel
theorem dX6_sizeAt_4 : decode cX6_sizeAt 4 = .ok (.bipush 32, 2) := by decide +kernel
theorem dX6_sizeAt_6 : decode cX6_sizeAt 6 = .ok (.iload_n 1, 1) := by decide +kernel
theorem dX6_sizeAt_7 : decode cX6_sizeAt 7 = .ok (.imul, 1) := by decide +kernel
theorem dX6_sizeAt_8 : decode cX6_sizeAt 8 = .ok (.iconst 3, 1) := by decide +kernel
theorem dX6_sizeAt_9 : decode cX6_sizeAt 9 = .ok (.iadd, 1) := by decide +kernel
theorem dX6_sizeAt_10 : decode cX6_sizeAt 10 = .ok (.iaload, 1) := by decide +kernel
theorem dX6_sizeAt_11 : decode cX6_sizeAt 11 = .ok (.ireturn, 1) := by decide +kernel
theorem dX6_sumOf_0 : decode cX6_sumOf 0 = .ok (.iconst 0, 1) := by decide +kernel
theorem dX6_sumOf_1 : decode cX6_sumOf 1 = .ok (.istore_n 2, 1) := by decide +kernel
theorem dX6_sumOf_2 : decode cX6_sumOf 2 = .ok (.iconst 0, 1) := by decide +kernel
theorem dX6_sumOf_3 : decode cX6_sumOf 3 = .ok (.istore_n 3, 1) := by decide +kernel
theorem dX6_sumOf_4 : decode cX6_sumOf 4 = .ok (.iload_n 3, 1) := by decide +kernel
theorem dX6_sumOf_5 : decode cX6_sumOf 5 = .ok (.bipush 28, 2) := by decide +kernel
theorem dX6_sumOf_7 : decode cX6_sumOf 7 = .ok (.if_icmp .ge 33, 3) := by decide +kernel
theorem dX6_sumOf_10 : decode cX6_sumOf 10 = .ok (.iload_n 2, 1) := by decide +kernel
theorem dX6_sumOf_11 : decode cX6_sumOf 11 = .ok (.aload_n 0, 1) := by decide +kernel
theorem dX6_sumOf_12 : decode cX6_sumOf 12 = .ok (.iload_n 1, 1) := by decide +kernel
theorem dX6_sumOf_13 : decode cX6_sumOf 13 = .ok (.iload_n 3, 1) := by decide +kernel
theorem dX6_sumOf_14 : decode cX6_sumOf 14 = .ok (.iadd, 1) := by decide +kernel
theorem dX6_sumOf_15 : decode cX6_sumOf 15 = .ok (.iaload, 1) := by decide +kernel
theorem dX6_sumOf_16 : decode cX6_sumOf 16 = .ok (.ixor, 1) := by decide +kernel
theorem dX6_sumOf_17 : decode cX6_sumOf 17 = .ok (.istore 4, 2) := by decide +kernel
theorem dX6_sumOf_19 : decode cX6_sumOf 19 = .ok (.iload 4, 2) := by decide +kernel
theorem dX6_sumOf_21 : decode cX6_sumOf 21 = .ok (.bipush 7, 2) := by decide +kernel
theorem dX6_sumOf_23 : decode cX6_sumOf 23 = .ok (.ishl, 1) := by decide +kernel
theorem dX6_sumOf_24 : decode cX6_sumOf 24 = .ok (.iload 4, 2) := by decide +kernel
theorem dX6_sumOf_26 : decode cX6_sumOf 26 = .ok (.bipush 25, 2) := by decide +kernel
theorem dX6_sumOf_28 : decode cX6_sumOf 28 = .ok (.iushr, 1) := by decide +kernel
theorem dX6_sumOf_29 : decode cX6_sumOf 29 = .ok (.ior, 1) := by decide +kernel
theorem dX6_sumOf_30 : decode cX6_sumOf 30 = .ok (.ldc 77, 2) := by decide +kernel
theorem dX6_sumOf_32 : decode cX6_sumOf 32 = .ok (.imul, 1) := by decide +kernel
theorem dX6_sumOf_33 : decode cX6_sumOf 33 = .ok (.istore_n 2, 1) := by decide +kernel
theorem dX6_sumOf_34 : decode cX6_sumOf 34 = .ok (.iinc 3 1, 3) := by decide +kernel
theorem dX6_sumOf_37 : decode cX6_sumOf 37 = .ok (.goto (-33), 3) := by decide +kernel
theorem dX6_sumOf_40 : decode cX6_sumOf 40 = .ok (.iload_n 2, 1) := by decide +kernel
theorem dX6_sumOf_41 : decode cX6_sumOf 41 = .ok (.ireturn, 1) := by decide +kernel
theorem dX6_told_0 : decode cX6_told 0 = .ok (.aload_n 0, 1) := by decide +kernel
theorem dX6_told_1 : decode cX6_told 1 = .ok (.iconst 0, 1) := by decide +kernel
theorem dX6_told_2 : decode cX6_told 2 = .ok (.putfield 70, 3) := by decide +kernel
theorem dX6_told_5 : decode cX6_told 5 = .ok (.iload_n 1, 1) := by decide +kernel
theorem dX6_told_6 : decode cX6_told 6 = .ok (.tableswitch 156 0 9 #[54, 67, 72, 77, 82, 87, 92, 97, 114, 151], 54) := by decide +kernel
theorem dX6_told_60 : decode cX6_told 60 = .ok (.aload_n 0, 1) := by decide +kernel
theorem dX6_told_61 : decode cX6_told 61 = .ok (.getfield 17, 3) := by decide +kernel
theorem dX6_told_64 : decode cX6_told 64 = .ok (.ifCond .eq 7, 3) := by decide +kernel
theorem dX6_told_67 : decode cX6_told 67 = .ok (.iconst 1, 1) := by decide +kernel
theorem dX6_told_68 : decode cX6_told 68 = .ok (.goto 4, 3) := by decide +kernel
theorem dX6_told_71 : decode cX6_told 71 = .ok (.iconst 0, 1) := by decide +kernel
theorem dX6_told_72 : decode cX6_told 72 = .ok (.ireturn, 1) := by decide +kernel
theorem dX6_told_73 : decode cX6_told 73 = .ok (.aload_n 0, 1) := by decide +kernel
theorem dX6_told_74 : decode cX6_told 74 = .ok (.getfield 21, 3) := by decide +kernel
theorem dX6_told_77 : decode cX6_told 77 = .ok (.ireturn, 1) := by decide +kernel
theorem dX6_told_78 : decode cX6_told 78 = .ok (.aload_n 0, 1) := by decide +kernel
theorem dX6_told_79 : decode cX6_told 79 = .ok (.getfield 100, 3) := by decide +kernel
theorem dX6_told_82 : decode cX6_told 82 = .ok (.ireturn, 1) := by decide +kernel
theorem dX6_told_83 : decode cX6_told 83 = .ok (.aload_n 0, 1) := by decide +kernel
theorem dX6_told_84 : decode cX6_told 84 = .ok (.getfield 153, 3) := by decide +kernel
theorem dX6_told_87 : decode cX6_told 87 = .ok (.ireturn, 1) := by decide +kernel
theorem dX6_told_88 : decode cX6_told 88 = .ok (.aload_n 0, 1) := by decide +kernel
theorem dX6_told_89 : decode cX6_told 89 = .ok (.getfield 93, 3) := by decide +kernel
theorem dX6_told_92 : decode cX6_told 92 = .ok (.ireturn, 1) := by decide +kernel
theorem dX6_told_93 : decode cX6_told 93 = .ok (.aload_n 0, 1) := by decide +kernel
theorem dX6_told_94 : decode cX6_told 94 = .ok (.getfield 165, 3) := by decide +kernel
theorem dX6_told_97 : decode cX6_told 97 = .ok (.ireturn, 1) := by decide +kernel
theorem dX6_told_98 : decode cX6_told 98 = .ok (.aload_n 0, 1) := by decide +kernel
theorem dX6_told_99 : decode cX6_told 99 = .ok (.getfield 125, 3) := by decide +kernel
theorem dX6_told_102 : decode cX6_told 102 = .ok (.ireturn, 1) := by decide +kernel
theorem dX6_told_103 : decode cX6_told 103 = .ok (.aload_n 0, 1) := by decide +kernel
theorem dX6_told_104 : decode cX6_told 104 = .ok (.getfield 25, 3) := by decide +kernel
theorem dX6_told_107 : decode cX6_told 107 = .ok (.iconst (-1), 1) := by decide +kernel
theorem dX6_told_108 : decode cX6_told 108 = .ok (.if_icmp .ne 7, 3) := by decide +kernel
theorem dX6_told_111 : decode cX6_told 111 = .ok (.iconst (-1), 1) := by decide +kernel
theorem dX6_told_112 : decode cX6_told 112 = .ok (.goto 7, 3) := by decide +kernel
theorem dX6_told_115 : decode cX6_told 115 = .ok (.aload_n 0, 1) := by decide +kernel
theorem dX6_told_116 : decode cX6_told 116 = .ok (.getfield 116, 3) := by decide +kernel
theorem dX6_told_119 : decode cX6_told 119 = .ok (.ireturn, 1) := by decide +kernel
theorem dX6_told_120 : decode cX6_told 120 = .ok (.iconst 0, 1) := by decide +kernel
theorem dX6_told_121 : decode cX6_told 121 = .ok (.istore_n 2, 1) := by decide +kernel
theorem dX6_told_122 : decode cX6_told 122 = .ok (.iconst 0, 1) := by decide +kernel
theorem dX6_told_123 : decode cX6_told 123 = .ok (.istore_n 3, 1) := by decide +kernel
theorem dX6_told_124 : decode cX6_told 124 = .ok (.iload_n 3, 1) := by decide +kernel
theorem dX6_told_125 : decode cX6_told 125 = .ok (.aload_n 0, 1) := by decide +kernel
theorem dX6_told_126 : decode cX6_told 126 = .ok (.getfield 67, 3) := by decide +kernel
theorem dX6_told_129 : decode cX6_told 129 = .ok (.if_icmp .ge 26, 3) := by decide +kernel
theorem dX6_told_132 : decode cX6_told 132 = .ok (.iload_n 2, 1) := by decide +kernel
theorem dX6_told_133 : decode cX6_told 133 = .ok (.aload_n 0, 1) := by decide +kernel
theorem dX6_told_134 : decode cX6_told 134 = .ok (.getfield 13, 3) := by decide +kernel
theorem dX6_told_137 : decode cX6_told 137 = .ok (.iload_n 3, 1) := by decide +kernel
theorem dX6_told_138 : decode cX6_told 138 = .ok (.baload, 1) := by decide +kernel
theorem dX6_told_139 : decode cX6_told 139 = .ok (.ifCond .eq 7, 3) := by decide +kernel
theorem dX6_told_142 : decode cX6_told 142 = .ok (.iconst 1, 1) := by decide +kernel
theorem dX6_told_143 : decode cX6_told 143 = .ok (.goto 4, 3) := by decide +kernel
theorem dX6_told_146 : decode cX6_told 146 = .ok (.iconst 0, 1) := by decide +kernel
theorem dX6_told_147 : decode cX6_told 147 = .ok (.iadd, 1) := by decide +kernel
theorem dX6_told_148 : decode cX6_told 148 = .ok (.istore_n 2, 1) := by decide +kernel
theorem dX6_told_149 : decode cX6_told 149 = .ok (.iinc 3 1, 3) := by decide +kernel
theorem dX6_told_152 : decode cX6_told 152 = .ok (.goto (-28), 3) := by decide +kernel
theorem dX6_told_155 : decode cX6_told 155 = .ok (.iload_n 2, 1) := by decide +kernel
theorem dX6_told_156 : decode cX6_told 156 = .ok (.ireturn, 1) := by decide +kernel
theorem dX6_told_157 : decode cX6_told 157 = .ok (.aload_n 0, 1) := by decide +kernel
theorem dX6_told_158 : decode cX6_told 158 = .ok (.getfield 67, 3) := by decide +kernel
theorem dX6_told_161 : decode cX6_told 161 = .ok (.ireturn, 1) := by decide +kernel
theorem dX6_told_162 : decode cX6_told 162 = .ok (.bipush (-2), 2) := by decide +kernel
theorem dX6_told_164 : decode cX6_told 164 = .ok (.ireturn, 1) := by decide +kernel
theorem dX6_twice_0 : decode cX6_twice 0 = .ok (.iload_n 0, 1) := by decide +kernel
theorem dX6_twice_1 : decode cX6_twice 1 = .ok (.iconst 1, 1) := by decide +kernel
theorem dX6_twice_2 : decode cX6_twice 2 = .ok (.ishl, 1) := by decide +kernel
theorem dX6_twice_3 : decode cX6_twice 3 = .ok (.istore_n 1, 1) := by decide +kernel
theorem dX6_twice_4 : decode cX6_twice 4 = .ok (.iload_n 1, 1) := by decide +kernel
theorem dX6_twice_5 : decode cX6_twice 5 = .ok (.sipush 255, 3) := by decide +kernel
theorem dX6_twice_8 : decode cX6_twice 8 = .ok (.if_icmp .le 11, 3) := by decide +kernel
theorem dX6_twice_11 : decode cX6_twice 11 = .ok (.iload_n 1, 1) := by decide +kernel
theorem dX6_twice_12 : decode cX6_twice 12 = .ok (.sipush 285, 3) := by decide +kernel
theorem dX6_twice_15 : decode cX6_twice 15 = .ok (.ixor, 1) := by decide +kernel
theorem dX6_twice_16 : decode cX6_twice 16 = .ok (.goto 4, 3) := by decide +kernel
theorem dX6_twice_19 : decode cX6_twice 19 = .ok (.iload_n 1, 1) := by decide +kernel
theorem dX6_twice_20 : decode cX6_twice 20 = .ok (.ireturn, 1) := by decide +kernel
theorem dX6_weight_0 : decode cX6_weight 0 = .ok (.iload_n 0, 1) := by decide +kernel
theorem dX6_weight_1 : decode cX6_weight 1 = .ok (.ifCond .ne 7, 3) := by decide +kernel
theorem dX6_weight_4 : decode cX6_weight 4 = .ok (.iconst 1, 1) := by decide +kernel
theorem dX6_weight_5 : decode cX6_weight 5 = .ok (.goto 6, 3) := by decide +kernel
theorem dX6_weight_8 : decode cX6_weight 8 = .ok (.iconst 1, 1) := by decide +kernel
theorem dX6_weight_9 : decode cX6_weight 9 = .ok (.iload_n 1, 1) := by decide +kernel
theorem dX6_weight_10 : decode cX6_weight 10 = .ok (.ishl, 1) := by decide +kernel
theorem dX6_weight_11 : decode cX6_weight 11 = .ok (.ireturn, 1) := by decide +kernel
theorem dX6_add_0 : decode cX6_add 0 = .ok (.aload_n 0, 1) := by decide +kernel
theorem dX6_add_1 : decode cX6_add 1 = .ok (.iconst 0, 1) := by decide +kernel
theorem dX6_add_2 : decode cX6_add 2 = .ok (.putfield 70, 3) := by decide +kernel
theorem dX6_add_5 : decode cX6_add 5 = .ok (.iload_n 3, 1) := by decide +kernel
theorem dX6_add_6 : decode cX6_add 6 = .ok (.iconst 1, 1) := by decide +kernel
theorem dX6_add_7 : decode cX6_add 7 = .ok (.bipush 8, 2) := by decide +kernel
theorem dX6_add_9 : decode cX6_add 9 = .ok (.invokestatic 73, 3) := by decide +kernel
theorem dX6_add_12 : decode cX6_add 12 = .ok (.ifCond .ne 6, 3) := by decide +kernel
theorem dX6_add_15 : decode cX6_add 15 = .ok (.bipush (-2), 2) := by decide +kernel
theorem dX6_add_17 : decode cX6_add 17 = .ok (.ireturn, 1) := by decide +kernel
theorem dX6_add_18 : decode cX6_add 18 = .ok (.aload_n 0, 1) := by decide +kernel
theorem dX6_add_19 : decode cX6_add 19 = .ok (.getfield 17, 3) := by decide +kernel
theorem dX6_add_22 : decode cX6_add 22 = .ok (.ifCond .eq 11, 3) := by decide +kernel
theorem dX6_add_25 : decode cX6_add 25 = .ok (.aload_n 0, 1) := by decide +kernel
theorem dX6_add_26 : decode cX6_add 26 = .ok (.getfield 25, 3) := by decide +kernel
theorem dX6_add_29 : decode cX6_add 29 = .ok (.iconst (-1), 1) := by decide +kernel
theorem dX6_add_30 : decode cX6_add 30 = .ok (.if_icmp .ne 6, 3) := by decide +kernel
theorem dX6_add_33 : decode cX6_add 33 = .ok (.bipush (-3), 2) := by decide +kernel
theorem dX6_add_35 : decode cX6_add 35 = .ok (.ireturn, 1) := by decide +kernel
theorem dX6_add_36 : decode cX6_add 36 = .ok (.aload_n 0, 1) := by decide +kernel
theorem dX6_add_37 : decode cX6_add 37 = .ok (.getfield 116, 3) := by decide +kernel
theorem dX6_add_40 : decode cX6_add 40 = .ok (.iload_n 3, 1) := by decide +kernel
theorem dX6_add_41 : decode cX6_add 41 = .ok (.iadd, 1) := by decide +kernel
theorem dX6_add_42 : decode cX6_add 42 = .ok (.bipush 96, 2) := by decide +kernel
theorem dX6_add_44 : decode cX6_add 44 = .ok (.if_icmp .le 6, 3) := by decide +kernel
theorem dX6_add_47 : decode cX6_add 47 = .ok (.bipush (-4), 2) := by decide +kernel
theorem dX6_add_49 : decode cX6_add 49 = .ok (.ireturn, 1) := by decide +kernel
theorem dX6_add_50 : decode cX6_add 50 = .ok (.iconst 0, 1) := by decide +kernel
theorem dX6_add_51 : decode cX6_add 51 = .ok (.istore 4, 2) := by decide +kernel
theorem dX6_add_53 : decode cX6_add 53 = .ok (.iload 4, 2) := by decide +kernel
theorem dX6_add_55 : decode cX6_add 55 = .ok (.iload_n 3, 1) := by decide +kernel
theorem dX6_add_56 : decode cX6_add 56 = .ok (.if_icmp .ge 40, 3) := by decide +kernel
theorem dX6_add_59 : decode cX6_add 59 = .ok (.aload_n 0, 1) := by decide +kernel
theorem dX6_add_60 : decode cX6_add 60 = .ok (.getfield 28, 3) := by decide +kernel
theorem dX6_add_63 : decode cX6_add 63 = .ok (.aload_n 0, 1) := by decide +kernel
theorem dX6_add_64 : decode cX6_add 64 = .ok (.getfield 116, 3) := by decide +kernel
theorem dX6_add_67 : decode cX6_add 67 = .ok (.lload_n 1, 1) := by decide +kernel
theorem dX6_add_68 : decode cX6_add 68 = .ok (.bipush 8, 2) := by decide +kernel
theorem dX6_add_70 : decode cX6_add 70 = .ok (.iload 4, 2) := by decide +kernel
theorem dX6_add_72 : decode cX6_add 72 = .ok (.imul, 1) := by decide +kernel
theorem dX6_add_73 : decode cX6_add 73 = .ok (.lshr, 1) := by decide +kernel
theorem dX6_add_74 : decode cX6_add 74 = .ok (.ldc2_w 119, 3) := by decide +kernel
theorem dX6_add_77 : decode cX6_add 77 = .ok (.land, 1) := by decide +kernel
theorem dX6_add_78 : decode cX6_add 78 = .ok (.l2i, 1) := by decide +kernel
theorem dX6_add_79 : decode cX6_add 79 = .ok (.iastore, 1) := by decide +kernel
theorem dX6_add_80 : decode cX6_add 80 = .ok (.aload_n 0, 1) := by decide +kernel
theorem dX6_add_81 : decode cX6_add 81 = .ok (.dup, 1) := by decide +kernel
theorem dX6_add_82 : decode cX6_add 82 = .ok (.getfield 116, 3) := by decide +kernel
theorem dX6_add_85 : decode cX6_add 85 = .ok (.iconst 1, 1) := by decide +kernel
theorem dX6_add_86 : decode cX6_add 86 = .ok (.iadd, 1) := by decide +kernel
theorem dX6_add_87 : decode cX6_add 87 = .ok (.putfield 116, 3) := by decide +kernel
theorem dX6_add_90 : decode cX6_add 90 = .ok (.iinc 4 1, 3) := by decide +kernel
theorem dX6_add_93 : decode cX6_add 93 = .ok (.goto (-40), 3) := by decide +kernel
theorem dX6_add_96 : decode cX6_add 96 = .ok (.aload_n 0, 1) := by decide +kernel
theorem dX6_add_97 : decode cX6_add 97 = .ok (.getfield 116, 3) := by decide +kernel
theorem dX6_add_100 : decode cX6_add 100 = .ok (.ireturn, 1) := by decide +kernel
theorem dX6_blocksAt_0 : decode cX6_blocksAt 0 = .ok (.aload_n 0, 1) := by decide +kernel
theorem dX6_blocksAt_1 : decode cX6_blocksAt 1 = .ok (.iload_n 1, 1) := by decide +kernel
theorem dX6_blocksAt_2 : decode cX6_blocksAt 2 = .ok (.invokevirtual 103, 3) := by decide +kernel
theorem dX6_blocksAt_5 : decode cX6_blocksAt 5 = .ok (.bipush 24, 2) := by decide +kernel
theorem dX6_blocksAt_7 : decode cX6_blocksAt 7 = .ok (.iadd, 1) := by decide +kernel
theorem dX6_blocksAt_8 : decode cX6_blocksAt 8 = .ok (.iconst 1, 1) := by decide +kernel
theorem dX6_blocksAt_9 : decode cX6_blocksAt 9 = .ok (.isub, 1) := by decide +kernel
theorem dX6_blocksAt_10 : decode cX6_blocksAt 10 = .ok (.bipush 24, 2) := by decide +kernel
theorem dX6_blocksAt_12 : decode cX6_blocksAt 12 = .ok (.idiv, 1) := by decide +kernel
theorem dX6_blocksAt_13 : decode cX6_blocksAt 13 = .ok (.ireturn, 1) := by decide +kernel
theorem dX6_head_0 : decode cX6_head 0 = .ok (.aload_n 0, 1) := by decide +kernel
theorem dX6_head_1 : decode cX6_head 1 = .ok (.iconst 1, 1) := by decide +kernel
theorem dX6_head_2 : decode cX6_head 2 = .ok (.iconst 0, 1) := by decide +kernel
theorem dX6_head_3 : decode cX6_head 3 = .ok (.iconst 0, 1) := by decide +kernel
theorem dX6_head_4 : decode cX6_head 4 = .ok (.iconst 0, 1) := by decide +kernel
theorem dX6_head_5 : decode cX6_head 5 = .ok (.invokevirtual 121, 3) := by decide +kernel
theorem dX6_head_8 : decode cX6_head 8 = .ok (.iconst 0, 1) := by decide +kernel
theorem dX6_head_9 : decode cX6_head 9 = .ok (.istore_n 2, 1) := by decide +kernel
theorem dX6_head_10 : decode cX6_head 10 = .ok (.iload_n 2, 1) := by decide +kernel
theorem dX6_head_11 : decode cX6_head 11 = .ok (.iconst 4, 1) := by decide +kernel
theorem dX6_head_12 : decode cX6_head 12 = .ok (.if_icmp .ge 30, 3) := by decide +kernel
theorem dX6_head_15 : decode cX6_head 15 = .ok (.aload_n 0, 1) := by decide +kernel
theorem dX6_head_16 : decode cX6_head 16 = .ok (.getfield 40, 3) := by decide +kernel
theorem dX6_head_19 : decode cX6_head 19 = .ok (.iconst 4, 1) := by decide +kernel
theorem dX6_head_20 : decode cX6_head 20 = .ok (.iload_n 2, 1) := by decide +kernel
theorem dX6_head_21 : decode cX6_head 21 = .ok (.iadd, 1) := by decide +kernel
theorem dX6_head_22 : decode cX6_head 22 = .ok (.iload_n 1, 1) := by decide +kernel
theorem dX6_head_23 : decode cX6_head 23 = .ok (.bipush 24, 2) := by decide +kernel
theorem dX6_head_25 : decode cX6_head 25 = .ok (.bipush 8, 2) := by decide +kernel
theorem dX6_head_27 : decode cX6_head 27 = .ok (.iload_n 2, 1) := by decide +kernel
theorem dX6_head_28 : decode cX6_head 28 = .ok (.imul, 1) := by decide +kernel
theorem dX6_head_29 : decode cX6_head 29 = .ok (.isub, 1) := by decide +kernel
theorem dX6_head_30 : decode cX6_head 30 = .ok (.ishr, 1) := by decide +kernel
theorem dX6_head_31 : decode cX6_head 31 = .ok (.sipush 255, 3) := by decide +kernel
theorem dX6_head_34 : decode cX6_head 34 = .ok (.iand, 1) := by decide +kernel
theorem dX6_head_35 : decode cX6_head 35 = .ok (.iastore, 1) := by decide +kernel
theorem dX6_head_36 : decode cX6_head 36 = .ok (.iinc 2 1, 3) := by decide +kernel
theorem dX6_head_39 : decode cX6_head 39 = .ok (.goto (-29), 3) := by decide +kernel
theorem dX6_head_42 : decode cX6_head 42 = .ok (.aload_n 0, 1) := by decide +kernel
theorem dX6_head_43 : decode cX6_head 43 = .ok (.getfield 40, 3) := by decide +kernel
theorem dX6_head_46 : decode cX6_head 46 = .ok (.bipush 8, 2) := by decide +kernel
theorem dX6_head_48 : decode cX6_head 48 = .ok (.aload_n 0, 1) := by decide +kernel
theorem dX6_head_49 : decode cX6_head 49 = .ok (.getfield 21, 3) := by decide +kernel
theorem dX6_head_52 : decode cX6_head 52 = .ok (.iastore, 1) := by decide +kernel
theorem dX6_head_53 : decode cX6_head 53 = .ok (.aload_n 0, 1) := by decide +kernel
theorem dX6_head_54 : decode cX6_head 54 = .ok (.getfield 40, 3) := by decide +kernel
theorem dX6_head_57 : decode cX6_head 57 = .ok (.bipush 9, 2) := by decide +kernel
theorem dX6_head_59 : decode cX6_head 59 = .ok (.aload_n 0, 1) := by decide +kernel
theorem dX6_head_60 : decode cX6_head 60 = .ok (.getfield 100, 3) := by decide +kernel
theorem dX6_head_63 : decode cX6_head 63 = .ok (.iastore, 1) := by decide +kernel
theorem dX6_head_64 : decode cX6_head 64 = .ok (.return_, 1) := by decide +kernel
theorem dX6_isRow_0 : decode cX6_isRow 0 = .ok (.iload_n 1, 1) := by decide +kernel
theorem dX6_isRow_1 : decode cX6_isRow 1 = .ok (.iconst 0, 1) := by decide +kernel
theorem dX6_isRow_2 : decode cX6_isRow 2 = .ok (.aload_n 0, 1) := by decide +kernel
theorem dX6_isRow_3 : decode cX6_isRow 3 = .ok (.getfield 100, 3) := by decide +kernel
theorem dX6_isRow_6 : decode cX6_isRow 6 = .ok (.iconst 1, 1) := by decide +kernel
theorem dX6_isRow_7 : decode cX6_isRow 7 = .ok (.isub, 1) := by decide +kernel
theorem dX6_isRow_8 : decode cX6_isRow 8 = .ok (.invokestatic 73, 3) := by decide +kernel
theorem dX6_isRow_11 : decode cX6_isRow 11 = .ok (.ireturn, 1) := by decide +kernel
theorem dX6_isSector_0 : decode cX6_isSector 0 = .ok (.iload_n 1, 1) := by decide +kernel
theorem dX6_isSector_1 : decode cX6_isSector 1 = .ok (.iconst 0, 1) := by decide +kernel
theorem dX6_isSector_2 : decode cX6_isSector 2 = .ok (.aload_n 0, 1) := by decide +kernel
theorem dX6_isSector_3 : decode cX6_isSector 3 = .ok (.getfield 67, 3) := by decide +kernel
theorem dX6_isSector_6 : decode cX6_isSector 6 = .ok (.iconst 1, 1) := by decide +kernel
theorem dX6_isSector_7 : decode cX6_isSector 7 = .ok (.isub, 1) := by decide +kernel
theorem dX6_isSector_8 : decode cX6_isSector 8 = .ok (.invokestatic 73, 3) := by decide +kernel
theorem dX6_isSector_11 : decode cX6_isSector 11 = .ok (.ireturn, 1) := by decide +kernel
theorem dX6_open_0 : decode cX6_open 0 = .ok (.aload_n 0, 1) := by decide +kernel
theorem dX6_open_1 : decode cX6_open 1 = .ok (.iconst 0, 1) := by decide +kernel
theorem dX6_open_2 : decode cX6_open 2 = .ok (.putfield 70, 3) := by decide +kernel
theorem dX6_open_5 : decode cX6_open 5 = .ok (.iload_n 1, 1) := by decide +kernel
theorem dX6_open_6 : decode cX6_open 6 = .ok (.iconst 0, 1) := by decide +kernel
theorem dX6_open_7 : decode cX6_open 7 = .ok (.bipush 9, 2) := by decide +kernel
theorem dX6_open_9 : decode cX6_open 9 = .ok (.invokestatic 73, 3) := by decide +kernel
theorem dX6_open_12 : decode cX6_open 12 = .ok (.ifCond .ne 6, 3) := by decide +kernel
theorem dX6_open_15 : decode cX6_open 15 = .ok (.bipush (-2), 2) := by decide +kernel
theorem dX6_open_17 : decode cX6_open 17 = .ok (.ireturn, 1) := by decide +kernel
theorem dX6_open_18 : decode cX6_open 18 = .ok (.aload_n 0, 1) := by decide +kernel
theorem dX6_open_19 : decode cX6_open 19 = .ok (.getfield 17, 3) := by decide +kernel
theorem dX6_open_22 : decode cX6_open 22 = .ok (.ifCond .eq 11, 3) := by decide +kernel
theorem dX6_open_25 : decode cX6_open 25 = .ok (.aload_n 0, 1) := by decide +kernel
theorem dX6_open_26 : decode cX6_open 26 = .ok (.getfield 25, 3) := by decide +kernel
theorem dX6_open_29 : decode cX6_open 29 = .ok (.iconst (-1), 1) := by decide +kernel
theorem dX6_open_30 : decode cX6_open 30 = .ok (.if_icmp .eq 6, 3) := by decide +kernel
theorem dX6_open_33 : decode cX6_open 33 = .ok (.bipush (-3), 2) := by decide +kernel
theorem dX6_open_35 : decode cX6_open 35 = .ok (.ireturn, 1) := by decide +kernel
theorem dX6_open_36 : decode cX6_open 36 = .ok (.aload_n 0, 1) := by decide +kernel
theorem dX6_open_37 : decode cX6_open 37 = .ok (.getfield 67, 3) := by decide +kernel
theorem dX6_open_40 : decode cX6_open 40 = .ok (.aload_n 0, 1) := by decide +kernel
theorem dX6_open_41 : decode cX6_open 41 = .ok (.getfield 21, 3) := by decide +kernel
theorem dX6_open_44 : decode cX6_open 44 = .ok (.isub, 1) := by decide +kernel
theorem dX6_open_45 : decode cX6_open 45 = .ok (.iconst 5, 1) := by decide +kernel
theorem dX6_open_46 : decode cX6_open 46 = .ok (.if_icmp .lt 12, 3) := by decide +kernel
theorem dX6_open_49 : decode cX6_open 49 = .ok (.aload_n 0, 1) := by decide +kernel
theorem dX6_open_50 : decode cX6_open 50 = .ok (.getfield 100, 3) := by decide +kernel
theorem dX6_open_53 : decode cX6_open 53 = .ok (.bipush 60, 2) := by decide +kernel
theorem dX6_open_55 : decode cX6_open 55 = .ok (.if_icmp .ne 6, 3) := by decide +kernel
theorem dX6_open_58 : decode cX6_open 58 = .ok (.bipush (-4), 2) := by decide +kernel
theorem dX6_open_60 : decode cX6_open 60 = .ok (.ireturn, 1) := by decide +kernel
theorem dX6_open_61 : decode cX6_open 61 = .ok (.aload_n 0, 1) := by decide +kernel
theorem dX6_open_62 : decode cX6_open 62 = .ok (.iload_n 1, 1) := by decide +kernel
theorem dX6_open_63 : decode cX6_open 63 = .ok (.putfield 25, 3) := by decide +kernel
theorem dX6_open_66 : decode cX6_open 66 = .ok (.aload_n 0, 1) := by decide +kernel
theorem dX6_open_67 : decode cX6_open 67 = .ok (.iconst 0, 1) := by decide +kernel
theorem dX6_open_68 : decode cX6_open 68 = .ok (.putfield 116, 3) := by decide +kernel
theorem dX6_open_71 : decode cX6_open 71 = .ok (.aload_n 0, 1) := by decide +kernel
theorem dX6_open_72 : decode cX6_open 72 = .ok (.getfield 100, 3) := by decide +kernel
theorem dX6_open_75 : decode cX6_open 75 = .ok (.ireturn, 1) := by decide +kernel
theorem dX6_product_0 : decode cX6_product 0 = .ok (.iload_n 1, 1) := by decide +kernel
theorem dX6_product_1 : decode cX6_product 1 = .ok (.istore_n 2, 1) := by decide +kernel
theorem dX6_product_2 : decode cX6_product 2 = .ok (.iload_n 0, 1) := by decide +kernel
theorem dX6_product_3 : decode cX6_product 3 = .ok (.istore_n 3, 1) := by decide +kernel
theorem dX6_product_4 : decode cX6_product 4 = .ok (.iconst 0, 1) := by decide +kernel
theorem dX6_product_5 : decode cX6_product 5 = .ok (.istore 4, 2) := by decide +kernel
theorem dX6_product_7 : decode cX6_product 7 = .ok (.iload_n 2, 1) := by decide +kernel
theorem dX6_product_8 : decode cX6_product 8 = .ok (.ifCond .le 33, 3) := by decide +kernel
theorem dX6_product_11 : decode cX6_product 11 = .ok (.iload_n 2, 1) := by decide +kernel
theorem dX6_product_12 : decode cX6_product 12 = .ok (.iconst 1, 1) := by decide +kernel
theorem dX6_product_13 : decode cX6_product 13 = .ok (.iand, 1) := by decide +kernel
theorem dX6_product_14 : decode cX6_product 14 = .ok (.iconst 1, 1) := by decide +kernel
theorem dX6_product_15 : decode cX6_product 15 = .ok (.if_icmp .ne 10, 3) := by decide +kernel
theorem dX6_product_18 : decode cX6_product 18 = .ok (.iload 4, 2) := by decide +kernel
theorem dX6_product_20 : decode cX6_product 20 = .ok (.iload_n 3, 1) := by decide +kernel
theorem dX6_product_21 : decode cX6_product 21 = .ok (.ixor, 1) := by decide +kernel
theorem dX6_product_22 : decode cX6_product 22 = .ok (.goto 5, 3) := by decide +kernel
theorem dX6_product_25 : decode cX6_product 25 = .ok (.iload 4, 2) := by decide +kernel
theorem dX6_product_27 : decode cX6_product 27 = .ok (.istore 4, 2) := by decide +kernel
theorem dX6_product_29 : decode cX6_product 29 = .ok (.iload_n 3, 1) := by decide +kernel
theorem dX6_product_30 : decode cX6_product 30 = .ok (.invokestatic 135, 3) := by decide +kernel
theorem dX6_product_33 : decode cX6_product 33 = .ok (.istore_n 3, 1) := by decide +kernel
theorem dX6_product_34 : decode cX6_product 34 = .ok (.iload_n 2, 1) := by decide +kernel
theorem dX6_product_35 : decode cX6_product 35 = .ok (.iconst 1, 1) := by decide +kernel
theorem dX6_product_36 : decode cX6_product 36 = .ok (.ishr, 1) := by decide +kernel
theorem dX6_product_37 : decode cX6_product 37 = .ok (.istore_n 2, 1) := by decide +kernel
theorem dX6_product_38 : decode cX6_product 38 = .ok (.goto (-31), 3) := by decide +kernel
theorem dX6_product_41 : decode cX6_product 41 = .ok (.iload 4, 2) := by decide +kernel
theorem dX6_product_43 : decode cX6_product 43 = .ok (.ireturn, 1) := by decide +kernel
theorem dX6_seal_0 : decode cX6_seal 0 = .ok (.aload_n 0, 1) := by decide +kernel
theorem dX6_seal_1 : decode cX6_seal 1 = .ok (.getfield 40, 3) := by decide +kernel
theorem dX6_seal_4 : decode cX6_seal 4 = .ok (.iconst 0, 1) := by decide +kernel
theorem dX6_seal_5 : decode cX6_seal 5 = .ok (.invokestatic 78, 3) := by decide +kernel
theorem dX6_seal_8 : decode cX6_seal 8 = .ok (.istore_n 1, 1) := by decide +kernel
theorem dX6_seal_9 : decode cX6_seal 9 = .ok (.iconst 0, 1) := by decide +kernel
theorem dX6_seal_10 : decode cX6_seal 10 = .ok (.istore_n 2, 1) := by decide +kernel
theorem dX6_seal_11 : decode cX6_seal 11 = .ok (.iload_n 2, 1) := by decide +kernel
theorem dX6_seal_12 : decode cX6_seal 12 = .ok (.iconst 4, 1) := by decide +kernel
theorem dX6_seal_13 : decode cX6_seal 13 = .ok (.if_icmp .ge 31, 3) := by decide +kernel
theorem dX6_seal_16 : decode cX6_seal 16 = .ok (.aload_n 0, 1) := by decide +kernel
theorem dX6_seal_17 : decode cX6_seal 17 = .ok (.getfield 40, 3) := by decide +kernel
theorem dX6_seal_20 : decode cX6_seal 20 = .ok (.bipush 28, 2) := by decide +kernel
theorem dX6_seal_22 : decode cX6_seal 22 = .ok (.iload_n 2, 1) := by decide +kernel
theorem dX6_seal_23 : decode cX6_seal 23 = .ok (.iadd, 1) := by decide +kernel
theorem dX6_seal_24 : decode cX6_seal 24 = .ok (.iload_n 1, 1) := by decide +kernel
theorem dX6_seal_25 : decode cX6_seal 25 = .ok (.bipush 24, 2) := by decide +kernel
theorem dX6_seal_27 : decode cX6_seal 27 = .ok (.bipush 8, 2) := by decide +kernel
theorem dX6_seal_29 : decode cX6_seal 29 = .ok (.iload_n 2, 1) := by decide +kernel
theorem dX6_seal_30 : decode cX6_seal 30 = .ok (.imul, 1) := by decide +kernel
theorem dX6_seal_31 : decode cX6_seal 31 = .ok (.isub, 1) := by decide +kernel
theorem dX6_seal_32 : decode cX6_seal 32 = .ok (.ishr, 1) := by decide +kernel
theorem dX6_seal_33 : decode cX6_seal 33 = .ok (.sipush 255, 3) := by decide +kernel
theorem dX6_seal_36 : decode cX6_seal 36 = .ok (.iand, 1) := by decide +kernel
theorem dX6_seal_37 : decode cX6_seal 37 = .ok (.iastore, 1) := by decide +kernel
theorem dX6_seal_38 : decode cX6_seal 38 = .ok (.iinc 2 1, 3) := by decide +kernel
theorem dX6_seal_41 : decode cX6_seal 41 = .ok (.goto (-30), 3) := by decide +kernel
theorem dX6_seal_44 : decode cX6_seal 44 = .ok (.return_, 1) := by decide +kernel
theorem dX6_sortOf_0 : decode cX6_sortOf 0 = .ok (.bipush 32, 2) := by decide +kernel
theorem dX6_sortOf_2 : decode cX6_sortOf 2 = .ok (.iload_n 1, 1) := by decide +kernel
theorem dX6_sortOf_3 : decode cX6_sortOf 3 = .ok (.imul, 1) := by decide +kernel
theorem dX6_sortOf_4 : decode cX6_sortOf 4 = .ok (.istore_n 2, 1) := by decide +kernel
theorem dX6_sortOf_5 : decode cX6_sortOf 5 = .ok (.aload_n 0, 1) := by decide +kernel
theorem dX6_sortOf_6 : decode cX6_sortOf 6 = .ok (.getfield 7, 3) := by decide +kernel
theorem dX6_sortOf_9 : decode cX6_sortOf 9 = .ok (.iload_n 2, 1) := by decide +kernel
theorem dX6_sortOf_10 : decode cX6_sortOf 10 = .ok (.bipush 28, 2) := by decide +kernel
theorem dX6_sortOf_12 : decode cX6_sortOf 12 = .ok (.iadd, 1) := by decide +kernel
theorem dX6_sortOf_13 : decode cX6_sortOf 13 = .ok (.iaload, 1) := by decide +kernel
theorem dX6_sortOf_14 : decode cX6_sortOf 14 = .ok (.bipush 24, 2) := by decide +kernel
theorem dX6_sortOf_16 : decode cX6_sortOf 16 = .ok (.ishl, 1) := by decide +kernel
theorem dX6_sortOf_17 : decode cX6_sortOf 17 = .ok (.aload_n 0, 1) := by decide +kernel
theorem dX6_sortOf_18 : decode cX6_sortOf 18 = .ok (.getfield 7, 3) := by decide +kernel
theorem dX6_sortOf_21 : decode cX6_sortOf 21 = .ok (.iload_n 2, 1) := by decide +kernel
theorem dX6_sortOf_22 : decode cX6_sortOf 22 = .ok (.bipush 29, 2) := by decide +kernel
theorem dX6_sortOf_24 : decode cX6_sortOf 24 = .ok (.iadd, 1) := by decide +kernel
theorem dX6_sortOf_25 : decode cX6_sortOf 25 = .ok (.iaload, 1) := by decide +kernel
theorem dX6_sortOf_26 : decode cX6_sortOf 26 = .ok (.bipush 16, 2) := by decide +kernel
theorem dX6_sortOf_28 : decode cX6_sortOf 28 = .ok (.ishl, 1) := by decide +kernel
theorem dX6_sortOf_29 : decode cX6_sortOf 29 = .ok (.ior, 1) := by decide +kernel
theorem dX6_sortOf_30 : decode cX6_sortOf 30 = .ok (.aload_n 0, 1) := by decide +kernel
theorem dX6_sortOf_31 : decode cX6_sortOf 31 = .ok (.getfield 7, 3) := by decide +kernel
theorem dX6_sortOf_34 : decode cX6_sortOf 34 = .ok (.iload_n 2, 1) := by decide +kernel
theorem dX6_sortOf_35 : decode cX6_sortOf 35 = .ok (.bipush 30, 2) := by decide +kernel
theorem dX6_sortOf_37 : decode cX6_sortOf 37 = .ok (.iadd, 1) := by decide +kernel
theorem dX6_sortOf_38 : decode cX6_sortOf 38 = .ok (.iaload, 1) := by decide +kernel
theorem dX6_sortOf_39 : decode cX6_sortOf 39 = .ok (.bipush 8, 2) := by decide +kernel
theorem dX6_sortOf_41 : decode cX6_sortOf 41 = .ok (.ishl, 1) := by decide +kernel
theorem dX6_sortOf_42 : decode cX6_sortOf 42 = .ok (.ior, 1) := by decide +kernel
theorem dX6_sortOf_43 : decode cX6_sortOf 43 = .ok (.aload_n 0, 1) := by decide +kernel
theorem dX6_sortOf_44 : decode cX6_sortOf 44 = .ok (.getfield 7, 3) := by decide +kernel
theorem dX6_sortOf_47 : decode cX6_sortOf 47 = .ok (.iload_n 2, 1) := by decide +kernel
theorem dX6_sortOf_48 : decode cX6_sortOf 48 = .ok (.bipush 31, 2) := by decide +kernel
theorem dX6_sortOf_50 : decode cX6_sortOf 50 = .ok (.iadd, 1) := by decide +kernel
theorem dX6_sortOf_51 : decode cX6_sortOf 51 = .ok (.iaload, 1) := by decide +kernel
theorem dX6_sortOf_52 : decode cX6_sortOf 52 = .ok (.ior, 1) := by decide +kernel
theorem dX6_sortOf_53 : decode cX6_sortOf 53 = .ok (.istore_n 3, 1) := by decide +kernel
theorem dX6_sortOf_54 : decode cX6_sortOf 54 = .ok (.aload_n 0, 1) := by decide +kernel
theorem dX6_sortOf_55 : decode cX6_sortOf 55 = .ok (.getfield 13, 3) := by decide +kernel
theorem dX6_sortOf_58 : decode cX6_sortOf 58 = .ok (.iload_n 1, 1) := by decide +kernel
theorem dX6_sortOf_59 : decode cX6_sortOf 59 = .ok (.baload, 1) := by decide +kernel
theorem dX6_sortOf_60 : decode cX6_sortOf 60 = .ok (.ifCond .ne 38, 3) := by decide +kernel
theorem dX6_sortOf_63 : decode cX6_sortOf 63 = .ok (.aload_n 0, 1) := by decide +kernel
theorem dX6_sortOf_64 : decode cX6_sortOf 64 = .ok (.getfield 7, 3) := by decide +kernel
theorem dX6_sortOf_67 : decode cX6_sortOf 67 = .ok (.iload_n 2, 1) := by decide +kernel
theorem dX6_sortOf_68 : decode cX6_sortOf 68 = .ok (.iaload, 1) := by decide +kernel
theorem dX6_sortOf_69 : decode cX6_sortOf 69 = .ok (.iconst 1, 1) := by decide +kernel
theorem dX6_sortOf_70 : decode cX6_sortOf 70 = .ok (.iconst 4, 1) := by decide +kernel
theorem dX6_sortOf_71 : decode cX6_sortOf 71 = .ok (.invokestatic 73, 3) := by decide +kernel
theorem dX6_sortOf_74 : decode cX6_sortOf 74 = .ok (.ifCond .eq 24, 3) := by decide +kernel
theorem dX6_sortOf_77 : decode cX6_sortOf 77 = .ok (.iload_n 3, 1) := by decide +kernel
theorem dX6_sortOf_78 : decode cX6_sortOf 78 = .ok (.aload_n 0, 1) := by decide +kernel
theorem dX6_sortOf_79 : decode cX6_sortOf 79 = .ok (.getfield 7, 3) := by decide +kernel
theorem dX6_sortOf_82 : decode cX6_sortOf 82 = .ok (.iload_n 2, 1) := by decide +kernel
theorem dX6_sortOf_83 : decode cX6_sortOf 83 = .ok (.invokestatic 78, 3) := by decide +kernel
theorem dX6_sortOf_86 : decode cX6_sortOf 86 = .ok (.if_icmp .ne 12, 3) := by decide +kernel
theorem dX6_sortOf_89 : decode cX6_sortOf 89 = .ok (.aload_n 0, 1) := by decide +kernel
theorem dX6_sortOf_90 : decode cX6_sortOf 90 = .ok (.getfield 7, 3) := by decide +kernel
theorem dX6_sortOf_93 : decode cX6_sortOf 93 = .ok (.iload_n 2, 1) := by decide +kernel
theorem dX6_sortOf_94 : decode cX6_sortOf 94 = .ok (.iaload, 1) := by decide +kernel
theorem dX6_sortOf_95 : decode cX6_sortOf 95 = .ok (.goto 4, 3) := by decide +kernel
theorem dX6_sortOf_98 : decode cX6_sortOf 98 = .ok (.iconst 0, 1) := by decide +kernel
theorem dX6_sortOf_99 : decode cX6_sortOf 99 = .ok (.ireturn, 1) := by decide +kernel
theorem dX6_isBlock_0 : decode cX6_isBlock 0 = .ok (.aload_n 0, 1) := by decide +kernel
theorem dX6_isBlock_1 : decode cX6_isBlock 1 = .ok (.iload_n 1, 1) := by decide +kernel
theorem dX6_isBlock_2 : decode cX6_isBlock 2 = .ok (.invokevirtual 82, 3) := by decide +kernel
theorem dX6_isBlock_5 : decode cX6_isBlock 5 = .ok (.ifCond .eq 16, 3) := by decide +kernel
theorem dX6_isBlock_8 : decode cX6_isBlock 8 = .ok (.aload_n 0, 1) := by decide +kernel
theorem dX6_isBlock_9 : decode cX6_isBlock 9 = .ok (.iload_n 1, 1) := by decide +kernel
theorem dX6_isBlock_10 : decode cX6_isBlock 10 = .ok (.invokevirtual 86, 3) := by decide +kernel
theorem dX6_isBlock_13 : decode cX6_isBlock 13 = .ok (.iconst 2, 1) := by decide +kernel
theorem dX6_isBlock_14 : decode cX6_isBlock 14 = .ok (.if_icmp .ne 7, 3) := by decide +kernel
theorem dX6_isBlock_17 : decode cX6_isBlock 17 = .ok (.iconst 1, 1) := by decide +kernel
theorem dX6_isBlock_18 : decode cX6_isBlock 18 = .ok (.goto 4, 3) := by decide +kernel
theorem dX6_isBlock_21 : decode cX6_isBlock 21 = .ok (.iconst 0, 1) := by decide +kernel
theorem dX6_isBlock_22 : decode cX6_isBlock 22 = .ok (.ireturn, 1) := by decide +kernel
theorem dX6_isHead_0 : decode cX6_isHead 0 = .ok (.aload_n 0, 1) := by decide +kernel
theorem dX6_isHead_1 : decode cX6_isHead 1 = .ok (.iload_n 1, 1) := by decide +kernel
theorem dX6_isHead_2 : decode cX6_isHead 2 = .ok (.invokevirtual 86, 3) := by decide +kernel
theorem dX6_isHead_5 : decode cX6_isHead 5 = .ok (.iconst 1, 1) := by decide +kernel
theorem dX6_isHead_6 : decode cX6_isHead 6 = .ok (.if_icmp .ne 47, 3) := by decide +kernel
theorem dX6_isHead_9 : decode cX6_isHead 9 = .ok (.aload_n 0, 1) := by decide +kernel
theorem dX6_isHead_10 : decode cX6_isHead 10 = .ok (.getfield 7, 3) := by decide +kernel
theorem dX6_isHead_13 : decode cX6_isHead 13 = .ok (.bipush 32, 2) := by decide +kernel
theorem dX6_isHead_15 : decode cX6_isHead 15 = .ok (.iload_n 1, 1) := by decide +kernel
theorem dX6_isHead_16 : decode cX6_isHead 16 = .ok (.imul, 1) := by decide +kernel
theorem dX6_isHead_17 : decode cX6_isHead 17 = .ok (.bipush 8, 2) := by decide +kernel
theorem dX6_isHead_19 : decode cX6_isHead 19 = .ok (.iadd, 1) := by decide +kernel
theorem dX6_isHead_20 : decode cX6_isHead 20 = .ok (.iaload, 1) := by decide +kernel
theorem dX6_isHead_21 : decode cX6_isHead 21 = .ok (.iconst 2, 1) := by decide +kernel
theorem dX6_isHead_22 : decode cX6_isHead 22 = .ok (.aload_n 0, 1) := by decide +kernel
theorem dX6_isHead_23 : decode cX6_isHead 23 = .ok (.getfield 67, 3) := by decide +kernel
theorem dX6_isHead_26 : decode cX6_isHead 26 = .ok (.invokestatic 73, 3) := by decide +kernel
theorem dX6_isHead_29 : decode cX6_isHead 29 = .ok (.ifCond .eq 24, 3) := by decide +kernel
theorem dX6_isHead_32 : decode cX6_isHead 32 = .ok (.aload_n 0, 1) := by decide +kernel
theorem dX6_isHead_33 : decode cX6_isHead 33 = .ok (.getfield 7, 3) := by decide +kernel
theorem dX6_isHead_36 : decode cX6_isHead 36 = .ok (.bipush 32, 2) := by decide +kernel
theorem dX6_isHead_38 : decode cX6_isHead 38 = .ok (.iload_n 1, 1) := by decide +kernel
theorem dX6_isHead_39 : decode cX6_isHead 39 = .ok (.imul, 1) := by decide +kernel
theorem dX6_isHead_40 : decode cX6_isHead 40 = .ok (.bipush 9, 2) := by decide +kernel
theorem dX6_isHead_42 : decode cX6_isHead 42 = .ok (.iadd, 1) := by decide +kernel
theorem dX6_isHead_43 : decode cX6_isHead 43 = .ok (.iaload, 1) := by decide +kernel
theorem dX6_isHead_44 : decode cX6_isHead 44 = .ok (.bipush 60, 2) := by decide +kernel
theorem dX6_isHead_46 : decode cX6_isHead 46 = .ok (.if_icmp .gt 7, 3) := by decide +kernel
theorem dX6_isHead_49 : decode cX6_isHead 49 = .ok (.iconst 1, 1) := by decide +kernel
theorem dX6_isHead_50 : decode cX6_isHead 50 = .ok (.goto 4, 3) := by decide +kernel
theorem dX6_isHead_53 : decode cX6_isHead 53 = .ok (.iconst 0, 1) := by decide +kernel
theorem dX6_isHead_54 : decode cX6_isHead 54 = .ok (.ireturn, 1) := by decide +kernel
theorem dX6_lose_0 : decode cX6_lose 0 = .ok (.aload_n 0, 1) := by decide +kernel
theorem dX6_lose_1 : decode cX6_lose 1 = .ok (.iconst 0, 1) := by decide +kernel
theorem dX6_lose_2 : decode cX6_lose 2 = .ok (.putfield 70, 3) := by decide +kernel
theorem dX6_lose_5 : decode cX6_lose 5 = .ok (.aload_n 0, 1) := by decide +kernel
theorem dX6_lose_6 : decode cX6_lose 6 = .ok (.iload_n 1, 1) := by decide +kernel
theorem dX6_lose_7 : decode cX6_lose 7 = .ok (.invokevirtual 200, 3) := by decide +kernel
theorem dX6_lose_10 : decode cX6_lose 10 = .ok (.ifCond .ne 6, 3) := by decide +kernel
theorem dX6_lose_13 : decode cX6_lose 13 = .ok (.bipush (-2), 2) := by decide +kernel
theorem dX6_lose_15 : decode cX6_lose 15 = .ok (.ireturn, 1) := by decide +kernel
theorem dX6_lose_16 : decode cX6_lose 16 = .ok (.aload_n 0, 1) := by decide +kernel
theorem dX6_lose_17 : decode cX6_lose 17 = .ok (.getfield 13, 3) := by decide +kernel
theorem dX6_lose_20 : decode cX6_lose 20 = .ok (.iload_n 1, 1) := by decide +kernel
theorem dX6_lose_21 : decode cX6_lose 21 = .ok (.baload, 1) := by decide +kernel
theorem dX6_lose_22 : decode cX6_lose 22 = .ok (.ifCond .eq 7, 3) := by decide +kernel
theorem dX6_lose_25 : decode cX6_lose 25 = .ok (.iconst 0, 1) := by decide +kernel
theorem dX6_lose_26 : decode cX6_lose 26 = .ok (.goto 4, 3) := by decide +kernel
theorem dX6_lose_29 : decode cX6_lose 29 = .ok (.iconst 1, 1) := by decide +kernel
theorem dX6_lose_30 : decode cX6_lose 30 = .ok (.istore_n 2, 1) := by decide +kernel
theorem dX6_lose_31 : decode cX6_lose 31 = .ok (.aload_n 0, 1) := by decide +kernel
theorem dX6_lose_32 : decode cX6_lose 32 = .ok (.getfield 13, 3) := by decide +kernel
theorem dX6_lose_35 : decode cX6_lose 35 = .ok (.iload_n 1, 1) := by decide +kernel
theorem dX6_lose_36 : decode cX6_lose 36 = .ok (.iconst 1, 1) := by decide +kernel
theorem dX6_lose_37 : decode cX6_lose 37 = .ok (.bastore, 1) := by decide +kernel
theorem dX6_lose_38 : decode cX6_lose 38 = .ok (.iload_n 2, 1) := by decide +kernel
theorem dX6_lose_39 : decode cX6_lose 39 = .ok (.ireturn, 1) := by decide +kernel
theorem dX6_octet_0 : decode cX6_octet 0 = .ok (.aload_n 0, 1) := by decide +kernel
theorem dX6_octet_1 : decode cX6_octet 1 = .ok (.iconst 0, 1) := by decide +kernel
theorem dX6_octet_2 : decode cX6_octet 2 = .ok (.putfield 70, 3) := by decide +kernel
theorem dX6_octet_5 : decode cX6_octet 5 = .ok (.aload_n 0, 1) := by decide +kernel
theorem dX6_octet_6 : decode cX6_octet 6 = .ok (.iload_n 1, 1) := by decide +kernel
theorem dX6_octet_7 : decode cX6_octet 7 = .ok (.invokevirtual 200, 3) := by decide +kernel
theorem dX6_octet_10 : decode cX6_octet 10 = .ok (.ifCond .eq 27, 3) := by decide +kernel
theorem dX6_octet_13 : decode cX6_octet 13 = .ok (.iload_n 2, 1) := by decide +kernel
theorem dX6_octet_14 : decode cX6_octet 14 = .ok (.iconst 0, 1) := by decide +kernel
theorem dX6_octet_15 : decode cX6_octet 15 = .ok (.bipush 31, 2) := by decide +kernel
theorem dX6_octet_17 : decode cX6_octet 17 = .ok (.invokestatic 73, 3) := by decide +kernel
theorem dX6_octet_20 : decode cX6_octet 20 = .ok (.ifCond .eq 17, 3) := by decide +kernel
theorem dX6_octet_23 : decode cX6_octet 23 = .ok (.aload_n 0, 1) := by decide +kernel
theorem dX6_octet_24 : decode cX6_octet 24 = .ok (.getfield 7, 3) := by decide +kernel
theorem dX6_octet_27 : decode cX6_octet 27 = .ok (.bipush 32, 2) := by decide +kernel
theorem dX6_octet_29 : decode cX6_octet 29 = .ok (.iload_n 1, 1) := by decide +kernel
theorem dX6_octet_30 : decode cX6_octet 30 = .ok (.imul, 1) := by decide +kernel
theorem dX6_octet_31 : decode cX6_octet 31 = .ok (.iload_n 2, 1) := by decide +kernel
theorem dX6_octet_32 : decode cX6_octet 32 = .ok (.iadd, 1) := by decide +kernel
theorem dX6_octet_33 : decode cX6_octet 33 = .ok (.iaload, 1) := by decide +kernel
theorem dX6_octet_34 : decode cX6_octet 34 = .ok (.goto 5, 3) := by decide +kernel
theorem dX6_octet_37 : decode cX6_octet 37 = .ok (.bipush (-2), 2) := by decide +kernel
theorem dX6_octet_39 : decode cX6_octet 39 = .ok (.ireturn, 1) := by decide +kernel
theorem dX6_poke_0 : decode cX6_poke 0 = .ok (.aload_n 0, 1) := by decide +kernel
theorem dX6_poke_1 : decode cX6_poke 1 = .ok (.iconst 0, 1) := by decide +kernel
theorem dX6_poke_2 : decode cX6_poke 2 = .ok (.putfield 70, 3) := by decide +kernel
theorem dX6_poke_5 : decode cX6_poke 5 = .ok (.aload_n 0, 1) := by decide +kernel
theorem dX6_poke_6 : decode cX6_poke 6 = .ok (.iload_n 1, 1) := by decide +kernel
theorem dX6_poke_7 : decode cX6_poke 7 = .ok (.invokevirtual 200, 3) := by decide +kernel
theorem dX6_poke_10 : decode cX6_poke 10 = .ok (.ifCond .eq 24, 3) := by decide +kernel
theorem dX6_poke_13 : decode cX6_poke 13 = .ok (.iload_n 2, 1) := by decide +kernel
theorem dX6_poke_14 : decode cX6_poke 14 = .ok (.iconst 0, 1) := by decide +kernel
theorem dX6_poke_15 : decode cX6_poke 15 = .ok (.bipush 31, 2) := by decide +kernel
theorem dX6_poke_17 : decode cX6_poke 17 = .ok (.invokestatic 73, 3) := by decide +kernel
theorem dX6_poke_20 : decode cX6_poke 20 = .ok (.ifCond .eq 14, 3) := by decide +kernel
theorem dX6_poke_23 : decode cX6_poke 23 = .ok (.iload_n 3, 1) := by decide +kernel
theorem dX6_poke_24 : decode cX6_poke 24 = .ok (.iconst 0, 1) := by decide +kernel
theorem dX6_poke_25 : decode cX6_poke 25 = .ok (.sipush 255, 3) := by decide +kernel
theorem dX6_poke_28 : decode cX6_poke 28 = .ok (.invokestatic 73, 3) := by decide +kernel
theorem dX6_poke_31 : decode cX6_poke 31 = .ok (.ifCond .ne 6, 3) := by decide +kernel
theorem dX6_poke_34 : decode cX6_poke 34 = .ok (.bipush (-2), 2) := by decide +kernel
theorem dX6_poke_36 : decode cX6_poke 36 = .ok (.ireturn, 1) := by decide +kernel
theorem dX6_poke_37 : decode cX6_poke 37 = .ok (.aload_n 0, 1) := by decide +kernel
theorem dX6_poke_38 : decode cX6_poke 38 = .ok (.getfield 7, 3) := by decide +kernel
theorem dX6_poke_41 : decode cX6_poke 41 = .ok (.bipush 32, 2) := by decide +kernel
theorem dX6_poke_43 : decode cX6_poke 43 = .ok (.iload_n 1, 1) := by decide +kernel
theorem dX6_poke_44 : decode cX6_poke 44 = .ok (.imul, 1) := by decide +kernel
theorem dX6_poke_45 : decode cX6_poke 45 = .ok (.iload_n 2, 1) := by decide +kernel
theorem dX6_poke_46 : decode cX6_poke 46 = .ok (.iadd, 1) := by decide +kernel
theorem dX6_poke_47 : decode cX6_poke 47 = .ok (.aload_n 0, 1) := by decide +kernel
theorem dX6_poke_48 : decode cX6_poke 48 = .ok (.getfield 7, 3) := by decide +kernel
theorem dX6_poke_51 : decode cX6_poke 51 = .ok (.bipush 32, 2) := by decide +kernel
theorem dX6_poke_53 : decode cX6_poke 53 = .ok (.iload_n 1, 1) := by decide +kernel
theorem dX6_poke_54 : decode cX6_poke 54 = .ok (.imul, 1) := by decide +kernel
theorem dX6_poke_55 : decode cX6_poke 55 = .ok (.iload_n 2, 1) := by decide +kernel
theorem dX6_poke_56 : decode cX6_poke 56 = .ok (.iadd, 1) := by decide +kernel
theorem dX6_poke_57 : decode cX6_poke 57 = .ok (.iaload, 1) := by decide +kernel
theorem dX6_poke_58 : decode cX6_poke 58 = .ok (.iload_n 3, 1) := by decide +kernel
theorem dX6_poke_59 : decode cX6_poke 59 = .ok (.ixor, 1) := by decide +kernel
theorem dX6_poke_60 : decode cX6_poke 60 = .ok (.iastore, 1) := by decide +kernel
theorem dX6_poke_61 : decode cX6_poke 61 = .ok (.aload_n 0, 1) := by decide +kernel
theorem dX6_poke_62 : decode cX6_poke 62 = .ok (.getfield 7, 3) := by decide +kernel
theorem dX6_poke_65 : decode cX6_poke 65 = .ok (.bipush 32, 2) := by decide +kernel
theorem dX6_poke_67 : decode cX6_poke 67 = .ok (.iload_n 1, 1) := by decide +kernel
theorem dX6_poke_68 : decode cX6_poke 68 = .ok (.imul, 1) := by decide +kernel
theorem dX6_poke_69 : decode cX6_poke 69 = .ok (.iload_n 2, 1) := by decide +kernel
theorem dX6_poke_70 : decode cX6_poke 70 = .ok (.iadd, 1) := by decide +kernel
theorem dX6_poke_71 : decode cX6_poke 71 = .ok (.iaload, 1) := by decide +kernel
theorem dX6_poke_72 : decode cX6_poke 72 = .ok (.ireturn, 1) := by decide +kernel
