theorem dX5_blocksForLength_0 : decode cX5_blocksForLength 0 = .ok (.iload_n 0, 1) := by decide +kernel
theorem dX5_blocksForLength_1 : decode cX5_blocksForLength 1 = .ok (.bipush 24, 2) := by decide +kernel
theorem dX5_blocksForLength_3 : decode cX5_blocksForLength 3 = .ok (.iadd, 1) := by decide +kernel
theorem dX5_blocksForLength_4 : decode cX5_blocksForLength 4 = .ok (.iconst 1, 1) := by decide +kernel
theorem dX5_blocksForLength_5 : decode cX5_blocksForLength 5 = .ok (.isub, 1) := by decide +kernel
theorem dX5_blocksForLength_6 : decode cX5_blocksForLength 6 = .ok (.bipush 24, 2) := by decide +kernel
theorem dX5_blocksForLength_8 : decode cX5_blocksForLength 8 = .ok (.idiv, 1) := by decide +kernel
theorem dX5_blocksForLength_9 : decode cX5_blocksForLength 9 = .ok (.iconst 4, 1) := by decide +kernel
theorem dX5_blocksForLength_10 : decode cX5_blocksForLength 10 = .ok (.invokestatic 215, 3) := by decide +kernel
theorem dX5_blocksForLength_13 : decode cX5_blocksForLength 13 = .ok (.ireturn, 1) := by decide +kernel
theorem dX5_headSector_0 : decode cX5_headSector 0 = .ok (.iload_n 0, 1) := by decide +kernel
theorem dX5_headSector_1 : decode cX5_headSector 1 = .ok (.iconst 1, 1) := by decide +kernel
theorem dX5_headSector_2 : decode cX5_headSector 2 = .ok (.iand, 1) := by decide +kernel
theorem dX5_headSector_3 : decode cX5_headSector 3 = .ok (.ireturn, 1) := by decide +kernel
theorem dX5_isInLog_0 : decode cX5_isInLog 0 = .ok (.iload_n 1, 1) := by decide +kernel
theorem dX5_isInLog_1 : decode cX5_isInLog 1 = .ok (.iconst 2, 1) := by decide +kernel
theorem dX5_isInLog_2 : decode cX5_isInLog 2 = .ok (.if_icmp .lt 15, 3) := by decide +kernel
theorem dX5_isInLog_5 : decode cX5_isInLog 5 = .ok (.iload_n 1, 1) := by decide +kernel
theorem dX5_isInLog_6 : decode cX5_isInLog 6 = .ok (.aload_n 0, 1) := by decide +kernel
theorem dX5_isInLog_7 : decode cX5_isInLog 7 = .ok (.getfield 50, 3) := by decide +kernel
theorem dX5_isInLog_10 : decode cX5_isInLog 10 = .ok (.if_icmp .ge 7, 3) := by decide +kernel
theorem dX5_isInLog_13 : decode cX5_isInLog 13 = .ok (.iconst 1, 1) := by decide +kernel
theorem dX5_isInLog_14 : decode cX5_isInLog 14 = .ok (.goto 4, 3) := by decide +kernel
theorem dX5_isInLog_17 : decode cX5_isInLog 17 = .ok (.iconst 0, 1) := by decide +kernel
theorem dX5_isInLog_18 : decode cX5_isInLog 18 = .ok (.ireturn, 1) := by decide +kernel
theorem dX5_isOpen_0 : decode cX5_isOpen 0 = .ok (.aload_n 0, 1) := by decide +kernel
theorem dX5_isOpen_1 : decode cX5_isOpen 1 = .ok (.getfield 54, 3) := by decide +kernel
theorem dX5_isOpen_4 : decode cX5_isOpen 4 = .ok (.iconst (-1), 1) := by decide +kernel
theorem dX5_isOpen_5 : decode cX5_isOpen 5 = .ok (.if_icmp .eq 7, 3) := by decide +kernel
theorem dX5_isOpen_8 : decode cX5_isOpen 8 = .ok (.iconst 1, 1) := by decide +kernel
theorem dX5_isOpen_9 : decode cX5_isOpen 9 = .ok (.goto 4, 3) := by decide +kernel
theorem dX5_isOpen_12 : decode cX5_isOpen 12 = .ok (.iconst 0, 1) := by decide +kernel
theorem dX5_isOpen_13 : decode cX5_isOpen 13 = .ok (.ireturn, 1) := by decide +kernel
theorem dX5_isRowNumber_0 : decode cX5_isRowNumber 0 = .ok (.iload_n 1, 1) := by decide +kernel
theorem dX5_isRowNumber_1 : decode cX5_isRowNumber 1 = .ok (.ifCond .lt 15, 3) := by decide +kernel
theorem dX5_isRowNumber_4 : decode cX5_isRowNumber 4 = .ok (.iload_n 1, 1) := by decide +kernel
theorem dX5_isRowNumber_5 : decode cX5_isRowNumber 5 = .ok (.aload_n 0, 1) := by decide +kernel
theorem dX5_isRowNumber_6 : decode cX5_isRowNumber 6 = .ok (.getfield 65, 3) := by decide +kernel
theorem dX5_isRowNumber_9 : decode cX5_isRowNumber 9 = .ok (.if_icmp .ge 7, 3) := by decide +kernel
theorem dX5_isRowNumber_12 : decode cX5_isRowNumber 12 = .ok (.iconst 1, 1) := by decide +kernel
theorem dX5_isRowNumber_13 : decode cX5_isRowNumber 13 = .ok (.goto 4, 3) := by decide +kernel
theorem dX5_isRowNumber_16 : decode cX5_isRowNumber 16 = .ok (.iconst 0, 1) := by decide +kernel
theorem dX5_isRowNumber_17 : decode cX5_isRowNumber 17 = .ok (.ireturn, 1) := by decide +kernel
theorem dX5_sumOf_0 : decode cX5_sumOf 0 = .ok (.iconst 0, 1) := by decide +kernel
theorem dX5_sumOf_1 : decode cX5_sumOf 1 = .ok (.istore_n 2, 1) := by decide +kernel
theorem dX5_sumOf_2 : decode cX5_sumOf 2 = .ok (.iload_n 1, 1) := by decide +kernel
theorem dX5_sumOf_3 : decode cX5_sumOf 3 = .ok (.ifCond .lt 12, 3) := by decide +kernel
theorem dX5_sumOf_6 : decode cX5_sumOf 6 = .ok (.iload_n 1, 1) := by decide +kernel
theorem dX5_sumOf_7 : decode cX5_sumOf 7 = .ok (.aload_n 0, 1) := by decide +kernel
theorem dX5_sumOf_8 : decode cX5_sumOf 8 = .ok (.arraylength, 1) := by decide +kernel
theorem dX5_sumOf_9 : decode cX5_sumOf 9 = .ok (.bipush 32, 2) := by decide +kernel
theorem dX5_sumOf_11 : decode cX5_sumOf 11 = .ok (.isub, 1) := by decide +kernel
theorem dX5_sumOf_12 : decode cX5_sumOf 12 = .ok (.if_icmp .le 5, 3) := by decide +kernel
theorem dX5_sumOf_15 : decode cX5_sumOf 15 = .ok (.iload_n 2, 1) := by decide +kernel
theorem dX5_sumOf_16 : decode cX5_sumOf 16 = .ok (.ireturn, 1) := by decide +kernel
theorem dX5_sumOf_17 : decode cX5_sumOf 17 = .ok (.iconst 0, 1) := by decide +kernel
theorem dX5_sumOf_18 : decode cX5_sumOf 18 = .ok (.istore_n 3, 1) := by decide +kernel
theorem dX5_sumOf_19 : decode cX5_sumOf 19 = .ok (.iload_n 3, 1) := by decide +kernel
theorem dX5_sumOf_20 : decode cX5_sumOf 20 = .ok (.bipush 28, 2) := by decide +kernel
theorem dX5_sumOf_22 : decode cX5_sumOf 22 = .ok (.if_icmp .ge 34, 3) := by decide +kernel
theorem dX5_sumOf_25 : decode cX5_sumOf 25 = .ok (.iload_n 2, 1) := by decide +kernel
theorem dX5_sumOf_26 : decode cX5_sumOf 26 = .ok (.aload_n 0, 1) := by decide +kernel
theorem dX5_sumOf_27 : decode cX5_sumOf 27 = .ok (.iload_n 1, 1) := by decide +kernel
theorem dX5_sumOf_28 : decode cX5_sumOf 28 = .ok (.iload_n 3, 1) := by decide +kernel
theorem dX5_sumOf_29 : decode cX5_sumOf 29 = .ok (.iadd, 1) := by decide +kernel
theorem dX5_sumOf_30 : decode cX5_sumOf 30 = .ok (.iaload, 1) := by decide +kernel
theorem dX5_sumOf_31 : decode cX5_sumOf 31 = .ok (.ixor, 1) := by decide +kernel
theorem dX5_sumOf_32 : decode cX5_sumOf 32 = .ok (.istore 4, 2) := by decide +kernel
theorem dX5_sumOf_34 : decode cX5_sumOf 34 = .ok (.iload 4, 2) := by decide +kernel
theorem dX5_sumOf_36 : decode cX5_sumOf 36 = .ok (.bipush 7, 2) := by decide +kernel
theorem dX5_sumOf_38 : decode cX5_sumOf 38 = .ok (.ishl, 1) := by decide +kernel
theorem dX5_sumOf_39 : decode cX5_sumOf 39 = .ok (.iload 4, 2) := by decide +kernel
theorem dX5_sumOf_41 : decode cX5_sumOf 41 = .ok (.bipush 25, 2) := by decide +kernel
theorem dX5_sumOf_43 : decode cX5_sumOf 43 = .ok (.iushr, 1) := by decide +kernel
theorem dX5_sumOf_44 : decode cX5_sumOf 44 = .ok (.ior, 1) := by decide +kernel
theorem dX5_sumOf_45 : decode cX5_sumOf 45 = .ok (.ldc_w 274, 3) := by decide +kernel
theorem dX5_sumOf_48 : decode cX5_sumOf 48 = .ok (.imul, 1) := by decide +kernel
theorem dX5_sumOf_49 : decode cX5_sumOf 49 = .ok (.istore_n 2, 1) := by decide +kernel
theorem dX5_sumOf_50 : decode cX5_sumOf 50 = .ok (.iinc 3 1, 3) := by decide +kernel
theorem dX5_sumOf_53 : decode cX5_sumOf 53 = .ok (.goto (-34), 3) := by decide +kernel
theorem dX5_sumOf_56 : decode cX5_sumOf 56 = .ok (.iload_n 2, 1) := by decide +kernel
theorem dX5_sumOf_57 : decode cX5_sumOf 57 = .ok (.ireturn, 1) := by decide +kernel
theorem dX5_add_0 : decode cX5_add 0 = .ok (.iload_n 3, 1) := by decide +kernel
theorem dX5_add_1 : decode cX5_add 1 = .ok (.iconst 1, 1) := by decide +kernel
theorem dX5_add_2 : decode cX5_add 2 = .ok (.if_icmp .lt 9, 3) := by decide +kernel
theorem dX5_add_5 : decode cX5_add 5 = .ok (.iload_n 3, 1) := by decide +kernel
theorem dX5_add_6 : decode cX5_add 6 = .ok (.bipush 8, 2) := by decide +kernel
theorem dX5_add_8 : decode cX5_add 8 = .ok (.if_icmp .le 6, 3) := by decide +kernel
theorem dX5_add_11 : decode cX5_add 11 = .ok (.bipush (-2), 2) := by decide +kernel
theorem dX5_add_13 : decode cX5_add 13 = .ok (.ireturn, 1) := by decide +kernel
theorem dX5_add_14 : decode cX5_add 14 = .ok (.aload_n 0, 1) := by decide +kernel
theorem dX5_add_15 : decode cX5_add 15 = .ok (.getfield 46, 3) := by decide +kernel
theorem dX5_add_18 : decode cX5_add 18 = .ok (.ifCond .eq 10, 3) := by decide +kernel
theorem dX5_add_21 : decode cX5_add 21 = .ok (.aload_n 0, 1) := by decide +kernel
theorem dX5_add_22 : decode cX5_add 22 = .ok (.invokevirtual 57, 3) := by decide +kernel
theorem dX5_add_25 : decode cX5_add 25 = .ok (.ifCond .ne 6, 3) := by decide +kernel
theorem dX5_add_28 : decode cX5_add 28 = .ok (.bipush (-3), 2) := by decide +kernel
theorem dX5_add_30 : decode cX5_add 30 = .ok (.ireturn, 1) := by decide +kernel
theorem dX5_add_31 : decode cX5_add 31 = .ok (.aload_n 0, 1) := by decide +kernel
theorem dX5_add_32 : decode cX5_add 32 = .ok (.getfield 54, 3) := by decide +kernel
theorem dX5_add_35 : decode cX5_add 35 = .ok (.iload_n 3, 1) := by decide +kernel
theorem dX5_add_36 : decode cX5_add 36 = .ok (.iadd, 1) := by decide +kernel
theorem dX5_add_37 : decode cX5_add 37 = .ok (.bipush 96, 2) := by decide +kernel
theorem dX5_add_39 : decode cX5_add 39 = .ok (.if_icmp .le 6, 3) := by decide +kernel
theorem dX5_add_42 : decode cX5_add 42 = .ok (.bipush (-4), 2) := by decide +kernel
theorem dX5_add_44 : decode cX5_add 44 = .ok (.ireturn, 1) := by decide +kernel
theorem dX5_add_45 : decode cX5_add 45 = .ok (.iconst 0, 1) := by decide +kernel
theorem dX5_add_46 : decode cX5_add 46 = .ok (.istore 4, 2) := by decide +kernel
theorem dX5_add_48 : decode cX5_add 48 = .ok (.iload 4, 2) := by decide +kernel
theorem dX5_add_50 : decode cX5_add 50 = .ok (.iload_n 3, 1) := by decide +kernel
theorem dX5_add_51 : decode cX5_add 51 = .ok (.if_icmp .ge 33, 3) := by decide +kernel
theorem dX5_add_54 : decode cX5_add 54 = .ok (.aload_n 0, 1) := by decide +kernel
theorem dX5_add_55 : decode cX5_add 55 = .ok (.getfield 39, 3) := by decide +kernel
theorem dX5_add_58 : decode cX5_add 58 = .ok (.aload_n 0, 1) := by decide +kernel
theorem dX5_add_59 : decode cX5_add 59 = .ok (.getfield 54, 3) := by decide +kernel
theorem dX5_add_62 : decode cX5_add 62 = .ok (.iload 4, 2) := by decide +kernel
theorem dX5_add_64 : decode cX5_add 64 = .ok (.iadd, 1) := by decide +kernel
theorem dX5_add_65 : decode cX5_add 65 = .ok (.lload_n 1, 1) := by decide +kernel
theorem dX5_add_66 : decode cX5_add 66 = .ok (.bipush 8, 2) := by decide +kernel
theorem dX5_add_68 : decode cX5_add 68 = .ok (.iload 4, 2) := by decide +kernel
theorem dX5_add_70 : decode cX5_add 70 = .ok (.imul, 1) := by decide +kernel
theorem dX5_add_71 : decode cX5_add 71 = .ok (.lushr, 1) := by decide +kernel
theorem dX5_add_72 : decode cX5_add 72 = .ok (.l2i, 1) := by decide +kernel
theorem dX5_add_73 : decode cX5_add 73 = .ok (.sipush 255, 3) := by decide +kernel
theorem dX5_add_76 : decode cX5_add 76 = .ok (.iand, 1) := by decide +kernel
theorem dX5_add_77 : decode cX5_add 77 = .ok (.iastore, 1) := by decide +kernel
theorem dX5_add_78 : decode cX5_add 78 = .ok (.iinc 4 1, 3) := by decide +kernel
theorem dX5_add_81 : decode cX5_add 81 = .ok (.goto (-33), 3) := by decide +kernel
theorem dX5_add_84 : decode cX5_add 84 = .ok (.aload_n 0, 1) := by decide +kernel
theorem dX5_add_85 : decode cX5_add 85 = .ok (.dup, 1) := by decide +kernel
theorem dX5_add_86 : decode cX5_add 86 = .ok (.getfield 54, 3) := by decide +kernel
theorem dX5_add_89 : decode cX5_add 89 = .ok (.iload_n 3, 1) := by decide +kernel
theorem dX5_add_90 : decode cX5_add 90 = .ok (.iadd, 1) := by decide +kernel
theorem dX5_add_91 : decode cX5_add 91 = .ok (.putfield 54, 3) := by decide +kernel
theorem dX5_add_94 : decode cX5_add 94 = .ok (.aload_n 0, 1) := by decide +kernel
theorem dX5_add_95 : decode cX5_add 95 = .ok (.getfield 54, 3) := by decide +kernel
theorem dX5_add_98 : decode cX5_add 98 = .ok (.ireturn, 1) := by decide +kernel
theorem dX5_init_0 : decode cX5_init 0 = .ok (.aload_n 0, 1) := by decide +kernel
theorem dX5_init_1 : decode cX5_init 1 = .ok (.invokespecial 1, 3) := by decide +kernel
theorem dX5_init_4 : decode cX5_init 4 = .ok (.aload_n 0, 1) := by decide +kernel
theorem dX5_init_5 : decode cX5_init 5 = .ok (.new 7, 3) := by decide +kernel
theorem dX5_init_8 : decode cX5_init 8 = .ok (.dup, 1) := by decide +kernel
theorem dX5_init_9 : decode cX5_init 9 = .ok (.iload_n 1, 1) := by decide +kernel
theorem dX5_init_10 : decode cX5_init 10 = .ok (.invokespecial 9, 3) := by decide +kernel
theorem dX5_init_13 : decode cX5_init 13 = .ok (.putfield 12, 3) := by decide +kernel
theorem dX5_init_16 : decode cX5_init 16 = .ok (.aload_n 0, 1) := by decide +kernel
theorem dX5_init_17 : decode cX5_init 17 = .ok (.new 18, 3) := by decide +kernel
theorem dX5_init_20 : decode cX5_init 20 = .ok (.dup, 1) := by decide +kernel
theorem dX5_init_21 : decode cX5_init 21 = .ok (.invokespecial 20, 3) := by decide +kernel
theorem dX5_init_24 : decode cX5_init 24 = .ok (.putfield 21, 3) := by decide +kernel
theorem dX5_init_27 : decode cX5_init 27 = .ok (.aload_n 0, 1) := by decide +kernel
theorem dX5_init_28 : decode cX5_init 28 = .ok (.new 25, 3) := by decide +kernel
theorem dX5_init_31 : decode cX5_init 31 = .ok (.dup, 1) := by decide +kernel
theorem dX5_init_32 : decode cX5_init 32 = .ok (.invokespecial 27, 3) := by decide +kernel
theorem dX5_init_35 : decode cX5_init 35 = .ok (.putfield 28, 3) := by decide +kernel
theorem dX5_init_38 : decode cX5_init 38 = .ok (.aload_n 0, 1) := by decide +kernel
theorem dX5_init_39 : decode cX5_init 39 = .ok (.new 32, 3) := by decide +kernel
theorem dX5_init_42 : decode cX5_init 42 = .ok (.dup, 1) := by decide +kernel
theorem dX5_init_43 : decode cX5_init 43 = .ok (.invokespecial 34, 3) := by decide +kernel
theorem dX5_init_46 : decode cX5_init 46 = .ok (.putfield 35, 3) := by decide +kernel
theorem dX5_init_49 : decode cX5_init 49 = .ok (.aload_n 0, 1) := by decide +kernel
theorem dX5_init_50 : decode cX5_init 50 = .ok (.bipush 96, 2) := by decide +kernel
theorem dX5_init_52 : decode cX5_init 52 = .ok (.newarray .int, 2) := by decide +kernel
theorem dX5_init_54 : decode cX5_init 54 = .ok (.putfield 39, 3) := by decide +kernel
theorem dX5_init_57 : decode cX5_init 57 = .ok (.aload_n 0, 1) := by decide +kernel
theorem dX5_init_58 : decode cX5_init 58 = .ok (.iconst 4, 1) := by decide +kernel
theorem dX5_init_59 : decode cX5_init 59 = .ok (.newarray .int, 2) := by decide +kernel
theorem dX5_init_61 : decode cX5_init 61 = .ok (.putfield 43, 3) := by decide +kernel
theorem dX5_init_64 : decode cX5_init 64 = .ok (.aload_n 0, 1) := by decide +kernel
theorem dX5_init_65 : decode cX5_init 65 = .ok (.iconst 1, 1) := by decide +kernel
theorem dX5_init_66 : decode cX5_init 66 = .ok (.putfield 46, 3) := by decide +kernel
theorem dX5_init_69 : decode cX5_init 69 = .ok (.aload_n 0, 1) := by decide +kernel
theorem dX5_init_70 : decode cX5_init 70 = .ok (.iconst 2, 1) := by decide +kernel
theorem dX5_init_71 : decode cX5_init 71 = .ok (.putfield 50, 3) := by decide +kernel
theorem dX5_init_74 : decode cX5_init 74 = .ok (.aload_n 0, 1) := by decide +kernel
theorem dX5_init_75 : decode cX5_init 75 = .ok (.iconst (-1), 1) := by decide +kernel
theorem dX5_init_76 : decode cX5_init 76 = .ok (.putfield 54, 3) := by decide +kernel
theorem dX5_init_79 : decode cX5_init 79 = .ok (.return_, 1) := by decide +kernel
theorem dX5_lengthOfRow_0 : decode cX5_lengthOfRow 0 = .ok (.aload_n 0, 1) := by decide +kernel
theorem dX5_lengthOfRow_1 : decode cX5_lengthOfRow 1 = .ok (.getfield 12, 3) := by decide +kernel
theorem dX5_lengthOfRow_4 : decode cX5_lengthOfRow 4 = .ok (.iload_n 1, 1) := by decide +kernel
theorem dX5_lengthOfRow_5 : decode cX5_lengthOfRow 5 = .ok (.iconst 3, 1) := by decide +kernel
theorem dX5_lengthOfRow_6 : decode cX5_lengthOfRow 6 = .ok (.invokevirtual 170, 3) := by decide +kernel
theorem dX5_lengthOfRow_9 : decode cX5_lengthOfRow 9 = .ok (.ireturn, 1) := by decide +kernel
theorem dX5_octet_0 : decode cX5_octet 0 = .ok (.aload_n 0, 1) := by decide +kernel
theorem dX5_octet_1 : decode cX5_octet 1 = .ok (.getfield 12, 3) := by decide +kernel
theorem dX5_octet_4 : decode cX5_octet 4 = .ok (.iload_n 1, 1) := by decide +kernel
theorem dX5_octet_5 : decode cX5_octet 5 = .ok (.iload_n 2, 1) := by decide +kernel
theorem dX5_octet_6 : decode cX5_octet 6 = .ok (.invokevirtual 185, 3) := by decide +kernel
theorem dX5_octet_9 : decode cX5_octet 9 = .ok (.ifCond .ne 6, 3) := by decide +kernel
theorem dX5_octet_12 : decode cX5_octet 12 = .ok (.bipush (-2), 2) := by decide +kernel
theorem dX5_octet_14 : decode cX5_octet 14 = .ok (.ireturn, 1) := by decide +kernel
theorem dX5_octet_15 : decode cX5_octet 15 = .ok (.aload_n 0, 1) := by decide +kernel
theorem dX5_octet_16 : decode cX5_octet 16 = .ok (.getfield 12, 3) := by decide +kernel
theorem dX5_octet_19 : decode cX5_octet 19 = .ok (.iload_n 1, 1) := by decide +kernel
theorem dX5_octet_20 : decode cX5_octet 20 = .ok (.iload_n 2, 1) := by decide +kernel
theorem dX5_octet_21 : decode cX5_octet 21 = .ok (.invokevirtual 170, 3) := by decide +kernel
theorem dX5_octet_24 : decode cX5_octet 24 = .ok (.ireturn, 1) := by decide +kernel
theorem dX5_sectorsLeft_0 : decode cX5_sectorsLeft 0 = .ok (.aload_n 0, 1) := by decide +kernel
theorem dX5_sectorsLeft_1 : decode cX5_sectorsLeft 1 = .ok (.getfield 12, 3) := by decide +kernel
theorem dX5_sectorsLeft_4 : decode cX5_sectorsLeft 4 = .ok (.invokevirtual 205, 3) := by decide +kernel
theorem dX5_sectorsLeft_7 : decode cX5_sectorsLeft 7 = .ok (.aload_n 0, 1) := by decide +kernel
theorem dX5_sectorsLeft_8 : decode cX5_sectorsLeft 8 = .ok (.getfield 50, 3) := by decide +kernel
theorem dX5_sectorsLeft_11 : decode cX5_sectorsLeft 11 = .ok (.isub, 1) := by decide +kernel
theorem dX5_sectorsLeft_12 : decode cX5_sectorsLeft 12 = .ok (.ireturn, 1) := by decide +kernel
theorem dX5_told_0 : decode cX5_told 0 = .ok (.iload_n 1, 1) := by decide +kernel
theorem dX5_told_1 : decode cX5_told 1 = .ok (.tableswitch 122 0 9 #[55, 68, 73, 78, 83, 91, 96, 101, 106, 114], 55) := by decide +kernel
theorem dX5_told_56 : decode cX5_told 56 = .ok (.aload_n 0, 1) := by decide +kernel
theorem dX5_told_57 : decode cX5_told 57 = .ok (.getfield 46, 3) := by decide +kernel
theorem dX5_told_60 : decode cX5_told 60 = .ok (.ifCond .eq 7, 3) := by decide +kernel
theorem dX5_told_63 : decode cX5_told 63 = .ok (.iconst 1, 1) := by decide +kernel
theorem dX5_told_64 : decode cX5_told 64 = .ok (.goto 4, 3) := by decide +kernel
theorem dX5_told_67 : decode cX5_told 67 = .ok (.iconst 0, 1) := by decide +kernel
theorem dX5_told_68 : decode cX5_told 68 = .ok (.ireturn, 1) := by decide +kernel
theorem dX5_told_69 : decode cX5_told 69 = .ok (.aload_n 0, 1) := by decide +kernel
theorem dX5_told_70 : decode cX5_told 70 = .ok (.getfield 50, 3) := by decide +kernel
theorem dX5_told_73 : decode cX5_told 73 = .ok (.ireturn, 1) := by decide +kernel
theorem dX5_told_74 : decode cX5_told 74 = .ok (.aload_n 0, 1) := by decide +kernel
theorem dX5_told_75 : decode cX5_told 75 = .ok (.getfield 65, 3) := by decide +kernel
theorem dX5_told_78 : decode cX5_told 78 = .ok (.ireturn, 1) := by decide +kernel
theorem dX5_told_79 : decode cX5_told 79 = .ok (.aload_n 0, 1) := by decide +kernel
theorem dX5_told_80 : decode cX5_told 80 = .ok (.getfield 109, 3) := by decide +kernel
theorem dX5_told_83 : decode cX5_told 83 = .ok (.ireturn, 1) := by decide +kernel
theorem dX5_told_84 : decode cX5_told 84 = .ok (.aload_n 0, 1) := by decide +kernel
theorem dX5_told_85 : decode cX5_told 85 = .ok (.getfield 21, 3) := by decide +kernel
theorem dX5_told_88 : decode cX5_told 88 = .ok (.invokevirtual 125, 3) := by decide +kernel
theorem dX5_told_91 : decode cX5_told 91 = .ok (.ireturn, 1) := by decide +kernel
theorem dX5_told_92 : decode cX5_told 92 = .ok (.aload_n 0, 1) := by decide +kernel
theorem dX5_told_93 : decode cX5_told 93 = .ok (.getfield 144, 3) := by decide +kernel
theorem dX5_told_96 : decode cX5_told 96 = .ok (.ireturn, 1) := by decide +kernel
theorem dX5_told_97 : decode cX5_told 97 = .ok (.aload_n 0, 1) := by decide +kernel
theorem dX5_told_98 : decode cX5_told 98 = .ok (.getfield 199, 3) := by decide +kernel
theorem dX5_told_101 : decode cX5_told 101 = .ok (.ireturn, 1) := by decide +kernel
theorem dX5_told_102 : decode cX5_told 102 = .ok (.aload_n 0, 1) := by decide +kernel
theorem dX5_told_103 : decode cX5_told 103 = .ok (.getfield 54, 3) := by decide +kernel
theorem dX5_told_106 : decode cX5_told 106 = .ok (.ireturn, 1) := by decide +kernel
theorem dX5_told_107 : decode cX5_told 107 = .ok (.aload_n 0, 1) := by decide +kernel
theorem dX5_told_108 : decode cX5_told 108 = .ok (.getfield 12, 3) := by decide +kernel
theorem dX5_told_111 : decode cX5_told 111 = .ok (.invokevirtual 202, 3) := by decide +kernel
theorem dX5_told_114 : decode cX5_told 114 = .ok (.ireturn, 1) := by decide +kernel
theorem dX5_told_115 : decode cX5_told 115 = .ok (.aload_n 0, 1) := by decide +kernel
theorem dX5_told_116 : decode cX5_told 116 = .ok (.getfield 12, 3) := by decide +kernel
theorem dX5_told_119 : decode cX5_told 119 = .ok (.invokevirtual 205, 3) := by decide +kernel
theorem dX5_told_122 : decode cX5_told 122 = .ok (.ireturn, 1) := by decide +kernel
theorem dX5_told_123 : decode cX5_told 123 = .ok (.bipush (-2), 2) := by decide +kernel
theorem dX5_told_125 : decode cX5_told 125 = .ok (.ireturn, 1) := by decide +kernel
theorem dX5_blocksOfRow_0 : decode cX5_blocksOfRow 0 = .ok (.aload_n 0, 1) := by decide +kernel
theorem dX5_blocksOfRow_1 : decode cX5_blocksOfRow 1 = .ok (.iload_n 1, 1) := by decide +kernel
theorem dX5_blocksOfRow_2 : decode cX5_blocksOfRow 2 = .ok (.invokevirtual 150, 3) := by decide +kernel
theorem dX5_blocksOfRow_5 : decode cX5_blocksOfRow 5 = .ok (.invokestatic 77, 3) := by decide +kernel
theorem dX5_blocksOfRow_8 : decode cX5_blocksOfRow 8 = .ok (.ireturn, 1) := by decide +kernel
theorem dX5_draftHead_0 : decode cX5_draftHead 0 = .ok (.aload_n 0, 1) := by decide +kernel
theorem dX5_draftHead_1 : decode cX5_draftHead 1 = .ok (.getfield 28, 3) := by decide +kernel
theorem dX5_draftHead_4 : decode cX5_draftHead 4 = .ok (.iconst 1, 1) := by decide +kernel
theorem dX5_draftHead_5 : decode cX5_draftHead 5 = .ok (.iconst 0, 1) := by decide +kernel
theorem dX5_draftHead_6 : decode cX5_draftHead 6 = .ok (.iconst 0, 1) := by decide +kernel
theorem dX5_draftHead_7 : decode cX5_draftHead 7 = .ok (.iconst 0, 1) := by decide +kernel
theorem dX5_draftHead_8 : decode cX5_draftHead 8 = .ok (.invokevirtual 84, 3) := by decide +kernel
theorem dX5_draftHead_11 : decode cX5_draftHead 11 = .ok (.iconst 0, 1) := by decide +kernel
theorem dX5_draftHead_12 : decode cX5_draftHead 12 = .ok (.istore_n 2, 1) := by decide +kernel
theorem dX5_draftHead_13 : decode cX5_draftHead 13 = .ok (.iload_n 2, 1) := by decide +kernel
theorem dX5_draftHead_14 : decode cX5_draftHead 14 = .ok (.iconst 4, 1) := by decide +kernel
theorem dX5_draftHead_15 : decode cX5_draftHead 15 = .ok (.if_icmp .ge 26, 3) := by decide +kernel
theorem dX5_draftHead_18 : decode cX5_draftHead 18 = .ok (.aload_n 0, 1) := by decide +kernel
theorem dX5_draftHead_19 : decode cX5_draftHead 19 = .ok (.getfield 28, 3) := by decide +kernel
theorem dX5_draftHead_22 : decode cX5_draftHead 22 = .ok (.iload_n 2, 1) := by decide +kernel
theorem dX5_draftHead_23 : decode cX5_draftHead 23 = .ok (.iload_n 1, 1) := by decide +kernel
theorem dX5_draftHead_24 : decode cX5_draftHead 24 = .ok (.bipush 24, 2) := by decide +kernel
theorem dX5_draftHead_26 : decode cX5_draftHead 26 = .ok (.bipush 8, 2) := by decide +kernel
theorem dX5_draftHead_28 : decode cX5_draftHead 28 = .ok (.iload_n 2, 1) := by decide +kernel
theorem dX5_draftHead_29 : decode cX5_draftHead 29 = .ok (.imul, 1) := by decide +kernel
theorem dX5_draftHead_30 : decode cX5_draftHead 30 = .ok (.isub, 1) := by decide +kernel
theorem dX5_draftHead_31 : decode cX5_draftHead 31 = .ok (.iushr, 1) := by decide +kernel
theorem dX5_draftHead_32 : decode cX5_draftHead 32 = .ok (.invokevirtual 88, 3) := by decide +kernel
theorem dX5_draftHead_35 : decode cX5_draftHead 35 = .ok (.iinc 2 1, 3) := by decide +kernel
theorem dX5_draftHead_38 : decode cX5_draftHead 38 = .ok (.goto (-25), 3) := by decide +kernel
theorem dX5_draftHead_41 : decode cX5_draftHead 41 = .ok (.aload_n 0, 1) := by decide +kernel
theorem dX5_draftHead_42 : decode cX5_draftHead 42 = .ok (.getfield 28, 3) := by decide +kernel
theorem dX5_draftHead_45 : decode cX5_draftHead 45 = .ok (.iconst 4, 1) := by decide +kernel
theorem dX5_draftHead_46 : decode cX5_draftHead 46 = .ok (.aload_n 0, 1) := by decide +kernel
theorem dX5_draftHead_47 : decode cX5_draftHead 47 = .ok (.getfield 50, 3) := by decide +kernel
theorem dX5_draftHead_50 : decode cX5_draftHead 50 = .ok (.invokevirtual 88, 3) := by decide +kernel
theorem dX5_draftHead_53 : decode cX5_draftHead 53 = .ok (.aload_n 0, 1) := by decide +kernel
theorem dX5_draftHead_54 : decode cX5_draftHead 54 = .ok (.getfield 28, 3) := by decide +kernel
theorem dX5_draftHead_57 : decode cX5_draftHead 57 = .ok (.iconst 5, 1) := by decide +kernel
theorem dX5_draftHead_58 : decode cX5_draftHead 58 = .ok (.aload_n 0, 1) := by decide +kernel
theorem dX5_draftHead_59 : decode cX5_draftHead 59 = .ok (.getfield 65, 3) := by decide +kernel
theorem dX5_draftHead_62 : decode cX5_draftHead 62 = .ok (.invokevirtual 88, 3) := by decide +kernel
theorem dX5_draftHead_65 : decode cX5_draftHead 65 = .ok (.aload_n 0, 1) := by decide +kernel
theorem dX5_draftHead_66 : decode cX5_draftHead 66 = .ok (.getfield 28, 3) := by decide +kernel
theorem dX5_draftHead_69 : decode cX5_draftHead 69 = .ok (.invokevirtual 231, 3) := by decide +kernel
theorem dX5_draftHead_72 : decode cX5_draftHead 72 = .ok (.return_, 1) := by decide +kernel
theorem dX5_extendLog_0 : decode cX5_extendLog 0 = .ok (.aload_n 0, 1) := by decide +kernel
theorem dX5_extendLog_1 : decode cX5_extendLog 1 = .ok (.getfield 12, 3) := by decide +kernel
theorem dX5_extendLog_4 : decode cX5_extendLog 4 = .ok (.invokevirtual 205, 3) := by decide +kernel
theorem dX5_extendLog_7 : decode cX5_extendLog 7 = .ok (.istore_n 1, 1) := by decide +kernel
theorem dX5_extendLog_8 : decode cX5_extendLog 8 = .ok (.aload_n 0, 1) := by decide +kernel
theorem dX5_extendLog_9 : decode cX5_extendLog 9 = .ok (.getfield 50, 3) := by decide +kernel
theorem dX5_extendLog_12 : decode cX5_extendLog 12 = .ok (.iload_n 1, 1) := by decide +kernel
theorem dX5_extendLog_13 : decode cX5_extendLog 13 = .ok (.if_icmp .ge 31, 3) := by decide +kernel
theorem dX5_extendLog_16 : decode cX5_extendLog 16 = .ok (.aload_n 0, 1) := by decide +kernel
theorem dX5_extendLog_17 : decode cX5_extendLog 17 = .ok (.getfield 12, 3) := by decide +kernel
theorem dX5_extendLog_20 : decode cX5_extendLog 20 = .ok (.aload_n 0, 1) := by decide +kernel
theorem dX5_extendLog_21 : decode cX5_extendLog 21 = .ok (.getfield 50, 3) := by decide +kernel
theorem dX5_extendLog_24 : decode cX5_extendLog 24 = .ok (.invokevirtual 193, 3) := by decide +kernel
theorem dX5_extendLog_27 : decode cX5_extendLog 27 = .ok (.iconst 2, 1) := by decide +kernel
theorem dX5_extendLog_28 : decode cX5_extendLog 28 = .ok (.if_icmp .lt 16, 3) := by decide +kernel
theorem dX5_extendLog_31 : decode cX5_extendLog 31 = .ok (.aload_n 0, 1) := by decide +kernel
theorem dX5_extendLog_32 : decode cX5_extendLog 32 = .ok (.dup, 1) := by decide +kernel
theorem dX5_extendLog_33 : decode cX5_extendLog 33 = .ok (.getfield 50, 3) := by decide +kernel
theorem dX5_extendLog_36 : decode cX5_extendLog 36 = .ok (.iconst 1, 1) := by decide +kernel
theorem dX5_extendLog_37 : decode cX5_extendLog 37 = .ok (.iadd, 1) := by decide +kernel
theorem dX5_extendLog_38 : decode cX5_extendLog 38 = .ok (.putfield 50, 3) := by decide +kernel
theorem dX5_extendLog_41 : decode cX5_extendLog 41 = .ok (.goto (-33), 3) := by decide +kernel
theorem dX5_extendLog_44 : decode cX5_extendLog 44 = .ok (.return_, 1) := by decide +kernel
theorem dX5_findRow_0 : decode cX5_findRow 0 = .ok (.aload_n 0, 1) := by decide +kernel
theorem dX5_findRow_1 : decode cX5_findRow 1 = .ok (.getfield 50, 3) := by decide +kernel
theorem dX5_findRow_4 : decode cX5_findRow 4 = .ok (.iconst 1, 1) := by decide +kernel
theorem dX5_findRow_5 : decode cX5_findRow 5 = .ok (.isub, 1) := by decide +kernel
theorem dX5_findRow_6 : decode cX5_findRow 6 = .ok (.istore_n 2, 1) := by decide +kernel
theorem dX5_findRow_7 : decode cX5_findRow 7 = .ok (.iload_n 2, 1) := by decide +kernel
theorem dX5_findRow_8 : decode cX5_findRow 8 = .ok (.iconst 2, 1) := by decide +kernel
theorem dX5_findRow_9 : decode cX5_findRow 9 = .ok (.if_icmp .lt 46, 3) := by decide +kernel
theorem dX5_findRow_12 : decode cX5_findRow 12 = .ok (.aload_n 0, 1) := by decide +kernel
theorem dX5_findRow_13 : decode cX5_findRow 13 = .ok (.getfield 12, 3) := by decide +kernel
theorem dX5_findRow_16 : decode cX5_findRow 16 = .ok (.iload_n 2, 1) := by decide +kernel
theorem dX5_findRow_17 : decode cX5_findRow 17 = .ok (.invokevirtual 193, 3) := by decide +kernel
theorem dX5_findRow_20 : decode cX5_findRow 20 = .ok (.iconst 3, 1) := by decide +kernel
theorem dX5_findRow_21 : decode cX5_findRow 21 = .ok (.if_icmp .ne 28, 3) := by decide +kernel
theorem dX5_findRow_24 : decode cX5_findRow 24 = .ok (.aload_n 0, 1) := by decide +kernel
theorem dX5_findRow_25 : decode cX5_findRow 25 = .ok (.getfield 12, 3) := by decide +kernel
theorem dX5_findRow_28 : decode cX5_findRow 28 = .ok (.iload_n 2, 1) := by decide +kernel
theorem dX5_findRow_29 : decode cX5_findRow 29 = .ok (.iconst 2, 1) := by decide +kernel
theorem dX5_findRow_30 : decode cX5_findRow 30 = .ok (.invokevirtual 170, 3) := by decide +kernel
theorem dX5_findRow_33 : decode cX5_findRow 33 = .ok (.iload_n 1, 1) := by decide +kernel
theorem dX5_findRow_34 : decode cX5_findRow 34 = .ok (.if_icmp .ne 15, 3) := by decide +kernel
theorem dX5_findRow_37 : decode cX5_findRow 37 = .ok (.aload_n 0, 1) := by decide +kernel
theorem dX5_findRow_38 : decode cX5_findRow 38 = .ok (.iload_n 2, 1) := by decide +kernel
theorem dX5_findRow_39 : decode cX5_findRow 39 = .ok (.invokevirtual 150, 3) := by decide +kernel
theorem dX5_findRow_42 : decode cX5_findRow 42 = .ok (.bipush 96, 2) := by decide +kernel
theorem dX5_findRow_44 : decode cX5_findRow 44 = .ok (.if_icmp .gt 5, 3) := by decide +kernel
theorem dX5_findRow_47 : decode cX5_findRow 47 = .ok (.iload_n 2, 1) := by decide +kernel
theorem dX5_findRow_48 : decode cX5_findRow 48 = .ok (.ireturn, 1) := by decide +kernel
theorem dX5_findRow_49 : decode cX5_findRow 49 = .ok (.iinc 2 (-1), 3) := by decide +kernel
theorem dX5_findRow_52 : decode cX5_findRow 52 = .ok (.goto (-45), 3) := by decide +kernel
theorem dX5_findRow_55 : decode cX5_findRow 55 = .ok (.iconst (-1), 1) := by decide +kernel
theorem dX5_findRow_56 : decode cX5_findRow 56 = .ok (.ireturn, 1) := by decide +kernel
theorem dX5_findSymbol_0 : decode cX5_findSymbol 0 = .ok (.aload_n 0, 1) := by decide +kernel
theorem dX5_findSymbol_1 : decode cX5_findSymbol 1 = .ok (.getfield 50, 3) := by decide +kernel
theorem dX5_findSymbol_4 : decode cX5_findSymbol 4 = .ok (.iconst 1, 1) := by decide +kernel
theorem dX5_findSymbol_5 : decode cX5_findSymbol 5 = .ok (.isub, 1) := by decide +kernel
theorem dX5_findSymbol_6 : decode cX5_findSymbol 6 = .ok (.istore_n 3, 1) := by decide +kernel
theorem dX5_findSymbol_7 : decode cX5_findSymbol 7 = .ok (.iload_n 3, 1) := by decide +kernel
theorem dX5_findSymbol_8 : decode cX5_findSymbol 8 = .ok (.iconst 2, 1) := by decide +kernel
theorem dX5_findSymbol_9 : decode cX5_findSymbol 9 = .ok (.if_icmp .lt 49, 3) := by decide +kernel
theorem dX5_findSymbol_12 : decode cX5_findSymbol 12 = .ok (.aload_n 0, 1) := by decide +kernel
theorem dX5_findSymbol_13 : decode cX5_findSymbol 13 = .ok (.getfield 12, 3) := by decide +kernel
theorem dX5_findSymbol_16 : decode cX5_findSymbol 16 = .ok (.iload_n 3, 1) := by decide +kernel
theorem dX5_findSymbol_17 : decode cX5_findSymbol 17 = .ok (.invokevirtual 193, 3) := by decide +kernel
theorem dX5_findSymbol_20 : decode cX5_findSymbol 20 = .ok (.iconst 4, 1) := by decide +kernel
theorem dX5_findSymbol_21 : decode cX5_findSymbol 21 = .ok (.if_icmp .ne 31, 3) := by decide +kernel
theorem dX5_findSymbol_24 : decode cX5_findSymbol 24 = .ok (.aload_n 0, 1) := by decide +kernel
theorem dX5_findSymbol_25 : decode cX5_findSymbol 25 = .ok (.getfield 12, 3) := by decide +kernel
theorem dX5_findSymbol_28 : decode cX5_findSymbol 28 = .ok (.iload_n 3, 1) := by decide +kernel
theorem dX5_findSymbol_29 : decode cX5_findSymbol 29 = .ok (.iconst 1, 1) := by decide +kernel
theorem dX5_findSymbol_30 : decode cX5_findSymbol 30 = .ok (.invokevirtual 170, 3) := by decide +kernel
theorem dX5_findSymbol_33 : decode cX5_findSymbol 33 = .ok (.iload_n 1, 1) := by decide +kernel
theorem dX5_findSymbol_34 : decode cX5_findSymbol 34 = .ok (.if_icmp .ne 18, 3) := by decide +kernel
theorem dX5_findSymbol_37 : decode cX5_findSymbol 37 = .ok (.aload_n 0, 1) := by decide +kernel
theorem dX5_findSymbol_38 : decode cX5_findSymbol 38 = .ok (.getfield 12, 3) := by decide +kernel
theorem dX5_findSymbol_41 : decode cX5_findSymbol 41 = .ok (.iload_n 3, 1) := by decide +kernel
theorem dX5_findSymbol_42 : decode cX5_findSymbol 42 = .ok (.iconst 2, 1) := by decide +kernel
theorem dX5_findSymbol_43 : decode cX5_findSymbol 43 = .ok (.invokevirtual 170, 3) := by decide +kernel
theorem dX5_findSymbol_46 : decode cX5_findSymbol 46 = .ok (.iload_n 2, 1) := by decide +kernel
theorem dX5_findSymbol_47 : decode cX5_findSymbol 47 = .ok (.if_icmp .ne 5, 3) := by decide +kernel
theorem dX5_findSymbol_50 : decode cX5_findSymbol 50 = .ok (.iload_n 3, 1) := by decide +kernel
theorem dX5_findSymbol_51 : decode cX5_findSymbol 51 = .ok (.ireturn, 1) := by decide +kernel
theorem dX5_findSymbol_52 : decode cX5_findSymbol 52 = .ok (.iinc 3 (-1), 3) := by decide +kernel
theorem dX5_findSymbol_55 : decode cX5_findSymbol 55 = .ok (.goto (-48), 3) := by decide +kernel
theorem dX5_findSymbol_58 : decode cX5_findSymbol 58 = .ok (.iconst (-1), 1) := by decide +kernel
theorem dX5_findSymbol_59 : decode cX5_findSymbol 59 = .ok (.ireturn, 1) := by decide +kernel
theorem dX5_generationIn_0 : decode cX5_generationIn 0 = .ok (.iconst 0, 1) := by decide +kernel
theorem dX5_generationIn_1 : decode cX5_generationIn 1 = .ok (.istore_n 2, 1) := by decide +kernel
theorem dX5_generationIn_2 : decode cX5_generationIn 2 = .ok (.iconst 0, 1) := by decide +kernel
theorem dX5_generationIn_3 : decode cX5_generationIn 3 = .ok (.istore_n 3, 1) := by decide +kernel
theorem dX5_generationIn_4 : decode cX5_generationIn 4 = .ok (.iload_n 3, 1) := by decide +kernel
theorem dX5_generationIn_5 : decode cX5_generationIn 5 = .ok (.iconst 4, 1) := by decide +kernel
theorem dX5_generationIn_6 : decode cX5_generationIn 6 = .ok (.if_icmp .ge 24, 3) := by decide +kernel
theorem dX5_generationIn_9 : decode cX5_generationIn 9 = .ok (.iload_n 2, 1) := by decide +kernel
theorem dX5_generationIn_10 : decode cX5_generationIn 10 = .ok (.bipush 8, 2) := by decide +kernel
theorem dX5_generationIn_12 : decode cX5_generationIn 12 = .ok (.ishl, 1) := by decide +kernel
theorem dX5_generationIn_13 : decode cX5_generationIn 13 = .ok (.aload_n 0, 1) := by decide +kernel
theorem dX5_generationIn_14 : decode cX5_generationIn 14 = .ok (.getfield 12, 3) := by decide +kernel
theorem dX5_generationIn_17 : decode cX5_generationIn 17 = .ok (.iload_n 1, 1) := by decide +kernel
theorem dX5_generationIn_18 : decode cX5_generationIn 18 = .ok (.iload_n 3, 1) := by decide +kernel
theorem dX5_generationIn_19 : decode cX5_generationIn 19 = .ok (.invokevirtual 160, 3) := by decide +kernel
theorem dX5_generationIn_22 : decode cX5_generationIn 22 = .ok (.ior, 1) := by decide +kernel
theorem dX5_generationIn_23 : decode cX5_generationIn 23 = .ok (.istore_n 2, 1) := by decide +kernel
theorem dX5_generationIn_24 : decode cX5_generationIn 24 = .ok (.iinc 3 1, 3) := by decide +kernel
theorem dX5_generationIn_27 : decode cX5_generationIn 27 = .ok (.goto (-23), 3) := by decide +kernel
theorem dX5_generationIn_30 : decode cX5_generationIn 30 = .ok (.iload_n 2, 1) := by decide +kernel
theorem dX5_generationIn_31 : decode cX5_generationIn 31 = .ok (.ireturn, 1) := by decide +kernel
theorem dX5_isBlock_0 : decode cX5_isBlock 0 = .ok (.aload_n 0, 1) := by decide +kernel
theorem dX5_isBlock_1 : decode cX5_isBlock 1 = .ok (.iload_n 1, 1) := by decide +kernel
theorem dX5_isBlock_2 : decode cX5_isBlock 2 = .ok (.invokevirtual 208, 3) := by decide +kernel
theorem dX5_isBlock_5 : decode cX5_isBlock 5 = .ok (.ifCond .eq 19, 3) := by decide +kernel
theorem dX5_isBlock_8 : decode cX5_isBlock 8 = .ok (.aload_n 0, 1) := by decide +kernel
theorem dX5_isBlock_9 : decode cX5_isBlock 9 = .ok (.getfield 12, 3) := by decide +kernel
theorem dX5_isBlock_12 : decode cX5_isBlock 12 = .ok (.iload_n 1, 1) := by decide +kernel
theorem dX5_isBlock_13 : decode cX5_isBlock 13 = .ok (.invokevirtual 193, 3) := by decide +kernel
theorem dX5_isBlock_16 : decode cX5_isBlock 16 = .ok (.iconst 2, 1) := by decide +kernel
theorem dX5_isBlock_17 : decode cX5_isBlock 17 = .ok (.if_icmp .ne 7, 3) := by decide +kernel
theorem dX5_isBlock_20 : decode cX5_isBlock 20 = .ok (.iconst 1, 1) := by decide +kernel
theorem dX5_isBlock_21 : decode cX5_isBlock 21 = .ok (.goto 4, 3) := by decide +kernel
theorem dX5_isBlock_24 : decode cX5_isBlock 24 = .ok (.iconst 0, 1) := by decide +kernel
theorem dX5_isBlock_25 : decode cX5_isBlock 25 = .ok (.ireturn, 1) := by decide +kernel
theorem dX5_isHead_0 : decode cX5_isHead 0 = .ok (.aload_n 0, 1) := by decide +kernel
theorem dX5_isHead_1 : decode cX5_isHead 1 = .ok (.getfield 12, 3) := by decide +kernel
theorem dX5_isHead_4 : decode cX5_isHead 4 = .ok (.iload_n 1, 1) := by decide +kernel
theorem dX5_isHead_5 : decode cX5_isHead 5 = .ok (.iconst 4, 1) := by decide +kernel
theorem dX5_isHead_6 : decode cX5_isHead 6 = .ok (.invokevirtual 160, 3) := by decide +kernel
theorem dX5_isHead_9 : decode cX5_isHead 9 = .ok (.istore_n 2, 1) := by decide +kernel
theorem dX5_isHead_10 : decode cX5_isHead 10 = .ok (.aload_n 0, 1) := by decide +kernel
theorem dX5_isHead_11 : decode cX5_isHead 11 = .ok (.getfield 12, 3) := by decide +kernel
theorem dX5_isHead_14 : decode cX5_isHead 14 = .ok (.iload_n 1, 1) := by decide +kernel
theorem dX5_isHead_15 : decode cX5_isHead 15 = .ok (.invokevirtual 193, 3) := by decide +kernel
theorem dX5_isHead_18 : decode cX5_isHead 18 = .ok (.iconst 1, 1) := by decide +kernel
theorem dX5_isHead_19 : decode cX5_isHead 19 = .ok (.if_icmp .ne 37, 3) := by decide +kernel
theorem dX5_isHead_22 : decode cX5_isHead 22 = .ok (.iload_n 2, 1) := by decide +kernel
theorem dX5_isHead_23 : decode cX5_isHead 23 = .ok (.iconst 2, 1) := by decide +kernel
theorem dX5_isHead_24 : decode cX5_isHead 24 = .ok (.if_icmp .lt 32, 3) := by decide +kernel
theorem dX5_isHead_27 : decode cX5_isHead 27 = .ok (.iload_n 2, 1) := by decide +kernel
theorem dX5_isHead_28 : decode cX5_isHead 28 = .ok (.aload_n 0, 1) := by decide +kernel
theorem dX5_isHead_29 : decode cX5_isHead 29 = .ok (.getfield 12, 3) := by decide +kernel
theorem dX5_isHead_32 : decode cX5_isHead 32 = .ok (.invokevirtual 205, 3) := by decide +kernel
theorem dX5_isHead_35 : decode cX5_isHead 35 = .ok (.if_icmp .gt 21, 3) := by decide +kernel
theorem dX5_isHead_38 : decode cX5_isHead 38 = .ok (.aload_n 0, 1) := by decide +kernel
theorem dX5_isHead_39 : decode cX5_isHead 39 = .ok (.getfield 12, 3) := by decide +kernel
theorem dX5_isHead_42 : decode cX5_isHead 42 = .ok (.iload_n 1, 1) := by decide +kernel
theorem dX5_isHead_43 : decode cX5_isHead 43 = .ok (.iconst 5, 1) := by decide +kernel
theorem dX5_isHead_44 : decode cX5_isHead 44 = .ok (.invokevirtual 160, 3) := by decide +kernel
theorem dX5_isHead_47 : decode cX5_isHead 47 = .ok (.bipush 60, 2) := by decide +kernel
theorem dX5_isHead_49 : decode cX5_isHead 49 = .ok (.if_icmp .gt 7, 3) := by decide +kernel
theorem dX5_isHead_52 : decode cX5_isHead 52 = .ok (.iconst 1, 1) := by decide +kernel
theorem dX5_isHead_53 : decode cX5_isHead 53 = .ok (.goto 4, 3) := by decide +kernel
theorem dX5_isHead_56 : decode cX5_isHead 56 = .ok (.iconst 0, 1) := by decide +kernel
theorem dX5_isHead_57 : decode cX5_isHead 57 = .ok (.ireturn, 1) := by decide +kernel
theorem dX5_lose_0 : decode cX5_lose 0 = .ok (.aload_n 0, 1) := by decide +kernel
theorem dX5_lose_1 : decode cX5_lose 1 = .ok (.getfield 12, 3) := by decide +kernel
theorem dX5_lose_4 : decode cX5_lose 4 = .ok (.iload_n 1, 1) := by decide +kernel
theorem dX5_lose_5 : decode cX5_lose 5 = .ok (.invokevirtual 176, 3) := by decide +kernel
theorem dX5_lose_8 : decode cX5_lose 8 = .ok (.ifCond .ne 6, 3) := by decide +kernel
theorem dX5_lose_11 : decode cX5_lose 11 = .ok (.bipush (-2), 2) := by decide +kernel
theorem dX5_lose_13 : decode cX5_lose 13 = .ok (.ireturn, 1) := by decide +kernel
theorem dX5_lose_14 : decode cX5_lose 14 = .ok (.aload_n 0, 1) := by decide +kernel
theorem dX5_lose_15 : decode cX5_lose 15 = .ok (.getfield 12, 3) := by decide +kernel
theorem dX5_lose_18 : decode cX5_lose 18 = .ok (.iload_n 1, 1) := by decide +kernel
theorem dX5_lose_19 : decode cX5_lose 19 = .ok (.invokevirtual 179, 3) := by decide +kernel
theorem dX5_lose_22 : decode cX5_lose 22 = .ok (.ifCond .eq 5, 3) := by decide +kernel
theorem dX5_lose_25 : decode cX5_lose 25 = .ok (.iconst 0, 1) := by decide +kernel
theorem dX5_lose_26 : decode cX5_lose 26 = .ok (.ireturn, 1) := by decide +kernel
theorem dX5_lose_27 : decode cX5_lose 27 = .ok (.aload_n 0, 1) := by decide +kernel
theorem dX5_lose_28 : decode cX5_lose 28 = .ok (.getfield 12, 3) := by decide +kernel
theorem dX5_lose_31 : decode cX5_lose 31 = .ok (.iload_n 1, 1) := by decide +kernel
theorem dX5_lose_32 : decode cX5_lose 32 = .ok (.invokevirtual 182, 3) := by decide +kernel
theorem dX5_lose_35 : decode cX5_lose 35 = .ok (.iconst 1, 1) := by decide +kernel
theorem dX5_lose_36 : decode cX5_lose 36 = .ok (.ireturn, 1) := by decide +kernel
theorem dX5_open_0 : decode cX5_open 0 = .ok (.iload_n 1, 1) := by decide +kernel
theorem dX5_open_1 : decode cX5_open 1 = .ok (.ifCond .lt 9, 3) := by decide +kernel
theorem dX5_open_4 : decode cX5_open 4 = .ok (.iload_n 1, 1) := by decide +kernel
theorem dX5_open_5 : decode cX5_open 5 = .ok (.bipush 9, 2) := by decide +kernel
theorem dX5_open_7 : decode cX5_open 7 = .ok (.if_icmp .le 6, 3) := by decide +kernel
theorem dX5_open_10 : decode cX5_open 10 = .ok (.bipush (-2), 2) := by decide +kernel
theorem dX5_open_12 : decode cX5_open 12 = .ok (.ireturn, 1) := by decide +kernel
theorem dX5_open_13 : decode cX5_open 13 = .ok (.aload_n 0, 1) := by decide +kernel
theorem dX5_open_14 : decode cX5_open 14 = .ok (.getfield 46, 3) := by decide +kernel
theorem dX5_open_17 : decode cX5_open 17 = .ok (.ifCond .eq 10, 3) := by decide +kernel
theorem dX5_open_20 : decode cX5_open 20 = .ok (.aload_n 0, 1) := by decide +kernel
theorem dX5_open_21 : decode cX5_open 21 = .ok (.invokevirtual 57, 3) := by decide +kernel
theorem dX5_open_24 : decode cX5_open 24 = .ok (.ifCond .eq 6, 3) := by decide +kernel
theorem dX5_open_27 : decode cX5_open 27 = .ok (.bipush (-3), 2) := by decide +kernel
theorem dX5_open_29 : decode cX5_open 29 = .ok (.ireturn, 1) := by decide +kernel
theorem dX5_open_30 : decode cX5_open 30 = .ok (.aload_n 0, 1) := by decide +kernel
theorem dX5_open_31 : decode cX5_open 31 = .ok (.invokevirtual 61, 3) := by decide +kernel
theorem dX5_open_34 : decode cX5_open 34 = .ok (.iconst 5, 1) := by decide +kernel
theorem dX5_open_35 : decode cX5_open 35 = .ok (.if_icmp .lt 12, 3) := by decide +kernel
theorem dX5_open_38 : decode cX5_open 38 = .ok (.aload_n 0, 1) := by decide +kernel
theorem dX5_open_39 : decode cX5_open 39 = .ok (.getfield 65, 3) := by decide +kernel
theorem dX5_open_42 : decode cX5_open 42 = .ok (.bipush 60, 2) := by decide +kernel
theorem dX5_open_44 : decode cX5_open 44 = .ok (.if_icmp .lt 6, 3) := by decide +kernel
theorem dX5_open_47 : decode cX5_open 47 = .ok (.bipush (-4), 2) := by decide +kernel
theorem dX5_open_49 : decode cX5_open 49 = .ok (.ireturn, 1) := by decide +kernel
theorem dX5_open_50 : decode cX5_open 50 = .ok (.aload_n 0, 1) := by decide +kernel
theorem dX5_open_51 : decode cX5_open 51 = .ok (.getfield 39, 3) := by decide +kernel
theorem dX5_open_54 : decode cX5_open 54 = .ok (.iconst 0, 1) := by decide +kernel
theorem dX5_open_55 : decode cX5_open 55 = .ok (.invokestatic 68, 3) := by decide +kernel
theorem dX5_open_58 : decode cX5_open 58 = .ok (.aload_n 0, 1) := by decide +kernel
theorem dX5_open_59 : decode cX5_open 59 = .ok (.iload_n 1, 1) := by decide +kernel
theorem dX5_open_60 : decode cX5_open 60 = .ok (.putfield 74, 3) := by decide +kernel
theorem dX5_open_63 : decode cX5_open 63 = .ok (.aload_n 0, 1) := by decide +kernel
theorem dX5_open_64 : decode cX5_open 64 = .ok (.iconst 0, 1) := by decide +kernel
theorem dX5_open_65 : decode cX5_open 65 = .ok (.putfield 54, 3) := by decide +kernel
theorem dX5_open_68 : decode cX5_open 68 = .ok (.aload_n 0, 1) := by decide +kernel
theorem dX5_open_69 : decode cX5_open 69 = .ok (.getfield 65, 3) := by decide +kernel
theorem dX5_open_72 : decode cX5_open 72 = .ok (.ireturn, 1) := by decide +kernel
theorem dX5_whole_0 : decode cX5_whole 0 = .ok (.aload_n 0, 1) := by decide +kernel
theorem dX5_whole_1 : decode cX5_whole 1 = .ok (.getfield 12, 3) := by decide +kernel
theorem dX5_whole_4 : decode cX5_whole 4 = .ok (.iload_n 1, 1) := by decide +kernel
theorem dX5_whole_5 : decode cX5_whole 5 = .ok (.invokevirtual 176, 3) := by decide +kernel
theorem dX5_whole_8 : decode cX5_whole 8 = .ok (.ifCond .ne 6, 3) := by decide +kernel
theorem dX5_whole_11 : decode cX5_whole 11 = .ok (.bipush (-2), 2) := by decide +kernel
theorem dX5_whole_13 : decode cX5_whole 13 = .ok (.ireturn, 1) := by decide +kernel
theorem dX5_whole_14 : decode cX5_whole 14 = .ok (.aload_n 0, 1) := by decide +kernel
theorem dX5_whole_15 : decode cX5_whole 15 = .ok (.getfield 12, 3) := by decide +kernel
theorem dX5_whole_18 : decode cX5_whole 18 = .ok (.iload_n 1, 1) := by decide +kernel
theorem dX5_whole_19 : decode cX5_whole 19 = .ok (.invokevirtual 193, 3) := by decide +kernel
theorem dX5_whole_22 : decode cX5_whole 22 = .ok (.ireturn, 1) := by decide +kernel
theorem dX5_at_0 : decode cX5_at 0 = .ok (.aload_n 0, 1) := by decide +kernel
theorem dX5_at_1 : decode cX5_at 1 = .ok (.iload_n 1, 1) := by decide +kernel
theorem dX5_at_2 : decode cX5_at 2 = .ok (.invokevirtual 95, 3) := by decide +kernel
theorem dX5_at_5 : decode cX5_at 5 = .ok (.ifCond .ne 6, 3) := by decide +kernel
theorem dX5_at_8 : decode cX5_at 8 = .ok (.bipush (-2), 2) := by decide +kernel
theorem dX5_at_10 : decode cX5_at 10 = .ok (.ireturn, 1) := by decide +kernel
theorem dX5_at_11 : decode cX5_at 11 = .ok (.aload_n 0, 1) := by decide +kernel
theorem dX5_at_12 : decode cX5_at 12 = .ok (.getfield 46, 3) := by decide +kernel
theorem dX5_at_15 : decode cX5_at 15 = .ok (.ifCond .eq 11, 3) := by decide +kernel
theorem dX5_at_18 : decode cX5_at 18 = .ok (.aload_n 0, 1) := by decide +kernel
theorem dX5_at_19 : decode cX5_at 19 = .ok (.iload_n 1, 1) := by decide +kernel
theorem dX5_at_20 : decode cX5_at 20 = .ok (.invokevirtual 99, 3) := by decide +kernel
theorem dX5_at_23 : decode cX5_at 23 = .ok (.goto 4, 3) := by decide +kernel
theorem dX5_at_26 : decode cX5_at 26 = .ok (.iconst (-1), 1) := by decide +kernel
theorem dX5_at_27 : decode cX5_at 27 = .ok (.istore_n 3, 1) := by decide +kernel
theorem dX5_at_28 : decode cX5_at 28 = .ok (.iload_n 3, 1) := by decide +kernel
theorem dX5_at_29 : decode cX5_at 29 = .ok (.iconst (-1), 1) := by decide +kernel
theorem dX5_at_30 : decode cX5_at 30 = .ok (.if_icmp .ne 6, 3) := by decide +kernel
theorem dX5_at_33 : decode cX5_at 33 = .ok (.bipush (-3), 2) := by decide +kernel
theorem dX5_at_35 : decode cX5_at 35 = .ok (.ireturn, 1) := by decide +kernel
theorem dX5_at_36 : decode cX5_at 36 = .ok (.iload_n 2, 1) := by decide +kernel
theorem dX5_at_37 : decode cX5_at 37 = .ok (.ifCond .lt 12, 3) := by decide +kernel
theorem dX5_at_40 : decode cX5_at 40 = .ok (.iload_n 2, 1) := by decide +kernel
theorem dX5_at_41 : decode cX5_at 41 = .ok (.aload_n 0, 1) := by decide +kernel
theorem dX5_at_42 : decode cX5_at 42 = .ok (.iload_n 3, 1) := by decide +kernel
theorem dX5_at_43 : decode cX5_at 43 = .ok (.invokevirtual 150, 3) := by decide +kernel
theorem dX5_at_46 : decode cX5_at 46 = .ok (.if_icmp .lt 13, 3) := by decide +kernel
theorem dX5_at_49 : decode cX5_at 49 = .ok (.new 153, 3) := by decide +kernel
theorem dX5_at_52 : decode cX5_at 52 = .ok (.dup, 1) := by decide +kernel
theorem dX5_at_53 : decode cX5_at 53 = .ok (.ldc 155, 2) := by decide +kernel
theorem dX5_at_55 : decode cX5_at 55 = .ok (.invokespecial 157, 3) := by decide +kernel
theorem dX5_at_58 : decode cX5_at 58 = .ok (.athrow, 1) := by decide +kernel
theorem dX5_at_59 : decode cX5_at 59 = .ok (.aload_n 0, 1) := by decide +kernel
theorem dX5_at_60 : decode cX5_at 60 = .ok (.getfield 12, 3) := by decide +kernel
theorem dX5_at_63 : decode cX5_at 63 = .ok (.iload_n 3, 1) := by decide +kernel
theorem dX5_at_64 : decode cX5_at 64 = .ok (.iload_n 2, 1) := by decide +kernel
theorem dX5_at_65 : decode cX5_at 65 = .ok (.bipush 24, 2) := by decide +kernel
theorem dX5_at_67 : decode cX5_at 67 = .ok (.idiv, 1) := by decide +kernel
theorem dX5_at_68 : decode cX5_at 68 = .ok (.invokevirtual 160, 3) := by decide +kernel
theorem dX5_at_71 : decode cX5_at 71 = .ok (.istore 4, 2) := by decide +kernel
theorem dX5_at_73 : decode cX5_at 73 = .ok (.aload_n 0, 1) := by decide +kernel
theorem dX5_at_74 : decode cX5_at 74 = .ok (.iload 4, 2) := by decide +kernel
theorem dX5_at_76 : decode cX5_at 76 = .ok (.invokevirtual 164, 3) := by decide +kernel
theorem dX5_at_79 : decode cX5_at 79 = .ok (.ifCond .eq 19, 3) := by decide +kernel
theorem dX5_at_82 : decode cX5_at 82 = .ok (.aload_n 0, 1) := by decide +kernel
theorem dX5_at_83 : decode cX5_at 83 = .ok (.getfield 12, 3) := by decide +kernel
theorem dX5_at_86 : decode cX5_at 86 = .ok (.iload 4, 2) := by decide +kernel
theorem dX5_at_88 : decode cX5_at 88 = .ok (.iload_n 2, 1) := by decide +kernel
theorem dX5_at_89 : decode cX5_at 89 = .ok (.bipush 24, 2) := by decide +kernel
theorem dX5_at_91 : decode cX5_at 91 = .ok (.irem, 1) := by decide +kernel
theorem dX5_at_92 : decode cX5_at 92 = .ok (.invokevirtual 160, 3) := by decide +kernel
theorem dX5_at_95 : decode cX5_at 95 = .ok (.goto 5, 3) := by decide +kernel
theorem dX5_at_98 : decode cX5_at 98 = .ok (.bipush (-5), 2) := by decide +kernel
theorem dX5_at_100 : decode cX5_at 100 = .ok (.ireturn, 1) := by decide +kernel
theorem dX5_chooseHead_0 : decode cX5_chooseHead 0 = .ok (.aload_n 0, 1) := by decide +kernel
theorem dX5_chooseHead_1 : decode cX5_chooseHead 1 = .ok (.iconst 0, 1) := by decide +kernel
theorem dX5_chooseHead_2 : decode cX5_chooseHead 2 = .ok (.invokevirtual 238, 3) := by decide +kernel
theorem dX5_chooseHead_5 : decode cX5_chooseHead 5 = .ok (.ifCond .ne 17, 3) := by decide +kernel
theorem dX5_chooseHead_8 : decode cX5_chooseHead 8 = .ok (.aload_n 0, 1) := by decide +kernel
theorem dX5_chooseHead_9 : decode cX5_chooseHead 9 = .ok (.iconst 1, 1) := by decide +kernel
theorem dX5_chooseHead_10 : decode cX5_chooseHead 10 = .ok (.invokevirtual 238, 3) := by decide +kernel
theorem dX5_chooseHead_13 : decode cX5_chooseHead 13 = .ok (.ifCond .eq 7, 3) := by decide +kernel
theorem dX5_chooseHead_16 : decode cX5_chooseHead 16 = .ok (.iconst 1, 1) := by decide +kernel
theorem dX5_chooseHead_17 : decode cX5_chooseHead 17 = .ok (.goto 4, 3) := by decide +kernel
theorem dX5_chooseHead_20 : decode cX5_chooseHead 20 = .ok (.iconst (-1), 1) := by decide +kernel
theorem dX5_chooseHead_21 : decode cX5_chooseHead 21 = .ok (.ireturn, 1) := by decide +kernel
theorem dX5_chooseHead_22 : decode cX5_chooseHead 22 = .ok (.aload_n 0, 1) := by decide +kernel
theorem dX5_chooseHead_23 : decode cX5_chooseHead 23 = .ok (.iconst 1, 1) := by decide +kernel
theorem dX5_chooseHead_24 : decode cX5_chooseHead 24 = .ok (.invokevirtual 238, 3) := by decide +kernel
theorem dX5_chooseHead_27 : decode cX5_chooseHead 27 = .ok (.ifCond .eq 20, 3) := by decide +kernel
theorem dX5_chooseHead_30 : decode cX5_chooseHead 30 = .ok (.aload_n 0, 1) := by decide +kernel
theorem dX5_chooseHead_31 : decode cX5_chooseHead 31 = .ok (.iconst 1, 1) := by decide +kernel
theorem dX5_chooseHead_32 : decode cX5_chooseHead 32 = .ok (.invokevirtual 241, 3) := by decide +kernel
theorem dX5_chooseHead_35 : decode cX5_chooseHead 35 = .ok (.aload_n 0, 1) := by decide +kernel
theorem dX5_chooseHead_36 : decode cX5_chooseHead 36 = .ok (.iconst 0, 1) := by decide +kernel
theorem dX5_chooseHead_37 : decode cX5_chooseHead 37 = .ok (.invokevirtual 241, 3) := by decide +kernel
theorem dX5_chooseHead_40 : decode cX5_chooseHead 40 = .ok (.if_icmp .le 7, 3) := by decide +kernel
theorem dX5_chooseHead_43 : decode cX5_chooseHead 43 = .ok (.iconst 1, 1) := by decide +kernel
theorem dX5_chooseHead_44 : decode cX5_chooseHead 44 = .ok (.goto 4, 3) := by decide +kernel
theorem dX5_chooseHead_47 : decode cX5_chooseHead 47 = .ok (.iconst 0, 1) := by decide +kernel
theorem dX5_chooseHead_48 : decode cX5_chooseHead 48 = .ok (.ireturn, 1) := by decide +kernel
theorem dX5_collectGaps_0 : decode cX5_collectGaps 0 = .ok (.aload_n 0, 1) := by decide +kernel
theorem dX5_collectGaps_1 : decode cX5_collectGaps 1 = .ok (.getfield 35, 3) := by decide +kernel
theorem dX5_collectGaps_4 : decode cX5_collectGaps 4 = .ok (.invokevirtual 264, 3) := by decide +kernel
theorem dX5_collectGaps_7 : decode cX5_collectGaps 7 = .ok (.iconst 1, 1) := by decide +kernel
theorem dX5_collectGaps_8 : decode cX5_collectGaps 8 = .ok (.istore_n 2, 1) := by decide +kernel
theorem dX5_collectGaps_9 : decode cX5_collectGaps 9 = .ok (.aload_n 0, 1) := by decide +kernel
theorem dX5_collectGaps_10 : decode cX5_collectGaps 10 = .ok (.iload_n 1, 1) := by decide +kernel
theorem dX5_collectGaps_11 : decode cX5_collectGaps 11 = .ok (.invokevirtual 167, 3) := by decide +kernel
theorem dX5_collectGaps_14 : decode cX5_collectGaps 14 = .ok (.istore_n 3, 1) := by decide +kernel
theorem dX5_collectGaps_15 : decode cX5_collectGaps 15 = .ok (.iconst 0, 1) := by decide +kernel
theorem dX5_collectGaps_16 : decode cX5_collectGaps 16 = .ok (.istore 4, 2) := by decide +kernel
theorem dX5_collectGaps_18 : decode cX5_collectGaps 18 = .ok (.iload 4, 2) := by decide +kernel
theorem dX5_collectGaps_20 : decode cX5_collectGaps 20 = .ok (.iload_n 3, 1) := by decide +kernel
theorem dX5_collectGaps_21 : decode cX5_collectGaps 21 = .ok (.if_icmp .ge 56, 3) := by decide +kernel
theorem dX5_collectGaps_24 : decode cX5_collectGaps 24 = .ok (.aload_n 0, 1) := by decide +kernel
theorem dX5_collectGaps_25 : decode cX5_collectGaps 25 = .ok (.getfield 12, 3) := by decide +kernel
theorem dX5_collectGaps_28 : decode cX5_collectGaps 28 = .ok (.iload_n 1, 1) := by decide +kernel
theorem dX5_collectGaps_29 : decode cX5_collectGaps 29 = .ok (.iload 4, 2) := by decide +kernel
theorem dX5_collectGaps_31 : decode cX5_collectGaps 31 = .ok (.invokevirtual 160, 3) := by decide +kernel
theorem dX5_collectGaps_34 : decode cX5_collectGaps 34 = .ok (.istore 5, 2) := by decide +kernel
theorem dX5_collectGaps_36 : decode cX5_collectGaps 36 = .ok (.aload_n 0, 1) := by decide +kernel
theorem dX5_collectGaps_37 : decode cX5_collectGaps 37 = .ok (.iload 5, 2) := by decide +kernel
theorem dX5_collectGaps_39 : decode cX5_collectGaps 39 = .ok (.invokevirtual 208, 3) := by decide +kernel
theorem dX5_collectGaps_42 : decode cX5_collectGaps 42 = .ok (.ifCond .ne 5, 3) := by decide +kernel
theorem dX5_collectGaps_45 : decode cX5_collectGaps 45 = .ok (.iconst 0, 1) := by decide +kernel
theorem dX5_collectGaps_46 : decode cX5_collectGaps 46 = .ok (.ireturn, 1) := by decide +kernel
theorem dX5_collectGaps_47 : decode cX5_collectGaps 47 = .ok (.aload_n 0, 1) := by decide +kernel
theorem dX5_collectGaps_48 : decode cX5_collectGaps 48 = .ok (.iload 5, 2) := by decide +kernel
theorem dX5_collectGaps_50 : decode cX5_collectGaps 50 = .ok (.invokevirtual 164, 3) := by decide +kernel
theorem dX5_collectGaps_53 : decode cX5_collectGaps 53 = .ok (.ifCond .ne 13, 3) := by decide +kernel
theorem dX5_collectGaps_56 : decode cX5_collectGaps 56 = .ok (.aload_n 0, 1) := by decide +kernel
theorem dX5_collectGaps_57 : decode cX5_collectGaps 57 = .ok (.getfield 35, 3) := by decide +kernel
theorem dX5_collectGaps_60 : decode cX5_collectGaps 60 = .ok (.iload 5, 2) := by decide +kernel
theorem dX5_collectGaps_62 : decode cX5_collectGaps 62 = .ok (.iload_n 2, 1) := by decide +kernel
theorem dX5_collectGaps_63 : decode cX5_collectGaps 63 = .ok (.invokevirtual 265, 3) := by decide +kernel
theorem dX5_collectGaps_66 : decode cX5_collectGaps 66 = .ok (.iload_n 2, 1) := by decide +kernel
theorem dX5_collectGaps_67 : decode cX5_collectGaps 67 = .ok (.invokestatic 220, 3) := by decide +kernel
theorem dX5_collectGaps_70 : decode cX5_collectGaps 70 = .ok (.istore_n 2, 1) := by decide +kernel
theorem dX5_collectGaps_71 : decode cX5_collectGaps 71 = .ok (.iinc 4 1, 3) := by decide +kernel
theorem dX5_collectGaps_74 : decode cX5_collectGaps 74 = .ok (.goto (-56), 3) := by decide +kernel
theorem dX5_collectGaps_77 : decode cX5_collectGaps 77 = .ok (.aload_n 0, 1) := by decide +kernel
theorem dX5_collectGaps_78 : decode cX5_collectGaps 78 = .ok (.getfield 35, 3) := by decide +kernel
theorem dX5_collectGaps_81 : decode cX5_collectGaps 81 = .ok (.invokevirtual 267, 3) := by decide +kernel
theorem dX5_collectGaps_84 : decode cX5_collectGaps 84 = .ok (.ifCond .le 7, 3) := by decide +kernel
theorem dX5_collectGaps_87 : decode cX5_collectGaps 87 = .ok (.iconst 1, 1) := by decide +kernel
theorem dX5_collectGaps_88 : decode cX5_collectGaps 88 = .ok (.goto 4, 3) := by decide +kernel
theorem dX5_collectGaps_91 : decode cX5_collectGaps 91 = .ok (.iconst 0, 1) := by decide +kernel
theorem dX5_collectGaps_92 : decode cX5_collectGaps 92 = .ok (.ireturn, 1) := by decide +kernel
theorem dX5_countMissing_0 : decode cX5_countMissing 0 = .ok (.iconst 0, 1) := by decide +kernel
theorem dX5_countMissing_1 : decode cX5_countMissing 1 = .ok (.istore_n 2, 1) := by decide +kernel
theorem dX5_countMissing_2 : decode cX5_countMissing 2 = .ok (.aload_n 0, 1) := by decide +kernel
theorem dX5_countMissing_3 : decode cX5_countMissing 3 = .ok (.iload_n 1, 1) := by decide +kernel
theorem dX5_countMissing_4 : decode cX5_countMissing 4 = .ok (.invokevirtual 167, 3) := by decide +kernel
theorem dX5_countMissing_7 : decode cX5_countMissing 7 = .ok (.istore_n 3, 1) := by decide +kernel
theorem dX5_countMissing_8 : decode cX5_countMissing 8 = .ok (.iconst 0, 1) := by decide +kernel
theorem dX5_countMissing_9 : decode cX5_countMissing 9 = .ok (.istore 4, 2) := by decide +kernel
theorem dX5_countMissing_11 : decode cX5_countMissing 11 = .ok (.iload 4, 2) := by decide +kernel
theorem dX5_countMissing_13 : decode cX5_countMissing 13 = .ok (.iload_n 3, 1) := by decide +kernel
theorem dX5_countMissing_14 : decode cX5_countMissing 14 = .ok (.if_icmp .ge 29, 3) := by decide +kernel
theorem dX5_countMissing_17 : decode cX5_countMissing 17 = .ok (.aload_n 0, 1) := by decide +kernel
theorem dX5_countMissing_18 : decode cX5_countMissing 18 = .ok (.aload_n 0, 1) := by decide +kernel
theorem dX5_countMissing_19 : decode cX5_countMissing 19 = .ok (.getfield 12, 3) := by decide +kernel
theorem dX5_countMissing_22 : decode cX5_countMissing 22 = .ok (.iload_n 1, 1) := by decide +kernel
theorem dX5_countMissing_23 : decode cX5_countMissing 23 = .ok (.iload 4, 2) := by decide +kernel
theorem dX5_countMissing_25 : decode cX5_countMissing 25 = .ok (.invokevirtual 160, 3) := by decide +kernel
theorem dX5_countMissing_28 : decode cX5_countMissing 28 = .ok (.invokevirtual 164, 3) := by decide +kernel
theorem dX5_countMissing_31 : decode cX5_countMissing 31 = .ok (.ifCond .ne 6, 3) := by decide +kernel
theorem dX5_countMissing_34 : decode cX5_countMissing 34 = .ok (.iinc 2 1, 3) := by decide +kernel
theorem dX5_countMissing_37 : decode cX5_countMissing 37 = .ok (.iinc 4 1, 3) := by decide +kernel
theorem dX5_countMissing_40 : decode cX5_countMissing 40 = .ok (.goto (-29), 3) := by decide +kernel
theorem dX5_countMissing_43 : decode cX5_countMissing 43 = .ok (.iload_n 2, 1) := by decide +kernel
theorem dX5_countMissing_44 : decode cX5_countMissing 44 = .ok (.ireturn, 1) := by decide +kernel
theorem dX5_countRows_0 : decode cX5_countRows 0 = .ok (.bipush 59, 2) := by decide +kernel
theorem dX5_countRows_2 : decode cX5_countRows 2 = .ok (.istore_n 1, 1) := by decide +kernel
theorem dX5_countRows_3 : decode cX5_countRows 3 = .ok (.iload_n 1, 1) := by decide +kernel
theorem dX5_countRows_4 : decode cX5_countRows 4 = .ok (.aload_n 0, 1) := by decide +kernel
theorem dX5_countRows_5 : decode cX5_countRows 5 = .ok (.getfield 65, 3) := by decide +kernel
theorem dX5_countRows_8 : decode cX5_countRows 8 = .ok (.if_icmp .lt 26, 3) := by decide +kernel
theorem dX5_countRows_11 : decode cX5_countRows 11 = .ok (.aload_n 0, 1) := by decide +kernel
theorem dX5_countRows_12 : decode cX5_countRows 12 = .ok (.iload_n 1, 1) := by decide +kernel
theorem dX5_countRows_13 : decode cX5_countRows 13 = .ok (.invokevirtual 99, 3) := by decide +kernel
theorem dX5_countRows_16 : decode cX5_countRows 16 = .ok (.iconst (-1), 1) := by decide +kernel
theorem dX5_countRows_17 : decode cX5_countRows 17 = .ok (.if_icmp .eq 11, 3) := by decide +kernel
theorem dX5_countRows_20 : decode cX5_countRows 20 = .ok (.aload_n 0, 1) := by decide +kernel
theorem dX5_countRows_21 : decode cX5_countRows 21 = .ok (.iload_n 1, 1) := by decide +kernel
theorem dX5_countRows_22 : decode cX5_countRows 22 = .ok (.iconst 1, 1) := by decide +kernel
theorem dX5_countRows_23 : decode cX5_countRows 23 = .ok (.iadd, 1) := by decide +kernel
theorem dX5_countRows_24 : decode cX5_countRows 24 = .ok (.putfield 65, 3) := by decide +kernel
theorem dX5_countRows_27 : decode cX5_countRows 27 = .ok (.return_, 1) := by decide +kernel
theorem dX5_countRows_28 : decode cX5_countRows 28 = .ok (.iinc 1 (-1), 3) := by decide +kernel
theorem dX5_countRows_31 : decode cX5_countRows 31 = .ok (.goto (-28), 3) := by decide +kernel
theorem dX5_countRows_34 : decode cX5_countRows 34 = .ok (.return_, 1) := by decide +kernel
theorem dX5_fillGaps_0 : decode cX5_fillGaps 0 = .ok (.aload_n 0, 1) := by decide +kernel
theorem dX5_fillGaps_1 : decode cX5_fillGaps 1 = .ok (.getfield 35, 3) := by decide +kernel
theorem dX5_fillGaps_4 : decode cX5_fillGaps 4 = .ok (.invokevirtual 267, 3) := by decide +kernel
theorem dX5_fillGaps_7 : decode cX5_fillGaps 7 = .ok (.istore_n 1, 1) := by decide +kernel
theorem dX5_fillGaps_8 : decode cX5_fillGaps 8 = .ok (.iconst 0, 1) := by decide +kernel
theorem dX5_fillGaps_9 : decode cX5_fillGaps 9 = .ok (.istore_n 2, 1) := by decide +kernel
theorem dX5_fillGaps_10 : decode cX5_fillGaps 10 = .ok (.iload_n 2, 1) := by decide +kernel
theorem dX5_fillGaps_11 : decode cX5_fillGaps 11 = .ok (.iload_n 1, 1) := by decide +kernel
theorem dX5_fillGaps_12 : decode cX5_fillGaps 12 = .ok (.if_icmp .ge 89, 3) := by decide +kernel
theorem dX5_fillGaps_15 : decode cX5_fillGaps 15 = .ok (.aload_n 0, 1) := by decide +kernel
theorem dX5_fillGaps_16 : decode cX5_fillGaps 16 = .ok (.getfield 28, 3) := by decide +kernel
theorem dX5_fillGaps_19 : decode cX5_fillGaps 19 = .ok (.iconst 2, 1) := by decide +kernel
theorem dX5_fillGaps_20 : decode cX5_fillGaps 20 = .ok (.iconst 0, 1) := by decide +kernel
theorem dX5_fillGaps_21 : decode cX5_fillGaps 21 = .ok (.iconst 0, 1) := by decide +kernel
theorem dX5_fillGaps_22 : decode cX5_fillGaps 22 = .ok (.iconst 0, 1) := by decide +kernel
theorem dX5_fillGaps_23 : decode cX5_fillGaps 23 = .ok (.invokevirtual 84, 3) := by decide +kernel
theorem dX5_fillGaps_26 : decode cX5_fillGaps 26 = .ok (.iconst 0, 1) := by decide +kernel
theorem dX5_fillGaps_27 : decode cX5_fillGaps 27 = .ok (.istore_n 3, 1) := by decide +kernel
theorem dX5_fillGaps_28 : decode cX5_fillGaps 28 = .ok (.iload_n 3, 1) := by decide +kernel
theorem dX5_fillGaps_29 : decode cX5_fillGaps 29 = .ok (.bipush 24, 2) := by decide +kernel
theorem dX5_fillGaps_31 : decode cX5_fillGaps 31 = .ok (.if_icmp .ge 26, 3) := by decide +kernel
theorem dX5_fillGaps_34 : decode cX5_fillGaps 34 = .ok (.aload_n 0, 1) := by decide +kernel
theorem dX5_fillGaps_35 : decode cX5_fillGaps 35 = .ok (.getfield 28, 3) := by decide +kernel
theorem dX5_fillGaps_38 : decode cX5_fillGaps 38 = .ok (.iload_n 3, 1) := by decide +kernel
theorem dX5_fillGaps_39 : decode cX5_fillGaps 39 = .ok (.aload_n 0, 1) := by decide +kernel
theorem dX5_fillGaps_40 : decode cX5_fillGaps 40 = .ok (.getfield 35, 3) := by decide +kernel
theorem dX5_fillGaps_43 : decode cX5_fillGaps 43 = .ok (.iload_n 2, 1) := by decide +kernel
theorem dX5_fillGaps_44 : decode cX5_fillGaps 44 = .ok (.iload_n 3, 1) := by decide +kernel
theorem dX5_fillGaps_45 : decode cX5_fillGaps 45 = .ok (.invokevirtual 268, 3) := by decide +kernel
theorem dX5_fillGaps_48 : decode cX5_fillGaps 48 = .ok (.invokevirtual 88, 3) := by decide +kernel
theorem dX5_fillGaps_51 : decode cX5_fillGaps 51 = .ok (.iinc 3 1, 3) := by decide +kernel
theorem dX5_fillGaps_54 : decode cX5_fillGaps 54 = .ok (.goto (-26), 3) := by decide +kernel
theorem dX5_fillGaps_57 : decode cX5_fillGaps 57 = .ok (.aload_n 0, 1) := by decide +kernel
theorem dX5_fillGaps_58 : decode cX5_fillGaps 58 = .ok (.getfield 28, 3) := by decide +kernel
theorem dX5_fillGaps_61 : decode cX5_fillGaps 61 = .ok (.invokevirtual 231, 3) := by decide +kernel
theorem dX5_fillGaps_64 : decode cX5_fillGaps 64 = .ok (.aload_n 0, 1) := by decide +kernel
theorem dX5_fillGaps_65 : decode cX5_fillGaps 65 = .ok (.getfield 12, 3) := by decide +kernel
theorem dX5_fillGaps_68 : decode cX5_fillGaps 68 = .ok (.aload_n 0, 1) := by decide +kernel
theorem dX5_fillGaps_69 : decode cX5_fillGaps 69 = .ok (.getfield 35, 3) := by decide +kernel
theorem dX5_fillGaps_72 : decode cX5_fillGaps 72 = .ok (.iload_n 2, 1) := by decide +kernel
theorem dX5_fillGaps_73 : decode cX5_fillGaps 73 = .ok (.invokevirtual 271, 3) := by decide +kernel
theorem dX5_fillGaps_76 : decode cX5_fillGaps 76 = .ok (.aload_n 0, 1) := by decide +kernel
theorem dX5_fillGaps_77 : decode cX5_fillGaps 77 = .ok (.getfield 28, 3) := by decide +kernel
theorem dX5_fillGaps_80 : decode cX5_fillGaps 80 = .ok (.bipush 32, 2) := by decide +kernel
theorem dX5_fillGaps_82 : decode cX5_fillGaps 82 = .ok (.invokevirtual 118, 3) := by decide +kernel
theorem dX5_fillGaps_85 : decode cX5_fillGaps 85 = .ok (.aload_n 0, 1) := by decide +kernel
theorem dX5_fillGaps_86 : decode cX5_fillGaps 86 = .ok (.dup, 1) := by decide +kernel
theorem dX5_fillGaps_87 : decode cX5_fillGaps 87 = .ok (.getfield 144, 3) := by decide +kernel
theorem dX5_fillGaps_90 : decode cX5_fillGaps 90 = .ok (.iconst 1, 1) := by decide +kernel
theorem dX5_fillGaps_91 : decode cX5_fillGaps 91 = .ok (.iadd, 1) := by decide +kernel
theorem dX5_fillGaps_92 : decode cX5_fillGaps 92 = .ok (.putfield 144, 3) := by decide +kernel
theorem dX5_fillGaps_95 : decode cX5_fillGaps 95 = .ok (.iinc 2 1, 3) := by decide +kernel
theorem dX5_fillGaps_98 : decode cX5_fillGaps 98 = .ok (.goto (-88), 3) := by decide +kernel
theorem dX5_fillGaps_101 : decode cX5_fillGaps 101 = .ok (.return_, 1) := by decide +kernel
