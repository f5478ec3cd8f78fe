theorem dX5_findDraftedBlock_0 : decode cX5_findDraftedBlock 0 = .ok (.iconst 2, 1) := by decide +kernel
theorem dX5_findDraftedBlock_1 : decode cX5_findDraftedBlock 1 = .ok (.istore_n 1, 1) := by decide +kernel
theorem dX5_findDraftedBlock_2 : decode cX5_findDraftedBlock 2 = .ok (.iload_n 1, 1) := by decide +kernel
theorem dX5_findDraftedBlock_3 : decode cX5_findDraftedBlock 3 = .ok (.aload_n 0, 1) := by decide +kernel
theorem dX5_findDraftedBlock_4 : decode cX5_findDraftedBlock 4 = .ok (.getfield 50, 3) := by decide +kernel
theorem dX5_findDraftedBlock_7 : decode cX5_findDraftedBlock 7 = .ok (.if_icmp .ge 34, 3) := by decide +kernel
theorem dX5_findDraftedBlock_10 : decode cX5_findDraftedBlock 10 = .ok (.aload_n 0, 1) := by decide +kernel
theorem dX5_findDraftedBlock_11 : decode cX5_findDraftedBlock 11 = .ok (.iload_n 1, 1) := by decide +kernel
theorem dX5_findDraftedBlock_12 : decode cX5_findDraftedBlock 12 = .ok (.invokevirtual 164, 3) := by decide +kernel
theorem dX5_findDraftedBlock_15 : decode cX5_findDraftedBlock 15 = .ok (.ifCond .eq 20, 3) := by decide +kernel
theorem dX5_findDraftedBlock_18 : decode cX5_findDraftedBlock 18 = .ok (.aload_n 0, 1) := by decide +kernel
theorem dX5_findDraftedBlock_19 : decode cX5_findDraftedBlock 19 = .ok (.getfield 12, 3) := by decide +kernel
theorem dX5_findDraftedBlock_22 : decode cX5_findDraftedBlock 22 = .ok (.iload_n 1, 1) := by decide +kernel
theorem dX5_findDraftedBlock_23 : decode cX5_findDraftedBlock 23 = .ok (.aload_n 0, 1) := by decide +kernel
theorem dX5_findDraftedBlock_24 : decode cX5_findDraftedBlock 24 = .ok (.getfield 28, 3) := by decide +kernel
theorem dX5_findDraftedBlock_27 : decode cX5_findDraftedBlock 27 = .ok (.invokevirtual 211, 3) := by decide +kernel
theorem dX5_findDraftedBlock_30 : decode cX5_findDraftedBlock 30 = .ok (.ifCond .eq 5, 3) := by decide +kernel
theorem dX5_findDraftedBlock_33 : decode cX5_findDraftedBlock 33 = .ok (.iload_n 1, 1) := by decide +kernel
theorem dX5_findDraftedBlock_34 : decode cX5_findDraftedBlock 34 = .ok (.ireturn, 1) := by decide +kernel
theorem dX5_findDraftedBlock_35 : decode cX5_findDraftedBlock 35 = .ok (.iinc 1 1, 3) := by decide +kernel
theorem dX5_findDraftedBlock_38 : decode cX5_findDraftedBlock 38 = .ok (.goto (-36), 3) := by decide +kernel
theorem dX5_findDraftedBlock_41 : decode cX5_findDraftedBlock 41 = .ok (.iconst (-1), 1) := by decide +kernel
theorem dX5_findDraftedBlock_42 : decode cX5_findDraftedBlock 42 = .ok (.ireturn, 1) := by decide +kernel
theorem dX5_poke_0 : decode cX5_poke 0 = .ok (.aload_n 0, 1) := by decide +kernel
theorem dX5_poke_1 : decode cX5_poke 1 = .ok (.getfield 12, 3) := by decide +kernel
theorem dX5_poke_4 : decode cX5_poke 4 = .ok (.iload_n 1, 1) := by decide +kernel
theorem dX5_poke_5 : decode cX5_poke 5 = .ok (.iload_n 2, 1) := by decide +kernel
theorem dX5_poke_6 : decode cX5_poke 6 = .ok (.invokevirtual 185, 3) := by decide +kernel
theorem dX5_poke_9 : decode cX5_poke 9 = .ok (.ifCond .eq 14, 3) := by decide +kernel
theorem dX5_poke_12 : decode cX5_poke 12 = .ok (.iload_n 3, 1) := by decide +kernel
theorem dX5_poke_13 : decode cX5_poke 13 = .ok (.ifCond .lt 10, 3) := by decide +kernel
theorem dX5_poke_16 : decode cX5_poke 16 = .ok (.iload_n 3, 1) := by decide +kernel
theorem dX5_poke_17 : decode cX5_poke 17 = .ok (.sipush 255, 3) := by decide +kernel
theorem dX5_poke_20 : decode cX5_poke 20 = .ok (.if_icmp .le 6, 3) := by decide +kernel
theorem dX5_poke_23 : decode cX5_poke 23 = .ok (.bipush (-2), 2) := by decide +kernel
theorem dX5_poke_25 : decode cX5_poke 25 = .ok (.ireturn, 1) := by decide +kernel
theorem dX5_poke_26 : decode cX5_poke 26 = .ok (.aload_n 0, 1) := by decide +kernel
theorem dX5_poke_27 : decode cX5_poke 27 = .ok (.getfield 12, 3) := by decide +kernel
theorem dX5_poke_30 : decode cX5_poke 30 = .ok (.iload_n 1, 1) := by decide +kernel
theorem dX5_poke_31 : decode cX5_poke 31 = .ok (.iload_n 2, 1) := by decide +kernel
theorem dX5_poke_32 : decode cX5_poke 32 = .ok (.iload_n 3, 1) := by decide +kernel
theorem dX5_poke_33 : decode cX5_poke 33 = .ok (.invokevirtual 189, 3) := by decide +kernel
theorem dX5_poke_36 : decode cX5_poke 36 = .ok (.aload_n 0, 1) := by decide +kernel
theorem dX5_poke_37 : decode cX5_poke 37 = .ok (.getfield 12, 3) := by decide +kernel
theorem dX5_poke_40 : decode cX5_poke 40 = .ok (.iload_n 1, 1) := by decide +kernel
theorem dX5_poke_41 : decode cX5_poke 41 = .ok (.iload_n 2, 1) := by decide +kernel
theorem dX5_poke_42 : decode cX5_poke 42 = .ok (.invokevirtual 170, 3) := by decide +kernel
theorem dX5_poke_45 : decode cX5_poke 45 = .ok (.ireturn, 1) := by decide +kernel
theorem dX5_symbolByte_0 : decode cX5_symbolByte 0 = .ok (.iconst 0, 1) := by decide +kernel
theorem dX5_symbolByte_1 : decode cX5_symbolByte 1 = .ok (.istore 4, 2) := by decide +kernel
theorem dX5_symbolByte_3 : decode cX5_symbolByte 3 = .ok (.aload_n 0, 1) := by decide +kernel
theorem dX5_symbolByte_4 : decode cX5_symbolByte 4 = .ok (.iload_n 1, 1) := by decide +kernel
theorem dX5_symbolByte_5 : decode cX5_symbolByte 5 = .ok (.invokevirtual 167, 3) := by decide +kernel
theorem dX5_symbolByte_8 : decode cX5_symbolByte 8 = .ok (.iconst 1, 1) := by decide +kernel
theorem dX5_symbolByte_9 : decode cX5_symbolByte 9 = .ok (.isub, 1) := by decide +kernel
theorem dX5_symbolByte_10 : decode cX5_symbolByte 10 = .ok (.istore 5, 2) := by decide +kernel
theorem dX5_symbolByte_12 : decode cX5_symbolByte 12 = .ok (.iload 5, 2) := by decide +kernel
theorem dX5_symbolByte_14 : decode cX5_symbolByte 14 = .ok (.ifCond .lt 66, 3) := by decide +kernel
theorem dX5_symbolByte_17 : decode cX5_symbolByte 17 = .ok (.aload_n 0, 1) := by decide +kernel
theorem dX5_symbolByte_18 : decode cX5_symbolByte 18 = .ok (.getfield 12, 3) := by decide +kernel
theorem dX5_symbolByte_21 : decode cX5_symbolByte 21 = .ok (.iload_n 1, 1) := by decide +kernel
theorem dX5_symbolByte_22 : decode cX5_symbolByte 22 = .ok (.iload 5, 2) := by decide +kernel
theorem dX5_symbolByte_24 : decode cX5_symbolByte 24 = .ok (.invokevirtual 160, 3) := by decide +kernel
theorem dX5_symbolByte_27 : decode cX5_symbolByte 27 = .ok (.istore 6, 2) := by decide +kernel
theorem dX5_symbolByte_29 : decode cX5_symbolByte 29 = .ok (.aload_n 0, 1) := by decide +kernel
theorem dX5_symbolByte_30 : decode cX5_symbolByte 30 = .ok (.iload 6, 2) := by decide +kernel
theorem dX5_symbolByte_32 : decode cX5_symbolByte 32 = .ok (.invokevirtual 164, 3) := by decide +kernel
theorem dX5_symbolByte_35 : decode cX5_symbolByte 35 = .ok (.ifCond .eq 16, 3) := by decide +kernel
theorem dX5_symbolByte_38 : decode cX5_symbolByte 38 = .ok (.aload_n 0, 1) := by decide +kernel
theorem dX5_symbolByte_39 : decode cX5_symbolByte 39 = .ok (.getfield 12, 3) := by decide +kernel
theorem dX5_symbolByte_42 : decode cX5_symbolByte 42 = .ok (.iload 6, 2) := by decide +kernel
theorem dX5_symbolByte_44 : decode cX5_symbolByte 44 = .ok (.iload_n 3, 1) := by decide +kernel
theorem dX5_symbolByte_45 : decode cX5_symbolByte 45 = .ok (.invokevirtual 160, 3) := by decide +kernel
theorem dX5_symbolByte_48 : decode cX5_symbolByte 48 = .ok (.goto 4, 3) := by decide +kernel
theorem dX5_symbolByte_51 : decode cX5_symbolByte 51 = .ok (.iconst 0, 1) := by decide +kernel
theorem dX5_symbolByte_52 : decode cX5_symbolByte 52 = .ok (.istore 7, 2) := by decide +kernel
theorem dX5_symbolByte_54 : decode cX5_symbolByte 54 = .ok (.iload_n 2, 1) := by decide +kernel
theorem dX5_symbolByte_55 : decode cX5_symbolByte 55 = .ok (.iconst 1, 1) := by decide +kernel
theorem dX5_symbolByte_56 : decode cX5_symbolByte 56 = .ok (.if_icmp .ne 11, 3) := by decide +kernel
theorem dX5_symbolByte_59 : decode cX5_symbolByte 59 = .ok (.iload 4, 2) := by decide +kernel
theorem dX5_symbolByte_61 : decode cX5_symbolByte 61 = .ok (.invokestatic 220, 3) := by decide +kernel
theorem dX5_symbolByte_64 : decode cX5_symbolByte 64 = .ok (.goto 5, 3) := by decide +kernel
theorem dX5_symbolByte_67 : decode cX5_symbolByte 67 = .ok (.iload 4, 2) := by decide +kernel
theorem dX5_symbolByte_69 : decode cX5_symbolByte 69 = .ok (.iload 7, 2) := by decide +kernel
theorem dX5_symbolByte_71 : decode cX5_symbolByte 71 = .ok (.ixor, 1) := by decide +kernel
theorem dX5_symbolByte_72 : decode cX5_symbolByte 72 = .ok (.istore 4, 2) := by decide +kernel
theorem dX5_symbolByte_74 : decode cX5_symbolByte 74 = .ok (.iinc 5 (-1), 3) := by decide +kernel
theorem dX5_symbolByte_77 : decode cX5_symbolByte 77 = .ok (.goto (-65), 3) := by decide +kernel
theorem dX5_symbolByte_80 : decode cX5_symbolByte 80 = .ok (.iload 4, 2) := by decide +kernel
theorem dX5_symbolByte_82 : decode cX5_symbolByte 82 = .ok (.ireturn, 1) := by decide +kernel
theorem dX5_sync_0 : decode cX5_sync 0 = .ok (.aload_n 0, 1) := by decide +kernel
theorem dX5_sync_1 : decode cX5_sync 1 = .ok (.getfield 46, 3) := by decide +kernel
theorem dX5_sync_4 : decode cX5_sync 4 = .ok (.ifCond .ne 6, 3) := by decide +kernel
theorem dX5_sync_7 : decode cX5_sync 7 = .ok (.bipush (-3), 2) := by decide +kernel
theorem dX5_sync_9 : decode cX5_sync 9 = .ok (.ireturn, 1) := by decide +kernel
theorem dX5_sync_10 : decode cX5_sync 10 = .ok (.aload_n 0, 1) := by decide +kernel
theorem dX5_sync_11 : decode cX5_sync 11 = .ok (.dup, 1) := by decide +kernel
theorem dX5_sync_12 : decode cX5_sync 12 = .ok (.getfield 109, 3) := by decide +kernel
theorem dX5_sync_15 : decode cX5_sync 15 = .ok (.iconst 1, 1) := by decide +kernel
theorem dX5_sync_16 : decode cX5_sync 16 = .ok (.iadd, 1) := by decide +kernel
theorem dX5_sync_17 : decode cX5_sync 17 = .ok (.putfield 109, 3) := by decide +kernel
theorem dX5_sync_20 : decode cX5_sync 20 = .ok (.aload_n 0, 1) := by decide +kernel
theorem dX5_sync_21 : decode cX5_sync 21 = .ok (.aload_n 0, 1) := by decide +kernel
theorem dX5_sync_22 : decode cX5_sync 22 = .ok (.getfield 109, 3) := by decide +kernel
theorem dX5_sync_25 : decode cX5_sync 25 = .ok (.invokevirtual 112, 3) := by decide +kernel
theorem dX5_sync_28 : decode cX5_sync 28 = .ok (.aload_n 0, 1) := by decide +kernel
theorem dX5_sync_29 : decode cX5_sync 29 = .ok (.getfield 12, 3) := by decide +kernel
theorem dX5_sync_32 : decode cX5_sync 32 = .ok (.aload_n 0, 1) := by decide +kernel
theorem dX5_sync_33 : decode cX5_sync 33 = .ok (.getfield 109, 3) := by decide +kernel
theorem dX5_sync_36 : decode cX5_sync 36 = .ok (.invokestatic 115, 3) := by decide +kernel
theorem dX5_sync_39 : decode cX5_sync 39 = .ok (.aload_n 0, 1) := by decide +kernel
theorem dX5_sync_40 : decode cX5_sync 40 = .ok (.getfield 28, 3) := by decide +kernel
theorem dX5_sync_43 : decode cX5_sync 43 = .ok (.bipush 32, 2) := by decide +kernel
theorem dX5_sync_45 : decode cX5_sync 45 = .ok (.invokevirtual 118, 3) := by decide +kernel
theorem dX5_sync_48 : decode cX5_sync 48 = .ok (.aload_n 0, 1) := by decide +kernel
theorem dX5_sync_49 : decode cX5_sync 49 = .ok (.getfield 21, 3) := by decide +kernel
theorem dX5_sync_52 : decode cX5_sync 52 = .ok (.invokevirtual 122, 3) := by decide +kernel
theorem dX5_sync_55 : decode cX5_sync 55 = .ok (.aload_n 0, 1) := by decide +kernel
theorem dX5_sync_56 : decode cX5_sync 56 = .ok (.getfield 109, 3) := by decide +kernel
theorem dX5_sync_59 : decode cX5_sync 59 = .ok (.ireturn, 1) := by decide +kernel
theorem dX5_tearHead_0 : decode cX5_tearHead 0 = .ok (.aload_n 0, 1) := by decide +kernel
theorem dX5_tearHead_1 : decode cX5_tearHead 1 = .ok (.getfield 109, 3) := by decide +kernel
theorem dX5_tearHead_4 : decode cX5_tearHead 4 = .ok (.iconst 1, 1) := by decide +kernel
theorem dX5_tearHead_5 : decode cX5_tearHead 5 = .ok (.iadd, 1) := by decide +kernel
theorem dX5_tearHead_6 : decode cX5_tearHead 6 = .ok (.istore_n 2, 1) := by decide +kernel
theorem dX5_tearHead_7 : decode cX5_tearHead 7 = .ok (.aload_n 0, 1) := by decide +kernel
theorem dX5_tearHead_8 : decode cX5_tearHead 8 = .ok (.iload_n 2, 1) := by decide +kernel
theorem dX5_tearHead_9 : decode cX5_tearHead 9 = .ok (.invokevirtual 112, 3) := by decide +kernel
theorem dX5_tearHead_12 : decode cX5_tearHead 12 = .ok (.aload_n 0, 1) := by decide +kernel
theorem dX5_tearHead_13 : decode cX5_tearHead 13 = .ok (.getfield 12, 3) := by decide +kernel
theorem dX5_tearHead_16 : decode cX5_tearHead 16 = .ok (.iload_n 2, 1) := by decide +kernel
theorem dX5_tearHead_17 : decode cX5_tearHead 17 = .ok (.invokestatic 115, 3) := by decide +kernel
theorem dX5_tearHead_20 : decode cX5_tearHead 20 = .ok (.aload_n 0, 1) := by decide +kernel
theorem dX5_tearHead_21 : decode cX5_tearHead 21 = .ok (.getfield 28, 3) := by decide +kernel
theorem dX5_tearHead_24 : decode cX5_tearHead 24 = .ok (.iload_n 1, 1) := by decide +kernel
theorem dX5_tearHead_25 : decode cX5_tearHead 25 = .ok (.invokevirtual 118, 3) := by decide +kernel
theorem dX5_tearHead_28 : decode cX5_tearHead 28 = .ok (.return_, 1) := by decide +kernel
theorem dX5_writeNext_0 : decode cX5_writeNext 0 = .ok (.aload_n 0, 1) := by decide +kernel
theorem dX5_writeNext_1 : decode cX5_writeNext 1 = .ok (.getfield 12, 3) := by decide +kernel
theorem dX5_writeNext_4 : decode cX5_writeNext 4 = .ok (.aload_n 0, 1) := by decide +kernel
theorem dX5_writeNext_5 : decode cX5_writeNext 5 = .ok (.getfield 50, 3) := by decide +kernel
theorem dX5_writeNext_8 : decode cX5_writeNext 8 = .ok (.invokevirtual 176, 3) := by decide +kernel
theorem dX5_writeNext_11 : decode cX5_writeNext 11 = .ok (.ifCond .ne 5, 3) := by decide +kernel
theorem dX5_writeNext_14 : decode cX5_writeNext 14 = .ok (.iconst (-1), 1) := by decide +kernel
theorem dX5_writeNext_15 : decode cX5_writeNext 15 = .ok (.ireturn, 1) := by decide +kernel
theorem dX5_writeNext_16 : decode cX5_writeNext 16 = .ok (.aload_n 0, 1) := by decide +kernel
theorem dX5_writeNext_17 : decode cX5_writeNext 17 = .ok (.getfield 28, 3) := by decide +kernel
theorem dX5_writeNext_20 : decode cX5_writeNext 20 = .ok (.invokevirtual 231, 3) := by decide +kernel
theorem dX5_writeNext_23 : decode cX5_writeNext 23 = .ok (.aload_n 0, 1) := by decide +kernel
theorem dX5_writeNext_24 : decode cX5_writeNext 24 = .ok (.getfield 21, 3) := by decide +kernel
theorem dX5_writeNext_27 : decode cX5_writeNext 27 = .ok (.aload_n 0, 1) := by decide +kernel
theorem dX5_writeNext_28 : decode cX5_writeNext 28 = .ok (.getfield 50, 3) := by decide +kernel
theorem dX5_writeNext_31 : decode cX5_writeNext 31 = .ok (.aload_n 0, 1) := by decide +kernel
theorem dX5_writeNext_32 : decode cX5_writeNext 32 = .ok (.getfield 12, 3) := by decide +kernel
theorem dX5_writeNext_35 : decode cX5_writeNext 35 = .ok (.invokevirtual 234, 3) := by decide +kernel
theorem dX5_writeNext_38 : decode cX5_writeNext 38 = .ok (.aload_n 0, 1) := by decide +kernel
theorem dX5_writeNext_39 : decode cX5_writeNext 39 = .ok (.getfield 12, 3) := by decide +kernel
theorem dX5_writeNext_42 : decode cX5_writeNext 42 = .ok (.aload_n 0, 1) := by decide +kernel
theorem dX5_writeNext_43 : decode cX5_writeNext 43 = .ok (.getfield 50, 3) := by decide +kernel
theorem dX5_writeNext_46 : decode cX5_writeNext 46 = .ok (.aload_n 0, 1) := by decide +kernel
theorem dX5_writeNext_47 : decode cX5_writeNext 47 = .ok (.getfield 28, 3) := by decide +kernel
theorem dX5_writeNext_50 : decode cX5_writeNext 50 = .ok (.bipush 32, 2) := by decide +kernel
theorem dX5_writeNext_52 : decode cX5_writeNext 52 = .ok (.invokevirtual 118, 3) := by decide +kernel
theorem dX5_writeNext_55 : decode cX5_writeNext 55 = .ok (.aload_n 0, 1) := by decide +kernel
theorem dX5_writeNext_56 : decode cX5_writeNext 56 = .ok (.dup, 1) := by decide +kernel
theorem dX5_writeNext_57 : decode cX5_writeNext 57 = .ok (.getfield 50, 3) := by decide +kernel
theorem dX5_writeNext_60 : decode cX5_writeNext 60 = .ok (.iconst 1, 1) := by decide +kernel
theorem dX5_writeNext_61 : decode cX5_writeNext 61 = .ok (.iadd, 1) := by decide +kernel
theorem dX5_writeNext_62 : decode cX5_writeNext 62 = .ok (.putfield 50, 3) := by decide +kernel
theorem dX5_writeNext_65 : decode cX5_writeNext 65 = .ok (.aload_n 0, 1) := by decide +kernel
theorem dX5_writeNext_66 : decode cX5_writeNext 66 = .ok (.getfield 50, 3) := by decide +kernel
theorem dX5_writeNext_69 : decode cX5_writeNext 69 = .ok (.iconst 1, 1) := by decide +kernel
theorem dX5_writeNext_70 : decode cX5_writeNext 70 = .ok (.isub, 1) := by decide +kernel
theorem dX5_writeNext_71 : decode cX5_writeNext 71 = .ok (.ireturn, 1) := by decide +kernel
theorem dX5_cut_0 : decode cX5_cut 0 = .ok (.iload_n 2, 1) := by decide +kernel
theorem dX5_cut_1 : decode cX5_cut 1 = .ok (.iconst 1, 1) := by decide +kernel
theorem dX5_cut_2 : decode cX5_cut 2 = .ok (.if_icmp .lt 24, 3) := by decide +kernel
theorem dX5_cut_5 : decode cX5_cut 5 = .ok (.iload_n 2, 1) := by decide +kernel
theorem dX5_cut_6 : decode cX5_cut 6 = .ok (.bipush 32, 2) := by decide +kernel
theorem dX5_cut_8 : decode cX5_cut 8 = .ok (.if_icmp .ge 18, 3) := by decide +kernel
theorem dX5_cut_11 : decode cX5_cut 11 = .ok (.iload_n 1, 1) := by decide +kernel
theorem dX5_cut_12 : decode cX5_cut 12 = .ok (.ifCond .lt 14, 3) := by decide +kernel
theorem dX5_cut_15 : decode cX5_cut 15 = .ok (.iload_n 1, 1) := by decide +kernel
theorem dX5_cut_16 : decode cX5_cut 16 = .ok (.aload_n 0, 1) := by decide +kernel
theorem dX5_cut_17 : decode cX5_cut 17 = .ok (.getfield 21, 3) := by decide +kernel
theorem dX5_cut_20 : decode cX5_cut 20 = .ok (.invokevirtual 125, 3) := by decide +kernel
theorem dX5_cut_23 : decode cX5_cut 23 = .ok (.if_icmp .le 6, 3) := by decide +kernel
theorem dX5_cut_26 : decode cX5_cut 26 = .ok (.bipush (-2), 2) := by decide +kernel
theorem dX5_cut_28 : decode cX5_cut 28 = .ok (.ireturn, 1) := by decide +kernel
theorem dX5_cut_29 : decode cX5_cut 29 = .ok (.aload_n 0, 1) := by decide +kernel
theorem dX5_cut_30 : decode cX5_cut 30 = .ok (.getfield 46, 3) := by decide +kernel
theorem dX5_cut_33 : decode cX5_cut 33 = .ok (.ifCond .ne 6, 3) := by decide +kernel
theorem dX5_cut_36 : decode cX5_cut 36 = .ok (.bipush (-3), 2) := by decide +kernel
theorem dX5_cut_38 : decode cX5_cut 38 = .ok (.ireturn, 1) := by decide +kernel
theorem dX5_cut_39 : decode cX5_cut 39 = .ok (.iload_n 1, 1) := by decide +kernel
theorem dX5_cut_40 : decode cX5_cut 40 = .ok (.aload_n 0, 1) := by decide +kernel
theorem dX5_cut_41 : decode cX5_cut 41 = .ok (.getfield 21, 3) := by decide +kernel
theorem dX5_cut_44 : decode cX5_cut 44 = .ok (.invokevirtual 125, 3) := by decide +kernel
theorem dX5_cut_47 : decode cX5_cut 47 = .ok (.if_icmp .ne 11, 3) := by decide +kernel
theorem dX5_cut_50 : decode cX5_cut 50 = .ok (.aload_n 0, 1) := by decide +kernel
theorem dX5_cut_51 : decode cX5_cut 51 = .ok (.iload_n 2, 1) := by decide +kernel
theorem dX5_cut_52 : decode cX5_cut 52 = .ok (.invokevirtual 128, 3) := by decide +kernel
theorem dX5_cut_55 : decode cX5_cut 55 = .ok (.goto 16, 3) := by decide +kernel
theorem dX5_cut_58 : decode cX5_cut 58 = .ok (.aload_n 0, 1) := by decide +kernel
theorem dX5_cut_59 : decode cX5_cut 59 = .ok (.getfield 21, 3) := by decide +kernel
theorem dX5_cut_62 : decode cX5_cut 62 = .ok (.iload_n 1, 1) := by decide +kernel
theorem dX5_cut_63 : decode cX5_cut 63 = .ok (.iload_n 2, 1) := by decide +kernel
theorem dX5_cut_64 : decode cX5_cut 64 = .ok (.aload_n 0, 1) := by decide +kernel
theorem dX5_cut_65 : decode cX5_cut 65 = .ok (.getfield 12, 3) := by decide +kernel
theorem dX5_cut_68 : decode cX5_cut 68 = .ok (.invokevirtual 131, 3) := by decide +kernel
theorem dX5_cut_71 : decode cX5_cut 71 = .ok (.aload_n 0, 1) := by decide +kernel
theorem dX5_cut_72 : decode cX5_cut 72 = .ok (.iconst (-1), 1) := by decide +kernel
theorem dX5_cut_73 : decode cX5_cut 73 = .ok (.putfield 54, 3) := by decide +kernel
theorem dX5_cut_76 : decode cX5_cut 76 = .ok (.aload_n 0, 1) := by decide +kernel
theorem dX5_cut_77 : decode cX5_cut 77 = .ok (.iconst 0, 1) := by decide +kernel
theorem dX5_cut_78 : decode cX5_cut 78 = .ok (.putfield 46, 3) := by decide +kernel
theorem dX5_cut_81 : decode cX5_cut 81 = .ok (.iconst 1, 1) := by decide +kernel
theorem dX5_cut_82 : decode cX5_cut 82 = .ok (.ireturn, 1) := by decide +kernel
theorem dX5_isHurt_0 : decode cX5_isHurt 0 = .ok (.aload_n 0, 1) := by decide +kernel
theorem dX5_isHurt_1 : decode cX5_isHurt 1 = .ok (.iload_n 1, 1) := by decide +kernel
theorem dX5_isHurt_2 : decode cX5_isHurt 2 = .ok (.invokevirtual 99, 3) := by decide +kernel
theorem dX5_isHurt_5 : decode cX5_isHurt 5 = .ok (.istore_n 2, 1) := by decide +kernel
theorem dX5_isHurt_6 : decode cX5_isHurt 6 = .ok (.iload_n 2, 1) := by decide +kernel
theorem dX5_isHurt_7 : decode cX5_isHurt 7 = .ok (.iconst (-1), 1) := by decide +kernel
theorem dX5_isHurt_8 : decode cX5_isHurt 8 = .ok (.if_icmp .eq 11, 3) := by decide +kernel
theorem dX5_isHurt_11 : decode cX5_isHurt 11 = .ok (.aload_n 0, 1) := by decide +kernel
theorem dX5_isHurt_12 : decode cX5_isHurt 12 = .ok (.iload_n 2, 1) := by decide +kernel
theorem dX5_isHurt_13 : decode cX5_isHurt 13 = .ok (.invokevirtual 102, 3) := by decide +kernel
theorem dX5_isHurt_16 : decode cX5_isHurt 16 = .ok (.ifCond .le 7, 3) := by decide +kernel
theorem dX5_isHurt_19 : decode cX5_isHurt 19 = .ok (.iconst 1, 1) := by decide +kernel
theorem dX5_isHurt_20 : decode cX5_isHurt 20 = .ok (.goto 4, 3) := by decide +kernel
theorem dX5_isHurt_23 : decode cX5_isHurt 23 = .ok (.iconst 0, 1) := by decide +kernel
theorem dX5_isHurt_24 : decode cX5_isHurt 24 = .ok (.ireturn, 1) := by decide +kernel
theorem dX5_placeOpenBlock_0 : decode cX5_placeOpenBlock 0 = .ok (.aload_n 0, 1) := by decide +kernel
theorem dX5_placeOpenBlock_1 : decode cX5_placeOpenBlock 1 = .ok (.getfield 28, 3) := by decide +kernel
theorem dX5_placeOpenBlock_4 : decode cX5_placeOpenBlock 4 = .ok (.iconst 2, 1) := by decide +kernel
theorem dX5_placeOpenBlock_5 : decode cX5_placeOpenBlock 5 = .ok (.iconst 0, 1) := by decide +kernel
theorem dX5_placeOpenBlock_6 : decode cX5_placeOpenBlock 6 = .ok (.iconst 0, 1) := by decide +kernel
theorem dX5_placeOpenBlock_7 : decode cX5_placeOpenBlock 7 = .ok (.iconst 0, 1) := by decide +kernel
theorem dX5_placeOpenBlock_8 : decode cX5_placeOpenBlock 8 = .ok (.invokevirtual 84, 3) := by decide +kernel
theorem dX5_placeOpenBlock_11 : decode cX5_placeOpenBlock 11 = .ok (.iconst 0, 1) := by decide +kernel
theorem dX5_placeOpenBlock_12 : decode cX5_placeOpenBlock 12 = .ok (.istore_n 2, 1) := by decide +kernel
theorem dX5_placeOpenBlock_13 : decode cX5_placeOpenBlock 13 = .ok (.iload_n 2, 1) := by decide +kernel
theorem dX5_placeOpenBlock_14 : decode cX5_placeOpenBlock 14 = .ok (.bipush 24, 2) := by decide +kernel
theorem dX5_placeOpenBlock_16 : decode cX5_placeOpenBlock 16 = .ok (.if_icmp .ge 44, 3) := by decide +kernel
theorem dX5_placeOpenBlock_19 : decode cX5_placeOpenBlock 19 = .ok (.iload_n 1, 1) := by decide +kernel
theorem dX5_placeOpenBlock_20 : decode cX5_placeOpenBlock 20 = .ok (.bipush 24, 2) := by decide +kernel
theorem dX5_placeOpenBlock_22 : decode cX5_placeOpenBlock 22 = .ok (.imul, 1) := by decide +kernel
theorem dX5_placeOpenBlock_23 : decode cX5_placeOpenBlock 23 = .ok (.iload_n 2, 1) := by decide +kernel
theorem dX5_placeOpenBlock_24 : decode cX5_placeOpenBlock 24 = .ok (.iadd, 1) := by decide +kernel
theorem dX5_placeOpenBlock_25 : decode cX5_placeOpenBlock 25 = .ok (.istore_n 3, 1) := by decide +kernel
theorem dX5_placeOpenBlock_26 : decode cX5_placeOpenBlock 26 = .ok (.aload_n 0, 1) := by decide +kernel
theorem dX5_placeOpenBlock_27 : decode cX5_placeOpenBlock 27 = .ok (.getfield 28, 3) := by decide +kernel
theorem dX5_placeOpenBlock_30 : decode cX5_placeOpenBlock 30 = .ok (.iload_n 2, 1) := by decide +kernel
theorem dX5_placeOpenBlock_31 : decode cX5_placeOpenBlock 31 = .ok (.iload_n 3, 1) := by decide +kernel
theorem dX5_placeOpenBlock_32 : decode cX5_placeOpenBlock 32 = .ok (.ifCond .lt 18, 3) := by decide +kernel
theorem dX5_placeOpenBlock_35 : decode cX5_placeOpenBlock 35 = .ok (.iload_n 3, 1) := by decide +kernel
theorem dX5_placeOpenBlock_36 : decode cX5_placeOpenBlock 36 = .ok (.bipush 96, 2) := by decide +kernel
theorem dX5_placeOpenBlock_38 : decode cX5_placeOpenBlock 38 = .ok (.if_icmp .ge 12, 3) := by decide +kernel
theorem dX5_placeOpenBlock_41 : decode cX5_placeOpenBlock 41 = .ok (.aload_n 0, 1) := by decide +kernel
theorem dX5_placeOpenBlock_42 : decode cX5_placeOpenBlock 42 = .ok (.getfield 39, 3) := by decide +kernel
theorem dX5_placeOpenBlock_45 : decode cX5_placeOpenBlock 45 = .ok (.iload_n 3, 1) := by decide +kernel
theorem dX5_placeOpenBlock_46 : decode cX5_placeOpenBlock 46 = .ok (.iaload, 1) := by decide +kernel
theorem dX5_placeOpenBlock_47 : decode cX5_placeOpenBlock 47 = .ok (.goto 4, 3) := by decide +kernel
theorem dX5_placeOpenBlock_50 : decode cX5_placeOpenBlock 50 = .ok (.iconst 0, 1) := by decide +kernel
theorem dX5_placeOpenBlock_51 : decode cX5_placeOpenBlock 51 = .ok (.invokevirtual 88, 3) := by decide +kernel
theorem dX5_placeOpenBlock_54 : decode cX5_placeOpenBlock 54 = .ok (.iinc 2 1, 3) := by decide +kernel
theorem dX5_placeOpenBlock_57 : decode cX5_placeOpenBlock 57 = .ok (.goto (-44), 3) := by decide +kernel
theorem dX5_placeOpenBlock_60 : decode cX5_placeOpenBlock 60 = .ok (.aload_n 0, 1) := by decide +kernel
theorem dX5_placeOpenBlock_61 : decode cX5_placeOpenBlock 61 = .ok (.invokevirtual 225, 3) := by decide +kernel
theorem dX5_placeOpenBlock_64 : decode cX5_placeOpenBlock 64 = .ok (.istore_n 2, 1) := by decide +kernel
theorem dX5_placeOpenBlock_65 : decode cX5_placeOpenBlock 65 = .ok (.iload_n 2, 1) := by decide +kernel
theorem dX5_placeOpenBlock_66 : decode cX5_placeOpenBlock 66 = .ok (.iconst (-1), 1) := by decide +kernel
theorem dX5_placeOpenBlock_67 : decode cX5_placeOpenBlock 67 = .ok (.if_icmp .ne 8, 3) := by decide +kernel
theorem dX5_placeOpenBlock_70 : decode cX5_placeOpenBlock 70 = .ok (.aload_n 0, 1) := by decide +kernel
theorem dX5_placeOpenBlock_71 : decode cX5_placeOpenBlock 71 = .ok (.invokevirtual 92, 3) := by decide +kernel
theorem dX5_placeOpenBlock_74 : decode cX5_placeOpenBlock 74 = .ok (.ireturn, 1) := by decide +kernel
theorem dX5_placeOpenBlock_75 : decode cX5_placeOpenBlock 75 = .ok (.aload_n 0, 1) := by decide +kernel
theorem dX5_placeOpenBlock_76 : decode cX5_placeOpenBlock 76 = .ok (.dup, 1) := by decide +kernel
theorem dX5_placeOpenBlock_77 : decode cX5_placeOpenBlock 77 = .ok (.getfield 199, 3) := by decide +kernel
theorem dX5_placeOpenBlock_80 : decode cX5_placeOpenBlock 80 = .ok (.iconst 1, 1) := by decide +kernel
theorem dX5_placeOpenBlock_81 : decode cX5_placeOpenBlock 81 = .ok (.iadd, 1) := by decide +kernel
theorem dX5_placeOpenBlock_82 : decode cX5_placeOpenBlock 82 = .ok (.putfield 199, 3) := by decide +kernel
theorem dX5_placeOpenBlock_85 : decode cX5_placeOpenBlock 85 = .ok (.iload_n 2, 1) := by decide +kernel
theorem dX5_placeOpenBlock_86 : decode cX5_placeOpenBlock 86 = .ok (.ireturn, 1) := by decide +kernel
theorem dX5_readHead_0 : decode cX5_readHead 0 = .ok (.aload_n 0, 1) := by decide +kernel
theorem dX5_readHead_1 : decode cX5_readHead 1 = .ok (.invokevirtual 244, 3) := by decide +kernel
theorem dX5_readHead_4 : decode cX5_readHead 4 = .ok (.istore_n 1, 1) := by decide +kernel
theorem dX5_readHead_5 : decode cX5_readHead 5 = .ok (.aload_n 0, 1) := by decide +kernel
theorem dX5_readHead_6 : decode cX5_readHead 6 = .ok (.iload_n 1, 1) := by decide +kernel
theorem dX5_readHead_7 : decode cX5_readHead 7 = .ok (.iconst (-1), 1) := by decide +kernel
theorem dX5_readHead_8 : decode cX5_readHead 8 = .ok (.if_icmp .ne 7, 3) := by decide +kernel
theorem dX5_readHead_11 : decode cX5_readHead 11 = .ok (.iconst 0, 1) := by decide +kernel
theorem dX5_readHead_12 : decode cX5_readHead 12 = .ok (.goto 8, 3) := by decide +kernel
theorem dX5_readHead_15 : decode cX5_readHead 15 = .ok (.aload_n 0, 1) := by decide +kernel
theorem dX5_readHead_16 : decode cX5_readHead 16 = .ok (.iload_n 1, 1) := by decide +kernel
theorem dX5_readHead_17 : decode cX5_readHead 17 = .ok (.invokevirtual 241, 3) := by decide +kernel
theorem dX5_readHead_20 : decode cX5_readHead 20 = .ok (.putfield 109, 3) := by decide +kernel
theorem dX5_readHead_23 : decode cX5_readHead 23 = .ok (.aload_n 0, 1) := by decide +kernel
theorem dX5_readHead_24 : decode cX5_readHead 24 = .ok (.iload_n 1, 1) := by decide +kernel
theorem dX5_readHead_25 : decode cX5_readHead 25 = .ok (.iconst (-1), 1) := by decide +kernel
theorem dX5_readHead_26 : decode cX5_readHead 26 = .ok (.if_icmp .ne 7, 3) := by decide +kernel
theorem dX5_readHead_29 : decode cX5_readHead 29 = .ok (.iconst 2, 1) := by decide +kernel
theorem dX5_readHead_30 : decode cX5_readHead 30 = .ok (.goto 12, 3) := by decide +kernel
theorem dX5_readHead_33 : decode cX5_readHead 33 = .ok (.aload_n 0, 1) := by decide +kernel
theorem dX5_readHead_34 : decode cX5_readHead 34 = .ok (.getfield 12, 3) := by decide +kernel
theorem dX5_readHead_37 : decode cX5_readHead 37 = .ok (.iload_n 1, 1) := by decide +kernel
theorem dX5_readHead_38 : decode cX5_readHead 38 = .ok (.iconst 4, 1) := by decide +kernel
theorem dX5_readHead_39 : decode cX5_readHead 39 = .ok (.invokevirtual 160, 3) := by decide +kernel
theorem dX5_readHead_42 : decode cX5_readHead 42 = .ok (.putfield 50, 3) := by decide +kernel
theorem dX5_readHead_45 : decode cX5_readHead 45 = .ok (.aload_n 0, 1) := by decide +kernel
theorem dX5_readHead_46 : decode cX5_readHead 46 = .ok (.iload_n 1, 1) := by decide +kernel
theorem dX5_readHead_47 : decode cX5_readHead 47 = .ok (.iconst (-1), 1) := by decide +kernel
theorem dX5_readHead_48 : decode cX5_readHead 48 = .ok (.if_icmp .ne 7, 3) := by decide +kernel
theorem dX5_readHead_51 : decode cX5_readHead 51 = .ok (.iconst 0, 1) := by decide +kernel
theorem dX5_readHead_52 : decode cX5_readHead 52 = .ok (.goto 12, 3) := by decide +kernel
theorem dX5_readHead_55 : decode cX5_readHead 55 = .ok (.aload_n 0, 1) := by decide +kernel
theorem dX5_readHead_56 : decode cX5_readHead 56 = .ok (.getfield 12, 3) := by decide +kernel
theorem dX5_readHead_59 : decode cX5_readHead 59 = .ok (.iload_n 1, 1) := by decide +kernel
theorem dX5_readHead_60 : decode cX5_readHead 60 = .ok (.iconst 5, 1) := by decide +kernel
theorem dX5_readHead_61 : decode cX5_readHead 61 = .ok (.invokevirtual 160, 3) := by decide +kernel
theorem dX5_readHead_64 : decode cX5_readHead 64 = .ok (.putfield 65, 3) := by decide +kernel
theorem dX5_readHead_67 : decode cX5_readHead 67 = .ok (.return_, 1) := by decide +kernel
theorem dX5_repairRow_0 : decode cX5_repairRow 0 = .ok (.aload_n 0, 1) := by decide +kernel
theorem dX5_repairRow_1 : decode cX5_repairRow 1 = .ok (.iload_n 1, 1) := by decide +kernel
theorem dX5_repairRow_2 : decode cX5_repairRow 2 = .ok (.invokevirtual 99, 3) := by decide +kernel
theorem dX5_repairRow_5 : decode cX5_repairRow 5 = .ok (.istore_n 2, 1) := by decide +kernel
theorem dX5_repairRow_6 : decode cX5_repairRow 6 = .ok (.iload_n 2, 1) := by decide +kernel
theorem dX5_repairRow_7 : decode cX5_repairRow 7 = .ok (.iconst (-1), 1) := by decide +kernel
theorem dX5_repairRow_8 : decode cX5_repairRow 8 = .ok (.if_icmp .eq 11, 3) := by decide +kernel
theorem dX5_repairRow_11 : decode cX5_repairRow 11 = .ok (.aload_n 0, 1) := by decide +kernel
theorem dX5_repairRow_12 : decode cX5_repairRow 12 = .ok (.iload_n 2, 1) := by decide +kernel
theorem dX5_repairRow_13 : decode cX5_repairRow 13 = .ok (.invokevirtual 250, 3) := by decide +kernel
theorem dX5_repairRow_16 : decode cX5_repairRow 16 = .ok (.ifCond .ne 4, 3) := by decide +kernel
theorem dX5_repairRow_19 : decode cX5_repairRow 19 = .ok (.return_, 1) := by decide +kernel
theorem dX5_repairRow_20 : decode cX5_repairRow 20 = .ok (.aload_n 0, 1) := by decide +kernel
theorem dX5_repairRow_21 : decode cX5_repairRow 21 = .ok (.iload_n 1, 1) := by decide +kernel
theorem dX5_repairRow_22 : decode cX5_repairRow 22 = .ok (.iconst 0, 1) := by decide +kernel
theorem dX5_repairRow_23 : decode cX5_repairRow 23 = .ok (.invokevirtual 173, 3) := by decide +kernel
theorem dX5_repairRow_26 : decode cX5_repairRow 26 = .ok (.istore_n 3, 1) := by decide +kernel
theorem dX5_repairRow_27 : decode cX5_repairRow 27 = .ok (.aload_n 0, 1) := by decide +kernel
theorem dX5_repairRow_28 : decode cX5_repairRow 28 = .ok (.iload_n 1, 1) := by decide +kernel
theorem dX5_repairRow_29 : decode cX5_repairRow 29 = .ok (.iconst 1, 1) := by decide +kernel
theorem dX5_repairRow_30 : decode cX5_repairRow 30 = .ok (.invokevirtual 173, 3) := by decide +kernel
theorem dX5_repairRow_33 : decode cX5_repairRow 33 = .ok (.istore 4, 2) := by decide +kernel
theorem dX5_repairRow_35 : decode cX5_repairRow 35 = .ok (.aload_n 0, 1) := by decide +kernel
theorem dX5_repairRow_36 : decode cX5_repairRow 36 = .ok (.getfield 35, 3) := by decide +kernel
theorem dX5_repairRow_39 : decode cX5_repairRow 39 = .ok (.iload_n 3, 1) := by decide +kernel
theorem dX5_repairRow_40 : decode cX5_repairRow 40 = .ok (.iconst (-1), 1) := by decide +kernel
theorem dX5_repairRow_41 : decode cX5_repairRow 41 = .ok (.if_icmp .eq 7, 3) := by decide +kernel
theorem dX5_repairRow_44 : decode cX5_repairRow 44 = .ok (.iconst 1, 1) := by decide +kernel
theorem dX5_repairRow_45 : decode cX5_repairRow 45 = .ok (.goto 4, 3) := by decide +kernel
theorem dX5_repairRow_48 : decode cX5_repairRow 48 = .ok (.iconst 0, 1) := by decide +kernel
theorem dX5_repairRow_49 : decode cX5_repairRow 49 = .ok (.iload 4, 2) := by decide +kernel
theorem dX5_repairRow_51 : decode cX5_repairRow 51 = .ok (.iconst (-1), 1) := by decide +kernel
theorem dX5_repairRow_52 : decode cX5_repairRow 52 = .ok (.if_icmp .eq 7, 3) := by decide +kernel
theorem dX5_repairRow_55 : decode cX5_repairRow 55 = .ok (.iconst 1, 1) := by decide +kernel
theorem dX5_repairRow_56 : decode cX5_repairRow 56 = .ok (.goto 4, 3) := by decide +kernel
theorem dX5_repairRow_59 : decode cX5_repairRow 59 = .ok (.iconst 0, 1) := by decide +kernel
theorem dX5_repairRow_60 : decode cX5_repairRow 60 = .ok (.invokevirtual 253, 3) := by decide +kernel
theorem dX5_repairRow_63 : decode cX5_repairRow 63 = .ok (.ifCond .ne 4, 3) := by decide +kernel
theorem dX5_repairRow_66 : decode cX5_repairRow 66 = .ok (.return_, 1) := by decide +kernel
theorem dX5_repairRow_67 : decode cX5_repairRow 67 = .ok (.iconst 0, 1) := by decide +kernel
theorem dX5_repairRow_68 : decode cX5_repairRow 68 = .ok (.istore 5, 2) := by decide +kernel
theorem dX5_repairRow_70 : decode cX5_repairRow 70 = .ok (.iload 5, 2) := by decide +kernel
theorem dX5_repairRow_72 : decode cX5_repairRow 72 = .ok (.bipush 24, 2) := by decide +kernel
theorem dX5_repairRow_74 : decode cX5_repairRow 74 = .ok (.if_icmp .ge 88, 3) := by decide +kernel
theorem dX5_repairRow_77 : decode cX5_repairRow 77 = .ok (.iload_n 3, 1) := by decide +kernel
theorem dX5_repairRow_78 : decode cX5_repairRow 78 = .ok (.iconst (-1), 1) := by decide +kernel
theorem dX5_repairRow_79 : decode cX5_repairRow 79 = .ok (.if_icmp .ne 7, 3) := by decide +kernel
theorem dX5_repairRow_82 : decode cX5_repairRow 82 = .ok (.iconst 0, 1) := by decide +kernel
theorem dX5_repairRow_83 : decode cX5_repairRow 83 = .ok (.goto 22, 3) := by decide +kernel
theorem dX5_repairRow_86 : decode cX5_repairRow 86 = .ok (.aload_n 0, 1) := by decide +kernel
theorem dX5_repairRow_87 : decode cX5_repairRow 87 = .ok (.getfield 12, 3) := by decide +kernel
theorem dX5_repairRow_90 : decode cX5_repairRow 90 = .ok (.iload_n 3, 1) := by decide +kernel
theorem dX5_repairRow_91 : decode cX5_repairRow 91 = .ok (.iload 5, 2) := by decide +kernel
theorem dX5_repairRow_93 : decode cX5_repairRow 93 = .ok (.invokevirtual 160, 3) := by decide +kernel
theorem dX5_repairRow_96 : decode cX5_repairRow 96 = .ok (.aload_n 0, 1) := by decide +kernel
theorem dX5_repairRow_97 : decode cX5_repairRow 97 = .ok (.iload_n 2, 1) := by decide +kernel
theorem dX5_repairRow_98 : decode cX5_repairRow 98 = .ok (.iconst 0, 1) := by decide +kernel
theorem dX5_repairRow_99 : decode cX5_repairRow 99 = .ok (.iload 5, 2) := by decide +kernel
theorem dX5_repairRow_101 : decode cX5_repairRow 101 = .ok (.invokevirtual 228, 3) := by decide +kernel
theorem dX5_repairRow_104 : decode cX5_repairRow 104 = .ok (.ixor, 1) := by decide +kernel
theorem dX5_repairRow_105 : decode cX5_repairRow 105 = .ok (.istore 6, 2) := by decide +kernel
theorem dX5_repairRow_107 : decode cX5_repairRow 107 = .ok (.iload 4, 2) := by decide +kernel
theorem dX5_repairRow_109 : decode cX5_repairRow 109 = .ok (.iconst (-1), 1) := by decide +kernel
theorem dX5_repairRow_110 : decode cX5_repairRow 110 = .ok (.if_icmp .ne 7, 3) := by decide +kernel
theorem dX5_repairRow_113 : decode cX5_repairRow 113 = .ok (.iconst 0, 1) := by decide +kernel
theorem dX5_repairRow_114 : decode cX5_repairRow 114 = .ok (.goto 23, 3) := by decide +kernel
theorem dX5_repairRow_117 : decode cX5_repairRow 117 = .ok (.aload_n 0, 1) := by decide +kernel
theorem dX5_repairRow_118 : decode cX5_repairRow 118 = .ok (.getfield 12, 3) := by decide +kernel
theorem dX5_repairRow_121 : decode cX5_repairRow 121 = .ok (.iload 4, 2) := by decide +kernel
theorem dX5_repairRow_123 : decode cX5_repairRow 123 = .ok (.iload 5, 2) := by decide +kernel
theorem dX5_repairRow_125 : decode cX5_repairRow 125 = .ok (.invokevirtual 160, 3) := by decide +kernel
theorem dX5_repairRow_128 : decode cX5_repairRow 128 = .ok (.aload_n 0, 1) := by decide +kernel
theorem dX5_repairRow_129 : decode cX5_repairRow 129 = .ok (.iload_n 2, 1) := by decide +kernel
theorem dX5_repairRow_130 : decode cX5_repairRow 130 = .ok (.iconst 1, 1) := by decide +kernel
theorem dX5_repairRow_131 : decode cX5_repairRow 131 = .ok (.iload 5, 2) := by decide +kernel
theorem dX5_repairRow_133 : decode cX5_repairRow 133 = .ok (.invokevirtual 228, 3) := by decide +kernel
theorem dX5_repairRow_136 : decode cX5_repairRow 136 = .ok (.ixor, 1) := by decide +kernel
theorem dX5_repairRow_137 : decode cX5_repairRow 137 = .ok (.istore 7, 2) := by decide +kernel
theorem dX5_repairRow_139 : decode cX5_repairRow 139 = .ok (.aload_n 0, 1) := by decide +kernel
theorem dX5_repairRow_140 : decode cX5_repairRow 140 = .ok (.getfield 35, 3) := by decide +kernel
theorem dX5_repairRow_143 : decode cX5_repairRow 143 = .ok (.iload 5, 2) := by decide +kernel
theorem dX5_repairRow_145 : decode cX5_repairRow 145 = .ok (.iload 6, 2) := by decide +kernel
theorem dX5_repairRow_147 : decode cX5_repairRow 147 = .ok (.iload 7, 2) := by decide +kernel
theorem dX5_repairRow_149 : decode cX5_repairRow 149 = .ok (.invokevirtual 257, 3) := by decide +kernel
theorem dX5_repairRow_152 : decode cX5_repairRow 152 = .ok (.ifCond .ne 4, 3) := by decide +kernel
theorem dX5_repairRow_155 : decode cX5_repairRow 155 = .ok (.return_, 1) := by decide +kernel
theorem dX5_repairRow_156 : decode cX5_repairRow 156 = .ok (.iinc 5 1, 3) := by decide +kernel
theorem dX5_repairRow_159 : decode cX5_repairRow 159 = .ok (.goto (-89), 3) := by decide +kernel
theorem dX5_repairRow_162 : decode cX5_repairRow 162 = .ok (.aload_n 0, 1) := by decide +kernel
theorem dX5_repairRow_163 : decode cX5_repairRow 163 = .ok (.invokevirtual 261, 3) := by decide +kernel
theorem dX5_repairRow_166 : decode cX5_repairRow 166 = .ok (.return_, 1) := by decide +kernel
theorem dX5_row_0 : decode cX5_row 0 = .ok (.iload_n 2, 1) := by decide +kernel
theorem dX5_row_1 : decode cX5_row 1 = .ok (.bipush 10, 2) := by decide +kernel
theorem dX5_row_3 : decode cX5_row 3 = .ok (.if_icmp .lt 13, 3) := by decide +kernel
theorem dX5_row_6 : decode cX5_row 6 = .ok (.iload_n 2, 1) := by decide +kernel
theorem dX5_row_7 : decode cX5_row 7 = .ok (.bipush 14, 2) := by decide +kernel
theorem dX5_row_9 : decode cX5_row 9 = .ok (.if_icmp .ge 7, 3) := by decide +kernel
theorem dX5_row_12 : decode cX5_row 12 = .ok (.iconst 1, 1) := by decide +kernel
theorem dX5_row_13 : decode cX5_row 13 = .ok (.goto 4, 3) := by decide +kernel
theorem dX5_row_16 : decode cX5_row 16 = .ok (.iconst 0, 1) := by decide +kernel
theorem dX5_row_17 : decode cX5_row 17 = .ok (.istore_n 3, 1) := by decide +kernel
theorem dX5_row_18 : decode cX5_row 18 = .ok (.aload_n 0, 1) := by decide +kernel
theorem dX5_row_19 : decode cX5_row 19 = .ok (.iload_n 1, 1) := by decide +kernel
theorem dX5_row_20 : decode cX5_row 20 = .ok (.invokevirtual 95, 3) := by decide +kernel
theorem dX5_row_23 : decode cX5_row 23 = .ok (.ifCond .eq 17, 3) := by decide +kernel
theorem dX5_row_26 : decode cX5_row 26 = .ok (.iload_n 2, 1) := by decide +kernel
theorem dX5_row_27 : decode cX5_row 27 = .ok (.ifCond .lt 13, 3) := by decide +kernel
theorem dX5_row_30 : decode cX5_row 30 = .ok (.iload_n 2, 1) := by decide +kernel
theorem dX5_row_31 : decode cX5_row 31 = .ok (.bipush 6, 2) := by decide +kernel
theorem dX5_row_33 : decode cX5_row 33 = .ok (.if_icmp .le 10, 3) := by decide +kernel
theorem dX5_row_36 : decode cX5_row 36 = .ok (.iload_n 3, 1) := by decide +kernel
theorem dX5_row_37 : decode cX5_row 37 = .ok (.ifCond .ne 6, 3) := by decide +kernel
theorem dX5_row_40 : decode cX5_row 40 = .ok (.bipush (-2), 2) := by decide +kernel
theorem dX5_row_42 : decode cX5_row 42 = .ok (.ireturn, 1) := by decide +kernel
theorem dX5_row_43 : decode cX5_row 43 = .ok (.aload_n 0, 1) := by decide +kernel
theorem dX5_row_44 : decode cX5_row 44 = .ok (.getfield 46, 3) := by decide +kernel
theorem dX5_row_47 : decode cX5_row 47 = .ok (.ifCond .ne 6, 3) := by decide +kernel
theorem dX5_row_50 : decode cX5_row 50 = .ok (.bipush (-3), 2) := by decide +kernel
theorem dX5_row_52 : decode cX5_row 52 = .ok (.ireturn, 1) := by decide +kernel
theorem dX5_row_53 : decode cX5_row 53 = .ok (.aload_n 0, 1) := by decide +kernel
theorem dX5_row_54 : decode cX5_row 54 = .ok (.iload_n 1, 1) := by decide +kernel
theorem dX5_row_55 : decode cX5_row 55 = .ok (.invokevirtual 99, 3) := by decide +kernel
theorem dX5_row_58 : decode cX5_row 58 = .ok (.istore 4, 2) := by decide +kernel
theorem dX5_row_60 : decode cX5_row 60 = .ok (.iload 4, 2) := by decide +kernel
theorem dX5_row_62 : decode cX5_row 62 = .ok (.iconst (-1), 1) := by decide +kernel
theorem dX5_row_63 : decode cX5_row 63 = .ok (.if_icmp .ne 5, 3) := by decide +kernel
theorem dX5_row_66 : decode cX5_row 66 = .ok (.iconst (-1), 1) := by decide +kernel
theorem dX5_row_67 : decode cX5_row 67 = .ok (.ireturn, 1) := by decide +kernel
theorem dX5_row_68 : decode cX5_row 68 = .ok (.iload_n 3, 1) := by decide +kernel
theorem dX5_row_69 : decode cX5_row 69 = .ok (.ifCond .eq 36, 3) := by decide +kernel
theorem dX5_row_72 : decode cX5_row 72 = .ok (.iload_n 2, 1) := by decide +kernel
theorem dX5_row_73 : decode cX5_row 73 = .ok (.bipush 10, 2) := by decide +kernel
theorem dX5_row_75 : decode cX5_row 75 = .ok (.isub, 1) := by decide +kernel
theorem dX5_row_76 : decode cX5_row 76 = .ok (.istore 5, 2) := by decide +kernel
theorem dX5_row_78 : decode cX5_row 78 = .ok (.iload 5, 2) := by decide +kernel
theorem dX5_row_80 : decode cX5_row 80 = .ok (.aload_n 0, 1) := by decide +kernel
theorem dX5_row_81 : decode cX5_row 81 = .ok (.iload 4, 2) := by decide +kernel
theorem dX5_row_83 : decode cX5_row 83 = .ok (.invokevirtual 167, 3) := by decide +kernel
theorem dX5_row_86 : decode cX5_row 86 = .ok (.if_icmp .ge 17, 3) := by decide +kernel
theorem dX5_row_89 : decode cX5_row 89 = .ok (.aload_n 0, 1) := by decide +kernel
theorem dX5_row_90 : decode cX5_row 90 = .ok (.getfield 12, 3) := by decide +kernel
theorem dX5_row_93 : decode cX5_row 93 = .ok (.iload 4, 2) := by decide +kernel
theorem dX5_row_95 : decode cX5_row 95 = .ok (.iload 5, 2) := by decide +kernel
theorem dX5_row_97 : decode cX5_row 97 = .ok (.invokevirtual 160, 3) := by decide +kernel
theorem dX5_row_100 : decode cX5_row 100 = .ok (.goto 4, 3) := by decide +kernel
theorem dX5_row_103 : decode cX5_row 103 = .ok (.iconst (-1), 1) := by decide +kernel
theorem dX5_row_104 : decode cX5_row 104 = .ok (.ireturn, 1) := by decide +kernel
theorem dX5_row_105 : decode cX5_row 105 = .ok (.iload_n 2, 1) := by decide +kernel
theorem dX5_row_106 : decode cX5_row 106 = .ok (.tableswitch 80 0 5 #[38, 49, 56, 59, 66, 73], 38) := by decide +kernel
theorem dX5_row_144 : decode cX5_row 144 = .ok (.aload_n 0, 1) := by decide +kernel
theorem dX5_row_145 : decode cX5_row 145 = .ok (.getfield 12, 3) := by decide +kernel
theorem dX5_row_148 : decode cX5_row 148 = .ok (.iload 4, 2) := by decide +kernel
theorem dX5_row_150 : decode cX5_row 150 = .ok (.iconst 1, 1) := by decide +kernel
theorem dX5_row_151 : decode cX5_row 151 = .ok (.invokevirtual 170, 3) := by decide +kernel
theorem dX5_row_154 : decode cX5_row 154 = .ok (.ireturn, 1) := by decide +kernel
theorem dX5_row_155 : decode cX5_row 155 = .ok (.aload_n 0, 1) := by decide +kernel
theorem dX5_row_156 : decode cX5_row 156 = .ok (.iload 4, 2) := by decide +kernel
theorem dX5_row_158 : decode cX5_row 158 = .ok (.invokevirtual 150, 3) := by decide +kernel
theorem dX5_row_161 : decode cX5_row 161 = .ok (.ireturn, 1) := by decide +kernel
theorem dX5_row_162 : decode cX5_row 162 = .ok (.iload 4, 2) := by decide +kernel
theorem dX5_row_164 : decode cX5_row 164 = .ok (.ireturn, 1) := by decide +kernel
theorem dX5_row_165 : decode cX5_row 165 = .ok (.aload_n 0, 1) := by decide +kernel
theorem dX5_row_166 : decode cX5_row 166 = .ok (.iload_n 1, 1) := by decide +kernel
theorem dX5_row_167 : decode cX5_row 167 = .ok (.iconst 0, 1) := by decide +kernel
theorem dX5_row_168 : decode cX5_row 168 = .ok (.invokevirtual 173, 3) := by decide +kernel
theorem dX5_row_171 : decode cX5_row 171 = .ok (.ireturn, 1) := by decide +kernel
theorem dX5_row_172 : decode cX5_row 172 = .ok (.aload_n 0, 1) := by decide +kernel
theorem dX5_row_173 : decode cX5_row 173 = .ok (.iload_n 1, 1) := by decide +kernel
theorem dX5_row_174 : decode cX5_row 174 = .ok (.iconst 1, 1) := by decide +kernel
theorem dX5_row_175 : decode cX5_row 175 = .ok (.invokevirtual 173, 3) := by decide +kernel
theorem dX5_row_178 : decode cX5_row 178 = .ok (.ireturn, 1) := by decide +kernel
theorem dX5_row_179 : decode cX5_row 179 = .ok (.aload_n 0, 1) := by decide +kernel
theorem dX5_row_180 : decode cX5_row 180 = .ok (.iload 4, 2) := by decide +kernel
theorem dX5_row_182 : decode cX5_row 182 = .ok (.invokevirtual 167, 3) := by decide +kernel
theorem dX5_row_185 : decode cX5_row 185 = .ok (.ireturn, 1) := by decide +kernel
theorem dX5_row_186 : decode cX5_row 186 = .ok (.aload_n 0, 1) := by decide +kernel
theorem dX5_row_187 : decode cX5_row 187 = .ok (.iload 4, 2) := by decide +kernel
theorem dX5_row_189 : decode cX5_row 189 = .ok (.invokevirtual 102, 3) := by decide +kernel
theorem dX5_row_192 : decode cX5_row 192 = .ok (.ireturn, 1) := by decide +kernel
theorem dX5_writeSymbol_0 : decode cX5_writeSymbol 0 = .ok (.aload_n 0, 1) := by decide +kernel
theorem dX5_writeSymbol_1 : decode cX5_writeSymbol 1 = .ok (.getfield 28, 3) := by decide +kernel
theorem dX5_writeSymbol_4 : decode cX5_writeSymbol 4 = .ok (.iconst 4, 1) := by decide +kernel
theorem dX5_writeSymbol_5 : decode cX5_writeSymbol 5 = .ok (.iload_n 1, 1) := by decide +kernel
theorem dX5_writeSymbol_6 : decode cX5_writeSymbol 6 = .ok (.iload_n 3, 1) := by decide +kernel
theorem dX5_writeSymbol_7 : decode cX5_writeSymbol 7 = .ok (.iconst 0, 1) := by decide +kernel
theorem dX5_writeSymbol_8 : decode cX5_writeSymbol 8 = .ok (.invokevirtual 84, 3) := by decide +kernel
theorem dX5_writeSymbol_11 : decode cX5_writeSymbol 11 = .ok (.iconst 0, 1) := by decide +kernel
theorem dX5_writeSymbol_12 : decode cX5_writeSymbol 12 = .ok (.istore 4, 2) := by decide +kernel
theorem dX5_writeSymbol_14 : decode cX5_writeSymbol 14 = .ok (.iload 4, 2) := by decide +kernel
theorem dX5_writeSymbol_16 : decode cX5_writeSymbol 16 = .ok (.bipush 24, 2) := by decide +kernel
theorem dX5_writeSymbol_18 : decode cX5_writeSymbol 18 = .ok (.if_icmp .ge 26, 3) := by decide +kernel
theorem dX5_writeSymbol_21 : decode cX5_writeSymbol 21 = .ok (.aload_n 0, 1) := by decide +kernel
theorem dX5_writeSymbol_22 : decode cX5_writeSymbol 22 = .ok (.getfield 28, 3) := by decide +kernel
theorem dX5_writeSymbol_25 : decode cX5_writeSymbol 25 = .ok (.iload 4, 2) := by decide +kernel
theorem dX5_writeSymbol_27 : decode cX5_writeSymbol 27 = .ok (.aload_n 0, 1) := by decide +kernel
theorem dX5_writeSymbol_28 : decode cX5_writeSymbol 28 = .ok (.iload_n 2, 1) := by decide +kernel
theorem dX5_writeSymbol_29 : decode cX5_writeSymbol 29 = .ok (.iload_n 3, 1) := by decide +kernel
theorem dX5_writeSymbol_30 : decode cX5_writeSymbol 30 = .ok (.iload 4, 2) := by decide +kernel
theorem dX5_writeSymbol_32 : decode cX5_writeSymbol 32 = .ok (.invokevirtual 228, 3) := by decide +kernel
theorem dX5_writeSymbol_35 : decode cX5_writeSymbol 35 = .ok (.invokevirtual 88, 3) := by decide +kernel
theorem dX5_writeSymbol_38 : decode cX5_writeSymbol 38 = .ok (.iinc 4 1, 3) := by decide +kernel
theorem dX5_writeSymbol_41 : decode cX5_writeSymbol 41 = .ok (.goto (-27), 3) := by decide +kernel
theorem dX5_writeSymbol_44 : decode cX5_writeSymbol 44 = .ok (.aload_n 0, 1) := by decide +kernel
theorem dX5_writeSymbol_45 : decode cX5_writeSymbol 45 = .ok (.invokevirtual 92, 3) := by decide +kernel
theorem dX5_writeSymbol_48 : decode cX5_writeSymbol 48 = .ok (.ireturn, 1) := by decide +kernel
theorem dX5_end_0 : decode cX5_end 0 = .ok (.aload_n 0, 1) := by decide +kernel
theorem dX5_end_1 : decode cX5_end 1 = .ok (.getfield 46, 3) := by decide +kernel
theorem dX5_end_4 : decode cX5_end 4 = .ok (.ifCond .eq 10, 3) := by decide +kernel
theorem dX5_end_7 : decode cX5_end 7 = .ok (.aload_n 0, 1) := by decide +kernel
theorem dX5_end_8 : decode cX5_end 8 = .ok (.invokevirtual 57, 3) := by decide +kernel
theorem dX5_end_11 : decode cX5_end 11 = .ok (.ifCond .ne 6, 3) := by decide +kernel
theorem dX5_end_14 : decode cX5_end 14 = .ok (.bipush (-3), 2) := by decide +kernel
theorem dX5_end_16 : decode cX5_end 16 = .ok (.ireturn, 1) := by decide +kernel
theorem dX5_end_17 : decode cX5_end 17 = .ok (.aload_n 0, 1) := by decide +kernel
theorem dX5_end_18 : decode cX5_end 18 = .ok (.getfield 54, 3) := by decide +kernel
theorem dX5_end_21 : decode cX5_end 21 = .ok (.invokestatic 77, 3) := by decide +kernel
theorem dX5_end_24 : decode cX5_end 24 = .ok (.istore_n 1, 1) := by decide +kernel
theorem dX5_end_25 : decode cX5_end 25 = .ok (.iconst 0, 1) := by decide +kernel
theorem dX5_end_26 : decode cX5_end 26 = .ok (.istore_n 2, 1) := by decide +kernel
theorem dX5_end_27 : decode cX5_end 27 = .ok (.iload_n 2, 1) := by decide +kernel
theorem dX5_end_28 : decode cX5_end 28 = .ok (.iload_n 1, 1) := by decide +kernel
theorem dX5_end_29 : decode cX5_end 29 = .ok (.if_icmp .ge 20, 3) := by decide +kernel
theorem dX5_end_32 : decode cX5_end 32 = .ok (.aload_n 0, 1) := by decide +kernel
theorem dX5_end_33 : decode cX5_end 33 = .ok (.getfield 43, 3) := by decide +kernel
theorem dX5_end_36 : decode cX5_end 36 = .ok (.iload_n 2, 1) := by decide +kernel
theorem dX5_end_37 : decode cX5_end 37 = .ok (.aload_n 0, 1) := by decide +kernel
theorem dX5_end_38 : decode cX5_end 38 = .ok (.iload_n 2, 1) := by decide +kernel
theorem dX5_end_39 : decode cX5_end 39 = .ok (.invokevirtual 81, 3) := by decide +kernel
theorem dX5_end_42 : decode cX5_end 42 = .ok (.iastore, 1) := by decide +kernel
theorem dX5_end_43 : decode cX5_end 43 = .ok (.iinc 2 1, 3) := by decide +kernel
theorem dX5_end_46 : decode cX5_end 46 = .ok (.goto (-19), 3) := by decide +kernel
theorem dX5_end_49 : decode cX5_end 49 = .ok (.aload_n 0, 1) := by decide +kernel
theorem dX5_end_50 : decode cX5_end 50 = .ok (.getfield 28, 3) := by decide +kernel
theorem dX5_end_53 : decode cX5_end 53 = .ok (.iconst 3, 1) := by decide +kernel
theorem dX5_end_54 : decode cX5_end 54 = .ok (.aload_n 0, 1) := by decide +kernel
theorem dX5_end_55 : decode cX5_end 55 = .ok (.getfield 74, 3) := by decide +kernel
theorem dX5_end_58 : decode cX5_end 58 = .ok (.aload_n 0, 1) := by decide +kernel
theorem dX5_end_59 : decode cX5_end 59 = .ok (.getfield 65, 3) := by decide +kernel
theorem dX5_end_62 : decode cX5_end 62 = .ok (.aload_n 0, 1) := by decide +kernel
theorem dX5_end_63 : decode cX5_end 63 = .ok (.getfield 54, 3) := by decide +kernel
theorem dX5_end_66 : decode cX5_end 66 = .ok (.invokevirtual 84, 3) := by decide +kernel
theorem dX5_end_69 : decode cX5_end 69 = .ok (.iconst 0, 1) := by decide +kernel
theorem dX5_end_70 : decode cX5_end 70 = .ok (.istore_n 2, 1) := by decide +kernel
theorem dX5_end_71 : decode cX5_end 71 = .ok (.iload_n 2, 1) := by decide +kernel
theorem dX5_end_72 : decode cX5_end 72 = .ok (.iload_n 1, 1) := by decide +kernel
theorem dX5_end_73 : decode cX5_end 73 = .ok (.if_icmp .ge 23, 3) := by decide +kernel
theorem dX5_end_76 : decode cX5_end 76 = .ok (.aload_n 0, 1) := by decide +kernel
theorem dX5_end_77 : decode cX5_end 77 = .ok (.getfield 28, 3) := by decide +kernel
theorem dX5_end_80 : decode cX5_end 80 = .ok (.iload_n 2, 1) := by decide +kernel
theorem dX5_end_81 : decode cX5_end 81 = .ok (.aload_n 0, 1) := by decide +kernel
theorem dX5_end_82 : decode cX5_end 82 = .ok (.getfield 43, 3) := by decide +kernel
theorem dX5_end_85 : decode cX5_end 85 = .ok (.iload_n 2, 1) := by decide +kernel
theorem dX5_end_86 : decode cX5_end 86 = .ok (.iaload, 1) := by decide +kernel
theorem dX5_end_87 : decode cX5_end 87 = .ok (.invokevirtual 88, 3) := by decide +kernel
theorem dX5_end_90 : decode cX5_end 90 = .ok (.iinc 2 1, 3) := by decide +kernel
theorem dX5_end_93 : decode cX5_end 93 = .ok (.goto (-22), 3) := by decide +kernel
theorem dX5_end_96 : decode cX5_end 96 = .ok (.aload_n 0, 1) := by decide +kernel
theorem dX5_end_97 : decode cX5_end 97 = .ok (.invokevirtual 92, 3) := by decide +kernel
theorem dX5_end_100 : decode cX5_end 100 = .ok (.pop, 1) := by decide +kernel
theorem dX5_end_101 : decode cX5_end 101 = .ok (.aload_n 0, 1) := by decide +kernel
theorem dX5_end_102 : decode cX5_end 102 = .ok (.iconst (-1), 1) := by decide +kernel
theorem dX5_end_103 : decode cX5_end 103 = .ok (.putfield 54, 3) := by decide +kernel
theorem dX5_end_106 : decode cX5_end 106 = .ok (.aload_n 0, 1) := by decide +kernel
theorem dX5_end_107 : decode cX5_end 107 = .ok (.dup, 1) := by decide +kernel
theorem dX5_end_108 : decode cX5_end 108 = .ok (.getfield 65, 3) := by decide +kernel
theorem dX5_end_111 : decode cX5_end 111 = .ok (.iconst 1, 1) := by decide +kernel
theorem dX5_end_112 : decode cX5_end 112 = .ok (.iadd, 1) := by decide +kernel
theorem dX5_end_113 : decode cX5_end 113 = .ok (.putfield 65, 3) := by decide +kernel
theorem dX5_end_116 : decode cX5_end 116 = .ok (.aload_n 0, 1) := by decide +kernel
theorem dX5_end_117 : decode cX5_end 117 = .ok (.getfield 65, 3) := by decide +kernel
theorem dX5_end_120 : decode cX5_end 120 = .ok (.iconst 1, 1) := by decide +kernel
theorem dX5_end_121 : decode cX5_end 121 = .ok (.isub, 1) := by decide +kernel
theorem dX5_end_122 : decode cX5_end 122 = .ok (.ireturn, 1) := by decide +kernel
theorem dX5_listed_0 : decode cX5_listed 0 = .ok (.aload_n 0, 1) := by decide +kernel
theorem dX5_listed_1 : decode cX5_listed 1 = .ok (.getfield 46, 3) := by decide +kernel
theorem dX5_listed_4 : decode cX5_listed 4 = .ok (.ifCond .eq 7, 3) := by decide +kernel
theorem dX5_listed_7 : decode cX5_listed 7 = .ok (.iload_n 1, 1) := by decide +kernel
theorem dX5_listed_8 : decode cX5_listed 8 = .ok (.ifCond .ge 5, 3) := by decide +kernel
theorem dX5_listed_11 : decode cX5_listed 11 = .ok (.iconst (-1), 1) := by decide +kernel
theorem dX5_listed_12 : decode cX5_listed 12 = .ok (.ireturn, 1) := by decide +kernel
theorem dX5_listed_13 : decode cX5_listed 13 = .ok (.iconst 0, 1) := by decide +kernel
theorem dX5_listed_14 : decode cX5_listed 14 = .ok (.istore_n 2, 1) := by decide +kernel
theorem dX5_listed_15 : decode cX5_listed 15 = .ok (.iconst 0, 1) := by decide +kernel
theorem dX5_listed_16 : decode cX5_listed 16 = .ok (.istore_n 3, 1) := by decide +kernel
theorem dX5_listed_17 : decode cX5_listed 17 = .ok (.iload_n 3, 1) := by decide +kernel
theorem dX5_listed_18 : decode cX5_listed 18 = .ok (.aload_n 0, 1) := by decide +kernel
theorem dX5_listed_19 : decode cX5_listed 19 = .ok (.getfield 65, 3) := by decide +kernel
theorem dX5_listed_22 : decode cX5_listed 22 = .ok (.if_icmp .ge 27, 3) := by decide +kernel
theorem dX5_listed_25 : decode cX5_listed 25 = .ok (.aload_n 0, 1) := by decide +kernel
theorem dX5_listed_26 : decode cX5_listed 26 = .ok (.iload_n 3, 1) := by decide +kernel
theorem dX5_listed_27 : decode cX5_listed 27 = .ok (.invokevirtual 196, 3) := by decide +kernel
theorem dX5_listed_30 : decode cX5_listed 30 = .ok (.ifCond .eq 13, 3) := by decide +kernel
theorem dX5_listed_33 : decode cX5_listed 33 = .ok (.iload_n 2, 1) := by decide +kernel
theorem dX5_listed_34 : decode cX5_listed 34 = .ok (.iload_n 1, 1) := by decide +kernel
theorem dX5_listed_35 : decode cX5_listed 35 = .ok (.if_icmp .ne 5, 3) := by decide +kernel
theorem dX5_listed_38 : decode cX5_listed 38 = .ok (.iload_n 3, 1) := by decide +kernel
theorem dX5_listed_39 : decode cX5_listed 39 = .ok (.ireturn, 1) := by decide +kernel
theorem dX5_listed_40 : decode cX5_listed 40 = .ok (.iinc 2 1, 3) := by decide +kernel
theorem dX5_listed_43 : decode cX5_listed 43 = .ok (.iinc 3 1, 3) := by decide +kernel
theorem dX5_listed_46 : decode cX5_listed 46 = .ok (.goto (-29), 3) := by decide +kernel
theorem dX5_listed_49 : decode cX5_listed 49 = .ok (.iconst (-1), 1) := by decide +kernel
theorem dX5_listed_50 : decode cX5_listed 50 = .ok (.ireturn, 1) := by decide +kernel
theorem dX5_protect_0 : decode cX5_protect 0 = .ok (.aload_n 0, 1) := by decide +kernel
theorem dX5_protect_1 : decode cX5_protect 1 = .ok (.iload_n 1, 1) := by decide +kernel
theorem dX5_protect_2 : decode cX5_protect 2 = .ok (.invokevirtual 95, 3) := by decide +kernel
theorem dX5_protect_5 : decode cX5_protect 5 = .ok (.ifCond .eq 13, 3) := by decide +kernel
theorem dX5_protect_8 : decode cX5_protect 8 = .ok (.iload_n 2, 1) := by decide +kernel
theorem dX5_protect_9 : decode cX5_protect 9 = .ok (.iconst 1, 1) := by decide +kernel
theorem dX5_protect_10 : decode cX5_protect 10 = .ok (.if_icmp .lt 8, 3) := by decide +kernel
theorem dX5_protect_13 : decode cX5_protect 13 = .ok (.iload_n 2, 1) := by decide +kernel
theorem dX5_protect_14 : decode cX5_protect 14 = .ok (.iconst 2, 1) := by decide +kernel
theorem dX5_protect_15 : decode cX5_protect 15 = .ok (.if_icmp .le 6, 3) := by decide +kernel
theorem dX5_protect_18 : decode cX5_protect 18 = .ok (.bipush (-2), 2) := by decide +kernel
theorem dX5_protect_20 : decode cX5_protect 20 = .ok (.ireturn, 1) := by decide +kernel
theorem dX5_protect_21 : decode cX5_protect 21 = .ok (.aload_n 0, 1) := by decide +kernel
theorem dX5_protect_22 : decode cX5_protect 22 = .ok (.getfield 46, 3) := by decide +kernel
theorem dX5_protect_25 : decode cX5_protect 25 = .ok (.ifCond .ne 6, 3) := by decide +kernel
theorem dX5_protect_28 : decode cX5_protect 28 = .ok (.bipush (-3), 2) := by decide +kernel
theorem dX5_protect_30 : decode cX5_protect 30 = .ok (.ireturn, 1) := by decide +kernel
theorem dX5_protect_31 : decode cX5_protect 31 = .ok (.aload_n 0, 1) := by decide +kernel
theorem dX5_protect_32 : decode cX5_protect 32 = .ok (.iload_n 1, 1) := by decide +kernel
theorem dX5_protect_33 : decode cX5_protect 33 = .ok (.invokevirtual 99, 3) := by decide +kernel
theorem dX5_protect_36 : decode cX5_protect 36 = .ok (.istore_n 3, 1) := by decide +kernel
theorem dX5_protect_37 : decode cX5_protect 37 = .ok (.iload_n 3, 1) := by decide +kernel
theorem dX5_protect_38 : decode cX5_protect 38 = .ok (.iconst (-1), 1) := by decide +kernel
theorem dX5_protect_39 : decode cX5_protect 39 = .ok (.if_icmp .eq 11, 3) := by decide +kernel
theorem dX5_protect_42 : decode cX5_protect 42 = .ok (.aload_n 0, 1) := by decide +kernel
theorem dX5_protect_43 : decode cX5_protect 43 = .ok (.iload_n 3, 1) := by decide +kernel
theorem dX5_protect_44 : decode cX5_protect 44 = .ok (.invokevirtual 102, 3) := by decide +kernel
theorem dX5_protect_47 : decode cX5_protect 47 = .ok (.ifCond .le 6, 3) := by decide +kernel
theorem dX5_protect_50 : decode cX5_protect 50 = .ok (.bipush (-3), 2) := by decide +kernel
theorem dX5_protect_52 : decode cX5_protect 52 = .ok (.ireturn, 1) := by decide +kernel
theorem dX5_protect_53 : decode cX5_protect 53 = .ok (.aload_n 0, 1) := by decide +kernel
theorem dX5_protect_54 : decode cX5_protect 54 = .ok (.invokevirtual 61, 3) := by decide +kernel
theorem dX5_protect_57 : decode cX5_protect 57 = .ok (.aload_n 0, 1) := by decide +kernel
theorem dX5_protect_58 : decode cX5_protect 58 = .ok (.invokevirtual 57, 3) := by decide +kernel
theorem dX5_protect_61 : decode cX5_protect 61 = .ok (.ifCond .eq 9, 3) := by decide +kernel
theorem dX5_protect_64 : decode cX5_protect 64 = .ok (.iload_n 2, 1) := by decide +kernel
theorem dX5_protect_65 : decode cX5_protect 65 = .ok (.iconst 5, 1) := by decide +kernel
theorem dX5_protect_66 : decode cX5_protect 66 = .ok (.iadd, 1) := by decide +kernel
theorem dX5_protect_67 : decode cX5_protect 67 = .ok (.goto 4, 3) := by decide +kernel
theorem dX5_protect_70 : decode cX5_protect 70 = .ok (.iload_n 2, 1) := by decide +kernel
theorem dX5_protect_71 : decode cX5_protect 71 = .ok (.if_icmp .ge 6, 3) := by decide +kernel
theorem dX5_protect_74 : decode cX5_protect 74 = .ok (.bipush (-4), 2) := by decide +kernel
theorem dX5_protect_76 : decode cX5_protect 76 = .ok (.ireturn, 1) := by decide +kernel
theorem dX5_protect_77 : decode cX5_protect 77 = .ok (.aload_n 0, 1) := by decide +kernel
theorem dX5_protect_78 : decode cX5_protect 78 = .ok (.iload_n 1, 1) := by decide +kernel
theorem dX5_protect_79 : decode cX5_protect 79 = .ok (.iload_n 3, 1) := by decide +kernel
theorem dX5_protect_80 : decode cX5_protect 80 = .ok (.iconst 0, 1) := by decide +kernel
theorem dX5_protect_81 : decode cX5_protect 81 = .ok (.invokevirtual 105, 3) := by decide +kernel
theorem dX5_protect_84 : decode cX5_protect 84 = .ok (.istore 4, 2) := by decide +kernel
theorem dX5_protect_86 : decode cX5_protect 86 = .ok (.iload_n 2, 1) := by decide +kernel
theorem dX5_protect_87 : decode cX5_protect 87 = .ok (.iconst 1, 1) := by decide +kernel
theorem dX5_protect_88 : decode cX5_protect 88 = .ok (.if_icmp .ne 8, 3) := by decide +kernel
theorem dX5_protect_91 : decode cX5_protect 91 = .ok (.iload 4, 2) := by decide +kernel
theorem dX5_protect_93 : decode cX5_protect 93 = .ok (.goto 10, 3) := by decide +kernel
theorem dX5_protect_96 : decode cX5_protect 96 = .ok (.aload_n 0, 1) := by decide +kernel
theorem dX5_protect_97 : decode cX5_protect 97 = .ok (.iload_n 1, 1) := by decide +kernel
theorem dX5_protect_98 : decode cX5_protect 98 = .ok (.iload_n 3, 1) := by decide +kernel
theorem dX5_protect_99 : decode cX5_protect 99 = .ok (.iconst 1, 1) := by decide +kernel
theorem dX5_protect_100 : decode cX5_protect 100 = .ok (.invokevirtual 105, 3) := by decide +kernel
theorem dX5_protect_103 : decode cX5_protect 103 = .ok (.ireturn, 1) := by decide +kernel
theorem dX5_repairAll_0 : decode cX5_repairAll 0 = .ok (.iconst 0, 1) := by decide +kernel
theorem dX5_repairAll_1 : decode cX5_repairAll 1 = .ok (.istore_n 1, 1) := by decide +kernel
theorem dX5_repairAll_2 : decode cX5_repairAll 2 = .ok (.iload_n 1, 1) := by decide +kernel
theorem dX5_repairAll_3 : decode cX5_repairAll 3 = .ok (.bipush 60, 2) := by decide +kernel
theorem dX5_repairAll_5 : decode cX5_repairAll 5 = .ok (.if_icmp .gt 44, 3) := by decide +kernel
theorem dX5_repairAll_8 : decode cX5_repairAll 8 = .ok (.aload_n 0, 1) := by decide +kernel
theorem dX5_repairAll_9 : decode cX5_repairAll 9 = .ok (.getfield 144, 3) := by decide +kernel
theorem dX5_repairAll_12 : decode cX5_repairAll 12 = .ok (.istore_n 2, 1) := by decide +kernel
theorem dX5_repairAll_13 : decode cX5_repairAll 13 = .ok (.iconst 0, 1) := by decide +kernel
theorem dX5_repairAll_14 : decode cX5_repairAll 14 = .ok (.istore_n 3, 1) := by decide +kernel
theorem dX5_repairAll_15 : decode cX5_repairAll 15 = .ok (.iload_n 3, 1) := by decide +kernel
theorem dX5_repairAll_16 : decode cX5_repairAll 16 = .ok (.aload_n 0, 1) := by decide +kernel
theorem dX5_repairAll_17 : decode cX5_repairAll 17 = .ok (.getfield 65, 3) := by decide +kernel
theorem dX5_repairAll_20 : decode cX5_repairAll 20 = .ok (.if_icmp .ge 14, 3) := by decide +kernel
theorem dX5_repairAll_23 : decode cX5_repairAll 23 = .ok (.aload_n 0, 1) := by decide +kernel
theorem dX5_repairAll_24 : decode cX5_repairAll 24 = .ok (.iload_n 3, 1) := by decide +kernel
theorem dX5_repairAll_25 : decode cX5_repairAll 25 = .ok (.invokevirtual 247, 3) := by decide +kernel
theorem dX5_repairAll_28 : decode cX5_repairAll 28 = .ok (.iinc 3 1, 3) := by decide +kernel
theorem dX5_repairAll_31 : decode cX5_repairAll 31 = .ok (.goto (-16), 3) := by decide +kernel
theorem dX5_repairAll_34 : decode cX5_repairAll 34 = .ok (.aload_n 0, 1) := by decide +kernel
theorem dX5_repairAll_35 : decode cX5_repairAll 35 = .ok (.getfield 144, 3) := by decide +kernel
theorem dX5_repairAll_38 : decode cX5_repairAll 38 = .ok (.iload_n 2, 1) := by decide +kernel
theorem dX5_repairAll_39 : decode cX5_repairAll 39 = .ok (.if_icmp .ne 4, 3) := by decide +kernel
theorem dX5_repairAll_42 : decode cX5_repairAll 42 = .ok (.return_, 1) := by decide +kernel
theorem dX5_repairAll_43 : decode cX5_repairAll 43 = .ok (.iinc 1 1, 3) := by decide +kernel
theorem dX5_repairAll_46 : decode cX5_repairAll 46 = .ok (.goto (-44), 3) := by decide +kernel
theorem dX5_repairAll_49 : decode cX5_repairAll 49 = .ok (.return_, 1) := by decide +kernel
