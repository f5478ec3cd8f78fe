theorem dX3_clear_0 : decode cX3_clear 0 = .ok (.aload_n 0, 1) := by decide +kernel
theorem dX3_clear_1 : decode cX3_clear 1 = .ok (.iconst 0, 1) := by decide +kernel
theorem dX3_clear_2 : decode cX3_clear 2 = .ok (.putfield 22, 3) := by decide +kernel
theorem dX3_clear_5 : decode cX3_clear 5 = .ok (.return_, 1) := by decide +kernel
theorem dX3_init_0 : decode cX3_init 0 = .ok (.aload_n 0, 1) := by decide +kernel
theorem dX3_init_1 : decode cX3_init 1 = .ok (.invokespecial 3, 3) := by decide +kernel
theorem dX3_init_4 : decode cX3_init 4 = .ok (.aload_n 0, 1) := by decide +kernel
theorem dX3_init_5 : decode cX3_init 5 = .ok (.bipush 60, 2) := by decide +kernel
theorem dX3_init_7 : decode cX3_init 7 = .ok (.newarray .int, 2) := by decide +kernel
theorem dX3_init_9 : decode cX3_init 9 = .ok (.putfield 9, 3) := by decide +kernel
theorem dX3_init_12 : decode cX3_init 12 = .ok (.aload_n 0, 1) := by decide +kernel
theorem dX3_init_13 : decode cX3_init 13 = .ok (.sipush 1920, 3) := by decide +kernel
theorem dX3_init_16 : decode cX3_init 16 = .ok (.newarray .int, 2) := by decide +kernel
theorem dX3_init_18 : decode cX3_init 18 = .ok (.putfield 15, 3) := by decide +kernel
theorem dX3_init_21 : decode cX3_init 21 = .ok (.aload_n 0, 1) := by decide +kernel
theorem dX3_init_22 : decode cX3_init 22 = .ok (.bipush 60, 2) := by decide +kernel
theorem dX3_init_24 : decode cX3_init 24 = .ok (.newarray .boolean, 2) := by decide +kernel
theorem dX3_init_26 : decode cX3_init 26 = .ok (.putfield 18, 3) := by decide +kernel
theorem dX3_init_29 : decode cX3_init 29 = .ok (.return_, 1) := by decide +kernel
theorem dX3_size_0 : decode cX3_size 0 = .ok (.aload_n 0, 1) := by decide +kernel
theorem dX3_size_1 : decode cX3_size 1 = .ok (.getfield 22, 3) := by decide +kernel
theorem dX3_size_4 : decode cX3_size 4 = .ok (.ireturn, 1) := by decide +kernel
theorem dX3_note_0 : decode cX3_note 0 = .ok (.aload_n 0, 1) := by decide +kernel
theorem dX3_note_1 : decode cX3_note 1 = .ok (.getfield 22, 3) := by decide +kernel
theorem dX3_note_4 : decode cX3_note 4 = .ok (.bipush 60, 2) := by decide +kernel
theorem dX3_note_6 : decode cX3_note 6 = .ok (.if_icmp .lt 4, 3) := by decide +kernel
theorem dX3_note_9 : decode cX3_note 9 = .ok (.return_, 1) := by decide +kernel
theorem dX3_note_10 : decode cX3_note 10 = .ok (.aload_n 0, 1) := by decide +kernel
theorem dX3_note_11 : decode cX3_note 11 = .ok (.getfield 9, 3) := by decide +kernel
theorem dX3_note_14 : decode cX3_note 14 = .ok (.aload_n 0, 1) := by decide +kernel
theorem dX3_note_15 : decode cX3_note 15 = .ok (.getfield 22, 3) := by decide +kernel
theorem dX3_note_18 : decode cX3_note 18 = .ok (.iload_n 1, 1) := by decide +kernel
theorem dX3_note_19 : decode cX3_note 19 = .ok (.iastore, 1) := by decide +kernel
theorem dX3_note_20 : decode cX3_note 20 = .ok (.aload_n 0, 1) := by decide +kernel
theorem dX3_note_21 : decode cX3_note 21 = .ok (.getfield 18, 3) := by decide +kernel
theorem dX3_note_24 : decode cX3_note 24 = .ok (.aload_n 0, 1) := by decide +kernel
theorem dX3_note_25 : decode cX3_note 25 = .ok (.getfield 22, 3) := by decide +kernel
theorem dX3_note_28 : decode cX3_note 28 = .ok (.aload_n 2, 1) := by decide +kernel
theorem dX3_note_29 : decode cX3_note 29 = .ok (.iload_n 1, 1) := by decide +kernel
theorem dX3_note_30 : decode cX3_note 30 = .ok (.invokevirtual 26, 3) := by decide +kernel
theorem dX3_note_33 : decode cX3_note 33 = .ok (.bastore, 1) := by decide +kernel
theorem dX3_note_34 : decode cX3_note 34 = .ok (.aload_n 2, 1) := by decide +kernel
theorem dX3_note_35 : decode cX3_note 35 = .ok (.iload_n 1, 1) := by decide +kernel
theorem dX3_note_36 : decode cX3_note 36 = .ok (.aload_n 0, 1) := by decide +kernel
theorem dX3_note_37 : decode cX3_note 37 = .ok (.getfield 15, 3) := by decide +kernel
theorem dX3_note_40 : decode cX3_note 40 = .ok (.aload_n 0, 1) := by decide +kernel
theorem dX3_note_41 : decode cX3_note 41 = .ok (.getfield 22, 3) := by decide +kernel
theorem dX3_note_44 : decode cX3_note 44 = .ok (.bipush 32, 2) := by decide +kernel
theorem dX3_note_46 : decode cX3_note 46 = .ok (.imul, 1) := by decide +kernel
theorem dX3_note_47 : decode cX3_note 47 = .ok (.invokevirtual 32, 3) := by decide +kernel
theorem dX3_note_50 : decode cX3_note 50 = .ok (.aload_n 0, 1) := by decide +kernel
theorem dX3_note_51 : decode cX3_note 51 = .ok (.dup, 1) := by decide +kernel
theorem dX3_note_52 : decode cX3_note 52 = .ok (.getfield 22, 3) := by decide +kernel
theorem dX3_note_55 : decode cX3_note 55 = .ok (.iconst 1, 1) := by decide +kernel
theorem dX3_note_56 : decode cX3_note 56 = .ok (.iadd, 1) := by decide +kernel
theorem dX3_note_57 : decode cX3_note 57 = .ok (.putfield 22, 3) := by decide +kernel
theorem dX3_note_60 : decode cX3_note 60 = .ok (.return_, 1) := by decide +kernel
theorem dX3_undoBehind_0 : decode cX3_undoBehind 0 = .ok (.aload_n 0, 1) := by decide +kernel
theorem dX3_undoBehind_1 : decode cX3_undoBehind 1 = .ok (.getfield 22, 3) := by decide +kernel
theorem dX3_undoBehind_4 : decode cX3_undoBehind 4 = .ok (.iconst 1, 1) := by decide +kernel
theorem dX3_undoBehind_5 : decode cX3_undoBehind 5 = .ok (.isub, 1) := by decide +kernel
theorem dX3_undoBehind_6 : decode cX3_undoBehind 6 = .ok (.istore 4, 2) := by decide +kernel
theorem dX3_undoBehind_8 : decode cX3_undoBehind 8 = .ok (.iload 4, 2) := by decide +kernel
theorem dX3_undoBehind_10 : decode cX3_undoBehind 10 = .ok (.iload_n 1, 1) := by decide +kernel
theorem dX3_undoBehind_11 : decode cX3_undoBehind 11 = .ok (.if_icmp .le 42, 3) := by decide +kernel
theorem dX3_undoBehind_14 : decode cX3_undoBehind 14 = .ok (.iload 4, 2) := by decide +kernel
theorem dX3_undoBehind_16 : decode cX3_undoBehind 16 = .ok (.ifCond .lt 37, 3) := by decide +kernel
theorem dX3_undoBehind_19 : decode cX3_undoBehind 19 = .ok (.aload_n 3, 1) := by decide +kernel
theorem dX3_undoBehind_20 : decode cX3_undoBehind 20 = .ok (.aload_n 0, 1) := by decide +kernel
theorem dX3_undoBehind_21 : decode cX3_undoBehind 21 = .ok (.getfield 9, 3) := by decide +kernel
theorem dX3_undoBehind_24 : decode cX3_undoBehind 24 = .ok (.iload 4, 2) := by decide +kernel
theorem dX3_undoBehind_26 : decode cX3_undoBehind 26 = .ok (.iaload, 1) := by decide +kernel
theorem dX3_undoBehind_27 : decode cX3_undoBehind 27 = .ok (.iconst 0, 1) := by decide +kernel
theorem dX3_undoBehind_28 : decode cX3_undoBehind 28 = .ok (.aload_n 0, 1) := by decide +kernel
theorem dX3_undoBehind_29 : decode cX3_undoBehind 29 = .ok (.getfield 15, 3) := by decide +kernel
theorem dX3_undoBehind_32 : decode cX3_undoBehind 32 = .ok (.iload 4, 2) := by decide +kernel
theorem dX3_undoBehind_34 : decode cX3_undoBehind 34 = .ok (.bipush 32, 2) := by decide +kernel
theorem dX3_undoBehind_36 : decode cX3_undoBehind 36 = .ok (.imul, 1) := by decide +kernel
theorem dX3_undoBehind_37 : decode cX3_undoBehind 37 = .ok (.aload_n 0, 1) := by decide +kernel
theorem dX3_undoBehind_38 : decode cX3_undoBehind 38 = .ok (.getfield 18, 3) := by decide +kernel
theorem dX3_undoBehind_41 : decode cX3_undoBehind 41 = .ok (.iload 4, 2) := by decide +kernel
theorem dX3_undoBehind_43 : decode cX3_undoBehind 43 = .ok (.baload, 1) := by decide +kernel
theorem dX3_undoBehind_44 : decode cX3_undoBehind 44 = .ok (.invokevirtual 36, 3) := by decide +kernel
theorem dX3_undoBehind_47 : decode cX3_undoBehind 47 = .ok (.iinc 4 (-1), 3) := by decide +kernel
theorem dX3_undoBehind_50 : decode cX3_undoBehind 50 = .ok (.goto (-42), 3) := by decide +kernel
theorem dX3_undoBehind_53 : decode cX3_undoBehind 53 = .ok (.iload_n 1, 1) := by decide +kernel
theorem dX3_undoBehind_54 : decode cX3_undoBehind 54 = .ok (.ifCond .lt 31, 3) := by decide +kernel
theorem dX3_undoBehind_57 : decode cX3_undoBehind 57 = .ok (.iload_n 1, 1) := by decide +kernel
theorem dX3_undoBehind_58 : decode cX3_undoBehind 58 = .ok (.aload_n 0, 1) := by decide +kernel
theorem dX3_undoBehind_59 : decode cX3_undoBehind 59 = .ok (.getfield 22, 3) := by decide +kernel
theorem dX3_undoBehind_62 : decode cX3_undoBehind 62 = .ok (.if_icmp .ge 23, 3) := by decide +kernel
theorem dX3_undoBehind_65 : decode cX3_undoBehind 65 = .ok (.aload_n 3, 1) := by decide +kernel
theorem dX3_undoBehind_66 : decode cX3_undoBehind 66 = .ok (.aload_n 0, 1) := by decide +kernel
theorem dX3_undoBehind_67 : decode cX3_undoBehind 67 = .ok (.getfield 9, 3) := by decide +kernel
theorem dX3_undoBehind_70 : decode cX3_undoBehind 70 = .ok (.iload_n 1, 1) := by decide +kernel
theorem dX3_undoBehind_71 : decode cX3_undoBehind 71 = .ok (.iaload, 1) := by decide +kernel
theorem dX3_undoBehind_72 : decode cX3_undoBehind 72 = .ok (.iload_n 2, 1) := by decide +kernel
theorem dX3_undoBehind_73 : decode cX3_undoBehind 73 = .ok (.aload_n 0, 1) := by decide +kernel
theorem dX3_undoBehind_74 : decode cX3_undoBehind 74 = .ok (.getfield 15, 3) := by decide +kernel
theorem dX3_undoBehind_77 : decode cX3_undoBehind 77 = .ok (.iload_n 1, 1) := by decide +kernel
theorem dX3_undoBehind_78 : decode cX3_undoBehind 78 = .ok (.bipush 32, 2) := by decide +kernel
theorem dX3_undoBehind_80 : decode cX3_undoBehind 80 = .ok (.imul, 1) := by decide +kernel
theorem dX3_undoBehind_81 : decode cX3_undoBehind 81 = .ok (.iconst 0, 1) := by decide +kernel
theorem dX3_undoBehind_82 : decode cX3_undoBehind 82 = .ok (.invokevirtual 36, 3) := by decide +kernel
theorem dX3_undoBehind_85 : decode cX3_undoBehind 85 = .ok (.return_, 1) := by decide +kernel
