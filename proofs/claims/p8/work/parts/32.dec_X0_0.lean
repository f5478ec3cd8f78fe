theorem dX0_cell_0 : decode cX0_cell 0 = .ok (.iload_n 1, 1) := by decide +kernel
theorem dX0_cell_1 : decode cX0_cell 1 = .ok (.ifCond .lt 18, 3) := by decide +kernel
theorem dX0_cell_4 : decode cX0_cell 4 = .ok (.iload_n 1, 1) := by decide +kernel
theorem dX0_cell_5 : decode cX0_cell 5 = .ok (.bipush 32, 2) := by decide +kernel
theorem dX0_cell_7 : decode cX0_cell 7 = .ok (.if_icmp .ge 12, 3) := by decide +kernel
theorem dX0_cell_10 : decode cX0_cell 10 = .ok (.aload_n 0, 1) := by decide +kernel
theorem dX0_cell_11 : decode cX0_cell 11 = .ok (.getfield 9, 3) := by decide +kernel
theorem dX0_cell_14 : decode cX0_cell 14 = .ok (.iload_n 1, 1) := by decide +kernel
theorem dX0_cell_15 : decode cX0_cell 15 = .ok (.iaload, 1) := by decide +kernel
theorem dX0_cell_16 : decode cX0_cell 16 = .ok (.goto 4, 3) := by decide +kernel
theorem dX0_cell_19 : decode cX0_cell 19 = .ok (.iconst 0, 1) := by decide +kernel
theorem dX0_cell_20 : decode cX0_cell 20 = .ok (.ireturn, 1) := by decide +kernel
theorem dX0_init_0 : decode cX0_init 0 = .ok (.aload_n 0, 1) := by decide +kernel
theorem dX0_init_1 : decode cX0_init 1 = .ok (.invokespecial 3, 3) := by decide +kernel
theorem dX0_init_4 : decode cX0_init 4 = .ok (.aload_n 0, 1) := by decide +kernel
theorem dX0_init_5 : decode cX0_init 5 = .ok (.bipush 32, 2) := by decide +kernel
theorem dX0_init_7 : decode cX0_init 7 = .ok (.newarray .int, 2) := by decide +kernel
theorem dX0_init_9 : decode cX0_init 9 = .ok (.putfield 9, 3) := by decide +kernel
theorem dX0_init_12 : decode cX0_init 12 = .ok (.return_, 1) := by decide +kernel
theorem dX0_setContent_0 : decode cX0_setContent 0 = .ok (.iload_n 1, 1) := by decide +kernel
theorem dX0_setContent_1 : decode cX0_setContent 1 = .ok (.ifCond .lt 22, 3) := by decide +kernel
theorem dX0_setContent_4 : decode cX0_setContent 4 = .ok (.iload_n 1, 1) := by decide +kernel
theorem dX0_setContent_5 : decode cX0_setContent 5 = .ok (.bipush 24, 2) := by decide +kernel
theorem dX0_setContent_7 : decode cX0_setContent 7 = .ok (.if_icmp .ge 16, 3) := by decide +kernel
theorem dX0_setContent_10 : decode cX0_setContent 10 = .ok (.aload_n 0, 1) := by decide +kernel
theorem dX0_setContent_11 : decode cX0_setContent 11 = .ok (.getfield 9, 3) := by decide +kernel
theorem dX0_setContent_14 : decode cX0_setContent 14 = .ok (.iconst 4, 1) := by decide +kernel
theorem dX0_setContent_15 : decode cX0_setContent 15 = .ok (.iload_n 1, 1) := by decide +kernel
theorem dX0_setContent_16 : decode cX0_setContent 16 = .ok (.iadd, 1) := by decide +kernel
theorem dX0_setContent_17 : decode cX0_setContent 17 = .ok (.iload_n 2, 1) := by decide +kernel
theorem dX0_setContent_18 : decode cX0_setContent 18 = .ok (.sipush 255, 3) := by decide +kernel
theorem dX0_setContent_21 : decode cX0_setContent 21 = .ok (.iand, 1) := by decide +kernel
theorem dX0_setContent_22 : decode cX0_setContent 22 = .ok (.iastore, 1) := by decide +kernel
theorem dX0_setContent_23 : decode cX0_setContent 23 = .ok (.return_, 1) := by decide +kernel
theorem dX0_begin_0 : decode cX0_begin 0 = .ok (.aload_n 0, 1) := by decide +kernel
theorem dX0_begin_1 : decode cX0_begin 1 = .ok (.getfield 9, 3) := by decide +kernel
theorem dX0_begin_4 : decode cX0_begin 4 = .ok (.iconst 0, 1) := by decide +kernel
theorem dX0_begin_5 : decode cX0_begin 5 = .ok (.invokestatic 15, 3) := by decide +kernel
theorem dX0_begin_8 : decode cX0_begin 8 = .ok (.aload_n 0, 1) := by decide +kernel
theorem dX0_begin_9 : decode cX0_begin 9 = .ok (.getfield 9, 3) := by decide +kernel
theorem dX0_begin_12 : decode cX0_begin 12 = .ok (.iconst 0, 1) := by decide +kernel
theorem dX0_begin_13 : decode cX0_begin 13 = .ok (.iload_n 1, 1) := by decide +kernel
theorem dX0_begin_14 : decode cX0_begin 14 = .ok (.iastore, 1) := by decide +kernel
theorem dX0_begin_15 : decode cX0_begin 15 = .ok (.aload_n 0, 1) := by decide +kernel
theorem dX0_begin_16 : decode cX0_begin 16 = .ok (.getfield 9, 3) := by decide +kernel
theorem dX0_begin_19 : decode cX0_begin 19 = .ok (.iconst 1, 1) := by decide +kernel
theorem dX0_begin_20 : decode cX0_begin 20 = .ok (.iload_n 2, 1) := by decide +kernel
theorem dX0_begin_21 : decode cX0_begin 21 = .ok (.iastore, 1) := by decide +kernel
theorem dX0_begin_22 : decode cX0_begin 22 = .ok (.aload_n 0, 1) := by decide +kernel
theorem dX0_begin_23 : decode cX0_begin 23 = .ok (.getfield 9, 3) := by decide +kernel
theorem dX0_begin_26 : decode cX0_begin 26 = .ok (.iconst 2, 1) := by decide +kernel
theorem dX0_begin_27 : decode cX0_begin 27 = .ok (.iload_n 3, 1) := by decide +kernel
theorem dX0_begin_28 : decode cX0_begin 28 = .ok (.iastore, 1) := by decide +kernel
theorem dX0_begin_29 : decode cX0_begin 29 = .ok (.aload_n 0, 1) := by decide +kernel
theorem dX0_begin_30 : decode cX0_begin 30 = .ok (.getfield 9, 3) := by decide +kernel
theorem dX0_begin_33 : decode cX0_begin 33 = .ok (.iconst 3, 1) := by decide +kernel
theorem dX0_begin_34 : decode cX0_begin 34 = .ok (.iload 4, 2) := by decide +kernel
theorem dX0_begin_36 : decode cX0_begin 36 = .ok (.iastore, 1) := by decide +kernel
theorem dX0_begin_37 : decode cX0_begin 37 = .ok (.return_, 1) := by decide +kernel
theorem dX0_seal_0 : decode cX0_seal 0 = .ok (.aload_n 0, 1) := by decide +kernel
theorem dX0_seal_1 : decode cX0_seal 1 = .ok (.getfield 9, 3) := by decide +kernel
theorem dX0_seal_4 : decode cX0_seal 4 = .ok (.iconst 0, 1) := by decide +kernel
theorem dX0_seal_5 : decode cX0_seal 5 = .ok (.invokestatic 21, 3) := by decide +kernel
theorem dX0_seal_8 : decode cX0_seal 8 = .ok (.istore_n 1, 1) := by decide +kernel
theorem dX0_seal_9 : decode cX0_seal 9 = .ok (.iconst 0, 1) := by decide +kernel
theorem dX0_seal_10 : decode cX0_seal 10 = .ok (.istore_n 2, 1) := by decide +kernel
theorem dX0_seal_11 : decode cX0_seal 11 = .ok (.iload_n 2, 1) := by decide +kernel
theorem dX0_seal_12 : decode cX0_seal 12 = .ok (.iconst 4, 1) := by decide +kernel
theorem dX0_seal_13 : decode cX0_seal 13 = .ok (.if_icmp .ge 31, 3) := by decide +kernel
theorem dX0_seal_16 : decode cX0_seal 16 = .ok (.aload_n 0, 1) := by decide +kernel
theorem dX0_seal_17 : decode cX0_seal 17 = .ok (.getfield 9, 3) := by decide +kernel
theorem dX0_seal_20 : decode cX0_seal 20 = .ok (.bipush 28, 2) := by decide +kernel
theorem dX0_seal_22 : decode cX0_seal 22 = .ok (.iload_n 2, 1) := by decide +kernel
theorem dX0_seal_23 : decode cX0_seal 23 = .ok (.iadd, 1) := by decide +kernel
theorem dX0_seal_24 : decode cX0_seal 24 = .ok (.iload_n 1, 1) := by decide +kernel
theorem dX0_seal_25 : decode cX0_seal 25 = .ok (.bipush 24, 2) := by decide +kernel
theorem dX0_seal_27 : decode cX0_seal 27 = .ok (.bipush 8, 2) := by decide +kernel
theorem dX0_seal_29 : decode cX0_seal 29 = .ok (.iload_n 2, 1) := by decide +kernel
theorem dX0_seal_30 : decode cX0_seal 30 = .ok (.imul, 1) := by decide +kernel
theorem dX0_seal_31 : decode cX0_seal 31 = .ok (.isub, 1) := by decide +kernel
theorem dX0_seal_32 : decode cX0_seal 32 = .ok (.iushr, 1) := by decide +kernel
theorem dX0_seal_33 : decode cX0_seal 33 = .ok (.sipush 255, 3) := by decide +kernel
theorem dX0_seal_36 : decode cX0_seal 36 = .ok (.iand, 1) := by decide +kernel
theorem dX0_seal_37 : decode cX0_seal 37 = .ok (.iastore, 1) := by decide +kernel
theorem dX0_seal_38 : decode cX0_seal 38 = .ok (.iinc 2 1, 3) := by decide +kernel
theorem dX0_seal_41 : decode cX0_seal 41 = .ok (.goto (-30), 3) := by decide +kernel
theorem dX0_seal_44 : decode cX0_seal 44 = .ok (.return_, 1) := by decide +kernel
