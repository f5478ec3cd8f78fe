theorem dX5_start_0 : decode cX5_start 0 = .ok (.aload_n 0, 1) := by decide +kernel
theorem dX5_start_1 : decode cX5_start 1 = .ok (.getfield 46, 3) := by decide +kernel
theorem dX5_start_4 : decode cX5_start 4 = .ok (.ifCond .eq 6, 3) := by decide +kernel
theorem dX5_start_7 : decode cX5_start 7 = .ok (.bipush (-3), 2) := by decide +kernel
theorem dX5_start_9 : decode cX5_start 9 = .ok (.ireturn, 1) := by decide +kernel
theorem dX5_start_10 : decode cX5_start 10 = .ok (.aload_n 0, 1) := by decide +kernel
theorem dX5_start_11 : decode cX5_start 11 = .ok (.iconst 1, 1) := by decide +kernel
theorem dX5_start_12 : decode cX5_start 12 = .ok (.putfield 46, 3) := by decide +kernel
theorem dX5_start_15 : decode cX5_start 15 = .ok (.aload_n 0, 1) := by decide +kernel
theorem dX5_start_16 : decode cX5_start 16 = .ok (.invokevirtual 135, 3) := by decide +kernel
theorem dX5_start_19 : decode cX5_start 19 = .ok (.aload_n 0, 1) := by decide +kernel
theorem dX5_start_20 : decode cX5_start 20 = .ok (.invokevirtual 138, 3) := by decide +kernel
theorem dX5_start_23 : decode cX5_start 23 = .ok (.aload_n 0, 1) := by decide +kernel
theorem dX5_start_24 : decode cX5_start 24 = .ok (.invokevirtual 141, 3) := by decide +kernel
theorem dX5_start_27 : decode cX5_start 27 = .ok (.aload_n 0, 1) := by decide +kernel
theorem dX5_start_28 : decode cX5_start 28 = .ok (.iconst 0, 1) := by decide +kernel
theorem dX5_start_29 : decode cX5_start 29 = .ok (.putfield 144, 3) := by decide +kernel
theorem dX5_start_32 : decode cX5_start 32 = .ok (.aload_n 0, 1) := by decide +kernel
theorem dX5_start_33 : decode cX5_start 33 = .ok (.invokevirtual 147, 3) := by decide +kernel
theorem dX5_start_36 : decode cX5_start 36 = .ok (.aload_n 0, 1) := by decide +kernel
theorem dX5_start_37 : decode cX5_start 37 = .ok (.getfield 21, 3) := by decide +kernel
theorem dX5_start_40 : decode cX5_start 40 = .ok (.invokevirtual 122, 3) := by decide +kernel
theorem dX5_start_43 : decode cX5_start 43 = .ok (.aload_n 0, 1) := by decide +kernel
theorem dX5_start_44 : decode cX5_start 44 = .ok (.getfield 65, 3) := by decide +kernel
theorem dX5_start_47 : decode cX5_start 47 = .ok (.ireturn, 1) := by decide +kernel
