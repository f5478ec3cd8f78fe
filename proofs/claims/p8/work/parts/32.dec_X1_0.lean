theorem dX1_twice_0 : decode cX1_twice 0 = .ok (.iload_n 0, 1) := by decide +kernel
theorem dX1_twice_1 : decode cX1_twice 1 = .ok (.iconst 1, 1) := by decide +kernel
theorem dX1_twice_2 : decode cX1_twice 2 = .ok (.ishl, 1) := by decide +kernel
theorem dX1_twice_3 : decode cX1_twice 3 = .ok (.istore_n 1, 1) := by decide +kernel
theorem dX1_twice_4 : decode cX1_twice 4 = .ok (.iload_n 1, 1) := by decide +kernel
theorem dX1_twice_5 : decode cX1_twice 5 = .ok (.sipush 255, 3) := by decide +kernel
theorem dX1_twice_8 : decode cX1_twice 8 = .ok (.if_icmp .le 11, 3) := by decide +kernel
theorem dX1_twice_11 : decode cX1_twice 11 = .ok (.iload_n 1, 1) := by decide +kernel
theorem dX1_twice_12 : decode cX1_twice 12 = .ok (.sipush 285, 3) := by decide +kernel
theorem dX1_twice_15 : decode cX1_twice 15 = .ok (.ixor, 1) := by decide +kernel
theorem dX1_twice_16 : decode cX1_twice 16 = .ok (.goto 4, 3) := by decide +kernel
theorem dX1_twice_19 : decode cX1_twice 19 = .ok (.iload_n 1, 1) := by decide +kernel
theorem dX1_twice_20 : decode cX1_twice 20 = .ok (.ireturn, 1) := by decide +kernel
theorem dX1_times_0 : decode cX1_times 0 = .ok (.iconst 0, 1) := by decide +kernel
theorem dX1_times_1 : decode cX1_times 1 = .ok (.istore_n 2, 1) := by decide +kernel
theorem dX1_times_2 : decode cX1_times 2 = .ok (.bipush 7, 2) := by decide +kernel
theorem dX1_times_4 : decode cX1_times 4 = .ok (.istore_n 3, 1) := by decide +kernel
theorem dX1_times_5 : decode cX1_times 5 = .ok (.iload_n 3, 1) := by decide +kernel
theorem dX1_times_6 : decode cX1_times 6 = .ok (.ifCond .lt 29, 3) := by decide +kernel
theorem dX1_times_9 : decode cX1_times 9 = .ok (.iload_n 2, 1) := by decide +kernel
theorem dX1_times_10 : decode cX1_times 10 = .ok (.invokestatic 7, 3) := by decide +kernel
theorem dX1_times_13 : decode cX1_times 13 = .ok (.iload_n 1, 1) := by decide +kernel
theorem dX1_times_14 : decode cX1_times 14 = .ok (.iload_n 3, 1) := by decide +kernel
theorem dX1_times_15 : decode cX1_times 15 = .ok (.ishr, 1) := by decide +kernel
theorem dX1_times_16 : decode cX1_times 16 = .ok (.iconst 1, 1) := by decide +kernel
theorem dX1_times_17 : decode cX1_times 17 = .ok (.iand, 1) := by decide +kernel
theorem dX1_times_18 : decode cX1_times 18 = .ok (.iconst 1, 1) := by decide +kernel
theorem dX1_times_19 : decode cX1_times 19 = .ok (.if_icmp .ne 7, 3) := by decide +kernel
theorem dX1_times_22 : decode cX1_times 22 = .ok (.iload_n 0, 1) := by decide +kernel
theorem dX1_times_23 : decode cX1_times 23 = .ok (.goto 4, 3) := by decide +kernel
theorem dX1_times_26 : decode cX1_times 26 = .ok (.iconst 0, 1) := by decide +kernel
theorem dX1_times_27 : decode cX1_times 27 = .ok (.ixor, 1) := by decide +kernel
theorem dX1_times_28 : decode cX1_times 28 = .ok (.istore_n 2, 1) := by decide +kernel
theorem dX1_times_29 : decode cX1_times 29 = .ok (.iinc 3 (-1), 3) := by decide +kernel
theorem dX1_times_32 : decode cX1_times 32 = .ok (.goto (-27), 3) := by decide +kernel
theorem dX1_times_35 : decode cX1_times 35 = .ok (.iload_n 2, 1) := by decide +kernel
theorem dX1_times_36 : decode cX1_times 36 = .ok (.ireturn, 1) := by decide +kernel
theorem dX1_inverse_0 : decode cX1_inverse 0 = .ok (.iconst 1, 1) := by decide +kernel
theorem dX1_inverse_1 : decode cX1_inverse 1 = .ok (.istore_n 1, 1) := by decide +kernel
theorem dX1_inverse_2 : decode cX1_inverse 2 = .ok (.iload_n 1, 1) := by decide +kernel
theorem dX1_inverse_3 : decode cX1_inverse 3 = .ok (.sipush 256, 3) := by decide +kernel
theorem dX1_inverse_6 : decode cX1_inverse 6 = .ok (.if_icmp .ge 20, 3) := by decide +kernel
theorem dX1_inverse_9 : decode cX1_inverse 9 = .ok (.iload_n 0, 1) := by decide +kernel
theorem dX1_inverse_10 : decode cX1_inverse 10 = .ok (.iload_n 1, 1) := by decide +kernel
theorem dX1_inverse_11 : decode cX1_inverse 11 = .ok (.invokestatic 13, 3) := by decide +kernel
theorem dX1_inverse_14 : decode cX1_inverse 14 = .ok (.iconst 1, 1) := by decide +kernel
theorem dX1_inverse_15 : decode cX1_inverse 15 = .ok (.if_icmp .ne 5, 3) := by decide +kernel
theorem dX1_inverse_18 : decode cX1_inverse 18 = .ok (.iload_n 1, 1) := by decide +kernel
theorem dX1_inverse_19 : decode cX1_inverse 19 = .ok (.ireturn, 1) := by decide +kernel
theorem dX1_inverse_20 : decode cX1_inverse 20 = .ok (.iinc 1 1, 3) := by decide +kernel
theorem dX1_inverse_23 : decode cX1_inverse 23 = .ok (.goto (-21), 3) := by decide +kernel
theorem dX1_inverse_26 : decode cX1_inverse 26 = .ok (.iconst 0, 1) := by decide +kernel
theorem dX1_inverse_27 : decode cX1_inverse 27 = .ok (.ireturn, 1) := by decide +kernel
