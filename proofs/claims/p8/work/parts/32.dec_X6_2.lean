theorem dX6_missingAt_0 : decode cX6_missingAt 0 = .ok (.iconst 0, 1) := by decide +kernel
theorem dX6_missingAt_1 : decode cX6_missingAt 1 = .ok (.istore_n 2, 1) := by decide +kernel
theorem dX6_missingAt_2 : decode cX6_missingAt 2 = .ok (.iconst 0, 1) := by decide +kernel
theorem dX6_missingAt_3 : decode cX6_missingAt 3 = .ok (.istore_n 3, 1) := by decide +kernel
theorem dX6_missingAt_4 : decode cX6_missingAt 4 = .ok (.iload_n 3, 1) := by decide +kernel
theorem dX6_missingAt_5 : decode cX6_missingAt 5 = .ok (.aload_n 0, 1) := by decide +kernel
theorem dX6_missingAt_6 : decode cX6_missingAt 6 = .ok (.iload_n 1, 1) := by decide +kernel
theorem dX6_missingAt_7 : decode cX6_missingAt 7 = .ok (.invokevirtual 106, 3) := by decide +kernel
theorem dX6_missingAt_10 : decode cX6_missingAt 10 = .ok (.if_icmp .ge 30, 3) := by decide +kernel
theorem dX6_missingAt_13 : decode cX6_missingAt 13 = .ok (.iload_n 2, 1) := by decide +kernel
theorem dX6_missingAt_14 : decode cX6_missingAt 14 = .ok (.aload_n 0, 1) := by decide +kernel
theorem dX6_missingAt_15 : decode cX6_missingAt 15 = .ok (.aload_n 0, 1) := by decide +kernel
theorem dX6_missingAt_16 : decode cX6_missingAt 16 = .ok (.iload_n 1, 1) := by decide +kernel
theorem dX6_missingAt_17 : decode cX6_missingAt 17 = .ok (.iload_n 3, 1) := by decide +kernel
theorem dX6_missingAt_18 : decode cX6_missingAt 18 = .ok (.invokevirtual 109, 3) := by decide +kernel
theorem dX6_missingAt_21 : decode cX6_missingAt 21 = .ok (.invokevirtual 113, 3) := by decide +kernel
theorem dX6_missingAt_24 : decode cX6_missingAt 24 = .ok (.ifCond .eq 7, 3) := by decide +kernel
theorem dX6_missingAt_27 : decode cX6_missingAt 27 = .ok (.iconst 0, 1) := by decide +kernel
theorem dX6_missingAt_28 : decode cX6_missingAt 28 = .ok (.goto 4, 3) := by decide +kernel
theorem dX6_missingAt_31 : decode cX6_missingAt 31 = .ok (.iconst 1, 1) := by decide +kernel
theorem dX6_missingAt_32 : decode cX6_missingAt 32 = .ok (.iadd, 1) := by decide +kernel
theorem dX6_missingAt_33 : decode cX6_missingAt 33 = .ok (.istore_n 2, 1) := by decide +kernel
theorem dX6_missingAt_34 : decode cX6_missingAt 34 = .ok (.iinc 3 1, 3) := by decide +kernel
theorem dX6_missingAt_37 : decode cX6_missingAt 37 = .ok (.goto (-33), 3) := by decide +kernel
theorem dX6_missingAt_40 : decode cX6_missingAt 40 = .ok (.iload_n 2, 1) := by decide +kernel
theorem dX6_missingAt_41 : decode cX6_missingAt 41 = .ok (.ireturn, 1) := by decide +kernel
theorem dX6_sync_0 : decode cX6_sync 0 = .ok (.aload_n 0, 1) := by decide +kernel
theorem dX6_sync_1 : decode cX6_sync 1 = .ok (.iconst 0, 1) := by decide +kernel
theorem dX6_sync_2 : decode cX6_sync 2 = .ok (.putfield 70, 3) := by decide +kernel
theorem dX6_sync_5 : decode cX6_sync 5 = .ok (.aload_n 0, 1) := by decide +kernel
theorem dX6_sync_6 : decode cX6_sync 6 = .ok (.getfield 17, 3) := by decide +kernel
theorem dX6_sync_9 : decode cX6_sync 9 = .ok (.ifCond .ne 6, 3) := by decide +kernel
theorem dX6_sync_12 : decode cX6_sync 12 = .ok (.bipush (-3), 2) := by decide +kernel
theorem dX6_sync_14 : decode cX6_sync 14 = .ok (.ireturn, 1) := by decide +kernel
theorem dX6_sync_15 : decode cX6_sync 15 = .ok (.aload_n 0, 1) := by decide +kernel
theorem dX6_sync_16 : decode cX6_sync 16 = .ok (.dup, 1) := by decide +kernel
theorem dX6_sync_17 : decode cX6_sync 17 = .ok (.getfield 153, 3) := by decide +kernel
theorem dX6_sync_20 : decode cX6_sync 20 = .ok (.iconst 1, 1) := by decide +kernel
theorem dX6_sync_21 : decode cX6_sync 21 = .ok (.iadd, 1) := by decide +kernel
theorem dX6_sync_22 : decode cX6_sync 22 = .ok (.putfield 153, 3) := by decide +kernel
theorem dX6_sync_25 : decode cX6_sync 25 = .ok (.aload_n 0, 1) := by decide +kernel
theorem dX6_sync_26 : decode cX6_sync 26 = .ok (.aload_n 0, 1) := by decide +kernel
theorem dX6_sync_27 : decode cX6_sync 27 = .ok (.getfield 153, 3) := by decide +kernel
theorem dX6_sync_30 : decode cX6_sync 30 = .ok (.invokevirtual 156, 3) := by decide +kernel
theorem dX6_sync_33 : decode cX6_sync 33 = .ok (.aload_n 0, 1) := by decide +kernel
theorem dX6_sync_34 : decode cX6_sync 34 = .ok (.aload_n 0, 1) := by decide +kernel
theorem dX6_sync_35 : decode cX6_sync 35 = .ok (.getfield 153, 3) := by decide +kernel
theorem dX6_sync_38 : decode cX6_sync 38 = .ok (.iconst 1, 1) := by decide +kernel
theorem dX6_sync_39 : decode cX6_sync 39 = .ok (.iand, 1) := by decide +kernel
theorem dX6_sync_40 : decode cX6_sync 40 = .ok (.invokevirtual 96, 3) := by decide +kernel
theorem dX6_sync_43 : decode cX6_sync 43 = .ok (.aload_n 0, 1) := by decide +kernel
theorem dX6_sync_44 : decode cX6_sync 44 = .ok (.iconst 0, 1) := by decide +kernel
theorem dX6_sync_45 : decode cX6_sync 45 = .ok (.putfield 93, 3) := by decide +kernel
theorem dX6_sync_48 : decode cX6_sync 48 = .ok (.aload_n 0, 1) := by decide +kernel
theorem dX6_sync_49 : decode cX6_sync 49 = .ok (.getfield 153, 3) := by decide +kernel
theorem dX6_sync_52 : decode cX6_sync 52 = .ok (.ireturn, 1) := by decide +kernel
theorem dX6_blockFor_0 : decode cX6_blockFor 0 = .ok (.aload_n 0, 1) := by decide +kernel
theorem dX6_blockFor_1 : decode cX6_blockFor 1 = .ok (.iconst 2, 1) := by decide +kernel
theorem dX6_blockFor_2 : decode cX6_blockFor 2 = .ok (.iconst 0, 1) := by decide +kernel
theorem dX6_blockFor_3 : decode cX6_blockFor 3 = .ok (.iconst 0, 1) := by decide +kernel
theorem dX6_blockFor_4 : decode cX6_blockFor 4 = .ok (.iconst 0, 1) := by decide +kernel
theorem dX6_blockFor_5 : decode cX6_blockFor 5 = .ok (.invokevirtual 121, 3) := by decide +kernel
theorem dX6_blockFor_8 : decode cX6_blockFor 8 = .ok (.iconst 0, 1) := by decide +kernel
theorem dX6_blockFor_9 : decode cX6_blockFor 9 = .ok (.istore_n 2, 1) := by decide +kernel
theorem dX6_blockFor_10 : decode cX6_blockFor 10 = .ok (.iload_n 2, 1) := by decide +kernel
theorem dX6_blockFor_11 : decode cX6_blockFor 11 = .ok (.bipush 24, 2) := by decide +kernel
theorem dX6_blockFor_13 : decode cX6_blockFor 13 = .ok (.if_icmp .ge 39, 3) := by decide +kernel
theorem dX6_blockFor_16 : decode cX6_blockFor 16 = .ok (.aload_n 0, 1) := by decide +kernel
theorem dX6_blockFor_17 : decode cX6_blockFor 17 = .ok (.getfield 40, 3) := by decide +kernel
theorem dX6_blockFor_20 : decode cX6_blockFor 20 = .ok (.iconst 4, 1) := by decide +kernel
theorem dX6_blockFor_21 : decode cX6_blockFor 21 = .ok (.iload_n 2, 1) := by decide +kernel
theorem dX6_blockFor_22 : decode cX6_blockFor 22 = .ok (.iadd, 1) := by decide +kernel
theorem dX6_blockFor_23 : decode cX6_blockFor 23 = .ok (.iload_n 1, 1) := by decide +kernel
theorem dX6_blockFor_24 : decode cX6_blockFor 24 = .ok (.iload_n 2, 1) := by decide +kernel
theorem dX6_blockFor_25 : decode cX6_blockFor 25 = .ok (.iadd, 1) := by decide +kernel
theorem dX6_blockFor_26 : decode cX6_blockFor 26 = .ok (.aload_n 0, 1) := by decide +kernel
theorem dX6_blockFor_27 : decode cX6_blockFor 27 = .ok (.getfield 116, 3) := by decide +kernel
theorem dX6_blockFor_30 : decode cX6_blockFor 30 = .ok (.if_icmp .ge 14, 3) := by decide +kernel
theorem dX6_blockFor_33 : decode cX6_blockFor 33 = .ok (.aload_n 0, 1) := by decide +kernel
theorem dX6_blockFor_34 : decode cX6_blockFor 34 = .ok (.getfield 28, 3) := by decide +kernel
theorem dX6_blockFor_37 : decode cX6_blockFor 37 = .ok (.iload_n 1, 1) := by decide +kernel
theorem dX6_blockFor_38 : decode cX6_blockFor 38 = .ok (.iload_n 2, 1) := by decide +kernel
theorem dX6_blockFor_39 : decode cX6_blockFor 39 = .ok (.iadd, 1) := by decide +kernel
theorem dX6_blockFor_40 : decode cX6_blockFor 40 = .ok (.iaload, 1) := by decide +kernel
theorem dX6_blockFor_41 : decode cX6_blockFor 41 = .ok (.goto 4, 3) := by decide +kernel
theorem dX6_blockFor_44 : decode cX6_blockFor 44 = .ok (.iconst 0, 1) := by decide +kernel
theorem dX6_blockFor_45 : decode cX6_blockFor 45 = .ok (.iastore, 1) := by decide +kernel
theorem dX6_blockFor_46 : decode cX6_blockFor 46 = .ok (.iinc 2 1, 3) := by decide +kernel
theorem dX6_blockFor_49 : decode cX6_blockFor 49 = .ok (.goto (-39), 3) := by decide +kernel
theorem dX6_blockFor_52 : decode cX6_blockFor 52 = .ok (.iconst 2, 1) := by decide +kernel
theorem dX6_blockFor_53 : decode cX6_blockFor 53 = .ok (.istore_n 2, 1) := by decide +kernel
theorem dX6_blockFor_54 : decode cX6_blockFor 54 = .ok (.iload_n 2, 1) := by decide +kernel
theorem dX6_blockFor_55 : decode cX6_blockFor 55 = .ok (.aload_n 0, 1) := by decide +kernel
theorem dX6_blockFor_56 : decode cX6_blockFor 56 = .ok (.getfield 21, 3) := by decide +kernel
theorem dX6_blockFor_59 : decode cX6_blockFor 59 = .ok (.if_icmp .ge 92, 3) := by decide +kernel
theorem dX6_blockFor_62 : decode cX6_blockFor 62 = .ok (.aload_n 0, 1) := by decide +kernel
theorem dX6_blockFor_63 : decode cX6_blockFor 63 = .ok (.iload_n 2, 1) := by decide +kernel
theorem dX6_blockFor_64 : decode cX6_blockFor 64 = .ok (.invokevirtual 86, 3) := by decide +kernel
theorem dX6_blockFor_67 : decode cX6_blockFor 67 = .ok (.iconst 2, 1) := by decide +kernel
theorem dX6_blockFor_68 : decode cX6_blockFor 68 = .ok (.if_icmp .ne 7, 3) := by decide +kernel
theorem dX6_blockFor_71 : decode cX6_blockFor 71 = .ok (.iconst 1, 1) := by decide +kernel
theorem dX6_blockFor_72 : decode cX6_blockFor 72 = .ok (.goto 4, 3) := by decide +kernel
theorem dX6_blockFor_75 : decode cX6_blockFor 75 = .ok (.iconst 0, 1) := by decide +kernel
theorem dX6_blockFor_76 : decode cX6_blockFor 76 = .ok (.istore_n 3, 1) := by decide +kernel
theorem dX6_blockFor_77 : decode cX6_blockFor 77 = .ok (.iconst 0, 1) := by decide +kernel
theorem dX6_blockFor_78 : decode cX6_blockFor 78 = .ok (.istore 4, 2) := by decide +kernel
theorem dX6_blockFor_80 : decode cX6_blockFor 80 = .ok (.iload 4, 2) := by decide +kernel
theorem dX6_blockFor_82 : decode cX6_blockFor 82 = .ok (.bipush 24, 2) := by decide +kernel
theorem dX6_blockFor_84 : decode cX6_blockFor 84 = .ok (.if_icmp .ge 45, 3) := by decide +kernel
theorem dX6_blockFor_87 : decode cX6_blockFor 87 = .ok (.iload_n 3, 1) := by decide +kernel
theorem dX6_blockFor_88 : decode cX6_blockFor 88 = .ok (.ifCond .eq 41, 3) := by decide +kernel
theorem dX6_blockFor_91 : decode cX6_blockFor 91 = .ok (.aload_n 0, 1) := by decide +kernel
theorem dX6_blockFor_92 : decode cX6_blockFor 92 = .ok (.getfield 7, 3) := by decide +kernel
theorem dX6_blockFor_95 : decode cX6_blockFor 95 = .ok (.bipush 32, 2) := by decide +kernel
theorem dX6_blockFor_97 : decode cX6_blockFor 97 = .ok (.iload_n 2, 1) := by decide +kernel
theorem dX6_blockFor_98 : decode cX6_blockFor 98 = .ok (.imul, 1) := by decide +kernel
theorem dX6_blockFor_99 : decode cX6_blockFor 99 = .ok (.iconst 4, 1) := by decide +kernel
theorem dX6_blockFor_100 : decode cX6_blockFor 100 = .ok (.iadd, 1) := by decide +kernel
theorem dX6_blockFor_101 : decode cX6_blockFor 101 = .ok (.iload 4, 2) := by decide +kernel
theorem dX6_blockFor_103 : decode cX6_blockFor 103 = .ok (.iadd, 1) := by decide +kernel
theorem dX6_blockFor_104 : decode cX6_blockFor 104 = .ok (.iaload, 1) := by decide +kernel
theorem dX6_blockFor_105 : decode cX6_blockFor 105 = .ok (.aload_n 0, 1) := by decide +kernel
theorem dX6_blockFor_106 : decode cX6_blockFor 106 = .ok (.getfield 40, 3) := by decide +kernel
theorem dX6_blockFor_109 : decode cX6_blockFor 109 = .ok (.iconst 4, 1) := by decide +kernel
theorem dX6_blockFor_110 : decode cX6_blockFor 110 = .ok (.iload 4, 2) := by decide +kernel
theorem dX6_blockFor_112 : decode cX6_blockFor 112 = .ok (.iadd, 1) := by decide +kernel
theorem dX6_blockFor_113 : decode cX6_blockFor 113 = .ok (.iaload, 1) := by decide +kernel
theorem dX6_blockFor_114 : decode cX6_blockFor 114 = .ok (.if_icmp .ne 7, 3) := by decide +kernel
theorem dX6_blockFor_117 : decode cX6_blockFor 117 = .ok (.iconst 1, 1) := by decide +kernel
theorem dX6_blockFor_118 : decode cX6_blockFor 118 = .ok (.goto 4, 3) := by decide +kernel
theorem dX6_blockFor_121 : decode cX6_blockFor 121 = .ok (.iconst 0, 1) := by decide +kernel
theorem dX6_blockFor_122 : decode cX6_blockFor 122 = .ok (.istore_n 3, 1) := by decide +kernel
theorem dX6_blockFor_123 : decode cX6_blockFor 123 = .ok (.iinc 4 1, 3) := by decide +kernel
theorem dX6_blockFor_126 : decode cX6_blockFor 126 = .ok (.goto (-46), 3) := by decide +kernel
theorem dX6_blockFor_129 : decode cX6_blockFor 129 = .ok (.iload_n 3, 1) := by decide +kernel
theorem dX6_blockFor_130 : decode cX6_blockFor 130 = .ok (.ifCond .eq 15, 3) := by decide +kernel
theorem dX6_blockFor_133 : decode cX6_blockFor 133 = .ok (.aload_n 0, 1) := by decide +kernel
theorem dX6_blockFor_134 : decode cX6_blockFor 134 = .ok (.dup, 1) := by decide +kernel
theorem dX6_blockFor_135 : decode cX6_blockFor 135 = .ok (.getfield 125, 3) := by decide +kernel
theorem dX6_blockFor_138 : decode cX6_blockFor 138 = .ok (.iconst 1, 1) := by decide +kernel
theorem dX6_blockFor_139 : decode cX6_blockFor 139 = .ok (.iadd, 1) := by decide +kernel
theorem dX6_blockFor_140 : decode cX6_blockFor 140 = .ok (.putfield 125, 3) := by decide +kernel
theorem dX6_blockFor_143 : decode cX6_blockFor 143 = .ok (.iload_n 2, 1) := by decide +kernel
theorem dX6_blockFor_144 : decode cX6_blockFor 144 = .ok (.ireturn, 1) := by decide +kernel
theorem dX6_blockFor_145 : decode cX6_blockFor 145 = .ok (.iinc 2 1, 3) := by decide +kernel
theorem dX6_blockFor_148 : decode cX6_blockFor 148 = .ok (.goto (-94), 3) := by decide +kernel
theorem dX6_blockFor_151 : decode cX6_blockFor 151 = .ok (.aload_n 0, 1) := by decide +kernel
theorem dX6_blockFor_152 : decode cX6_blockFor 152 = .ok (.invokevirtual 128, 3) := by decide +kernel
theorem dX6_blockFor_155 : decode cX6_blockFor 155 = .ok (.ireturn, 1) := by decide +kernel
theorem dX6_listed_0 : decode cX6_listed 0 = .ok (.aload_n 0, 1) := by decide +kernel
theorem dX6_listed_1 : decode cX6_listed 1 = .ok (.iconst 0, 1) := by decide +kernel
theorem dX6_listed_2 : decode cX6_listed 2 = .ok (.putfield 70, 3) := by decide +kernel
theorem dX6_listed_5 : decode cX6_listed 5 = .ok (.iconst 0, 1) := by decide +kernel
theorem dX6_listed_6 : decode cX6_listed 6 = .ok (.istore_n 2, 1) := by decide +kernel
theorem dX6_listed_7 : decode cX6_listed 7 = .ok (.iconst 0, 1) := by decide +kernel
theorem dX6_listed_8 : decode cX6_listed 8 = .ok (.istore_n 3, 1) := by decide +kernel
theorem dX6_listed_9 : decode cX6_listed 9 = .ok (.iload_n 3, 1) := by decide +kernel
theorem dX6_listed_10 : decode cX6_listed 10 = .ok (.aload_n 0, 1) := by decide +kernel
theorem dX6_listed_11 : decode cX6_listed 11 = .ok (.getfield 100, 3) := by decide +kernel
theorem dX6_listed_14 : decode cX6_listed 14 = .ok (.if_icmp .ge 48, 3) := by decide +kernel
theorem dX6_listed_17 : decode cX6_listed 17 = .ok (.aload_n 0, 1) := by decide +kernel
theorem dX6_listed_18 : decode cX6_listed 18 = .ok (.getfield 17, 3) := by decide +kernel
theorem dX6_listed_21 : decode cX6_listed 21 = .ok (.ifCond .eq 41, 3) := by decide +kernel
theorem dX6_listed_24 : decode cX6_listed 24 = .ok (.aload_n 0, 1) := by decide +kernel
theorem dX6_listed_25 : decode cX6_listed 25 = .ok (.iload_n 3, 1) := by decide +kernel
theorem dX6_listed_26 : decode cX6_listed 26 = .ok (.invokevirtual 144, 3) := by decide +kernel
theorem dX6_listed_29 : decode cX6_listed 29 = .ok (.istore 4, 2) := by decide +kernel
theorem dX6_listed_31 : decode cX6_listed 31 = .ok (.iload 4, 2) := by decide +kernel
theorem dX6_listed_33 : decode cX6_listed 33 = .ok (.iconst (-1), 1) := by decide +kernel
theorem dX6_listed_34 : decode cX6_listed 34 = .ok (.if_icmp .eq 12, 3) := by decide +kernel
theorem dX6_listed_37 : decode cX6_listed 37 = .ok (.aload_n 0, 1) := by decide +kernel
theorem dX6_listed_38 : decode cX6_listed 38 = .ok (.iload 4, 2) := by decide +kernel
theorem dX6_listed_40 : decode cX6_listed 40 = .ok (.invokevirtual 147, 3) := by decide +kernel
theorem dX6_listed_43 : decode cX6_listed 43 = .ok (.ifCond .le 13, 3) := by decide +kernel
theorem dX6_listed_46 : decode cX6_listed 46 = .ok (.iload_n 2, 1) := by decide +kernel
theorem dX6_listed_47 : decode cX6_listed 47 = .ok (.iload_n 1, 1) := by decide +kernel
theorem dX6_listed_48 : decode cX6_listed 48 = .ok (.if_icmp .ne 5, 3) := by decide +kernel
theorem dX6_listed_51 : decode cX6_listed 51 = .ok (.iload_n 3, 1) := by decide +kernel
theorem dX6_listed_52 : decode cX6_listed 52 = .ok (.ireturn, 1) := by decide +kernel
theorem dX6_listed_53 : decode cX6_listed 53 = .ok (.iinc 2 1, 3) := by decide +kernel
theorem dX6_listed_56 : decode cX6_listed 56 = .ok (.iinc 3 1, 3) := by decide +kernel
theorem dX6_listed_59 : decode cX6_listed 59 = .ok (.goto (-50), 3) := by decide +kernel
theorem dX6_listed_62 : decode cX6_listed 62 = .ok (.iconst (-1), 1) := by decide +kernel
theorem dX6_listed_63 : decode cX6_listed 63 = .ok (.ireturn, 1) := by decide +kernel
theorem dX6_protect_0 : decode cX6_protect 0 = .ok (.aload_n 0, 1) := by decide +kernel
theorem dX6_protect_1 : decode cX6_protect 1 = .ok (.iconst 0, 1) := by decide +kernel
theorem dX6_protect_2 : decode cX6_protect 2 = .ok (.putfield 70, 3) := by decide +kernel
theorem dX6_protect_5 : decode cX6_protect 5 = .ok (.aload_n 0, 1) := by decide +kernel
theorem dX6_protect_6 : decode cX6_protect 6 = .ok (.iload_n 1, 1) := by decide +kernel
theorem dX6_protect_7 : decode cX6_protect 7 = .ok (.invokevirtual 141, 3) := by decide +kernel
theorem dX6_protect_10 : decode cX6_protect 10 = .ok (.ifCond .eq 12, 3) := by decide +kernel
theorem dX6_protect_13 : decode cX6_protect 13 = .ok (.iload_n 2, 1) := by decide +kernel
theorem dX6_protect_14 : decode cX6_protect 14 = .ok (.iconst 1, 1) := by decide +kernel
theorem dX6_protect_15 : decode cX6_protect 15 = .ok (.iconst 2, 1) := by decide +kernel
theorem dX6_protect_16 : decode cX6_protect 16 = .ok (.invokestatic 73, 3) := by decide +kernel
theorem dX6_protect_19 : decode cX6_protect 19 = .ok (.ifCond .ne 6, 3) := by decide +kernel
theorem dX6_protect_22 : decode cX6_protect 22 = .ok (.bipush (-2), 2) := by decide +kernel
theorem dX6_protect_24 : decode cX6_protect 24 = .ok (.ireturn, 1) := by decide +kernel
theorem dX6_protect_25 : decode cX6_protect 25 = .ok (.aload_n 0, 1) := by decide +kernel
theorem dX6_protect_26 : decode cX6_protect 26 = .ok (.getfield 17, 3) := by decide +kernel
theorem dX6_protect_29 : decode cX6_protect 29 = .ok (.ifCond .eq 11, 3) := by decide +kernel
theorem dX6_protect_32 : decode cX6_protect 32 = .ok (.aload_n 0, 1) := by decide +kernel
theorem dX6_protect_33 : decode cX6_protect 33 = .ok (.iload_n 1, 1) := by decide +kernel
theorem dX6_protect_34 : decode cX6_protect 34 = .ok (.invokevirtual 144, 3) := by decide +kernel
theorem dX6_protect_37 : decode cX6_protect 37 = .ok (.goto 4, 3) := by decide +kernel
theorem dX6_protect_40 : decode cX6_protect 40 = .ok (.iconst (-1), 1) := by decide +kernel
theorem dX6_protect_41 : decode cX6_protect 41 = .ok (.istore_n 3, 1) := by decide +kernel
theorem dX6_protect_42 : decode cX6_protect 42 = .ok (.iload_n 3, 1) := by decide +kernel
theorem dX6_protect_43 : decode cX6_protect 43 = .ok (.iconst (-1), 1) := by decide +kernel
theorem dX6_protect_44 : decode cX6_protect 44 = .ok (.if_icmp .eq 11, 3) := by decide +kernel
theorem dX6_protect_47 : decode cX6_protect 47 = .ok (.aload_n 0, 1) := by decide +kernel
theorem dX6_protect_48 : decode cX6_protect 48 = .ok (.iload_n 3, 1) := by decide +kernel
theorem dX6_protect_49 : decode cX6_protect 49 = .ok (.invokevirtual 147, 3) := by decide +kernel
theorem dX6_protect_52 : decode cX6_protect 52 = .ok (.ifCond .le 6, 3) := by decide +kernel
theorem dX6_protect_55 : decode cX6_protect 55 = .ok (.bipush (-3), 2) := by decide +kernel
theorem dX6_protect_57 : decode cX6_protect 57 = .ok (.ireturn, 1) := by decide +kernel
theorem dX6_protect_58 : decode cX6_protect 58 = .ok (.aload_n 0, 1) := by decide +kernel
theorem dX6_protect_59 : decode cX6_protect 59 = .ok (.getfield 67, 3) := by decide +kernel
theorem dX6_protect_62 : decode cX6_protect 62 = .ok (.aload_n 0, 1) := by decide +kernel
theorem dX6_protect_63 : decode cX6_protect 63 = .ok (.getfield 21, 3) := by decide +kernel
theorem dX6_protect_66 : decode cX6_protect 66 = .ok (.isub, 1) := by decide +kernel
theorem dX6_protect_67 : decode cX6_protect 67 = .ok (.iload_n 2, 1) := by decide +kernel
theorem dX6_protect_68 : decode cX6_protect 68 = .ok (.aload_n 0, 1) := by decide +kernel
theorem dX6_protect_69 : decode cX6_protect 69 = .ok (.getfield 25, 3) := by decide +kernel
theorem dX6_protect_72 : decode cX6_protect 72 = .ok (.iconst (-1), 1) := by decide +kernel
theorem dX6_protect_73 : decode cX6_protect 73 = .ok (.if_icmp .ne 7, 3) := by decide +kernel
theorem dX6_protect_76 : decode cX6_protect 76 = .ok (.iconst 0, 1) := by decide +kernel
theorem dX6_protect_77 : decode cX6_protect 77 = .ok (.goto 4, 3) := by decide +kernel
theorem dX6_protect_80 : decode cX6_protect 80 = .ok (.iconst 5, 1) := by decide +kernel
theorem dX6_protect_81 : decode cX6_protect 81 = .ok (.iadd, 1) := by decide +kernel
theorem dX6_protect_82 : decode cX6_protect 82 = .ok (.if_icmp .ge 6, 3) := by decide +kernel
theorem dX6_protect_85 : decode cX6_protect 85 = .ok (.bipush (-4), 2) := by decide +kernel
theorem dX6_protect_87 : decode cX6_protect 87 = .ok (.ireturn, 1) := by decide +kernel
theorem dX6_protect_88 : decode cX6_protect 88 = .ok (.iconst (-1), 1) := by decide +kernel
theorem dX6_protect_89 : decode cX6_protect 89 = .ok (.istore 4, 2) := by decide +kernel
theorem dX6_protect_91 : decode cX6_protect 91 = .ok (.iconst 0, 1) := by decide +kernel
theorem dX6_protect_92 : decode cX6_protect 92 = .ok (.istore 5, 2) := by decide +kernel
theorem dX6_protect_94 : decode cX6_protect 94 = .ok (.iload 5, 2) := by decide +kernel
theorem dX6_protect_96 : decode cX6_protect 96 = .ok (.iload_n 2, 1) := by decide +kernel
theorem dX6_protect_97 : decode cX6_protect 97 = .ok (.if_icmp .ge 112, 3) := by decide +kernel
theorem dX6_protect_100 : decode cX6_protect 100 = .ok (.aload_n 0, 1) := by decide +kernel
theorem dX6_protect_101 : decode cX6_protect 101 = .ok (.iconst 4, 1) := by decide +kernel
theorem dX6_protect_102 : decode cX6_protect 102 = .ok (.iload_n 1, 1) := by decide +kernel
theorem dX6_protect_103 : decode cX6_protect 103 = .ok (.iload 5, 2) := by decide +kernel
theorem dX6_protect_105 : decode cX6_protect 105 = .ok (.iconst 0, 1) := by decide +kernel
theorem dX6_protect_106 : decode cX6_protect 106 = .ok (.invokevirtual 121, 3) := by decide +kernel
theorem dX6_protect_109 : decode cX6_protect 109 = .ok (.iconst 0, 1) := by decide +kernel
theorem dX6_protect_110 : decode cX6_protect 110 = .ok (.istore 6, 2) := by decide +kernel
theorem dX6_protect_112 : decode cX6_protect 112 = .ok (.iload 6, 2) := by decide +kernel
theorem dX6_protect_114 : decode cX6_protect 114 = .ok (.aload_n 0, 1) := by decide +kernel
theorem dX6_protect_115 : decode cX6_protect 115 = .ok (.iload_n 3, 1) := by decide +kernel
theorem dX6_protect_116 : decode cX6_protect 116 = .ok (.invokevirtual 106, 3) := by decide +kernel
theorem dX6_protect_119 : decode cX6_protect 119 = .ok (.if_icmp .ge 78, 3) := by decide +kernel
theorem dX6_protect_122 : decode cX6_protect 122 = .ok (.bipush 32, 2) := by decide +kernel
theorem dX6_protect_124 : decode cX6_protect 124 = .ok (.aload_n 0, 1) := by decide +kernel
theorem dX6_protect_125 : decode cX6_protect 125 = .ok (.iload_n 3, 1) := by decide +kernel
theorem dX6_protect_126 : decode cX6_protect 126 = .ok (.iload 6, 2) := by decide +kernel
theorem dX6_protect_128 : decode cX6_protect 128 = .ok (.invokevirtual 109, 3) := by decide +kernel
theorem dX6_protect_131 : decode cX6_protect 131 = .ok (.imul, 1) := by decide +kernel
theorem dX6_protect_132 : decode cX6_protect 132 = .ok (.iconst 4, 1) := by decide +kernel
theorem dX6_protect_133 : decode cX6_protect 133 = .ok (.iadd, 1) := by decide +kernel
theorem dX6_protect_134 : decode cX6_protect 134 = .ok (.istore 7, 2) := by decide +kernel
theorem dX6_protect_136 : decode cX6_protect 136 = .ok (.iconst 0, 1) := by decide +kernel
theorem dX6_protect_137 : decode cX6_protect 137 = .ok (.istore 8, 2) := by decide +kernel
theorem dX6_protect_139 : decode cX6_protect 139 = .ok (.iload 8, 2) := by decide +kernel
theorem dX6_protect_141 : decode cX6_protect 141 = .ok (.bipush 24, 2) := by decide +kernel
theorem dX6_protect_143 : decode cX6_protect 143 = .ok (.if_icmp .ge 48, 3) := by decide +kernel
theorem dX6_protect_146 : decode cX6_protect 146 = .ok (.aload_n 0, 1) := by decide +kernel
theorem dX6_protect_147 : decode cX6_protect 147 = .ok (.getfield 40, 3) := by decide +kernel
theorem dX6_protect_150 : decode cX6_protect 150 = .ok (.iconst 4, 1) := by decide +kernel
theorem dX6_protect_151 : decode cX6_protect 151 = .ok (.iload 8, 2) := by decide +kernel
theorem dX6_protect_153 : decode cX6_protect 153 = .ok (.iadd, 1) := by decide +kernel
theorem dX6_protect_154 : decode cX6_protect 154 = .ok (.aload_n 0, 1) := by decide +kernel
theorem dX6_protect_155 : decode cX6_protect 155 = .ok (.getfield 40, 3) := by decide +kernel
theorem dX6_protect_158 : decode cX6_protect 158 = .ok (.iconst 4, 1) := by decide +kernel
theorem dX6_protect_159 : decode cX6_protect 159 = .ok (.iload 8, 2) := by decide +kernel
theorem dX6_protect_161 : decode cX6_protect 161 = .ok (.iadd, 1) := by decide +kernel
theorem dX6_protect_162 : decode cX6_protect 162 = .ok (.iaload, 1) := by decide +kernel
theorem dX6_protect_163 : decode cX6_protect 163 = .ok (.aload_n 0, 1) := by decide +kernel
theorem dX6_protect_164 : decode cX6_protect 164 = .ok (.getfield 7, 3) := by decide +kernel
theorem dX6_protect_167 : decode cX6_protect 167 = .ok (.iload 7, 2) := by decide +kernel
theorem dX6_protect_169 : decode cX6_protect 169 = .ok (.iload 8, 2) := by decide +kernel
theorem dX6_protect_171 : decode cX6_protect 171 = .ok (.iadd, 1) := by decide +kernel
theorem dX6_protect_172 : decode cX6_protect 172 = .ok (.iaload, 1) := by decide +kernel
theorem dX6_protect_173 : decode cX6_protect 173 = .ok (.iload 5, 2) := by decide +kernel
theorem dX6_protect_175 : decode cX6_protect 175 = .ok (.iload 6, 2) := by decide +kernel
theorem dX6_protect_177 : decode cX6_protect 177 = .ok (.invokestatic 150, 3) := by decide +kernel
theorem dX6_protect_180 : decode cX6_protect 180 = .ok (.invokestatic 138, 3) := by decide +kernel
theorem dX6_protect_183 : decode cX6_protect 183 = .ok (.ixor, 1) := by decide +kernel
theorem dX6_protect_184 : decode cX6_protect 184 = .ok (.iastore, 1) := by decide +kernel
theorem dX6_protect_185 : decode cX6_protect 185 = .ok (.iinc 8 1, 3) := by decide +kernel
theorem dX6_protect_188 : decode cX6_protect 188 = .ok (.goto (-49), 3) := by decide +kernel
theorem dX6_protect_191 : decode cX6_protect 191 = .ok (.iinc 6 1, 3) := by decide +kernel
theorem dX6_protect_194 : decode cX6_protect 194 = .ok (.goto (-82), 3) := by decide +kernel
theorem dX6_protect_197 : decode cX6_protect 197 = .ok (.aload_n 0, 1) := by decide +kernel
theorem dX6_protect_198 : decode cX6_protect 198 = .ok (.invokevirtual 128, 3) := by decide +kernel
theorem dX6_protect_201 : decode cX6_protect 201 = .ok (.istore 4, 2) := by decide +kernel
theorem dX6_protect_203 : decode cX6_protect 203 = .ok (.iinc 5 1, 3) := by decide +kernel
theorem dX6_protect_206 : decode cX6_protect 206 = .ok (.goto (-112), 3) := by decide +kernel
theorem dX6_protect_209 : decode cX6_protect 209 = .ok (.iload 4, 2) := by decide +kernel
theorem dX6_protect_211 : decode cX6_protect 211 = .ok (.ireturn, 1) := by decide +kernel
theorem dX6_repairs_0 : decode cX6_repairs 0 = .ok (.aload_n 0, 1) := by decide +kernel
theorem dX6_repairs_1 : decode cX6_repairs 1 = .ok (.iload_n 2, 1) := by decide +kernel
theorem dX6_repairs_2 : decode cX6_repairs 2 = .ok (.invokevirtual 178, 3) := by decide +kernel
theorem dX6_repairs_5 : decode cX6_repairs 5 = .ok (.ifCond .eq 18, 3) := by decide +kernel
theorem dX6_repairs_8 : decode cX6_repairs 8 = .ok (.aload_n 0, 1) := by decide +kernel
theorem dX6_repairs_9 : decode cX6_repairs 9 = .ok (.getfield 172, 3) := by decide +kernel
theorem dX6_repairs_12 : decode cX6_repairs 12 = .ok (.ifCond .eq 11, 3) := by decide +kernel
theorem dX6_repairs_15 : decode cX6_repairs 15 = .ok (.aload_n 0, 1) := by decide +kernel
theorem dX6_repairs_16 : decode cX6_repairs 16 = .ok (.getfield 172, 3) := by decide +kernel
theorem dX6_repairs_19 : decode cX6_repairs 19 = .ok (.iconst 2, 1) := by decide +kernel
theorem dX6_repairs_20 : decode cX6_repairs 20 = .ok (.if_icmp .le 5, 3) := by decide +kernel
theorem dX6_repairs_23 : decode cX6_repairs 23 = .ok (.iconst 0, 1) := by decide +kernel
theorem dX6_repairs_24 : decode cX6_repairs 24 = .ok (.ireturn, 1) := by decide +kernel
theorem dX6_repairs_25 : decode cX6_repairs 25 = .ok (.aload_n 0, 1) := by decide +kernel
theorem dX6_repairs_26 : decode cX6_repairs 26 = .ok (.iload_n 1, 1) := by decide +kernel
theorem dX6_repairs_27 : decode cX6_repairs 27 = .ok (.iconst 0, 1) := by decide +kernel
theorem dX6_repairs_28 : decode cX6_repairs 28 = .ok (.invokevirtual 181, 3) := by decide +kernel
theorem dX6_repairs_31 : decode cX6_repairs 31 = .ok (.istore_n 3, 1) := by decide +kernel
theorem dX6_repairs_32 : decode cX6_repairs 32 = .ok (.aload_n 0, 1) := by decide +kernel
theorem dX6_repairs_33 : decode cX6_repairs 33 = .ok (.iload_n 1, 1) := by decide +kernel
theorem dX6_repairs_34 : decode cX6_repairs 34 = .ok (.iconst 1, 1) := by decide +kernel
theorem dX6_repairs_35 : decode cX6_repairs 35 = .ok (.invokevirtual 181, 3) := by decide +kernel
theorem dX6_repairs_38 : decode cX6_repairs 38 = .ok (.istore 4, 2) := by decide +kernel
theorem dX6_repairs_40 : decode cX6_repairs 40 = .ok (.iload_n 3, 1) := by decide +kernel
theorem dX6_repairs_41 : decode cX6_repairs 41 = .ok (.iconst (-1), 1) := by decide +kernel
theorem dX6_repairs_42 : decode cX6_repairs 42 = .ok (.if_icmp .eq 14, 3) := by decide +kernel
theorem dX6_repairs_45 : decode cX6_repairs 45 = .ok (.aload_n 0, 1) := by decide +kernel
theorem dX6_repairs_46 : decode cX6_repairs 46 = .ok (.iload_n 2, 1) := by decide +kernel
theorem dX6_repairs_47 : decode cX6_repairs 47 = .ok (.iload_n 3, 1) := by decide +kernel
theorem dX6_repairs_48 : decode cX6_repairs 48 = .ok (.iconst 0, 1) := by decide +kernel
theorem dX6_repairs_49 : decode cX6_repairs 49 = .ok (.aload_n 0, 1) := by decide +kernel
theorem dX6_repairs_50 : decode cX6_repairs 50 = .ok (.getfield 55, 3) := by decide +kernel
theorem dX6_repairs_53 : decode cX6_repairs 53 = .ok (.invokevirtual 184, 3) := by decide +kernel
theorem dX6_repairs_56 : decode cX6_repairs 56 = .ok (.iload 4, 2) := by decide +kernel
theorem dX6_repairs_58 : decode cX6_repairs 58 = .ok (.iconst (-1), 1) := by decide +kernel
theorem dX6_repairs_59 : decode cX6_repairs 59 = .ok (.if_icmp .eq 15, 3) := by decide +kernel
theorem dX6_repairs_62 : decode cX6_repairs 62 = .ok (.aload_n 0, 1) := by decide +kernel
theorem dX6_repairs_63 : decode cX6_repairs 63 = .ok (.iload_n 2, 1) := by decide +kernel
theorem dX6_repairs_64 : decode cX6_repairs 64 = .ok (.iload 4, 2) := by decide +kernel
theorem dX6_repairs_66 : decode cX6_repairs 66 = .ok (.iconst 1, 1) := by decide +kernel
theorem dX6_repairs_67 : decode cX6_repairs 67 = .ok (.aload_n 0, 1) := by decide +kernel
theorem dX6_repairs_68 : decode cX6_repairs 68 = .ok (.getfield 58, 3) := by decide +kernel
theorem dX6_repairs_71 : decode cX6_repairs 71 = .ok (.invokevirtual 184, 3) := by decide +kernel
theorem dX6_repairs_74 : decode cX6_repairs 74 = .ok (.aload_n 0, 1) := by decide +kernel
theorem dX6_repairs_75 : decode cX6_repairs 75 = .ok (.getfield 172, 3) := by decide +kernel
theorem dX6_repairs_78 : decode cX6_repairs 78 = .ok (.iconst 1, 1) := by decide +kernel
theorem dX6_repairs_79 : decode cX6_repairs 79 = .ok (.if_icmp .ne 31, 3) := by decide +kernel
theorem dX6_repairs_82 : decode cX6_repairs 82 = .ok (.aload_n 0, 1) := by decide +kernel
theorem dX6_repairs_83 : decode cX6_repairs 83 = .ok (.iload_n 3, 1) := by decide +kernel
theorem dX6_repairs_84 : decode cX6_repairs 84 = .ok (.iconst (-1), 1) := by decide +kernel
theorem dX6_repairs_85 : decode cX6_repairs 85 = .ok (.if_icmp .eq 7, 3) := by decide +kernel
theorem dX6_repairs_88 : decode cX6_repairs 88 = .ok (.iconst 1, 1) := by decide +kernel
theorem dX6_repairs_89 : decode cX6_repairs 89 = .ok (.goto 4, 3) := by decide +kernel
theorem dX6_repairs_92 : decode cX6_repairs 92 = .ok (.iconst 0, 1) := by decide +kernel
theorem dX6_repairs_93 : decode cX6_repairs 93 = .ok (.iload 4, 2) := by decide +kernel
theorem dX6_repairs_95 : decode cX6_repairs 95 = .ok (.iconst (-1), 1) := by decide +kernel
theorem dX6_repairs_96 : decode cX6_repairs 96 = .ok (.if_icmp .eq 7, 3) := by decide +kernel
theorem dX6_repairs_99 : decode cX6_repairs 99 = .ok (.iconst 1, 1) := by decide +kernel
theorem dX6_repairs_100 : decode cX6_repairs 100 = .ok (.goto 4, 3) := by decide +kernel
theorem dX6_repairs_103 : decode cX6_repairs 103 = .ok (.iconst 0, 1) := by decide +kernel
theorem dX6_repairs_104 : decode cX6_repairs 104 = .ok (.invokevirtual 188, 3) := by decide +kernel
theorem dX6_repairs_107 : decode cX6_repairs 107 = .ok (.goto 23, 3) := by decide +kernel
theorem dX6_repairs_110 : decode cX6_repairs 110 = .ok (.aload_n 0, 1) := by decide +kernel
theorem dX6_repairs_111 : decode cX6_repairs 111 = .ok (.iload_n 3, 1) := by decide +kernel
theorem dX6_repairs_112 : decode cX6_repairs 112 = .ok (.iconst (-1), 1) := by decide +kernel
theorem dX6_repairs_113 : decode cX6_repairs 113 = .ok (.if_icmp .eq 13, 3) := by decide +kernel
theorem dX6_repairs_116 : decode cX6_repairs 116 = .ok (.iload 4, 2) := by decide +kernel
theorem dX6_repairs_118 : decode cX6_repairs 118 = .ok (.iconst (-1), 1) := by decide +kernel
theorem dX6_repairs_119 : decode cX6_repairs 119 = .ok (.if_icmp .eq 7, 3) := by decide +kernel
theorem dX6_repairs_122 : decode cX6_repairs 122 = .ok (.iconst 1, 1) := by decide +kernel
theorem dX6_repairs_123 : decode cX6_repairs 123 = .ok (.goto 4, 3) := by decide +kernel
theorem dX6_repairs_126 : decode cX6_repairs 126 = .ok (.iconst 0, 1) := by decide +kernel
theorem dX6_repairs_127 : decode cX6_repairs 127 = .ok (.invokevirtual 192, 3) := by decide +kernel
theorem dX6_repairs_130 : decode cX6_repairs 130 = .ok (.istore 5, 2) := by decide +kernel
theorem dX6_repairs_132 : decode cX6_repairs 132 = .ok (.iload 5, 2) := by decide +kernel
theorem dX6_repairs_134 : decode cX6_repairs 134 = .ok (.ifCond .eq 39, 3) := by decide +kernel
theorem dX6_repairs_137 : decode cX6_repairs 137 = .ok (.aload_n 0, 1) := by decide +kernel
theorem dX6_repairs_138 : decode cX6_repairs 138 = .ok (.aload_n 0, 1) := by decide +kernel
theorem dX6_repairs_139 : decode cX6_repairs 139 = .ok (.getfield 46, 3) := by decide +kernel
theorem dX6_repairs_142 : decode cX6_repairs 142 = .ok (.iconst 0, 1) := by decide +kernel
theorem dX6_repairs_143 : decode cX6_repairs 143 = .ok (.iaload, 1) := by decide +kernel
theorem dX6_repairs_144 : decode cX6_repairs 144 = .ok (.aload_n 0, 1) := by decide +kernel
theorem dX6_repairs_145 : decode cX6_repairs 145 = .ok (.getfield 61, 3) := by decide +kernel
theorem dX6_repairs_148 : decode cX6_repairs 148 = .ok (.invokevirtual 196, 3) := by decide +kernel
theorem dX6_repairs_151 : decode cX6_repairs 151 = .ok (.aload_n 0, 1) := by decide +kernel
theorem dX6_repairs_152 : decode cX6_repairs 152 = .ok (.getfield 172, 3) := by decide +kernel
theorem dX6_repairs_155 : decode cX6_repairs 155 = .ok (.iconst 2, 1) := by decide +kernel
theorem dX6_repairs_156 : decode cX6_repairs 156 = .ok (.if_icmp .ne 17, 3) := by decide +kernel
theorem dX6_repairs_159 : decode cX6_repairs 159 = .ok (.aload_n 0, 1) := by decide +kernel
theorem dX6_repairs_160 : decode cX6_repairs 160 = .ok (.aload_n 0, 1) := by decide +kernel
theorem dX6_repairs_161 : decode cX6_repairs 161 = .ok (.getfield 46, 3) := by decide +kernel
theorem dX6_repairs_164 : decode cX6_repairs 164 = .ok (.iconst 1, 1) := by decide +kernel
theorem dX6_repairs_165 : decode cX6_repairs 165 = .ok (.iaload, 1) := by decide +kernel
theorem dX6_repairs_166 : decode cX6_repairs 166 = .ok (.aload_n 0, 1) := by decide +kernel
theorem dX6_repairs_167 : decode cX6_repairs 167 = .ok (.getfield 64, 3) := by decide +kernel
theorem dX6_repairs_170 : decode cX6_repairs 170 = .ok (.invokevirtual 196, 3) := by decide +kernel
theorem dX6_repairs_173 : decode cX6_repairs 173 = .ok (.iload 5, 2) := by decide +kernel
theorem dX6_repairs_175 : decode cX6_repairs 175 = .ok (.ireturn, 1) := by decide +kernel
theorem dX6_row_0 : decode cX6_row 0 = .ok (.aload_n 0, 1) := by decide +kernel
theorem dX6_row_1 : decode cX6_row 1 = .ok (.iconst 0, 1) := by decide +kernel
theorem dX6_row_2 : decode cX6_row 2 = .ok (.putfield 70, 3) := by decide +kernel
theorem dX6_row_5 : decode cX6_row 5 = .ok (.aload_n 0, 1) := by decide +kernel
theorem dX6_row_6 : decode cX6_row 6 = .ok (.iload_n 1, 1) := by decide +kernel
theorem dX6_row_7 : decode cX6_row 7 = .ok (.invokevirtual 141, 3) := by decide +kernel
theorem dX6_row_10 : decode cX6_row 10 = .ok (.ifCond .eq 24, 3) := by decide +kernel
theorem dX6_row_13 : decode cX6_row 13 = .ok (.iload_n 2, 1) := by decide +kernel
theorem dX6_row_14 : decode cX6_row 14 = .ok (.iconst 0, 1) := by decide +kernel
theorem dX6_row_15 : decode cX6_row 15 = .ok (.bipush 6, 2) := by decide +kernel
theorem dX6_row_17 : decode cX6_row 17 = .ok (.invokestatic 73, 3) := by decide +kernel
theorem dX6_row_20 : decode cX6_row 20 = .ok (.ifCond .ne 17, 3) := by decide +kernel
theorem dX6_row_23 : decode cX6_row 23 = .ok (.iload_n 2, 1) := by decide +kernel
theorem dX6_row_24 : decode cX6_row 24 = .ok (.bipush 10, 2) := by decide +kernel
theorem dX6_row_26 : decode cX6_row 26 = .ok (.bipush 13, 2) := by decide +kernel
theorem dX6_row_28 : decode cX6_row 28 = .ok (.invokestatic 73, 3) := by decide +kernel
theorem dX6_row_31 : decode cX6_row 31 = .ok (.ifCond .ne 6, 3) := by decide +kernel
theorem dX6_row_34 : decode cX6_row 34 = .ok (.bipush (-2), 2) := by decide +kernel
theorem dX6_row_36 : decode cX6_row 36 = .ok (.ireturn, 1) := by decide +kernel
theorem dX6_row_37 : decode cX6_row 37 = .ok (.aload_n 0, 1) := by decide +kernel
theorem dX6_row_38 : decode cX6_row 38 = .ok (.getfield 17, 3) := by decide +kernel
theorem dX6_row_41 : decode cX6_row 41 = .ok (.ifCond .ne 6, 3) := by decide +kernel
theorem dX6_row_44 : decode cX6_row 44 = .ok (.bipush (-3), 2) := by decide +kernel
theorem dX6_row_46 : decode cX6_row 46 = .ok (.ireturn, 1) := by decide +kernel
theorem dX6_row_47 : decode cX6_row 47 = .ok (.aload_n 0, 1) := by decide +kernel
theorem dX6_row_48 : decode cX6_row 48 = .ok (.iload_n 1, 1) := by decide +kernel
theorem dX6_row_49 : decode cX6_row 49 = .ok (.invokevirtual 144, 3) := by decide +kernel
theorem dX6_row_52 : decode cX6_row 52 = .ok (.istore_n 3, 1) := by decide +kernel
theorem dX6_row_53 : decode cX6_row 53 = .ok (.iload_n 3, 1) := by decide +kernel
theorem dX6_row_54 : decode cX6_row 54 = .ok (.iconst (-1), 1) := by decide +kernel
theorem dX6_row_55 : decode cX6_row 55 = .ok (.if_icmp .ne 5, 3) := by decide +kernel
theorem dX6_row_58 : decode cX6_row 58 = .ok (.iconst (-1), 1) := by decide +kernel
theorem dX6_row_59 : decode cX6_row 59 = .ok (.ireturn, 1) := by decide +kernel
theorem dX6_row_60 : decode cX6_row 60 = .ok (.iload_n 2, 1) := by decide +kernel
theorem dX6_row_61 : decode cX6_row 61 = .ok (.tableswitch 89 0 6 #[43, 55, 61, 63, 70, 77, 83], 43) := by decide +kernel
theorem dX6_row_104 : decode cX6_row 104 = .ok (.aload_n 0, 1) := by decide +kernel
theorem dX6_row_105 : decode cX6_row 105 = .ok (.getfield 7, 3) := by decide +kernel
theorem dX6_row_108 : decode cX6_row 108 = .ok (.bipush 32, 2) := by decide +kernel
theorem dX6_row_110 : decode cX6_row 110 = .ok (.iload_n 3, 1) := by decide +kernel
theorem dX6_row_111 : decode cX6_row 111 = .ok (.imul, 1) := by decide +kernel
theorem dX6_row_112 : decode cX6_row 112 = .ok (.iconst 1, 1) := by decide +kernel
theorem dX6_row_113 : decode cX6_row 113 = .ok (.iadd, 1) := by decide +kernel
theorem dX6_row_114 : decode cX6_row 114 = .ok (.iaload, 1) := by decide +kernel
theorem dX6_row_115 : decode cX6_row 115 = .ok (.ireturn, 1) := by decide +kernel
theorem dX6_row_116 : decode cX6_row 116 = .ok (.aload_n 0, 1) := by decide +kernel
theorem dX6_row_117 : decode cX6_row 117 = .ok (.iload_n 3, 1) := by decide +kernel
theorem dX6_row_118 : decode cX6_row 118 = .ok (.invokevirtual 103, 3) := by decide +kernel
theorem dX6_row_121 : decode cX6_row 121 = .ok (.ireturn, 1) := by decide +kernel
theorem dX6_row_122 : decode cX6_row 122 = .ok (.iload_n 3, 1) := by decide +kernel
theorem dX6_row_123 : decode cX6_row 123 = .ok (.ireturn, 1) := by decide +kernel
theorem dX6_row_124 : decode cX6_row 124 = .ok (.aload_n 0, 1) := by decide +kernel
theorem dX6_row_125 : decode cX6_row 125 = .ok (.iload_n 1, 1) := by decide +kernel
theorem dX6_row_126 : decode cX6_row 126 = .ok (.iconst 0, 1) := by decide +kernel
theorem dX6_row_127 : decode cX6_row 127 = .ok (.invokevirtual 181, 3) := by decide +kernel
theorem dX6_row_130 : decode cX6_row 130 = .ok (.ireturn, 1) := by decide +kernel
theorem dX6_row_131 : decode cX6_row 131 = .ok (.aload_n 0, 1) := by decide +kernel
theorem dX6_row_132 : decode cX6_row 132 = .ok (.iload_n 1, 1) := by decide +kernel
theorem dX6_row_133 : decode cX6_row 133 = .ok (.iconst 1, 1) := by decide +kernel
theorem dX6_row_134 : decode cX6_row 134 = .ok (.invokevirtual 181, 3) := by decide +kernel
theorem dX6_row_137 : decode cX6_row 137 = .ok (.ireturn, 1) := by decide +kernel
theorem dX6_row_138 : decode cX6_row 138 = .ok (.aload_n 0, 1) := by decide +kernel
theorem dX6_row_139 : decode cX6_row 139 = .ok (.iload_n 3, 1) := by decide +kernel
theorem dX6_row_140 : decode cX6_row 140 = .ok (.invokevirtual 106, 3) := by decide +kernel
theorem dX6_row_143 : decode cX6_row 143 = .ok (.ireturn, 1) := by decide +kernel
theorem dX6_row_144 : decode cX6_row 144 = .ok (.aload_n 0, 1) := by decide +kernel
theorem dX6_row_145 : decode cX6_row 145 = .ok (.iload_n 3, 1) := by decide +kernel
theorem dX6_row_146 : decode cX6_row 146 = .ok (.invokevirtual 147, 3) := by decide +kernel
theorem dX6_row_149 : decode cX6_row 149 = .ok (.ireturn, 1) := by decide +kernel
theorem dX6_row_150 : decode cX6_row 150 = .ok (.iload_n 2, 1) := by decide +kernel
theorem dX6_row_151 : decode cX6_row 151 = .ok (.bipush 10, 2) := by decide +kernel
theorem dX6_row_153 : decode cX6_row 153 = .ok (.isub, 1) := by decide +kernel
theorem dX6_row_154 : decode cX6_row 154 = .ok (.aload_n 0, 1) := by decide +kernel
theorem dX6_row_155 : decode cX6_row 155 = .ok (.iload_n 3, 1) := by decide +kernel
theorem dX6_row_156 : decode cX6_row 156 = .ok (.invokevirtual 106, 3) := by decide +kernel
theorem dX6_row_159 : decode cX6_row 159 = .ok (.if_icmp .ge 15, 3) := by decide +kernel
theorem dX6_row_162 : decode cX6_row 162 = .ok (.aload_n 0, 1) := by decide +kernel
theorem dX6_row_163 : decode cX6_row 163 = .ok (.iload_n 3, 1) := by decide +kernel
theorem dX6_row_164 : decode cX6_row 164 = .ok (.iload_n 2, 1) := by decide +kernel
theorem dX6_row_165 : decode cX6_row 165 = .ok (.bipush 10, 2) := by decide +kernel
theorem dX6_row_167 : decode cX6_row 167 = .ok (.isub, 1) := by decide +kernel
theorem dX6_row_168 : decode cX6_row 168 = .ok (.invokevirtual 109, 3) := by decide +kernel
theorem dX6_row_171 : decode cX6_row 171 = .ok (.goto 4, 3) := by decide +kernel
theorem dX6_row_174 : decode cX6_row 174 = .ok (.iconst (-1), 1) := by decide +kernel
theorem dX6_row_175 : decode cX6_row 175 = .ok (.ireturn, 1) := by decide +kernel
theorem dX6_end_0 : decode cX6_end 0 = .ok (.aload_n 0, 1) := by decide +kernel
theorem dX6_end_1 : decode cX6_end 1 = .ok (.iconst 0, 1) := by decide +kernel
theorem dX6_end_2 : decode cX6_end 2 = .ok (.putfield 70, 3) := by decide +kernel
theorem dX6_end_5 : decode cX6_end 5 = .ok (.aload_n 0, 1) := by decide +kernel
theorem dX6_end_6 : decode cX6_end 6 = .ok (.getfield 17, 3) := by decide +kernel
theorem dX6_end_9 : decode cX6_end 9 = .ok (.ifCond .eq 11, 3) := by decide +kernel
theorem dX6_end_12 : decode cX6_end 12 = .ok (.aload_n 0, 1) := by decide +kernel
theorem dX6_end_13 : decode cX6_end 13 = .ok (.getfield 25, 3) := by decide +kernel
theorem dX6_end_16 : decode cX6_end 16 = .ok (.iconst (-1), 1) := by decide +kernel
theorem dX6_end_17 : decode cX6_end 17 = .ok (.if_icmp .ne 6, 3) := by decide +kernel
theorem dX6_end_20 : decode cX6_end 20 = .ok (.bipush (-3), 2) := by decide +kernel
theorem dX6_end_22 : decode cX6_end 22 = .ok (.ireturn, 1) := by decide +kernel
theorem dX6_end_23 : decode cX6_end 23 = .ok (.aload_n 0, 1) := by decide +kernel
theorem dX6_end_24 : decode cX6_end 24 = .ok (.getfield 116, 3) := by decide +kernel
theorem dX6_end_27 : decode cX6_end 27 = .ok (.bipush 24, 2) := by decide +kernel
theorem dX6_end_29 : decode cX6_end 29 = .ok (.iadd, 1) := by decide +kernel
theorem dX6_end_30 : decode cX6_end 30 = .ok (.iconst 1, 1) := by decide +kernel
theorem dX6_end_31 : decode cX6_end 31 = .ok (.isub, 1) := by decide +kernel
theorem dX6_end_32 : decode cX6_end 32 = .ok (.bipush 24, 2) := by decide +kernel
theorem dX6_end_34 : decode cX6_end 34 = .ok (.idiv, 1) := by decide +kernel
theorem dX6_end_35 : decode cX6_end 35 = .ok (.istore_n 1, 1) := by decide +kernel
theorem dX6_end_36 : decode cX6_end 36 = .ok (.iconst 0, 1) := by decide +kernel
theorem dX6_end_37 : decode cX6_end 37 = .ok (.istore_n 2, 1) := by decide +kernel
theorem dX6_end_38 : decode cX6_end 38 = .ok (.iload_n 2, 1) := by decide +kernel
theorem dX6_end_39 : decode cX6_end 39 = .ok (.iload_n 1, 1) := by decide +kernel
theorem dX6_end_40 : decode cX6_end 40 = .ok (.if_icmp .ge 23, 3) := by decide +kernel
theorem dX6_end_43 : decode cX6_end 43 = .ok (.aload_n 0, 1) := by decide +kernel
theorem dX6_end_44 : decode cX6_end 44 = .ok (.getfield 43, 3) := by decide +kernel
theorem dX6_end_47 : decode cX6_end 47 = .ok (.iload_n 2, 1) := by decide +kernel
theorem dX6_end_48 : decode cX6_end 48 = .ok (.aload_n 0, 1) := by decide +kernel
theorem dX6_end_49 : decode cX6_end 49 = .ok (.bipush 24, 2) := by decide +kernel
theorem dX6_end_51 : decode cX6_end 51 = .ok (.iload_n 2, 1) := by decide +kernel
theorem dX6_end_52 : decode cX6_end 52 = .ok (.imul, 1) := by decide +kernel
theorem dX6_end_53 : decode cX6_end 53 = .ok (.invokevirtual 132, 3) := by decide +kernel
theorem dX6_end_56 : decode cX6_end 56 = .ok (.iastore, 1) := by decide +kernel
theorem dX6_end_57 : decode cX6_end 57 = .ok (.iinc 2 1, 3) := by decide +kernel
theorem dX6_end_60 : decode cX6_end 60 = .ok (.goto (-22), 3) := by decide +kernel
theorem dX6_end_63 : decode cX6_end 63 = .ok (.aload_n 0, 1) := by decide +kernel
theorem dX6_end_64 : decode cX6_end 64 = .ok (.iconst 3, 1) := by decide +kernel
theorem dX6_end_65 : decode cX6_end 65 = .ok (.aload_n 0, 1) := by decide +kernel
theorem dX6_end_66 : decode cX6_end 66 = .ok (.getfield 25, 3) := by decide +kernel
theorem dX6_end_69 : decode cX6_end 69 = .ok (.aload_n 0, 1) := by decide +kernel
theorem dX6_end_70 : decode cX6_end 70 = .ok (.getfield 100, 3) := by decide +kernel
theorem dX6_end_73 : decode cX6_end 73 = .ok (.aload_n 0, 1) := by decide +kernel
theorem dX6_end_74 : decode cX6_end 74 = .ok (.getfield 116, 3) := by decide +kernel
theorem dX6_end_77 : decode cX6_end 77 = .ok (.invokevirtual 121, 3) := by decide +kernel
theorem dX6_end_80 : decode cX6_end 80 = .ok (.iconst 0, 1) := by decide +kernel
theorem dX6_end_81 : decode cX6_end 81 = .ok (.istore_n 2, 1) := by decide +kernel
theorem dX6_end_82 : decode cX6_end 82 = .ok (.iload_n 2, 1) := by decide +kernel
theorem dX6_end_83 : decode cX6_end 83 = .ok (.iload_n 1, 1) := by decide +kernel
theorem dX6_end_84 : decode cX6_end 84 = .ok (.if_icmp .ge 23, 3) := by decide +kernel
theorem dX6_end_87 : decode cX6_end 87 = .ok (.aload_n 0, 1) := by decide +kernel
theorem dX6_end_88 : decode cX6_end 88 = .ok (.getfield 40, 3) := by decide +kernel
theorem dX6_end_91 : decode cX6_end 91 = .ok (.iconst 4, 1) := by decide +kernel
theorem dX6_end_92 : decode cX6_end 92 = .ok (.iload_n 2, 1) := by decide +kernel
theorem dX6_end_93 : decode cX6_end 93 = .ok (.iadd, 1) := by decide +kernel
theorem dX6_end_94 : decode cX6_end 94 = .ok (.aload_n 0, 1) := by decide +kernel
theorem dX6_end_95 : decode cX6_end 95 = .ok (.getfield 43, 3) := by decide +kernel
theorem dX6_end_98 : decode cX6_end 98 = .ok (.iload_n 2, 1) := by decide +kernel
theorem dX6_end_99 : decode cX6_end 99 = .ok (.iaload, 1) := by decide +kernel
theorem dX6_end_100 : decode cX6_end 100 = .ok (.iastore, 1) := by decide +kernel
theorem dX6_end_101 : decode cX6_end 101 = .ok (.iinc 2 1, 3) := by decide +kernel
theorem dX6_end_104 : decode cX6_end 104 = .ok (.goto (-22), 3) := by decide +kernel
theorem dX6_end_107 : decode cX6_end 107 = .ok (.aload_n 0, 1) := by decide +kernel
theorem dX6_end_108 : decode cX6_end 108 = .ok (.invokevirtual 128, 3) := by decide +kernel
theorem dX6_end_111 : decode cX6_end 111 = .ok (.istore_n 2, 1) := by decide +kernel
theorem dX6_end_112 : decode cX6_end 112 = .ok (.aload_n 0, 1) := by decide +kernel
theorem dX6_end_113 : decode cX6_end 113 = .ok (.iconst (-1), 1) := by decide +kernel
theorem dX6_end_114 : decode cX6_end 114 = .ok (.putfield 25, 3) := by decide +kernel
theorem dX6_end_117 : decode cX6_end 117 = .ok (.aload_n 0, 1) := by decide +kernel
theorem dX6_end_118 : decode cX6_end 118 = .ok (.dup, 1) := by decide +kernel
theorem dX6_end_119 : decode cX6_end 119 = .ok (.getfield 100, 3) := by decide +kernel
theorem dX6_end_122 : decode cX6_end 122 = .ok (.iconst 1, 1) := by decide +kernel
theorem dX6_end_123 : decode cX6_end 123 = .ok (.iadd, 1) := by decide +kernel
theorem dX6_end_124 : decode cX6_end 124 = .ok (.putfield 100, 3) := by decide +kernel
theorem dX6_end_127 : decode cX6_end 127 = .ok (.aload_n 0, 1) := by decide +kernel
theorem dX6_end_128 : decode cX6_end 128 = .ok (.getfield 100, 3) := by decide +kernel
theorem dX6_end_131 : decode cX6_end 131 = .ok (.iconst 1, 1) := by decide +kernel
theorem dX6_end_132 : decode cX6_end 132 = .ok (.isub, 1) := by decide +kernel
theorem dX6_end_133 : decode cX6_end 133 = .ok (.ireturn, 1) := by decide +kernel
theorem dX6_start_0 : decode cX6_start 0 = .ok (.aload_n 0, 1) := by decide +kernel
theorem dX6_start_1 : decode cX6_start 1 = .ok (.iconst 0, 1) := by decide +kernel
theorem dX6_start_2 : decode cX6_start 2 = .ok (.putfield 70, 3) := by decide +kernel
theorem dX6_start_5 : decode cX6_start 5 = .ok (.aload_n 0, 1) := by decide +kernel
theorem dX6_start_6 : decode cX6_start 6 = .ok (.getfield 17, 3) := by decide +kernel
theorem dX6_start_9 : decode cX6_start 9 = .ok (.ifCond .eq 6, 3) := by decide +kernel
theorem dX6_start_12 : decode cX6_start 12 = .ok (.bipush (-3), 2) := by decide +kernel
theorem dX6_start_14 : decode cX6_start 14 = .ok (.ireturn, 1) := by decide +kernel
theorem dX6_start_15 : decode cX6_start 15 = .ok (.aload_n 0, 1) := by decide +kernel
theorem dX6_start_16 : decode cX6_start 16 = .ok (.iconst 0, 1) := by decide +kernel
theorem dX6_start_17 : decode cX6_start 17 = .ok (.invokevirtual 159, 3) := by decide +kernel
theorem dX6_start_20 : decode cX6_start 20 = .ok (.istore_n 1, 1) := by decide +kernel
theorem dX6_start_21 : decode cX6_start 21 = .ok (.aload_n 0, 1) := by decide +kernel
theorem dX6_start_22 : decode cX6_start 22 = .ok (.iconst 1, 1) := by decide +kernel
theorem dX6_start_23 : decode cX6_start 23 = .ok (.invokevirtual 159, 3) := by decide +kernel
theorem dX6_start_26 : decode cX6_start 26 = .ok (.istore_n 2, 1) := by decide +kernel
theorem dX6_start_27 : decode cX6_start 27 = .ok (.iload_n 2, 1) := by decide +kernel
theorem dX6_start_28 : decode cX6_start 28 = .ok (.ifCond .eq 24, 3) := by decide +kernel
theorem dX6_start_31 : decode cX6_start 31 = .ok (.iload_n 1, 1) := by decide +kernel
theorem dX6_start_32 : decode cX6_start 32 = .ok (.ifCond .eq 16, 3) := by decide +kernel
theorem dX6_start_35 : decode cX6_start 35 = .ok (.aload_n 0, 1) := by decide +kernel
theorem dX6_start_36 : decode cX6_start 36 = .ok (.iconst 1, 1) := by decide +kernel
theorem dX6_start_37 : decode cX6_start 37 = .ok (.invokevirtual 162, 3) := by decide +kernel
theorem dX6_start_40 : decode cX6_start 40 = .ok (.aload_n 0, 1) := by decide +kernel
theorem dX6_start_41 : decode cX6_start 41 = .ok (.iconst 0, 1) := by decide +kernel
theorem dX6_start_42 : decode cX6_start 42 = .ok (.invokevirtual 162, 3) := by decide +kernel
theorem dX6_start_45 : decode cX6_start 45 = .ok (.if_icmp .le 7, 3) := by decide +kernel
theorem dX6_start_48 : decode cX6_start 48 = .ok (.iconst 1, 1) := by decide +kernel
theorem dX6_start_49 : decode cX6_start 49 = .ok (.goto 12, 3) := by decide +kernel
theorem dX6_start_52 : decode cX6_start 52 = .ok (.iload_n 1, 1) := by decide +kernel
theorem dX6_start_53 : decode cX6_start 53 = .ok (.ifCond .eq 7, 3) := by decide +kernel
theorem dX6_start_56 : decode cX6_start 56 = .ok (.iconst 0, 1) := by decide +kernel
theorem dX6_start_57 : decode cX6_start 57 = .ok (.goto 4, 3) := by decide +kernel
theorem dX6_start_60 : decode cX6_start 60 = .ok (.iconst (-1), 1) := by decide +kernel
theorem dX6_start_61 : decode cX6_start 61 = .ok (.istore_n 3, 1) := by decide +kernel
theorem dX6_start_62 : decode cX6_start 62 = .ok (.aload_n 0, 1) := by decide +kernel
theorem dX6_start_63 : decode cX6_start 63 = .ok (.iload_n 3, 1) := by decide +kernel
theorem dX6_start_64 : decode cX6_start 64 = .ok (.iconst (-1), 1) := by decide +kernel
theorem dX6_start_65 : decode cX6_start 65 = .ok (.if_icmp .ne 7, 3) := by decide +kernel
theorem dX6_start_68 : decode cX6_start 68 = .ok (.iconst 0, 1) := by decide +kernel
theorem dX6_start_69 : decode cX6_start 69 = .ok (.goto 8, 3) := by decide +kernel
theorem dX6_start_72 : decode cX6_start 72 = .ok (.aload_n 0, 1) := by decide +kernel
theorem dX6_start_73 : decode cX6_start 73 = .ok (.iload_n 3, 1) := by decide +kernel
theorem dX6_start_74 : decode cX6_start 74 = .ok (.invokevirtual 162, 3) := by decide +kernel
theorem dX6_start_77 : decode cX6_start 77 = .ok (.putfield 153, 3) := by decide +kernel
theorem dX6_start_80 : decode cX6_start 80 = .ok (.aload_n 0, 1) := by decide +kernel
theorem dX6_start_81 : decode cX6_start 81 = .ok (.iload_n 3, 1) := by decide +kernel
theorem dX6_start_82 : decode cX6_start 82 = .ok (.iconst (-1), 1) := by decide +kernel
theorem dX6_start_83 : decode cX6_start 83 = .ok (.if_icmp .ne 7, 3) := by decide +kernel
theorem dX6_start_86 : decode cX6_start 86 = .ok (.iconst 2, 1) := by decide +kernel
theorem dX6_start_87 : decode cX6_start 87 = .ok (.goto 15, 3) := by decide +kernel
theorem dX6_start_90 : decode cX6_start 90 = .ok (.aload_n 0, 1) := by decide +kernel
theorem dX6_start_91 : decode cX6_start 91 = .ok (.getfield 7, 3) := by decide +kernel
theorem dX6_start_94 : decode cX6_start 94 = .ok (.bipush 32, 2) := by decide +kernel
theorem dX6_start_96 : decode cX6_start 96 = .ok (.iload_n 3, 1) := by decide +kernel
theorem dX6_start_97 : decode cX6_start 97 = .ok (.imul, 1) := by decide +kernel
theorem dX6_start_98 : decode cX6_start 98 = .ok (.bipush 8, 2) := by decide +kernel
theorem dX6_start_100 : decode cX6_start 100 = .ok (.iadd, 1) := by decide +kernel
theorem dX6_start_101 : decode cX6_start 101 = .ok (.iaload, 1) := by decide +kernel
theorem dX6_start_102 : decode cX6_start 102 = .ok (.putfield 21, 3) := by decide +kernel
theorem dX6_start_105 : decode cX6_start 105 = .ok (.aload_n 0, 1) := by decide +kernel
theorem dX6_start_106 : decode cX6_start 106 = .ok (.iload_n 3, 1) := by decide +kernel
theorem dX6_start_107 : decode cX6_start 107 = .ok (.iconst (-1), 1) := by decide +kernel
theorem dX6_start_108 : decode cX6_start 108 = .ok (.if_icmp .ne 7, 3) := by decide +kernel
theorem dX6_start_111 : decode cX6_start 111 = .ok (.iconst 0, 1) := by decide +kernel
theorem dX6_start_112 : decode cX6_start 112 = .ok (.goto 15, 3) := by decide +kernel
theorem dX6_start_115 : decode cX6_start 115 = .ok (.aload_n 0, 1) := by decide +kernel
theorem dX6_start_116 : decode cX6_start 116 = .ok (.getfield 7, 3) := by decide +kernel
theorem dX6_start_119 : decode cX6_start 119 = .ok (.bipush 32, 2) := by decide +kernel
theorem dX6_start_121 : decode cX6_start 121 = .ok (.iload_n 3, 1) := by decide +kernel
theorem dX6_start_122 : decode cX6_start 122 = .ok (.imul, 1) := by decide +kernel
theorem dX6_start_123 : decode cX6_start 123 = .ok (.bipush 9, 2) := by decide +kernel
theorem dX6_start_125 : decode cX6_start 125 = .ok (.iadd, 1) := by decide +kernel
theorem dX6_start_126 : decode cX6_start 126 = .ok (.iaload, 1) := by decide +kernel
theorem dX6_start_127 : decode cX6_start 127 = .ok (.putfield 100, 3) := by decide +kernel
theorem dX6_start_130 : decode cX6_start 130 = .ok (.aload_n 0, 1) := by decide +kernel
theorem dX6_start_131 : decode cX6_start 131 = .ok (.getfield 21, 3) := by decide +kernel
theorem dX6_start_134 : decode cX6_start 134 = .ok (.aload_n 0, 1) := by decide +kernel
theorem dX6_start_135 : decode cX6_start 135 = .ok (.getfield 67, 3) := by decide +kernel
theorem dX6_start_138 : decode cX6_start 138 = .ok (.if_icmp .ge 28, 3) := by decide +kernel
theorem dX6_start_141 : decode cX6_start 141 = .ok (.aload_n 0, 1) := by decide +kernel
theorem dX6_start_142 : decode cX6_start 142 = .ok (.aload_n 0, 1) := by decide +kernel
theorem dX6_start_143 : decode cX6_start 143 = .ok (.getfield 21, 3) := by decide +kernel
theorem dX6_start_146 : decode cX6_start 146 = .ok (.invokevirtual 86, 3) := by decide +kernel
theorem dX6_start_149 : decode cX6_start 149 = .ok (.iconst 2, 1) := by decide +kernel
theorem dX6_start_150 : decode cX6_start 150 = .ok (.if_icmp .lt 16, 3) := by decide +kernel
theorem dX6_start_153 : decode cX6_start 153 = .ok (.aload_n 0, 1) := by decide +kernel
theorem dX6_start_154 : decode cX6_start 154 = .ok (.dup, 1) := by decide +kernel
theorem dX6_start_155 : decode cX6_start 155 = .ok (.getfield 21, 3) := by decide +kernel
theorem dX6_start_158 : decode cX6_start 158 = .ok (.iconst 1, 1) := by decide +kernel
theorem dX6_start_159 : decode cX6_start 159 = .ok (.iadd, 1) := by decide +kernel
theorem dX6_start_160 : decode cX6_start 160 = .ok (.putfield 21, 3) := by decide +kernel
theorem dX6_start_163 : decode cX6_start 163 = .ok (.goto (-33), 3) := by decide +kernel
theorem dX6_start_166 : decode cX6_start 166 = .ok (.aload_n 0, 1) := by decide +kernel
theorem dX6_start_167 : decode cX6_start 167 = .ok (.getfield 100, 3) := by decide +kernel
theorem dX6_start_170 : decode cX6_start 170 = .ok (.istore 4, 2) := by decide +kernel
theorem dX6_start_172 : decode cX6_start 172 = .ok (.iload 4, 2) := by decide +kernel
theorem dX6_start_174 : decode cX6_start 174 = .ok (.bipush 60, 2) := by decide +kernel
theorem dX6_start_176 : decode cX6_start 176 = .ok (.if_icmp .ge 34, 3) := by decide +kernel
theorem dX6_start_179 : decode cX6_start 179 = .ok (.aload_n 0, 1) := by decide +kernel
theorem dX6_start_180 : decode cX6_start 180 = .ok (.aload_n 0, 1) := by decide +kernel
theorem dX6_start_181 : decode cX6_start 181 = .ok (.iload 4, 2) := by decide +kernel
theorem dX6_start_183 : decode cX6_start 183 = .ok (.invokevirtual 144, 3) := by decide +kernel
theorem dX6_start_186 : decode cX6_start 186 = .ok (.iconst (-1), 1) := by decide +kernel
theorem dX6_start_187 : decode cX6_start 187 = .ok (.if_icmp .eq 10, 3) := by decide +kernel
theorem dX6_start_190 : decode cX6_start 190 = .ok (.iload 4, 2) := by decide +kernel
theorem dX6_start_192 : decode cX6_start 192 = .ok (.iconst 1, 1) := by decide +kernel
theorem dX6_start_193 : decode cX6_start 193 = .ok (.iadd, 1) := by decide +kernel
theorem dX6_start_194 : decode cX6_start 194 = .ok (.goto 7, 3) := by decide +kernel
theorem dX6_start_197 : decode cX6_start 197 = .ok (.aload_n 0, 1) := by decide +kernel
theorem dX6_start_198 : decode cX6_start 198 = .ok (.getfield 100, 3) := by decide +kernel
theorem dX6_start_201 : decode cX6_start 201 = .ok (.putfield 100, 3) := by decide +kernel
theorem dX6_start_204 : decode cX6_start 204 = .ok (.iinc 4 1, 3) := by decide +kernel
theorem dX6_start_207 : decode cX6_start 207 = .ok (.goto (-35), 3) := by decide +kernel
theorem dX6_start_210 : decode cX6_start 210 = .ok (.aload_n 0, 1) := by decide +kernel
theorem dX6_start_211 : decode cX6_start 211 = .ok (.iconst 1, 1) := by decide +kernel
theorem dX6_start_212 : decode cX6_start 212 = .ok (.putfield 17, 3) := by decide +kernel
theorem dX6_start_215 : decode cX6_start 215 = .ok (.aload_n 0, 1) := by decide +kernel
theorem dX6_start_216 : decode cX6_start 216 = .ok (.iconst 0, 1) := by decide +kernel
theorem dX6_start_217 : decode cX6_start 217 = .ok (.putfield 165, 3) := by decide +kernel
theorem dX6_start_220 : decode cX6_start 220 = .ok (.iconst 1, 1) := by decide +kernel
theorem dX6_start_221 : decode cX6_start 221 = .ok (.istore 4, 2) := by decide +kernel
theorem dX6_start_223 : decode cX6_start 223 = .ok (.iload 4, 2) := by decide +kernel
theorem dX6_start_225 : decode cX6_start 225 = .ok (.ifCond .eq 64, 3) := by decide +kernel
theorem dX6_start_228 : decode cX6_start 228 = .ok (.iconst 0, 1) := by decide +kernel
theorem dX6_start_229 : decode cX6_start 229 = .ok (.istore 4, 2) := by decide +kernel
theorem dX6_start_231 : decode cX6_start 231 = .ok (.iconst 0, 1) := by decide +kernel
theorem dX6_start_232 : decode cX6_start 232 = .ok (.istore 5, 2) := by decide +kernel
theorem dX6_start_234 : decode cX6_start 234 = .ok (.iload 5, 2) := by decide +kernel
theorem dX6_start_236 : decode cX6_start 236 = .ok (.aload_n 0, 1) := by decide +kernel
theorem dX6_start_237 : decode cX6_start 237 = .ok (.getfield 100, 3) := by decide +kernel
theorem dX6_start_240 : decode cX6_start 240 = .ok (.if_icmp .ge 46, 3) := by decide +kernel
theorem dX6_start_243 : decode cX6_start 243 = .ok (.aload_n 0, 1) := by decide +kernel
theorem dX6_start_244 : decode cX6_start 244 = .ok (.iload 5, 2) := by decide +kernel
theorem dX6_start_246 : decode cX6_start 246 = .ok (.invokevirtual 144, 3) := by decide +kernel
theorem dX6_start_249 : decode cX6_start 249 = .ok (.istore 6, 2) := by decide +kernel
theorem dX6_start_251 : decode cX6_start 251 = .ok (.iload 6, 2) := by decide +kernel
theorem dX6_start_253 : decode cX6_start 253 = .ok (.iconst (-1), 1) := by decide +kernel
theorem dX6_start_254 : decode cX6_start 254 = .ok (.if_icmp .eq 14, 3) := by decide +kernel
theorem dX6_start_257 : decode cX6_start 257 = .ok (.aload_n 0, 1) := by decide +kernel
theorem dX6_start_258 : decode cX6_start 258 = .ok (.iload 5, 2) := by decide +kernel
theorem dX6_start_260 : decode cX6_start 260 = .ok (.iload 6, 2) := by decide +kernel
theorem dX6_start_262 : decode cX6_start 262 = .ok (.invokevirtual 168, 3) := by decide +kernel
theorem dX6_start_265 : decode cX6_start 265 = .ok (.ifCond .ne 8, 3) := by decide +kernel
theorem dX6_start_268 : decode cX6_start 268 = .ok (.iload 4, 2) := by decide +kernel
theorem dX6_start_270 : decode cX6_start 270 = .ok (.ifCond .eq 7, 3) := by decide +kernel
theorem dX6_start_273 : decode cX6_start 273 = .ok (.iconst 1, 1) := by decide +kernel
theorem dX6_start_274 : decode cX6_start 274 = .ok (.goto 4, 3) := by decide +kernel
theorem dX6_start_277 : decode cX6_start 277 = .ok (.iconst 0, 1) := by decide +kernel
theorem dX6_start_278 : decode cX6_start 278 = .ok (.istore 4, 2) := by decide +kernel
theorem dX6_start_280 : decode cX6_start 280 = .ok (.iinc 5 1, 3) := by decide +kernel
theorem dX6_start_283 : decode cX6_start 283 = .ok (.goto (-49), 3) := by decide +kernel
theorem dX6_start_286 : decode cX6_start 286 = .ok (.goto (-63), 3) := by decide +kernel
theorem dX6_start_289 : decode cX6_start 289 = .ok (.aload_n 0, 1) := by decide +kernel
theorem dX6_start_290 : decode cX6_start 290 = .ok (.iconst 0, 1) := by decide +kernel
theorem dX6_start_291 : decode cX6_start 291 = .ok (.putfield 93, 3) := by decide +kernel
theorem dX6_start_294 : decode cX6_start 294 = .ok (.aload_n 0, 1) := by decide +kernel
theorem dX6_start_295 : decode cX6_start 295 = .ok (.getfield 100, 3) := by decide +kernel
theorem dX6_start_298 : decode cX6_start 298 = .ok (.ireturn, 1) := by decide +kernel
