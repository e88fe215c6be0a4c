theorem dX0_hasLoop_0 : decode cX0_hasLoop 0 = .ok (.iconst 0, 1) := by decide +kernel
theorem dX0_hasLoop_1 : decode cX0_hasLoop 1 = .ok (.istore_n 1, 1) := by decide +kernel
theorem dX0_hasLoop_2 : decode cX0_hasLoop 2 = .ok (.iload_n 1, 1) := by decide +kernel
theorem dX0_hasLoop_3 : decode cX0_hasLoop 3 = .ok (.aload_n 0, 1) := by decide +kernel
theorem dX0_hasLoop_4 : decode cX0_hasLoop 4 = .ok (.getfield 9, 3) := by decide +kernel
theorem dX0_hasLoop_7 : decode cX0_hasLoop 7 = .ok (.if_icmp .ge 20, 3) := by decide +kernel
theorem dX0_hasLoop_27 : decode cX0_hasLoop 27 = .ok (.iconst 0, 1) := by decide +kernel
theorem dX0_hasLoop_28 : decode cX0_hasLoop 28 = .ok (.ireturn, 1) := by decide +kernel
theorem dX0_homeOf_0 : decode cX0_homeOf 0 = .ok (.iconst (-1), 1) := by decide +kernel
theorem dX0_homeOf_1 : decode cX0_homeOf 1 = .ok (.istore_n 2, 1) := by decide +kernel
theorem dX0_homeOf_2 : decode cX0_homeOf 2 = .ok (.ldc 38, 2) := by decide +kernel
theorem dX0_homeOf_4 : decode cX0_homeOf 4 = .ok (.istore_n 3, 1) := by decide +kernel
theorem dX0_homeOf_5 : decode cX0_homeOf 5 = .ok (.iconst 0, 1) := by decide +kernel
theorem dX0_homeOf_6 : decode cX0_homeOf 6 = .ok (.istore 4, 2) := by decide +kernel
theorem dX0_homeOf_8 : decode cX0_homeOf 8 = .ok (.iload 4, 2) := by decide +kernel
theorem dX0_homeOf_10 : decode cX0_homeOf 10 = .ok (.aload_n 0, 1) := by decide +kernel
theorem dX0_homeOf_11 : decode cX0_homeOf 11 = .ok (.getfield 9, 3) := by decide +kernel
theorem dX0_homeOf_14 : decode cX0_homeOf 14 = .ok (.if_icmp .ge 30, 3) := by decide +kernel
theorem dX0_homeOf_44 : decode cX0_homeOf 44 = .ok (.iload_n 2, 1) := by decide +kernel
theorem dX0_homeOf_45 : decode cX0_homeOf 45 = .ok (.ireturn, 1) := by decide +kernel
theorem dX0_leastTrip_0 : decode cX0_leastTrip 0 = .ok (.aload_n 0, 1) := by decide +kernel
theorem dX0_leastTrip_1 : decode cX0_leastTrip 1 = .ok (.aload_n 1, 1) := by decide +kernel
theorem dX0_leastTrip_2 : decode cX0_leastTrip 2 = .ok (.invokevirtual 73, 3) := by decide +kernel
theorem dX0_leastTrip_5 : decode cX0_leastTrip 5 = .ok (.istore_n 2, 1) := by decide +kernel
theorem dX0_leastTrip_6 : decode cX0_leastTrip 6 = .ok (.iload_n 2, 1) := by decide +kernel
theorem dX0_leastTrip_7 : decode cX0_leastTrip 7 = .ok (.ifCond .ge 8, 3) := by decide +kernel
theorem dX0_leastTrip_10 : decode cX0_leastTrip 10 = .ok (.ldc 38, 2) := by decide +kernel
theorem dX0_leastTrip_12 : decode cX0_leastTrip 12 = .ok (.goto 9, 3) := by decide +kernel
theorem dX0_leastTrip_21 : decode cX0_leastTrip 21 = .ok (.ireturn, 1) := by decide +kernel
theorem dX0_loopSet_0 : decode cX0_loopSet 0 = .ok (.iconst 0, 1) := by decide +kernel
theorem dX0_loopSet_1 : decode cX0_loopSet 1 = .ok (.istore_n 1, 1) := by decide +kernel
theorem dX0_loopSet_2 : decode cX0_loopSet 2 = .ok (.iconst 0, 1) := by decide +kernel
theorem dX0_loopSet_3 : decode cX0_loopSet 3 = .ok (.istore_n 2, 1) := by decide +kernel
theorem dX0_loopSet_4 : decode cX0_loopSet 4 = .ok (.iload_n 2, 1) := by decide +kernel
theorem dX0_loopSet_5 : decode cX0_loopSet 5 = .ok (.aload_n 0, 1) := by decide +kernel
theorem dX0_loopSet_6 : decode cX0_loopSet 6 = .ok (.getfield 9, 3) := by decide +kernel
theorem dX0_loopSet_9 : decode cX0_loopSet 9 = .ok (.if_icmp .ge 49, 3) := by decide +kernel
theorem dX0_loopSet_58 : decode cX0_loopSet 58 = .ok (.iload_n 1, 1) := by decide +kernel
theorem dX0_loopSet_59 : decode cX0_loopSet 59 = .ok (.ireturn, 1) := by decide +kernel
theorem dX0_measure_0 : decode cX0_measure 0 = .ok (.aload_n 0, 1) := by decide +kernel
theorem dX0_measure_1 : decode cX0_measure 1 = .ok (.aload_n 1, 1) := by decide +kernel
theorem dX0_measure_2 : decode cX0_measure 2 = .ok (.getfield 19, 3) := by decide +kernel
theorem dX0_measure_5 : decode cX0_measure 5 = .ok (.putfield 9, 3) := by decide +kernel
theorem dX0_measure_8 : decode cX0_measure 8 = .ok (.iconst 0, 1) := by decide +kernel
theorem dX0_measure_9 : decode cX0_measure 9 = .ok (.istore_n 2, 1) := by decide +kernel
theorem dX0_measure_10 : decode cX0_measure 10 = .ok (.iload_n 2, 1) := by decide +kernel
theorem dX0_measure_11 : decode cX0_measure 11 = .ok (.aload_n 0, 1) := by decide +kernel
theorem dX0_measure_12 : decode cX0_measure 12 = .ok (.getfield 9, 3) := by decide +kernel
theorem dX0_measure_15 : decode cX0_measure 15 = .ok (.if_icmp .ge 51, 3) := by decide +kernel
theorem dX0_measure_66 : decode cX0_measure 66 = .ok (.iconst 0, 1) := by decide +kernel
theorem dX0_measure_67 : decode cX0_measure 67 = .ok (.istore_n 2, 1) := by decide +kernel
theorem dX0_measure_68 : decode cX0_measure 68 = .ok (.iload_n 2, 1) := by decide +kernel
theorem dX0_measure_69 : decode cX0_measure 69 = .ok (.aload_n 0, 1) := by decide +kernel
theorem dX0_measure_70 : decode cX0_measure 70 = .ok (.getfield 9, 3) := by decide +kernel
theorem dX0_measure_73 : decode cX0_measure 73 = .ok (.if_icmp .ge 14, 3) := by decide +kernel
theorem dX0_measure_87 : decode cX0_measure 87 = .ok (.return_, 1) := by decide +kernel
theorem dX1_addPlace_0 : decode cX1_addPlace 0 = .ok (.aload_n 0, 1) := by decide +kernel
theorem dX1_addPlace_1 : decode cX1_addPlace 1 = .ok (.getfield 9, 3) := by decide +kernel
theorem dX1_addPlace_4 : decode cX1_addPlace 4 = .ok (.istore_n 2, 1) := by decide +kernel
theorem dX1_addPlace_5 : decode cX1_addPlace 5 = .ok (.aload_n 0, 1) := by decide +kernel
theorem dX1_addPlace_6 : decode cX1_addPlace 6 = .ok (.dup, 1) := by decide +kernel
theorem dX1_addPlace_7 : decode cX1_addPlace 7 = .ok (.getfield 9, 3) := by decide +kernel
theorem dX1_addPlace_10 : decode cX1_addPlace 10 = .ok (.iconst 1, 1) := by decide +kernel
theorem dX1_addPlace_11 : decode cX1_addPlace 11 = .ok (.iadd, 1) := by decide +kernel
theorem dX1_addPlace_12 : decode cX1_addPlace 12 = .ok (.putfield 9, 3) := by decide +kernel
theorem dX1_addPlace_15 : decode cX1_addPlace 15 = .ok (.aload_n 0, 1) := by decide +kernel
theorem dX1_addPlace_16 : decode cX1_addPlace 16 = .ok (.getfield 15, 3) := by decide +kernel
theorem dX1_addPlace_19 : decode cX1_addPlace 19 = .ok (.iload_n 2, 1) := by decide +kernel
theorem dX1_addPlace_20 : decode cX1_addPlace 20 = .ok (.iload_n 1, 1) := by decide +kernel
theorem dX1_addPlace_21 : decode cX1_addPlace 21 = .ok (.iastore, 1) := by decide +kernel
theorem dX1_addPlace_22 : decode cX1_addPlace 22 = .ok (.iload_n 2, 1) := by decide +kernel
theorem dX1_addPlace_23 : decode cX1_addPlace 23 = .ok (.ireturn, 1) := by decide +kernel
theorem dX1_allBetweenEnds_0 : decode cX1_allBetweenEnds 0 = .ok (.iconst 0, 1) := by decide +kernel
theorem dX1_allBetweenEnds_1 : decode cX1_allBetweenEnds 1 = .ok (.istore_n 1, 1) := by decide +kernel
theorem dX1_allBetweenEnds_2 : decode cX1_allBetweenEnds 2 = .ok (.iconst 0, 1) := by decide +kernel
theorem dX1_allBetweenEnds_3 : decode cX1_allBetweenEnds 3 = .ok (.istore_n 2, 1) := by decide +kernel
theorem dX1_allBetweenEnds_4 : decode cX1_allBetweenEnds 4 = .ok (.iload_n 2, 1) := by decide +kernel
theorem dX1_allBetweenEnds_5 : decode cX1_allBetweenEnds 5 = .ok (.bipush 100, 2) := by decide +kernel
theorem dX1_allBetweenEnds_7 : decode cX1_allBetweenEnds 7 = .ok (.if_icmp .ge 38, 3) := by decide +kernel
theorem dX1_allBetweenEnds_10 : decode cX1_allBetweenEnds 10 = .ok (.iload_n 1, 1) := by decide +kernel
theorem dX1_allBetweenEnds_11 : decode cX1_allBetweenEnds 11 = .ok (.aload_n 0, 1) := by decide +kernel
theorem dX1_allBetweenEnds_12 : decode cX1_allBetweenEnds 12 = .ok (.getfield 25, 3) := by decide +kernel
theorem dX1_allBetweenEnds_15 : decode cX1_allBetweenEnds 15 = .ok (.iload_n 2, 1) := by decide +kernel
theorem dX1_allBetweenEnds_16 : decode cX1_allBetweenEnds 16 = .ok (.iaload, 1) := by decide +kernel
theorem dX1_allBetweenEnds_17 : decode cX1_allBetweenEnds 17 = .ok (.ifCond .ne 7, 3) := by decide +kernel
theorem dX1_allBetweenEnds_20 : decode cX1_allBetweenEnds 20 = .ok (.iconst 0, 1) := by decide +kernel
theorem dX1_allBetweenEnds_21 : decode cX1_allBetweenEnds 21 = .ok (.goto 16, 3) := by decide +kernel
theorem dX1_allBetweenEnds_37 : decode cX1_allBetweenEnds 37 = .ok (.iadd, 1) := by decide +kernel
theorem dX1_allBetweenEnds_38 : decode cX1_allBetweenEnds 38 = .ok (.istore_n 1, 1) := by decide +kernel
theorem dX1_allBetweenEnds_39 : decode cX1_allBetweenEnds 39 = .ok (.iinc 2 1, 3) := by decide +kernel
theorem dX1_allBetweenEnds_42 : decode cX1_allBetweenEnds 42 = .ok (.goto (-38), 3) := by decide +kernel
theorem dX1_allBetweenEnds_45 : decode cX1_allBetweenEnds 45 = .ok (.iload_n 1, 1) := by decide +kernel
theorem dX1_allBetweenEnds_46 : decode cX1_allBetweenEnds 46 = .ok (.ireturn, 1) := by decide +kernel
theorem dX1_allErrands_0 : decode cX1_allErrands 0 = .ok (.iconst 0, 1) := by decide +kernel
theorem dX1_allErrands_1 : decode cX1_allErrands 1 = .ok (.istore_n 1, 1) := by decide +kernel
theorem dX1_allErrands_2 : decode cX1_allErrands 2 = .ok (.iconst 0, 1) := by decide +kernel
theorem dX1_allErrands_3 : decode cX1_allErrands 3 = .ok (.istore_n 2, 1) := by decide +kernel
theorem dX1_allErrands_4 : decode cX1_allErrands 4 = .ok (.iload_n 2, 1) := by decide +kernel
theorem dX1_allErrands_5 : decode cX1_allErrands 5 = .ok (.aload_n 0, 1) := by decide +kernel
theorem dX1_allErrands_6 : decode cX1_allErrands 6 = .ok (.getfield 9, 3) := by decide +kernel
theorem dX1_allErrands_9 : decode cX1_allErrands 9 = .ok (.if_icmp .ge 18, 3) := by decide +kernel
theorem dX1_allErrands_27 : decode cX1_allErrands 27 = .ok (.iload_n 1, 1) := by decide +kernel
theorem dX1_allErrands_28 : decode cX1_allErrands 28 = .ok (.ireturn, 1) := by decide +kernel
theorem dX1_areTwo_0 : decode cX1_areTwo 0 = .ok (.aload_n 0, 1) := by decide +kernel
theorem dX1_areTwo_1 : decode cX1_areTwo 1 = .ok (.iload_n 1, 1) := by decide +kernel
theorem dX1_areTwo_2 : decode cX1_areTwo 2 = .ok (.i2l, 1) := by decide +kernel
theorem dX1_areTwo_3 : decode cX1_areTwo 3 = .ok (.invokevirtual 57, 3) := by decide +kernel
theorem dX1_areTwo_6 : decode cX1_areTwo 6 = .ok (.ifCond .eq 21, 3) := by decide +kernel
theorem dX1_areTwo_27 : decode cX1_areTwo 27 = .ok (.iconst 0, 1) := by decide +kernel
theorem dX1_areTwo_28 : decode cX1_areTwo 28 = .ok (.ireturn, 1) := by decide +kernel
theorem dX1_become_0 : decode cX1_become 0 = .ok (.aload_n 0, 1) := by decide +kernel
theorem dX1_become_1 : decode cX1_become 1 = .ok (.aload_n 1, 1) := by decide +kernel
theorem dX1_become_2 : decode cX1_become 2 = .ok (.getfield 9, 3) := by decide +kernel
theorem dX1_become_5 : decode cX1_become 5 = .ok (.putfield 9, 3) := by decide +kernel
theorem dX1_become_8 : decode cX1_become 8 = .ok (.aload_n 1, 1) := by decide +kernel
theorem dX1_become_9 : decode cX1_become 9 = .ok (.getfield 15, 3) := by decide +kernel
theorem dX1_become_12 : decode cX1_become 12 = .ok (.iconst 0, 1) := by decide +kernel
theorem dX1_become_13 : decode cX1_become 13 = .ok (.aload_n 0, 1) := by decide +kernel
theorem dX1_become_14 : decode cX1_become 14 = .ok (.getfield 15, 3) := by decide +kernel
theorem dX1_become_17 : decode cX1_become 17 = .ok (.iconst 0, 1) := by decide +kernel
theorem dX1_become_18 : decode cX1_become 18 = .ok (.bipush 10, 2) := by decide +kernel
theorem dX1_become_20 : decode cX1_become 20 = .ok (.invokestatic 47, 3) := by decide +kernel
theorem dX1_become_23 : decode cX1_become 23 = .ok (.aload_n 1, 1) := by decide +kernel
theorem dX1_become_24 : decode cX1_become 24 = .ok (.getfield 19, 3) := by decide +kernel
theorem dX1_become_27 : decode cX1_become 27 = .ok (.iconst 0, 1) := by decide +kernel
theorem dX1_become_28 : decode cX1_become 28 = .ok (.aload_n 0, 1) := by decide +kernel
theorem dX1_become_29 : decode cX1_become 29 = .ok (.getfield 19, 3) := by decide +kernel
theorem dX1_become_32 : decode cX1_become 32 = .ok (.iconst 0, 1) := by decide +kernel
theorem dX1_become_33 : decode cX1_become 33 = .ok (.bipush 100, 2) := by decide +kernel
theorem dX1_become_35 : decode cX1_become 35 = .ok (.invokestatic 47, 3) := by decide +kernel
theorem dX1_become_38 : decode cX1_become 38 = .ok (.aload_n 1, 1) := by decide +kernel
theorem dX1_become_39 : decode cX1_become 39 = .ok (.getfield 22, 3) := by decide +kernel
theorem dX1_become_42 : decode cX1_become 42 = .ok (.iconst 0, 1) := by decide +kernel
theorem dX1_become_43 : decode cX1_become 43 = .ok (.aload_n 0, 1) := by decide +kernel
theorem dX1_become_44 : decode cX1_become 44 = .ok (.getfield 22, 3) := by decide +kernel
theorem dX1_become_47 : decode cX1_become 47 = .ok (.iconst 0, 1) := by decide +kernel
theorem dX1_become_48 : decode cX1_become 48 = .ok (.bipush 100, 2) := by decide +kernel
theorem dX1_become_50 : decode cX1_become 50 = .ok (.invokestatic 47, 3) := by decide +kernel
theorem dX1_become_53 : decode cX1_become 53 = .ok (.aload_n 1, 1) := by decide +kernel
theorem dX1_become_54 : decode cX1_become 54 = .ok (.getfield 25, 3) := by decide +kernel
theorem dX1_become_57 : decode cX1_become 57 = .ok (.iconst 0, 1) := by decide +kernel
theorem dX1_become_58 : decode cX1_become 58 = .ok (.aload_n 0, 1) := by decide +kernel
theorem dX1_become_59 : decode cX1_become 59 = .ok (.getfield 25, 3) := by decide +kernel
theorem dX1_become_62 : decode cX1_become 62 = .ok (.iconst 0, 1) := by decide +kernel
theorem dX1_become_63 : decode cX1_become 63 = .ok (.bipush 100, 2) := by decide +kernel
theorem dX1_become_65 : decode cX1_become 65 = .ok (.invokestatic 47, 3) := by decide +kernel
theorem dX1_become_68 : decode cX1_become 68 = .ok (.aload_n 0, 1) := by decide +kernel
theorem dX1_become_69 : decode cX1_become 69 = .ok (.getfield 31, 3) := by decide +kernel
theorem dX1_become_72 : decode cX1_become 72 = .ok (.aload_n 1, 1) := by decide +kernel
theorem dX1_become_73 : decode cX1_become 73 = .ok (.getfield 31, 3) := by decide +kernel
theorem dX1_become_76 : decode cX1_become 76 = .ok (.invokevirtual 53, 3) := by decide +kernel
theorem dX1_become_79 : decode cX1_become 79 = .ok (.aload_n 1, 1) := by decide +kernel
theorem dX1_become_80 : decode cX1_become 80 = .ok (.getfield 35, 3) := by decide +kernel
theorem dX1_become_83 : decode cX1_become 83 = .ok (.iconst 0, 1) := by decide +kernel
theorem dX1_become_84 : decode cX1_become 84 = .ok (.aload_n 0, 1) := by decide +kernel
theorem dX1_become_85 : decode cX1_become 85 = .ok (.getfield 35, 3) := by decide +kernel
theorem dX1_become_88 : decode cX1_become 88 = .ok (.iconst 0, 1) := by decide +kernel
theorem dX1_become_89 : decode cX1_become 89 = .ok (.bipush 8, 2) := by decide +kernel
theorem dX1_become_91 : decode cX1_become 91 = .ok (.invokestatic 47, 3) := by decide +kernel
theorem dX1_become_94 : decode cX1_become 94 = .ok (.aload_n 0, 1) := by decide +kernel
theorem dX1_become_95 : decode cX1_become 95 = .ok (.getfield 38, 3) := by decide +kernel
theorem dX1_become_98 : decode cX1_become 98 = .ok (.aload_n 1, 1) := by decide +kernel
theorem dX1_become_99 : decode cX1_become 99 = .ok (.getfield 38, 3) := by decide +kernel
theorem dX1_become_102 : decode cX1_become 102 = .ok (.invokevirtual 53, 3) := by decide +kernel
theorem dX1_become_105 : decode cX1_become 105 = .ok (.aload_n 1, 1) := by decide +kernel
theorem dX1_become_106 : decode cX1_become 106 = .ok (.getfield 41, 3) := by decide +kernel
theorem dX1_become_109 : decode cX1_become 109 = .ok (.iconst 0, 1) := by decide +kernel
theorem dX1_become_110 : decode cX1_become 110 = .ok (.aload_n 0, 1) := by decide +kernel
theorem dX1_become_111 : decode cX1_become 111 = .ok (.getfield 41, 3) := by decide +kernel
theorem dX1_become_114 : decode cX1_become 114 = .ok (.iconst 0, 1) := by decide +kernel
theorem dX1_become_115 : decode cX1_become 115 = .ok (.bipush 8, 2) := by decide +kernel
theorem dX1_become_117 : decode cX1_become 117 = .ok (.invokestatic 47, 3) := by decide +kernel
theorem dX1_become_120 : decode cX1_become 120 = .ok (.aload_n 1, 1) := by decide +kernel
theorem dX1_become_121 : decode cX1_become 121 = .ok (.getfield 44, 3) := by decide +kernel
theorem dX1_become_124 : decode cX1_become 124 = .ok (.iconst 0, 1) := by decide +kernel
theorem dX1_become_125 : decode cX1_become 125 = .ok (.aload_n 0, 1) := by decide +kernel
theorem dX1_become_126 : decode cX1_become 126 = .ok (.getfield 44, 3) := by decide +kernel
theorem dX1_become_129 : decode cX1_become 129 = .ok (.iconst 0, 1) := by decide +kernel
theorem dX1_become_130 : decode cX1_become 130 = .ok (.bipush 8, 2) := by decide +kernel
theorem dX1_become_132 : decode cX1_become 132 = .ok (.invokestatic 47, 3) := by decide +kernel
theorem dX1_become_135 : decode cX1_become 135 = .ok (.return_, 1) := by decide +kernel
theorem dX1_countUnknown_0 : decode cX1_countUnknown 0 = .ok (.iconst 0, 1) := by decide +kernel
theorem dX1_countUnknown_1 : decode cX1_countUnknown 1 = .ok (.istore_n 1, 1) := by decide +kernel
theorem dX1_countUnknown_2 : decode cX1_countUnknown 2 = .ok (.iconst 0, 1) := by decide +kernel
theorem dX1_countUnknown_3 : decode cX1_countUnknown 3 = .ok (.istore_n 2, 1) := by decide +kernel
theorem dX1_countUnknown_4 : decode cX1_countUnknown 4 = .ok (.iload_n 2, 1) := by decide +kernel
theorem dX1_countUnknown_5 : decode cX1_countUnknown 5 = .ok (.bipush 100, 2) := by decide +kernel
theorem dX1_countUnknown_7 : decode cX1_countUnknown 7 = .ok (.if_icmp .ge 41, 3) := by decide +kernel
theorem dX1_countUnknown_10 : decode cX1_countUnknown 10 = .ok (.iload_n 1, 1) := by decide +kernel
theorem dX1_countUnknown_11 : decode cX1_countUnknown 11 = .ok (.aload_n 0, 1) := by decide +kernel
theorem dX1_countUnknown_12 : decode cX1_countUnknown 12 = .ok (.getfield 25, 3) := by decide +kernel
theorem dX1_countUnknown_15 : decode cX1_countUnknown 15 = .ok (.iload_n 2, 1) := by decide +kernel
theorem dX1_countUnknown_16 : decode cX1_countUnknown 16 = .ok (.iaload, 1) := by decide +kernel
theorem dX1_countUnknown_17 : decode cX1_countUnknown 17 = .ok (.ifCond .eq 22, 3) := by decide +kernel
theorem dX1_countUnknown_39 : decode cX1_countUnknown 39 = .ok (.iconst 0, 1) := by decide +kernel
theorem dX1_countUnknown_40 : decode cX1_countUnknown 40 = .ok (.iadd, 1) := by decide +kernel
theorem dX1_countUnknown_41 : decode cX1_countUnknown 41 = .ok (.istore_n 1, 1) := by decide +kernel
theorem dX1_countUnknown_42 : decode cX1_countUnknown 42 = .ok (.iinc 2 1, 3) := by decide +kernel
theorem dX1_countUnknown_45 : decode cX1_countUnknown 45 = .ok (.goto (-41), 3) := by decide +kernel
theorem dX1_countUnknown_48 : decode cX1_countUnknown 48 = .ok (.iload_n 1, 1) := by decide +kernel
theorem dX1_countUnknown_49 : decode cX1_countUnknown 49 = .ok (.ireturn, 1) := by decide +kernel
theorem dX1_countWays_0 : decode cX1_countWays 0 = .ok (.iconst 0, 1) := by decide +kernel
theorem dX1_countWays_1 : decode cX1_countWays 1 = .ok (.istore_n 1, 1) := by decide +kernel
theorem dX1_countWays_2 : decode cX1_countWays 2 = .ok (.iconst 0, 1) := by decide +kernel
theorem dX1_countWays_3 : decode cX1_countWays 3 = .ok (.istore_n 2, 1) := by decide +kernel
theorem dX1_countWays_4 : decode cX1_countWays 4 = .ok (.iload_n 2, 1) := by decide +kernel
theorem dX1_countWays_5 : decode cX1_countWays 5 = .ok (.bipush 100, 2) := by decide +kernel
theorem dX1_countWays_7 : decode cX1_countWays 7 = .ok (.if_icmp .ge 26, 3) := by decide +kernel
theorem dX1_countWays_10 : decode cX1_countWays 10 = .ok (.iload_n 1, 1) := by decide +kernel
theorem dX1_countWays_11 : decode cX1_countWays 11 = .ok (.aload_n 0, 1) := by decide +kernel
theorem dX1_countWays_12 : decode cX1_countWays 12 = .ok (.getfield 25, 3) := by decide +kernel
theorem dX1_countWays_15 : decode cX1_countWays 15 = .ok (.iload_n 2, 1) := by decide +kernel
theorem dX1_countWays_16 : decode cX1_countWays 16 = .ok (.iaload, 1) := by decide +kernel
theorem dX1_countWays_17 : decode cX1_countWays 17 = .ok (.ifCond .ne 7, 3) := by decide +kernel
theorem dX1_countWays_20 : decode cX1_countWays 20 = .ok (.iconst 0, 1) := by decide +kernel
theorem dX1_countWays_21 : decode cX1_countWays 21 = .ok (.goto 4, 3) := by decide +kernel
theorem dX1_countWays_25 : decode cX1_countWays 25 = .ok (.iadd, 1) := by decide +kernel
theorem dX1_countWays_26 : decode cX1_countWays 26 = .ok (.istore_n 1, 1) := by decide +kernel
theorem dX1_countWays_27 : decode cX1_countWays 27 = .ok (.iinc 2 1, 3) := by decide +kernel
theorem dX1_countWays_30 : decode cX1_countWays 30 = .ok (.goto (-26), 3) := by decide +kernel
theorem dX1_countWays_33 : decode cX1_countWays 33 = .ok (.iload_n 1, 1) := by decide +kernel
theorem dX1_countWays_34 : decode cX1_countWays 34 = .ok (.ireturn, 1) := by decide +kernel
theorem dX1_hollowSet_0 : decode cX1_hollowSet 0 = .ok (.iconst 0, 1) := by decide +kernel
theorem dX1_hollowSet_1 : decode cX1_hollowSet 1 = .ok (.istore_n 1, 1) := by decide +kernel
theorem dX1_hollowSet_2 : decode cX1_hollowSet 2 = .ok (.iconst 0, 1) := by decide +kernel
theorem dX1_hollowSet_3 : decode cX1_hollowSet 3 = .ok (.istore_n 2, 1) := by decide +kernel
theorem dX1_hollowSet_4 : decode cX1_hollowSet 4 = .ok (.iload_n 2, 1) := by decide +kernel
theorem dX1_hollowSet_5 : decode cX1_hollowSet 5 = .ok (.aload_n 0, 1) := by decide +kernel
theorem dX1_hollowSet_6 : decode cX1_hollowSet 6 = .ok (.getfield 9, 3) := by decide +kernel
theorem dX1_hollowSet_9 : decode cX1_hollowSet 9 = .ok (.if_icmp .ge 53, 3) := by decide +kernel
theorem dX1_hollowSet_62 : decode cX1_hollowSet 62 = .ok (.iload_n 1, 1) := by decide +kernel
theorem dX1_hollowSet_63 : decode cX1_hollowSet 63 = .ok (.ireturn, 1) := by decide +kernel
theorem dX1_isPlace_0 : decode cX1_isPlace 0 = .ok (.lload_n 1, 1) := by decide +kernel
theorem dX1_isPlace_1 : decode cX1_isPlace 1 = .ok (.lconst 0, 1) := by decide +kernel
theorem dX1_isPlace_2 : decode cX1_isPlace 2 = .ok (.lcmp, 1) := by decide +kernel
theorem dX1_isPlace_3 : decode cX1_isPlace 3 = .ok (.ifCond .lt 17, 3) := by decide +kernel
theorem dX1_isPlace_6 : decode cX1_isPlace 6 = .ok (.lload_n 1, 1) := by decide +kernel
theorem dX1_isPlace_7 : decode cX1_isPlace 7 = .ok (.aload_n 0, 1) := by decide +kernel
theorem dX1_isPlace_8 : decode cX1_isPlace 8 = .ok (.getfield 9, 3) := by decide +kernel
theorem dX1_isPlace_11 : decode cX1_isPlace 11 = .ok (.i2l, 1) := by decide +kernel
theorem dX1_isPlace_12 : decode cX1_isPlace 12 = .ok (.lcmp, 1) := by decide +kernel
theorem dX1_isPlace_13 : decode cX1_isPlace 13 = .ok (.ifCond .ge 7, 3) := by decide +kernel
theorem dX1_isPlace_20 : decode cX1_isPlace 20 = .ok (.iconst 0, 1) := by decide +kernel
theorem dX1_isPlace_21 : decode cX1_isPlace 21 = .ok (.ireturn, 1) := by decide +kernel
theorem dX1_widestWay_0 : decode cX1_widestWay 0 = .ok (.iconst (-1), 1) := by decide +kernel
theorem dX1_widestWay_1 : decode cX1_widestWay 1 = .ok (.istore_n 1, 1) := by decide +kernel
theorem dX1_widestWay_2 : decode cX1_widestWay 2 = .ok (.iconst 0, 1) := by decide +kernel
theorem dX1_widestWay_3 : decode cX1_widestWay 3 = .ok (.istore_n 2, 1) := by decide +kernel
theorem dX1_widestWay_4 : decode cX1_widestWay 4 = .ok (.iconst 0, 1) := by decide +kernel
theorem dX1_widestWay_5 : decode cX1_widestWay 5 = .ok (.istore_n 3, 1) := by decide +kernel
theorem dX1_widestWay_6 : decode cX1_widestWay 6 = .ok (.iload_n 3, 1) := by decide +kernel
theorem dX1_widestWay_7 : decode cX1_widestWay 7 = .ok (.bipush 100, 2) := by decide +kernel
theorem dX1_widestWay_9 : decode cX1_widestWay 9 = .ok (.if_icmp .ge 52, 3) := by decide +kernel
theorem dX1_widestWay_12 : decode cX1_widestWay 12 = .ok (.aload_n 0, 1) := by decide +kernel
theorem dX1_widestWay_13 : decode cX1_widestWay 13 = .ok (.getfield 25, 3) := by decide +kernel
theorem dX1_widestWay_16 : decode cX1_widestWay 16 = .ok (.iload_n 3, 1) := by decide +kernel
theorem dX1_widestWay_17 : decode cX1_widestWay 17 = .ok (.iaload, 1) := by decide +kernel
theorem dX1_widestWay_18 : decode cX1_widestWay 18 = .ok (.iconst 1, 1) := by decide +kernel
theorem dX1_widestWay_19 : decode cX1_widestWay 19 = .ok (.if_icmp .ne 36, 3) := by decide +kernel
theorem dX1_widestWay_55 : decode cX1_widestWay 55 = .ok (.iinc 3 1, 3) := by decide +kernel
theorem dX1_widestWay_58 : decode cX1_widestWay 58 = .ok (.goto (-52), 3) := by decide +kernel
theorem dX1_widestWay_61 : decode cX1_widestWay 61 = .ok (.iload_n 1, 1) := by decide +kernel
theorem dX1_widestWay_62 : decode cX1_widestWay 62 = .ok (.ireturn, 1) := by decide +kernel
theorem dX2_learnIn_0 : decode cX2_learnIn 0 = .ok (.aload_n 0, 1) := by decide +kernel
theorem dX2_learnIn_1 : decode cX2_learnIn 1 = .ok (.iconst 0, 1) := by decide +kernel
theorem dX2_learnIn_2 : decode cX2_learnIn 2 = .ok (.putfield 7, 3) := by decide +kernel
theorem dX2_learnIn_5 : decode cX2_learnIn 5 = .ok (.iconst 0, 1) := by decide +kernel
theorem dX2_learnIn_6 : decode cX2_learnIn 6 = .ok (.istore_n 2, 1) := by decide +kernel
theorem dX2_learnIn_7 : decode cX2_learnIn 7 = .ok (.iconst 0, 1) := by decide +kernel
theorem dX2_learnIn_8 : decode cX2_learnIn 8 = .ok (.istore_n 3, 1) := by decide +kernel
theorem dX2_learnIn_9 : decode cX2_learnIn 9 = .ok (.iload_n 3, 1) := by decide +kernel
theorem dX2_learnIn_10 : decode cX2_learnIn 10 = .ok (.bipush 50, 2) := by decide +kernel
theorem dX2_learnIn_12 : decode cX2_learnIn 12 = .ok (.if_icmp .ge 70, 3) := by decide +kernel
theorem dX2_learnIn_15 : decode cX2_learnIn 15 = .ok (.aload_n 0, 1) := by decide +kernel
theorem dX2_learnIn_16 : decode cX2_learnIn 16 = .ok (.iconst 0, 1) := by decide +kernel
theorem dX2_learnIn_17 : decode cX2_learnIn 17 = .ok (.putfield 13, 3) := by decide +kernel
theorem dX2_learnIn_20 : decode cX2_learnIn 20 = .ok (.iconst 0, 1) := by decide +kernel
theorem dX2_learnIn_21 : decode cX2_learnIn 21 = .ok (.istore 4, 2) := by decide +kernel
theorem dX2_learnIn_23 : decode cX2_learnIn 23 = .ok (.iload 4, 2) := by decide +kernel
theorem dX2_learnIn_25 : decode cX2_learnIn 25 = .ok (.aload_n 1, 1) := by decide +kernel
theorem dX2_learnIn_26 : decode cX2_learnIn 26 = .ok (.getfield 17, 3) := by decide +kernel
theorem dX2_learnIn_29 : decode cX2_learnIn 29 = .ok (.getfield 23, 3) := by decide +kernel
theorem dX2_learnIn_32 : decode cX2_learnIn 32 = .ok (.if_icmp .ge 32, 3) := by decide +kernel
theorem dX2_learnIn_64 : decode cX2_learnIn 64 = .ok (.aload_n 0, 1) := by decide +kernel
theorem dX2_learnIn_65 : decode cX2_learnIn 65 = .ok (.getfield 13, 3) := by decide +kernel
theorem dX2_learnIn_68 : decode cX2_learnIn 68 = .ok (.ifCond .ne 5, 3) := by decide +kernel
theorem dX2_learnIn_71 : decode cX2_learnIn 71 = .ok (.iload_n 2, 1) := by decide +kernel
theorem dX2_learnIn_72 : decode cX2_learnIn 72 = .ok (.ireturn, 1) := by decide +kernel
theorem dX3_become_0 : decode cX3_become 0 = .ok (.aload_n 0, 1) := by decide +kernel
theorem dX3_become_1 : decode cX3_become 1 = .ok (.aload_n 1, 1) := by decide +kernel
theorem dX3_become_2 : decode cX3_become 2 = .ok (.getfield 9, 3) := by decide +kernel
theorem dX3_become_5 : decode cX3_become 5 = .ok (.putfield 9, 3) := by decide +kernel
theorem dX3_become_8 : decode cX3_become 8 = .ok (.aload_n 1, 1) := by decide +kernel
theorem dX3_become_9 : decode cX3_become 9 = .ok (.getfield 15, 3) := by decide +kernel
theorem dX3_become_12 : decode cX3_become 12 = .ok (.iconst 0, 1) := by decide +kernel
theorem dX3_become_13 : decode cX3_become 13 = .ok (.aload_n 0, 1) := by decide +kernel
theorem dX3_become_14 : decode cX3_become 14 = .ok (.getfield 15, 3) := by decide +kernel
theorem dX3_become_17 : decode cX3_become 17 = .ok (.iconst 0, 1) := by decide +kernel
theorem dX3_become_18 : decode cX3_become 18 = .ok (.bipush 8, 2) := by decide +kernel
theorem dX3_become_20 : decode cX3_become 20 = .ok (.invokestatic 29, 3) := by decide +kernel
theorem dX3_become_23 : decode cX3_become 23 = .ok (.aload_n 1, 1) := by decide +kernel
theorem dX3_become_24 : decode cX3_become 24 = .ok (.getfield 19, 3) := by decide +kernel
theorem dX3_become_27 : decode cX3_become 27 = .ok (.iconst 0, 1) := by decide +kernel
theorem dX3_become_28 : decode cX3_become 28 = .ok (.aload_n 0, 1) := by decide +kernel
theorem dX3_become_29 : decode cX3_become 29 = .ok (.getfield 19, 3) := by decide +kernel
theorem dX3_become_32 : decode cX3_become 32 = .ok (.iconst 0, 1) := by decide +kernel
theorem dX3_become_33 : decode cX3_become 33 = .ok (.bipush 48, 2) := by decide +kernel
theorem dX3_become_35 : decode cX3_become 35 = .ok (.invokestatic 29, 3) := by decide +kernel
theorem dX3_become_38 : decode cX3_become 38 = .ok (.return_, 1) := by decide +kernel
theorem dX3_has_0 : decode cX3_has 0 = .ok (.iload_n 1, 1) := by decide +kernel
theorem dX3_has_1 : decode cX3_has 1 = .ok (.ifCond .lt 15, 3) := by decide +kernel
theorem dX3_has_4 : decode cX3_has 4 = .ok (.iload_n 1, 1) := by decide +kernel
theorem dX3_has_5 : decode cX3_has 5 = .ok (.aload_n 0, 1) := by decide +kernel
theorem dX3_has_6 : decode cX3_has 6 = .ok (.getfield 9, 3) := by decide +kernel
theorem dX3_has_9 : decode cX3_has 9 = .ok (.if_icmp .ge 7, 3) := by decide +kernel
theorem dX3_has_16 : decode cX3_has 16 = .ok (.iconst 0, 1) := by decide +kernel
theorem dX3_has_17 : decode cX3_has 17 = .ok (.ireturn, 1) := by decide +kernel
theorem dX4_begin_0 : decode cX4_begin 0 = .ok (.aload_n 0, 1) := by decide +kernel
theorem dX4_begin_1 : decode cX4_begin 1 = .ok (.iload_n 1, 1) := by decide +kernel
theorem dX4_begin_2 : decode cX4_begin 2 = .ok (.putfield 9, 3) := by decide +kernel
theorem dX4_begin_5 : decode cX4_begin 5 = .ok (.aload_n 0, 1) := by decide +kernel
theorem dX4_begin_6 : decode cX4_begin 6 = .ok (.iload_n 2, 1) := by decide +kernel
theorem dX4_begin_7 : decode cX4_begin 7 = .ok (.putfield 15, 3) := by decide +kernel
theorem dX4_begin_10 : decode cX4_begin 10 = .ok (.iconst 0, 1) := by decide +kernel
theorem dX4_begin_11 : decode cX4_begin 11 = .ok (.istore_n 3, 1) := by decide +kernel
theorem dX4_begin_12 : decode cX4_begin 12 = .ok (.iload_n 3, 1) := by decide +kernel
theorem dX4_begin_13 : decode cX4_begin 13 = .ok (.bipush 40, 2) := by decide +kernel
theorem dX4_begin_15 : decode cX4_begin 15 = .ok (.if_icmp .ge 16, 3) := by decide +kernel
theorem dX4_begin_18 : decode cX4_begin 18 = .ok (.aload_n 0, 1) := by decide +kernel
theorem dX4_begin_19 : decode cX4_begin 19 = .ok (.getfield 18, 3) := by decide +kernel
theorem dX4_begin_22 : decode cX4_begin 22 = .ok (.iload_n 3, 1) := by decide +kernel
theorem dX4_begin_23 : decode cX4_begin 23 = .ok (.lconst 0, 1) := by decide +kernel
theorem dX4_begin_24 : decode cX4_begin 24 = .ok (.lastore, 1) := by decide +kernel
theorem dX4_begin_25 : decode cX4_begin 25 = .ok (.iinc 3 1, 3) := by decide +kernel
theorem dX4_begin_28 : decode cX4_begin 28 = .ok (.goto (-16), 3) := by decide +kernel
theorem dX4_begin_31 : decode cX4_begin 31 = .ok (.return_, 1) := by decide +kernel
theorem dX4_isMissing_0 : decode cX4_isMissing 0 = .ok (.aload_n 0, 1) := by decide +kernel
theorem dX4_isMissing_1 : decode cX4_isMissing 1 = .ok (.getfield 9, 3) := by decide +kernel
theorem dX4_isMissing_4 : decode cX4_isMissing 4 = .ok (.ifCond .ne 7, 3) := by decide +kernel
theorem dX4_isMissing_7 : decode cX4_isMissing 7 = .ok (.iconst 1, 1) := by decide +kernel
theorem dX4_isMissing_8 : decode cX4_isMissing 8 = .ok (.goto 4, 3) := by decide +kernel
theorem dX4_isMissing_12 : decode cX4_isMissing 12 = .ok (.ireturn, 1) := by decide +kernel
theorem dX5_climb_0 : decode cX5_climb 0 = .ok (.iconst 0, 1) := by decide +kernel
theorem dX5_climb_1 : decode cX5_climb 1 = .ok (.istore_n 2, 1) := by decide +kernel
theorem dX5_climb_2 : decode cX5_climb 2 = .ok (.iload_n 2, 1) := by decide +kernel
theorem dX5_climb_3 : decode cX5_climb 3 = .ok (.aload_n 1, 1) := by decide +kernel
theorem dX5_climb_4 : decode cX5_climb 4 = .ok (.getfield 22, 3) := by decide +kernel
theorem dX5_climb_7 : decode cX5_climb 7 = .ok (.if_icmp .ge 16, 3) := by decide +kernel
theorem dX5_climb_23 : decode cX5_climb 23 = .ok (.iconst 0, 1) := by decide +kernel
theorem dX5_climb_24 : decode cX5_climb 24 = .ok (.istore_n 2, 1) := by decide +kernel
theorem dX5_climb_25 : decode cX5_climb 25 = .ok (.iload_n 2, 1) := by decide +kernel
theorem dX5_climb_26 : decode cX5_climb 26 = .ok (.aload_n 1, 1) := by decide +kernel
theorem dX5_climb_27 : decode cX5_climb 27 = .ok (.getfield 22, 3) := by decide +kernel
theorem dX5_climb_30 : decode cX5_climb 30 = .ok (.if_icmp .ge 24, 3) := by decide +kernel
theorem dX5_climb_54 : decode cX5_climb 54 = .ok (.return_, 1) := by decide +kernel
theorem dX5_doFit_0 : decode cX5_doFit 0 = .ok (.iconst 0, 1) := by decide +kernel
theorem dX5_doFit_1 : decode cX5_doFit 1 = .ok (.istore_n 2, 1) := by decide +kernel
theorem dX5_doFit_2 : decode cX5_doFit 2 = .ok (.iload_n 2, 1) := by decide +kernel
theorem dX5_doFit_3 : decode cX5_doFit 3 = .ok (.aload_n 1, 1) := by decide +kernel
theorem dX5_doFit_4 : decode cX5_doFit 4 = .ok (.getfield 22, 3) := by decide +kernel
theorem dX5_doFit_7 : decode cX5_doFit 7 = .ok (.if_icmp .ge 60, 3) := by decide +kernel
theorem dX5_doFit_67 : decode cX5_doFit 67 = .ok (.iconst 1, 1) := by decide +kernel
theorem dX5_doFit_68 : decode cX5_doFit 68 = .ok (.ireturn, 1) := by decide +kernel
theorem dX5_mostOffPaper_0 : decode cX5_mostOffPaper 0 = .ok (.iconst (-1), 1) := by decide +kernel
theorem dX5_mostOffPaper_1 : decode cX5_mostOffPaper 1 = .ok (.istore_n 1, 1) := by decide +kernel
theorem dX5_mostOffPaper_2 : decode cX5_mostOffPaper 2 = .ok (.iconst 0, 1) := by decide +kernel
theorem dX5_mostOffPaper_3 : decode cX5_mostOffPaper 3 = .ok (.istore_n 2, 1) := by decide +kernel
theorem dX5_mostOffPaper_4 : decode cX5_mostOffPaper 4 = .ok (.iload_n 2, 1) := by decide +kernel
theorem dX5_mostOffPaper_5 : decode cX5_mostOffPaper 5 = .ok (.aload_n 0, 1) := by decide +kernel
theorem dX5_mostOffPaper_6 : decode cX5_mostOffPaper 6 = .ok (.getfield 22, 3) := by decide +kernel
theorem dX5_mostOffPaper_9 : decode cX5_mostOffPaper 9 = .ok (.if_icmp .ge 60, 3) := by decide +kernel
theorem dX5_mostOffPaper_69 : decode cX5_mostOffPaper 69 = .ok (.iload_n 1, 1) := by decide +kernel
theorem dX5_mostOffPaper_70 : decode cX5_mostOffPaper 70 = .ok (.ireturn, 1) := by decide +kernel
theorem dX7_addByte_0 : decode cX7_addByte 0 = .ok (.aload_n 0, 1) := by decide +kernel
theorem dX7_addByte_1 : decode cX7_addByte 1 = .ok (.getfield 9, 3) := by decide +kernel
theorem dX7_addByte_4 : decode cX7_addByte 4 = .ok (.bipush 120, 2) := by decide +kernel
theorem dX7_addByte_6 : decode cX7_addByte 6 = .ok (.if_icmp .ge 23, 3) := by decide +kernel
theorem dX7_addByte_9 : decode cX7_addByte 9 = .ok (.aload_n 0, 1) := by decide +kernel
theorem dX7_addByte_10 : decode cX7_addByte 10 = .ok (.getfield 15, 3) := by decide +kernel
theorem dX7_addByte_13 : decode cX7_addByte 13 = .ok (.aload_n 0, 1) := by decide +kernel
theorem dX7_addByte_14 : decode cX7_addByte 14 = .ok (.getfield 9, 3) := by decide +kernel
theorem dX7_addByte_17 : decode cX7_addByte 17 = .ok (.iload_n 1, 1) := by decide +kernel
theorem dX7_addByte_18 : decode cX7_addByte 18 = .ok (.iastore, 1) := by decide +kernel
theorem dX7_addByte_19 : decode cX7_addByte 19 = .ok (.aload_n 0, 1) := by decide +kernel
theorem dX7_addByte_20 : decode cX7_addByte 20 = .ok (.dup, 1) := by decide +kernel
theorem dX7_addByte_21 : decode cX7_addByte 21 = .ok (.getfield 9, 3) := by decide +kernel
theorem dX7_addByte_24 : decode cX7_addByte 24 = .ok (.iconst 1, 1) := by decide +kernel
theorem dX7_addByte_25 : decode cX7_addByte 25 = .ok (.iadd, 1) := by decide +kernel
theorem dX7_addByte_26 : decode cX7_addByte 26 = .ok (.putfield 9, 3) := by decide +kernel
theorem dX7_addByte_29 : decode cX7_addByte 29 = .ok (.return_, 1) := by decide +kernel
theorem dX7_isWord_0 : decode cX7_isWord 0 = .ok (.aload_n 0, 1) := by decide +kernel
theorem dX7_isWord_1 : decode cX7_isWord 1 = .ok (.getfield 19, 3) := by decide +kernel
theorem dX7_isWord_4 : decode cX7_isWord 4 = .ok (.iconst 1, 1) := by decide +kernel
theorem dX7_isWord_5 : decode cX7_isWord 5 = .ok (.if_icmp .ne 19, 3) := by decide +kernel
theorem dX7_isWord_24 : decode cX7_isWord 24 = .ok (.iconst 0, 1) := by decide +kernel
theorem dX7_isWord_25 : decode cX7_isWord 25 = .ok (.ireturn, 1) := by decide +kernel
theorem dX7_kindAt_0 : decode cX7_kindAt 0 = .ok (.iload_n 1, 1) := by decide +kernel
theorem dX7_kindAt_1 : decode cX7_kindAt 1 = .ok (.aload_n 0, 1) := by decide +kernel
theorem dX7_kindAt_2 : decode cX7_kindAt 2 = .ok (.getfield 9, 3) := by decide +kernel
theorem dX7_kindAt_5 : decode cX7_kindAt 5 = .ok (.if_icmp .lt 5, 3) := by decide +kernel
theorem dX7_kindAt_8 : decode cX7_kindAt 8 = .ok (.iconst 0, 1) := by decide +kernel
theorem dX7_kindAt_9 : decode cX7_kindAt 9 = .ok (.ireturn, 1) := by decide +kernel
theorem dX7_step_0 : decode cX7_step 0 = .ok (.aload_n 0, 1) := by decide +kernel
theorem dX7_step_1 : decode cX7_step 1 = .ok (.getfield 25, 3) := by decide +kernel
theorem dX7_step_4 : decode cX7_step 4 = .ok (.istore_n 1, 1) := by decide +kernel
theorem dX7_step_5 : decode cX7_step 5 = .ok (.iload_n 1, 1) := by decide +kernel
theorem dX7_step_6 : decode cX7_step 6 = .ok (.aload_n 0, 1) := by decide +kernel
theorem dX7_step_7 : decode cX7_step 7 = .ok (.getfield 9, 3) := by decide +kernel
theorem dX7_step_10 : decode cX7_step 10 = .ok (.if_icmp .ge 20, 3) := by decide +kernel
theorem dX7_step_30 : decode cX7_step 30 = .ok (.aload_n 0, 1) := by decide +kernel
theorem dX7_step_31 : decode cX7_step 31 = .ok (.iload_n 1, 1) := by decide +kernel
theorem dX7_step_32 : decode cX7_step 32 = .ok (.putfield 22, 3) := by decide +kernel
theorem dX7_step_35 : decode cX7_step 35 = .ok (.aload_n 0, 1) := by decide +kernel
theorem dX7_step_36 : decode cX7_step 36 = .ok (.aload_n 0, 1) := by decide +kernel
theorem dX7_step_37 : decode cX7_step 37 = .ok (.iload_n 1, 1) := by decide +kernel
theorem dX7_step_38 : decode cX7_step 38 = .ok (.invokevirtual 142, 3) := by decide +kernel
theorem dX7_step_41 : decode cX7_step 41 = .ok (.putfield 19, 3) := by decide +kernel
theorem dX7_step_44 : decode cX7_step 44 = .ok (.aload_n 0, 1) := by decide +kernel
theorem dX7_step_45 : decode cX7_step 45 = .ok (.iconst 0, 1) := by decide +kernel
theorem dX7_step_46 : decode cX7_step 46 = .ok (.putfield 28, 3) := by decide +kernel
theorem dX7_step_49 : decode cX7_step 49 = .ok (.aload_n 0, 1) := by decide +kernel
theorem dX7_step_50 : decode cX7_step 50 = .ok (.getfield 19, 3) := by decide +kernel
theorem dX7_step_53 : decode cX7_step 53 = .ok (.iconst 1, 1) := by decide +kernel
theorem dX7_step_54 : decode cX7_step 54 = .ok (.if_icmp .eq 11, 3) := by decide +kernel
theorem dX7_step_57 : decode cX7_step 57 = .ok (.aload_n 0, 1) := by decide +kernel
theorem dX7_step_58 : decode cX7_step 58 = .ok (.getfield 19, 3) := by decide +kernel
theorem dX7_step_61 : decode cX7_step 61 = .ok (.iconst 2, 1) := by decide +kernel
theorem dX7_step_62 : decode cX7_step 62 = .ok (.if_icmp .ne 7, 3) := by decide +kernel
theorem dX7_step_69 : decode cX7_step 69 = .ok (.iconst 0, 1) := by decide +kernel
theorem dX7_step_70 : decode cX7_step 70 = .ok (.istore_n 2, 1) := by decide +kernel
theorem dX7_step_71 : decode cX7_step 71 = .ok (.iload_n 1, 1) := by decide +kernel
theorem dX7_step_72 : decode cX7_step 72 = .ok (.aload_n 0, 1) := by decide +kernel
theorem dX7_step_73 : decode cX7_step 73 = .ok (.getfield 9, 3) := by decide +kernel
theorem dX7_step_76 : decode cX7_step 76 = .ok (.if_icmp .ge 68, 3) := by decide +kernel
theorem dX7_step_144 : decode cX7_step 144 = .ok (.aload_n 0, 1) := by decide +kernel
theorem dX7_step_145 : decode cX7_step 145 = .ok (.iload_n 1, 1) := by decide +kernel
theorem dX7_step_146 : decode cX7_step 146 = .ok (.putfield 25, 3) := by decide +kernel
theorem dX7_step_149 : decode cX7_step 149 = .ok (.return_, 1) := by decide +kernel
theorem dX7_takeItem_0 : decode cX7_takeItem 0 = .ok (.aload_n 0, 1) := by decide +kernel
theorem dX7_takeItem_1 : decode cX7_takeItem 1 = .ok (.ldc 41, 2) := by decide +kernel
theorem dX7_takeItem_3 : decode cX7_takeItem 3 = .ok (.invokevirtual 43, 3) := by decide +kernel
theorem dX7_takeItem_6 : decode cX7_takeItem 6 = .ok (.ifCond .eq 9, 3) := by decide +kernel
theorem dX7_takeItem_15 : decode cX7_takeItem 15 = .ok (.aload_n 0, 1) := by decide +kernel
theorem dX7_takeItem_16 : decode cX7_takeItem 16 = .ok (.ldc 50, 2) := by decide +kernel
theorem dX7_takeItem_18 : decode cX7_takeItem 18 = .ok (.invokevirtual 43, 3) := by decide +kernel
theorem dX7_takeItem_21 : decode cX7_takeItem 21 = .ok (.ifCond .eq 9, 3) := by decide +kernel
theorem dX7_takeItem_30 : decode cX7_takeItem 30 = .ok (.aload_n 0, 1) := by decide +kernel
theorem dX7_takeItem_31 : decode cX7_takeItem 31 = .ok (.ldc 55, 2) := by decide +kernel
theorem dX7_takeItem_33 : decode cX7_takeItem 33 = .ok (.invokevirtual 43, 3) := by decide +kernel
theorem dX7_takeItem_36 : decode cX7_takeItem 36 = .ok (.ifCond .eq 15, 3) := by decide +kernel
theorem dX7_takeItem_51 : decode cX7_takeItem 51 = .ok (.iconst 0, 1) := by decide +kernel
theorem dX7_takeItem_52 : decode cX7_takeItem 52 = .ok (.ireturn, 1) := by decide +kernel
theorem dX7_tellTo_0 : decode cX7_tellTo 0 = .ok (.aload_n 0, 1) := by decide +kernel
theorem dX7_tellTo_1 : decode cX7_tellTo 1 = .ok (.iconst 0, 1) := by decide +kernel
theorem dX7_tellTo_2 : decode cX7_tellTo 2 = .ok (.putfield 25, 3) := by decide +kernel
theorem dX7_tellTo_5 : decode cX7_tellTo 5 = .ok (.aload_n 0, 1) := by decide +kernel
theorem dX7_tellTo_6 : decode cX7_tellTo 6 = .ok (.invokevirtual 34, 3) := by decide +kernel
theorem dX7_tellTo_9 : decode cX7_tellTo 9 = .ok (.iconst 1, 1) := by decide +kernel
theorem dX7_tellTo_10 : decode cX7_tellTo 10 = .ok (.istore_n 2, 1) := by decide +kernel
theorem dX7_tellTo_11 : decode cX7_tellTo 11 = .ok (.iload_n 2, 1) := by decide +kernel
theorem dX7_tellTo_12 : decode cX7_tellTo 12 = .ok (.bipush 120, 2) := by decide +kernel
theorem dX7_tellTo_14 : decode cX7_tellTo 14 = .ok (.if_icmp .gt 52, 3) := by decide +kernel
theorem dX7_tellTo_17 : decode cX7_tellTo 17 = .ok (.aload_n 0, 1) := by decide +kernel
theorem dX7_tellTo_18 : decode cX7_tellTo 18 = .ok (.aload_n 1, 1) := by decide +kernel
theorem dX7_tellTo_19 : decode cX7_tellTo 19 = .ok (.invokevirtual 37, 3) := by decide +kernel
theorem dX7_tellTo_22 : decode cX7_tellTo 22 = .ok (.ifCond .ne 10, 3) := by decide +kernel
theorem dX7_tellTo_25 : decode cX7_tellTo 25 = .ok (.iconst (-1), 1) := by decide +kernel
theorem dX7_tellTo_26 : decode cX7_tellTo 26 = .ok (.aload_n 0, 1) := by decide +kernel
theorem dX7_tellTo_27 : decode cX7_tellTo 27 = .ok (.getfield 22, 3) := by decide +kernel
theorem dX7_tellTo_30 : decode cX7_tellTo 30 = .ok (.isub, 1) := by decide +kernel
theorem dX7_tellTo_31 : decode cX7_tellTo 31 = .ok (.ireturn, 1) := by decide +kernel
theorem dX8_as_0 : decode cX8_as 0 = .ok (.aload_n 0, 1) := by decide +kernel
theorem dX8_as_1 : decode cX8_as 1 = .ok (.getfield 12, 3) := by decide +kernel
theorem dX8_as_4 : decode cX8_as 4 = .ok (.getfield 159, 3) := by decide +kernel
theorem dX8_as_7 : decode cX8_as 7 = .ok (.iload_n 1, 1) := by decide +kernel
theorem dX8_as_8 : decode cX8_as 8 = .ok (.invokevirtual 171, 3) := by decide +kernel
theorem dX8_as_11 : decode cX8_as 11 = .ok (.ifCond .eq 10, 3) := by decide +kernel
theorem dX8_as_21 : decode cX8_as 21 = .ok (.aload_n 0, 1) := by decide +kernel
theorem dX8_as_22 : decode cX8_as 22 = .ok (.ldc 95, 2) := by decide +kernel
theorem dX8_as_24 : decode cX8_as 24 = .ok (.invokevirtual 80, 3) := by decide +kernel
theorem dX8_as_27 : decode cX8_as 27 = .ok (.ireturn, 1) := by decide +kernel
theorem dX8_ask_0 : decode cX8_ask 0 = .ok (.aload_n 0, 1) := by decide +kernel
theorem dX8_ask_1 : decode cX8_ask 1 = .ok (.getfield 12, 3) := by decide +kernel
theorem dX8_ask_4 : decode cX8_ask 4 = .ok (.invokevirtual 256, 3) := by decide +kernel
theorem dX8_ask_7 : decode cX8_ask 7 = .ok (.istore_n 1, 1) := by decide +kernel
theorem dX8_ask_8 : decode cX8_ask 8 = .ok (.iload_n 1, 1) := by decide +kernel
theorem dX8_ask_9 : decode cX8_ask 9 = .ok (.ifCond .ge 12, 3) := by decide +kernel
theorem dX8_ask_12 : decode cX8_ask 12 = .ok (.aload_n 0, 1) := by decide +kernel
theorem dX8_ask_13 : decode cX8_ask 13 = .ok (.ldc 113, 2) := by decide +kernel
theorem dX8_ask_15 : decode cX8_ask 15 = .ok (.invokevirtual 80, 3) := by decide +kernel
theorem dX8_ask_18 : decode cX8_ask 18 = .ok (.goto 4, 3) := by decide +kernel
theorem dX8_ask_22 : decode cX8_ask 22 = .ok (.ireturn, 1) := by decide +kernel
theorem dX8_by_0 : decode cX8_by 0 = .ok (.aload_n 0, 1) := by decide +kernel
theorem dX8_by_1 : decode cX8_by 1 = .ok (.getfield 12, 3) := by decide +kernel
theorem dX8_by_4 : decode cX8_by 4 = .ok (.iload_n 1, 1) := by decide +kernel
theorem dX8_by_5 : decode cX8_by 5 = .ok (.i2l, 1) := by decide +kernel
theorem dX8_by_6 : decode cX8_by 6 = .ok (.invokevirtual 87, 3) := by decide +kernel
theorem dX8_by_9 : decode cX8_by 9 = .ok (.ifCond .eq 25, 3) := by decide +kernel
theorem dX8_by_34 : decode cX8_by 34 = .ok (.aload_n 0, 1) := by decide +kernel
theorem dX8_by_35 : decode cX8_by 35 = .ok (.ldc 95, 2) := by decide +kernel
theorem dX8_by_37 : decode cX8_by 37 = .ok (.invokevirtual 80, 3) := by decide +kernel
theorem dX8_by_40 : decode cX8_by 40 = .ok (.ireturn, 1) := by decide +kernel
theorem dX8_errands_0 : decode cX8_errands 0 = .ok (.aload_n 0, 1) := by decide +kernel
theorem dX8_errands_1 : decode cX8_errands 1 = .ok (.getfield 12, 3) := by decide +kernel
theorem dX8_errands_4 : decode cX8_errands 4 = .ok (.iload_n 1, 1) := by decide +kernel
theorem dX8_errands_5 : decode cX8_errands 5 = .ok (.i2l, 1) := by decide +kernel
theorem dX8_errands_6 : decode cX8_errands 6 = .ok (.invokevirtual 87, 3) := by decide +kernel
theorem dX8_errands_9 : decode cX8_errands 9 = .ok (.ifCond .eq 13, 3) := by decide +kernel
theorem dX8_errands_22 : decode cX8_errands 22 = .ok (.aload_n 0, 1) := by decide +kernel
theorem dX8_errands_23 : decode cX8_errands 23 = .ok (.ldc 95, 2) := by decide +kernel
theorem dX8_errands_25 : decode cX8_errands 25 = .ok (.invokevirtual 80, 3) := by decide +kernel
theorem dX8_errands_28 : decode cX8_errands 28 = .ok (.ireturn, 1) := by decide +kernel
theorem dX8_far_0 : decode cX8_far 0 = .ok (.aload_n 0, 1) := by decide +kernel
theorem dX8_far_1 : decode cX8_far 1 = .ok (.getfield 12, 3) := by decide +kernel
theorem dX8_far_4 : decode cX8_far 4 = .ok (.iload_n 1, 1) := by decide +kernel
theorem dX8_far_5 : decode cX8_far 5 = .ok (.i2l, 1) := by decide +kernel
theorem dX8_far_6 : decode cX8_far 6 = .ok (.invokevirtual 87, 3) := by decide +kernel
theorem dX8_far_9 : decode cX8_far 9 = .ok (.ifCond .eq 15, 3) := by decide +kernel
theorem dX8_far_24 : decode cX8_far 24 = .ok (.aload_n 0, 1) := by decide +kernel
theorem dX8_far_25 : decode cX8_far 25 = .ok (.ldc 95, 2) := by decide +kernel
theorem dX8_far_27 : decode cX8_far 27 = .ok (.invokevirtual 80, 3) := by decide +kernel
theorem dX8_far_30 : decode cX8_far 30 = .ok (.ireturn, 1) := by decide +kernel
theorem dX8_finding_0 : decode cX8_finding 0 = .ok (.ldc 95, 2) := by decide +kernel
theorem dX8_finding_2 : decode cX8_finding 2 = .ok (.iload_n 1, 1) := by decide +kernel
theorem dX8_finding_3 : decode cX8_finding 3 = .ok (.isub, 1) := by decide +kernel
theorem dX8_finding_4 : decode cX8_finding 4 = .ok (.istore_n 2, 1) := by decide +kernel
theorem dX8_finding_5 : decode cX8_finding 5 = .ok (.iload_n 2, 1) := by decide +kernel
theorem dX8_finding_6 : decode cX8_finding 6 = .ok (.ifCond .lt 19, 3) := by decide +kernel
theorem dX8_finding_9 : decode cX8_finding 9 = .ok (.iload_n 2, 1) := by decide +kernel
theorem dX8_finding_10 : decode cX8_finding 10 = .ok (.bipush 7, 2) := by decide +kernel
theorem dX8_finding_12 : decode cX8_finding 12 = .ok (.if_icmp .ge 13, 3) := by decide +kernel
theorem dX8_finding_15 : decode cX8_finding 15 = .ok (.aload_n 0, 1) := by decide +kernel
theorem dX8_finding_16 : decode cX8_finding 16 = .ok (.getfield 70, 3) := by decide +kernel
theorem dX8_finding_19 : decode cX8_finding 19 = .ok (.iload_n 2, 1) := by decide +kernel
theorem dX8_finding_20 : decode cX8_finding 20 = .ok (.dup2, 1) := by decide +kernel
theorem dX8_finding_21 : decode cX8_finding 21 = .ok (.iaload, 1) := by decide +kernel
theorem dX8_finding_22 : decode cX8_finding 22 = .ok (.iconst 1, 1) := by decide +kernel
theorem dX8_finding_23 : decode cX8_finding 23 = .ok (.iadd, 1) := by decide +kernel
theorem dX8_finding_24 : decode cX8_finding 24 = .ok (.iastore, 1) := by decide +kernel
theorem dX8_finding_25 : decode cX8_finding 25 = .ok (.iload_n 1, 1) := by decide +kernel
theorem dX8_finding_26 : decode cX8_finding 26 = .ok (.ireturn, 1) := by decide +kernel
theorem dX8_fit_0 : decode cX8_fit 0 = .ok (.aload_n 0, 1) := by decide +kernel
theorem dX8_fit_1 : decode cX8_fit 1 = .ok (.getfield 46, 3) := by decide +kernel
theorem dX8_fit_4 : decode cX8_fit 4 = .ok (.aload_n 0, 1) := by decide +kernel
theorem dX8_fit_5 : decode cX8_fit 5 = .ok (.getfield 12, 3) := by decide +kernel
theorem dX8_fit_8 : decode cX8_fit 8 = .ok (.invokevirtual 209, 3) := by decide +kernel
theorem dX8_fit_11 : decode cX8_fit 11 = .ok (.aload_n 0, 1) := by decide +kernel
theorem dX8_fit_12 : decode cX8_fit 12 = .ok (.getfield 46, 3) := by decide +kernel
theorem dX8_fit_15 : decode cX8_fit 15 = .ok (.aload_n 0, 1) := by decide +kernel
theorem dX8_fit_16 : decode cX8_fit 16 = .ok (.getfield 12, 3) := by decide +kernel
theorem dX8_fit_19 : decode cX8_fit 19 = .ok (.invokevirtual 212, 3) := by decide +kernel
theorem dX8_fit_22 : decode cX8_fit 22 = .ok (.ifCond .eq 7, 3) := by decide +kernel
theorem dX8_fit_25 : decode cX8_fit 25 = .ok (.iconst 1, 1) := by decide +kernel
theorem dX8_fit_26 : decode cX8_fit 26 = .ok (.goto 4, 3) := by decide +kernel
theorem dX8_fit_30 : decode cX8_fit 30 = .ok (.ireturn, 1) := by decide +kernel
theorem dX8_goes_0 : decode cX8_goes 0 = .ok (.aload_n 0, 1) := by decide +kernel
theorem dX8_goes_1 : decode cX8_goes 1 = .ok (.getfield 12, 3) := by decide +kernel
theorem dX8_goes_4 : decode cX8_goes 4 = .ok (.iload_n 1, 1) := by decide +kernel
theorem dX8_goes_5 : decode cX8_goes 5 = .ok (.i2l, 1) := by decide +kernel
theorem dX8_goes_6 : decode cX8_goes 6 = .ok (.invokevirtual 87, 3) := by decide +kernel
theorem dX8_goes_9 : decode cX8_goes 9 = .ok (.ifCond .eq 14, 3) := by decide +kernel
theorem dX8_goes_23 : decode cX8_goes 23 = .ok (.aload_n 0, 1) := by decide +kernel
theorem dX8_goes_24 : decode cX8_goes 24 = .ok (.ldc 95, 2) := by decide +kernel
theorem dX8_goes_26 : decode cX8_goes 26 = .ok (.invokevirtual 80, 3) := by decide +kernel
theorem dX8_goes_29 : decode cX8_goes 29 = .ok (.ireturn, 1) := by decide +kernel
theorem dX8_height_0 : decode cX8_height 0 = .ok (.aload_n 0, 1) := by decide +kernel
theorem dX8_height_1 : decode cX8_height 1 = .ok (.getfield 12, 3) := by decide +kernel
theorem dX8_height_4 : decode cX8_height 4 = .ok (.iload_n 1, 1) := by decide +kernel
theorem dX8_height_5 : decode cX8_height 5 = .ok (.i2l, 1) := by decide +kernel
theorem dX8_height_6 : decode cX8_height 6 = .ok (.invokevirtual 87, 3) := by decide +kernel
theorem dX8_height_9 : decode cX8_height 9 = .ok (.ifCond .ne 10, 3) := by decide +kernel
theorem dX8_height_12 : decode cX8_height 12 = .ok (.aload_n 0, 1) := by decide +kernel
theorem dX8_height_13 : decode cX8_height 13 = .ok (.ldc 95, 2) := by decide +kernel
theorem dX8_height_15 : decode cX8_height 15 = .ok (.invokevirtual 80, 3) := by decide +kernel
theorem dX8_height_18 : decode cX8_height 18 = .ok (.ireturn, 1) := by decide +kernel
theorem dX8_hollow_0 : decode cX8_hollow 0 = .ok (.aload_n 0, 1) := by decide +kernel
theorem dX8_hollow_1 : decode cX8_hollow 1 = .ok (.getfield 12, 3) := by decide +kernel
theorem dX8_hollow_4 : decode cX8_hollow 4 = .ok (.invokevirtual 272, 3) := by decide +kernel
theorem dX8_hollow_7 : decode cX8_hollow 7 = .ok (.ireturn, 1) := by decide +kernel
theorem dX8_image_0 : decode cX8_image 0 = .ok (.aload_n 0, 1) := by decide +kernel
theorem dX8_image_1 : decode cX8_image 1 = .ok (.getfield 16, 3) := by decide +kernel
theorem dX8_image_4 : decode cX8_image 4 = .ok (.aload_n 0, 1) := by decide +kernel
theorem dX8_image_5 : decode cX8_image 5 = .ok (.getfield 12, 3) := by decide +kernel
theorem dX8_image_8 : decode cX8_image 8 = .ok (.invokevirtual 241, 3) := by decide +kernel
theorem dX8_image_11 : decode cX8_image 11 = .ok (.aload_n 0, 1) := by decide +kernel
theorem dX8_image_12 : decode cX8_image 12 = .ok (.iconst 1, 1) := by decide +kernel
theorem dX8_image_13 : decode cX8_image 13 = .ok (.putfield 22, 3) := by decide +kernel
theorem dX8_image_16 : decode cX8_image 16 = .ok (.iconst 1, 1) := by decide +kernel
theorem dX8_image_17 : decode cX8_image 17 = .ok (.ireturn, 1) := by decide +kernel
theorem dX8_isKind_0 : decode cX8_isKind 0 = .ok (.iload_n 0, 1) := by decide +kernel
theorem dX8_isKind_1 : decode cX8_isKind 1 = .ok (.iconst 0, 1) := by decide +kernel
theorem dX8_isKind_2 : decode cX8_isKind 2 = .ok (.bipush 6, 2) := by decide +kernel
theorem dX8_isKind_4 : decode cX8_isKind 4 = .ok (.invokestatic 91, 3) := by decide +kernel
theorem dX8_isKind_7 : decode cX8_isKind 7 = .ok (.ireturn, 1) := by decide +kernel
theorem dX8_isLooped_0 : decode cX8_isLooped 0 = .ok (.aload_n 0, 1) := by decide +kernel
theorem dX8_isLooped_1 : decode cX8_isLooped 1 = .ok (.getfield 29, 3) := by decide +kernel
theorem dX8_isLooped_4 : decode cX8_isLooped 4 = .ok (.aload_n 0, 1) := by decide +kernel
theorem dX8_isLooped_5 : decode cX8_isLooped 5 = .ok (.getfield 12, 3) := by decide +kernel
theorem dX8_isLooped_8 : decode cX8_isLooped 8 = .ok (.invokevirtual 146, 3) := by decide +kernel
theorem dX8_isLooped_11 : decode cX8_isLooped 11 = .ok (.aload_n 0, 1) := by decide +kernel
theorem dX8_isLooped_12 : decode cX8_isLooped 12 = .ok (.getfield 29, 3) := by decide +kernel
theorem dX8_isLooped_15 : decode cX8_isLooped 15 = .ok (.invokevirtual 332, 3) := by decide +kernel
theorem dX8_isLooped_18 : decode cX8_isLooped 18 = .ok (.ireturn, 1) := by decide +kernel
theorem dX8_isSheet_0 : decode cX8_isSheet 0 = .ok (.iload_n 0, 1) := by decide +kernel
theorem dX8_isSheet_1 : decode cX8_isSheet 1 = .ok (.iconst 0, 1) := by decide +kernel
theorem dX8_isSheet_2 : decode cX8_isSheet 2 = .ok (.iconst 3, 1) := by decide +kernel
theorem dX8_isSheet_3 : decode cX8_isSheet 3 = .ok (.invokestatic 91, 3) := by decide +kernel
theorem dX8_isSheet_6 : decode cX8_isSheet 6 = .ok (.ireturn, 1) := by decide +kernel
theorem dX8_isWithin_0 : decode cX8_isWithin 0 = .ok (.iload_n 0, 1) := by decide +kernel
theorem dX8_isWithin_1 : decode cX8_isWithin 1 = .ok (.iload_n 1, 1) := by decide +kernel
theorem dX8_isWithin_2 : decode cX8_isWithin 2 = .ok (.if_icmp .lt 12, 3) := by decide +kernel
theorem dX8_isWithin_5 : decode cX8_isWithin 5 = .ok (.iload_n 0, 1) := by decide +kernel
theorem dX8_isWithin_6 : decode cX8_isWithin 6 = .ok (.iload_n 2, 1) := by decide +kernel
theorem dX8_isWithin_7 : decode cX8_isWithin 7 = .ok (.if_icmp .gt 7, 3) := by decide +kernel
theorem dX8_isWithin_10 : decode cX8_isWithin 10 = .ok (.iconst 1, 1) := by decide +kernel
theorem dX8_isWithin_11 : decode cX8_isWithin 11 = .ok (.goto 4, 3) := by decide +kernel
theorem dX8_isWithin_14 : decode cX8_isWithin 14 = .ok (.iconst 0, 1) := by decide +kernel
theorem dX8_isWithin_15 : decode cX8_isWithin 15 = .ok (.ireturn, 1) := by decide +kernel
theorem dX8_land_0 : decode cX8_land 0 = .ok (.aload_n 0, 1) := by decide +kernel
theorem dX8_land_1 : decode cX8_land 1 = .ok (.getfield 19, 3) := by decide +kernel
theorem dX8_land_4 : decode cX8_land 4 = .ok (.aload_n 0, 1) := by decide +kernel
theorem dX8_land_5 : decode cX8_land 5 = .ok (.getfield 12, 3) := by decide +kernel
theorem dX8_land_8 : decode cX8_land 8 = .ok (.invokevirtual 241, 3) := by decide +kernel
theorem dX8_land_11 : decode cX8_land 11 = .ok (.aload_n 0, 1) := by decide +kernel
theorem dX8_land_12 : decode cX8_land 12 = .ok (.getfield 60, 3) := by decide +kernel
theorem dX8_land_15 : decode cX8_land 15 = .ok (.aload_n 0, 1) := by decide +kernel
theorem dX8_land_16 : decode cX8_land 16 = .ok (.getfield 19, 3) := by decide +kernel
theorem dX8_land_19 : decode cX8_land 19 = .ok (.invokevirtual 282, 3) := by decide +kernel
theorem dX8_land_22 : decode cX8_land 22 = .ok (.istore_n 1, 1) := by decide +kernel
theorem dX8_land_23 : decode cX8_land 23 = .ok (.iload_n 1, 1) := by decide +kernel
theorem dX8_land_24 : decode cX8_land 24 = .ok (.ifCond .lt 14, 3) := by decide +kernel
theorem dX8_land_38 : decode cX8_land 38 = .ok (.aload_n 0, 1) := by decide +kernel
theorem dX8_land_39 : decode cX8_land 39 = .ok (.getfield 60, 3) := by decide +kernel
theorem dX8_land_42 : decode cX8_land 42 = .ok (.iconst 0, 1) := by decide +kernel
theorem dX8_land_43 : decode cX8_land 43 = .ok (.putfield 275, 3) := by decide +kernel
theorem dX8_land_46 : decode cX8_land 46 = .ok (.iload_n 1, 1) := by decide +kernel
theorem dX8_land_47 : decode cX8_land 47 = .ok (.ireturn, 1) := by decide +kernel
theorem dX8_learn_0 : decode cX8_learn 0 = .ok (.aload_n 0, 1) := by decide +kernel
theorem dX8_learn_1 : decode cX8_learn 1 = .ok (.getfield 53, 3) := by decide +kernel
theorem dX8_learn_4 : decode cX8_learn 4 = .ok (.aload_n 0, 1) := by decide +kernel
theorem dX8_learn_5 : decode cX8_learn 5 = .ok (.getfield 12, 3) := by decide +kernel
theorem dX8_learn_8 : decode cX8_learn 8 = .ok (.invokevirtual 238, 3) := by decide +kernel
theorem dX8_learn_11 : decode cX8_learn 11 = .ok (.ireturn, 1) := by decide +kernel
theorem dX8_lies_0 : decode cX8_lies 0 = .ok (.aload_n 0, 1) := by decide +kernel
theorem dX8_lies_1 : decode cX8_lies 1 = .ok (.getfield 19, 3) := by decide +kernel
theorem dX8_lies_4 : decode cX8_lies 4 = .ok (.aload_n 0, 1) := by decide +kernel
theorem dX8_lies_5 : decode cX8_lies 5 = .ok (.getfield 12, 3) := by decide +kernel
theorem dX8_lies_8 : decode cX8_lies 8 = .ok (.invokevirtual 241, 3) := by decide +kernel
theorem dX8_lies_11 : decode cX8_lies 11 = .ok (.aload_n 0, 1) := by decide +kernel
theorem dX8_lies_12 : decode cX8_lies 12 = .ok (.getfield 53, 3) := by decide +kernel
theorem dX8_lies_15 : decode cX8_lies 15 = .ok (.aload_n 0, 1) := by decide +kernel
theorem dX8_lies_16 : decode cX8_lies 16 = .ok (.getfield 19, 3) := by decide +kernel
theorem dX8_lies_19 : decode cX8_lies 19 = .ok (.invokevirtual 238, 3) := by decide +kernel
theorem dX8_lies_22 : decode cX8_lies 22 = .ok (.pop, 1) := by decide +kernel
theorem dX8_lies_23 : decode cX8_lies 23 = .ok (.aload_n 0, 1) := by decide +kernel
theorem dX8_lies_24 : decode cX8_lies 24 = .ok (.getfield 53, 3) := by decide +kernel
theorem dX8_lies_27 : decode cX8_lies 27 = .ok (.getfield 244, 3) := by decide +kernel
theorem dX8_lies_30 : decode cX8_lies 30 = .ok (.ireturn, 1) := by decide +kernel
theorem dX8_live_0 : decode cX8_live 0 = .ok (.aload_n 0, 1) := by decide +kernel
theorem dX8_live_1 : decode cX8_live 1 = .ok (.invokevirtual 128, 3) := by decide +kernel
theorem dX8_live_4 : decode cX8_live 4 = .ok (.ifCond .eq 10, 3) := by decide +kernel
theorem dX8_live_14 : decode cX8_live 14 = .ok (.aload_n 0, 1) := by decide +kernel
theorem dX8_live_15 : decode cX8_live 15 = .ok (.getfield 29, 3) := by decide +kernel
theorem dX8_live_18 : decode cX8_live 18 = .ok (.aload_n 0, 1) := by decide +kernel
theorem dX8_live_19 : decode cX8_live 19 = .ok (.getfield 12, 3) := by decide +kernel
theorem dX8_live_22 : decode cX8_live 22 = .ok (.invokevirtual 197, 3) := by decide +kernel
theorem dX8_live_25 : decode cX8_live 25 = .ok (.istore_n 1, 1) := by decide +kernel
theorem dX8_live_26 : decode cX8_live 26 = .ok (.iload_n 1, 1) := by decide +kernel
theorem dX8_live_27 : decode cX8_live 27 = .ok (.ifCond .ge 12, 3) := by decide +kernel
theorem dX8_live_30 : decode cX8_live 30 = .ok (.aload_n 0, 1) := by decide +kernel
theorem dX8_live_31 : decode cX8_live 31 = .ok (.ldc 113, 2) := by decide +kernel
theorem dX8_live_33 : decode cX8_live 33 = .ok (.invokevirtual 80, 3) := by decide +kernel
theorem dX8_live_36 : decode cX8_live 36 = .ok (.goto 4, 3) := by decide +kernel
theorem dX8_live_40 : decode cX8_live 40 = .ok (.ireturn, 1) := by decide +kernel
theorem dX8_longer_0 : decode cX8_longer 0 = .ok (.aload_n 0, 1) := by decide +kernel
theorem dX8_longer_1 : decode cX8_longer 1 = .ok (.getfield 12, 3) := by decide +kernel
theorem dX8_longer_4 : decode cX8_longer 4 = .ok (.iload_n 1, 1) := by decide +kernel
theorem dX8_longer_5 : decode cX8_longer 5 = .ok (.i2l, 1) := by decide +kernel
theorem dX8_longer_6 : decode cX8_longer 6 = .ok (.invokevirtual 87, 3) := by decide +kernel
theorem dX8_longer_9 : decode cX8_longer 9 = .ok (.ifCond .eq 15, 3) := by decide +kernel
theorem dX8_longer_24 : decode cX8_longer 24 = .ok (.aload_n 0, 1) := by decide +kernel
theorem dX8_longer_25 : decode cX8_longer 25 = .ok (.ldc 95, 2) := by decide +kernel
theorem dX8_longer_27 : decode cX8_longer 27 = .ok (.invokevirtual 80, 3) := by decide +kernel
theorem dX8_longer_30 : decode cX8_longer 30 = .ok (.ireturn, 1) := by decide +kernel
theorem dX8_loops_0 : decode cX8_loops 0 = .ok (.aload_n 0, 1) := by decide +kernel
theorem dX8_loops_1 : decode cX8_loops 1 = .ok (.getfield 29, 3) := by decide +kernel
theorem dX8_loops_4 : decode cX8_loops 4 = .ok (.aload_n 0, 1) := by decide +kernel
theorem dX8_loops_5 : decode cX8_loops 5 = .ok (.getfield 12, 3) := by decide +kernel
theorem dX8_loops_8 : decode cX8_loops 8 = .ok (.invokevirtual 146, 3) := by decide +kernel
theorem dX8_loops_11 : decode cX8_loops 11 = .ok (.aload_n 0, 1) := by decide +kernel
theorem dX8_loops_12 : decode cX8_loops 12 = .ok (.getfield 29, 3) := by decide +kernel
theorem dX8_loops_15 : decode cX8_loops 15 = .ok (.invokevirtual 150, 3) := by decide +kernel
theorem dX8_loops_18 : decode cX8_loops 18 = .ok (.ireturn, 1) := by decide +kernel
theorem dX8_meet_0 : decode cX8_meet 0 = .ok (.aload_n 0, 1) := by decide +kernel
theorem dX8_meet_1 : decode cX8_meet 1 = .ok (.getfield 12, 3) := by decide +kernel
theorem dX8_meet_4 : decode cX8_meet 4 = .ok (.iload_n 1, 1) := by decide +kernel
theorem dX8_meet_5 : decode cX8_meet 5 = .ok (.i2l, 1) := by decide +kernel
theorem dX8_meet_6 : decode cX8_meet 6 = .ok (.invokevirtual 87, 3) := by decide +kernel
theorem dX8_meet_9 : decode cX8_meet 9 = .ok (.ifCond .eq 24, 3) := by decide +kernel
theorem dX8_meet_33 : decode cX8_meet 33 = .ok (.aload_n 0, 1) := by decide +kernel
theorem dX8_meet_34 : decode cX8_meet 34 = .ok (.ldc 95, 2) := by decide +kernel
theorem dX8_meet_36 : decode cX8_meet 36 = .ok (.invokevirtual 80, 3) := by decide +kernel
theorem dX8_meet_39 : decode cX8_meet 39 = .ok (.ireturn, 1) := by decide +kernel
theorem dX8_mend_0 : decode cX8_mend 0 = .ok (.aload_n 0, 1) := by decide +kernel
theorem dX8_mend_1 : decode cX8_mend 1 = .ok (.invokevirtual 128, 3) := by decide +kernel
theorem dX8_mend_4 : decode cX8_mend 4 = .ok (.ifCond .eq 10, 3) := by decide +kernel
theorem dX8_mend_14 : decode cX8_mend 14 = .ok (.aload_n 0, 1) := by decide +kernel
theorem dX8_mend_15 : decode cX8_mend 15 = .ok (.getfield 29, 3) := by decide +kernel
theorem dX8_mend_18 : decode cX8_mend 18 = .ok (.aload_n 0, 1) := by decide +kernel
theorem dX8_mend_19 : decode cX8_mend 19 = .ok (.getfield 12, 3) := by decide +kernel
theorem dX8_mend_22 : decode cX8_mend 22 = .ok (.invokevirtual 263, 3) := by decide +kernel
theorem dX8_mend_25 : decode cX8_mend 25 = .ok (.istore_n 1, 1) := by decide +kernel
theorem dX8_mend_26 : decode cX8_mend 26 = .ok (.iload_n 1, 1) := by decide +kernel
theorem dX8_mend_27 : decode cX8_mend 27 = .ok (.ldc 154, 2) := by decide +kernel
theorem dX8_mend_29 : decode cX8_mend 29 = .ok (.if_icmp .ne 7, 3) := by decide +kernel
theorem dX8_mend_32 : decode cX8_mend 32 = .ok (.iconst (-1), 1) := by decide +kernel
theorem dX8_mend_33 : decode cX8_mend 33 = .ok (.goto 8, 3) := by decide +kernel
theorem dX8_mend_41 : decode cX8_mend 41 = .ok (.istore_n 2, 1) := by decide +kernel
theorem dX8_mend_42 : decode cX8_mend 42 = .ok (.iload_n 2, 1) := by decide +kernel
theorem dX8_mend_43 : decode cX8_mend 43 = .ok (.ifCond .ge 12, 3) := by decide +kernel
theorem dX8_mend_46 : decode cX8_mend 46 = .ok (.aload_n 0, 1) := by decide +kernel
theorem dX8_mend_47 : decode cX8_mend 47 = .ok (.ldc 113, 2) := by decide +kernel
theorem dX8_mend_49 : decode cX8_mend 49 = .ok (.invokevirtual 80, 3) := by decide +kernel
theorem dX8_mend_52 : decode cX8_mend 52 = .ok (.goto 4, 3) := by decide +kernel
theorem dX8_mend_56 : decode cX8_mend 56 = .ok (.ireturn, 1) := by decide +kernel
theorem dX8_on_0 : decode cX8_on 0 = .ok (.aload_n 0, 1) := by decide +kernel
theorem dX8_on_1 : decode cX8_on 1 = .ok (.getfield 12, 3) := by decide +kernel
theorem dX8_on_4 : decode cX8_on 4 = .ok (.getfield 229, 3) := by decide +kernel
theorem dX8_on_7 : decode cX8_on 7 = .ok (.iload_n 1, 1) := by decide +kernel
theorem dX8_on_8 : decode cX8_on 8 = .ok (.invokevirtual 171, 3) := by decide +kernel
theorem dX8_on_11 : decode cX8_on 11 = .ok (.ifCond .eq 30, 3) := by decide +kernel
theorem dX8_on_41 : decode cX8_on 41 = .ok (.aload_n 0, 1) := by decide +kernel
theorem dX8_on_42 : decode cX8_on 42 = .ok (.ldc 95, 2) := by decide +kernel
theorem dX8_on_44 : decode cX8_on 44 = .ok (.invokevirtual 80, 3) := by decide +kernel
theorem dX8_on_47 : decode cX8_on 47 = .ok (.ireturn, 1) := by decide +kernel
theorem dX8_over_0 : decode cX8_over 0 = .ok (.aload_n 0, 1) := by decide +kernel
theorem dX8_over_1 : decode cX8_over 1 = .ok (.getfield 12, 3) := by decide +kernel
theorem dX8_over_4 : decode cX8_over 4 = .ok (.getfield 159, 3) := by decide +kernel
theorem dX8_over_7 : decode cX8_over 7 = .ok (.iload_n 1, 1) := by decide +kernel
theorem dX8_over_8 : decode cX8_over 8 = .ok (.invokevirtual 171, 3) := by decide +kernel
theorem dX8_over_11 : decode cX8_over 11 = .ok (.ifCond .eq 15, 3) := by decide +kernel
theorem dX8_over_26 : decode cX8_over 26 = .ok (.aload_n 0, 1) := by decide +kernel
theorem dX8_over_27 : decode cX8_over 27 = .ok (.ldc 95, 2) := by decide +kernel
theorem dX8_over_29 : decode cX8_over 29 = .ok (.invokevirtual 80, 3) := by decide +kernel
theorem dX8_over_32 : decode cX8_over 32 = .ok (.ireturn, 1) := by decide +kernel
theorem dX8_paper_0 : decode cX8_paper 0 = .ok (.aload_n 0, 1) := by decide +kernel
theorem dX8_paper_1 : decode cX8_paper 1 = .ok (.getfield 12, 3) := by decide +kernel
theorem dX8_paper_4 : decode cX8_paper 4 = .ok (.iload_n 1, 1) := by decide +kernel
theorem dX8_paper_5 : decode cX8_paper 5 = .ok (.iload_n 2, 1) := by decide +kernel
theorem dX8_paper_6 : decode cX8_paper 6 = .ok (.invokevirtual 99, 3) := by decide +kernel
theorem dX8_paper_9 : decode cX8_paper 9 = .ok (.ifCond .ne 10, 3) := by decide +kernel
theorem dX8_paper_12 : decode cX8_paper 12 = .ok (.aload_n 0, 1) := by decide +kernel
theorem dX8_paper_13 : decode cX8_paper 13 = .ok (.ldc 95, 2) := by decide +kernel
theorem dX8_paper_15 : decode cX8_paper 15 = .ok (.invokevirtual 80, 3) := by decide +kernel
theorem dX8_paper_18 : decode cX8_paper 18 = .ok (.ireturn, 1) := by decide +kernel
theorem dX8_place_0 : decode cX8_place 0 = .ok (.aload_n 0, 1) := by decide +kernel
theorem dX8_place_1 : decode cX8_place 1 = .ok (.getfield 12, 3) := by decide +kernel
theorem dX8_place_4 : decode cX8_place 4 = .ok (.getfield 75, 3) := by decide +kernel
theorem dX8_place_7 : decode cX8_place 7 = .ok (.bipush 10, 2) := by decide +kernel
theorem dX8_place_9 : decode cX8_place 9 = .ok (.if_icmp .lt 10, 3) := by decide +kernel
theorem dX8_place_19 : decode cX8_place 19 = .ok (.aload_n 0, 1) := by decide +kernel
theorem dX8_place_20 : decode cX8_place 20 = .ok (.getfield 12, 3) := by decide +kernel
theorem dX8_place_23 : decode cX8_place 23 = .ok (.iconst 0, 1) := by decide +kernel
theorem dX8_place_24 : decode cX8_place 24 = .ok (.invokevirtual 84, 3) := by decide +kernel
theorem dX8_place_27 : decode cX8_place 27 = .ok (.ireturn, 1) := by decide +kernel
theorem dX8_round_0 : decode cX8_round 0 = .ok (.iload_n 1, 1) := by decide +kernel
theorem dX8_round_1 : decode cX8_round 1 = .ok (.invokestatic 155, 3) := by decide +kernel
theorem dX8_round_4 : decode cX8_round 4 = .ok (.ifCond .eq 15, 3) := by decide +kernel
theorem dX8_round_7 : decode cX8_round 7 = .ok (.aload_n 0, 1) := by decide +kernel
theorem dX8_round_8 : decode cX8_round 8 = .ok (.getfield 12, 3) := by decide +kernel
theorem dX8_round_11 : decode cX8_round 11 = .ok (.iload_n 2, 1) := by decide +kernel
theorem dX8_round_12 : decode cX8_round 12 = .ok (.i2l, 1) := by decide +kernel
theorem dX8_round_13 : decode cX8_round 13 = .ok (.invokevirtual 87, 3) := by decide +kernel
theorem dX8_round_16 : decode cX8_round 16 = .ok (.ifCond .ne 10, 3) := by decide +kernel
theorem dX8_round_19 : decode cX8_round 19 = .ok (.aload_n 0, 1) := by decide +kernel
theorem dX8_round_20 : decode cX8_round 20 = .ok (.ldc 95, 2) := by decide +kernel
theorem dX8_round_22 : decode cX8_round 22 = .ok (.invokevirtual 80, 3) := by decide +kernel
theorem dX8_round_25 : decode cX8_round 25 = .ok (.ireturn, 1) := by decide +kernel
theorem dX8_roundOf_0 : decode cX8_roundOf 0 = .ok (.aload_n 0, 1) := by decide +kernel
theorem dX8_roundOf_1 : decode cX8_roundOf 1 = .ok (.getfield 12, 3) := by decide +kernel
theorem dX8_roundOf_4 : decode cX8_roundOf 4 = .ok (.getfield 159, 3) := by decide +kernel
theorem dX8_roundOf_7 : decode cX8_roundOf 7 = .ok (.iload_n 1, 1) := by decide +kernel
theorem dX8_roundOf_8 : decode cX8_roundOf 8 = .ok (.invokevirtual 171, 3) := by decide +kernel
theorem dX8_roundOf_11 : decode cX8_roundOf 11 = .ok (.ifCond .eq 13, 3) := by decide +kernel
theorem dX8_roundOf_24 : decode cX8_roundOf 24 = .ok (.aload_n 0, 1) := by decide +kernel
theorem dX8_roundOf_25 : decode cX8_roundOf 25 = .ok (.ldc 95, 2) := by decide +kernel
theorem dX8_roundOf_27 : decode cX8_roundOf 27 = .ok (.invokevirtual 80, 3) := by decide +kernel
theorem dX8_roundOf_30 : decode cX8_roundOf 30 = .ok (.ireturn, 1) := by decide +kernel
theorem dX8_saves_0 : decode cX8_saves 0 = .ok (.aload_n 0, 1) := by decide +kernel
theorem dX8_saves_1 : decode cX8_saves 1 = .ok (.getfield 12, 3) := by decide +kernel
theorem dX8_saves_4 : decode cX8_saves 4 = .ok (.iload_n 1, 1) := by decide +kernel
theorem dX8_saves_5 : decode cX8_saves 5 = .ok (.iload_n 2, 1) := by decide +kernel
theorem dX8_saves_6 : decode cX8_saves 6 = .ok (.invokevirtual 99, 3) := by decide +kernel
theorem dX8_saves_9 : decode cX8_saves 9 = .ok (.ifCond .ne 10, 3) := by decide +kernel
theorem dX8_saves_12 : decode cX8_saves 12 = .ok (.aload_n 0, 1) := by decide +kernel
theorem dX8_saves_13 : decode cX8_saves 13 = .ok (.ldc 95, 2) := by decide +kernel
theorem dX8_saves_15 : decode cX8_saves 15 = .ok (.invokevirtual 80, 3) := by decide +kernel
theorem dX8_saves_18 : decode cX8_saves 18 = .ok (.ireturn, 1) := by decide +kernel
theorem dX8_shut_0 : decode cX8_shut 0 = .ok (.aload_n 0, 1) := by decide +kernel
theorem dX8_shut_1 : decode cX8_shut 1 = .ok (.getfield 12, 3) := by decide +kernel
theorem dX8_shut_4 : decode cX8_shut 4 = .ok (.iload_n 1, 1) := by decide +kernel
theorem dX8_shut_5 : decode cX8_shut 5 = .ok (.iload_n 2, 1) := by decide +kernel
theorem dX8_shut_6 : decode cX8_shut 6 = .ok (.invokevirtual 99, 3) := by decide +kernel
theorem dX8_shut_9 : decode cX8_shut 9 = .ok (.ifCond .ne 10, 3) := by decide +kernel
theorem dX8_shut_12 : decode cX8_shut 12 = .ok (.aload_n 0, 1) := by decide +kernel
theorem dX8_shut_13 : decode cX8_shut 13 = .ok (.ldc 95, 2) := by decide +kernel
theorem dX8_shut_15 : decode cX8_shut 15 = .ok (.invokevirtual 80, 3) := by decide +kernel
theorem dX8_shut_18 : decode cX8_shut 18 = .ok (.ireturn, 1) := by decide +kernel
theorem dX8_sum_0 : decode cX8_sum 0 = .ok (.aload_n 0, 1) := by decide +kernel
theorem dX8_sum_1 : decode cX8_sum 1 = .ok (.getfield 12, 3) := by decide +kernel
theorem dX8_sum_4 : decode cX8_sum 4 = .ok (.getfield 159, 3) := by decide +kernel
theorem dX8_sum_7 : decode cX8_sum 7 = .ok (.iload_n 1, 1) := by decide +kernel
theorem dX8_sum_8 : decode cX8_sum 8 = .ok (.invokevirtual 171, 3) := by decide +kernel
theorem dX8_sum_11 : decode cX8_sum 11 = .ok (.ifCond .ne 10, 3) := by decide +kernel
theorem dX8_sum_14 : decode cX8_sum 14 = .ok (.aload_n 0, 1) := by decide +kernel
theorem dX8_sum_15 : decode cX8_sum 15 = .ok (.ldc 95, 2) := by decide +kernel
theorem dX8_sum_17 : decode cX8_sum 17 = .ok (.invokevirtual 80, 3) := by decide +kernel
theorem dX8_sum_20 : decode cX8_sum 20 = .ok (.ireturn, 1) := by decide +kernel
theorem dX8_tear_0 : decode cX8_tear 0 = .ok (.aload_n 0, 1) := by decide +kernel
theorem dX8_tear_1 : decode cX8_tear 1 = .ok (.getfield 22, 3) := by decide +kernel
theorem dX8_tear_4 : decode cX8_tear 4 = .ok (.ifCond .eq 7, 3) := by decide +kernel
theorem dX8_tear_11 : decode cX8_tear 11 = .ok (.iconst 0, 1) := by decide +kernel
theorem dX8_tear_12 : decode cX8_tear 12 = .ok (.istore_n 1, 1) := by decide +kernel
theorem dX8_tear_13 : decode cX8_tear 13 = .ok (.aload_n 0, 1) := by decide +kernel
theorem dX8_tear_14 : decode cX8_tear 14 = .ok (.iconst 0, 1) := by decide +kernel
theorem dX8_tear_15 : decode cX8_tear 15 = .ok (.putfield 22, 3) := by decide +kernel
theorem dX8_tear_18 : decode cX8_tear 18 = .ok (.iload_n 1, 1) := by decide +kernel
theorem dX8_tear_19 : decode cX8_tear 19 = .ok (.ireturn, 1) := by decide +kernel
theorem dX8_trip_0 : decode cX8_trip 0 = .ok (.aload_n 0, 1) := by decide +kernel
theorem dX8_trip_1 : decode cX8_trip 1 = .ok (.getfield 12, 3) := by decide +kernel
theorem dX8_trip_4 : decode cX8_trip 4 = .ok (.iload_n 1, 1) := by decide +kernel
theorem dX8_trip_5 : decode cX8_trip 5 = .ok (.i2l, 1) := by decide +kernel
theorem dX8_trip_6 : decode cX8_trip 6 = .ok (.invokevirtual 87, 3) := by decide +kernel
theorem dX8_trip_9 : decode cX8_trip 9 = .ok (.ifCond .ne 10, 3) := by decide +kernel
theorem dX8_trip_12 : decode cX8_trip 12 = .ok (.aload_n 0, 1) := by decide +kernel
theorem dX8_trip_13 : decode cX8_trip 13 = .ok (.ldc 95, 2) := by decide +kernel
theorem dX8_trip_15 : decode cX8_trip 15 = .ok (.invokevirtual 80, 3) := by decide +kernel
theorem dX8_trip_18 : decode cX8_trip 18 = .ok (.ireturn, 1) := by decide +kernel
theorem dX8_undo_0 : decode cX8_undo 0 = .ok (.aload_n 0, 1) := by decide +kernel
theorem dX8_undo_1 : decode cX8_undo 1 = .ok (.getfield 22, 3) := by decide +kernel
theorem dX8_undo_4 : decode cX8_undo 4 = .ok (.ifCond .ne 10, 3) := by decide +kernel
theorem dX8_undo_7 : decode cX8_undo 7 = .ok (.aload_n 0, 1) := by decide +kernel
theorem dX8_undo_8 : decode cX8_undo 8 = .ok (.ldc 113, 2) := by decide +kernel
theorem dX8_undo_10 : decode cX8_undo 10 = .ok (.invokevirtual 80, 3) := by decide +kernel
theorem dX8_undo_13 : decode cX8_undo 13 = .ok (.ireturn, 1) := by decide +kernel
theorem dX8_walk_0 : decode cX8_walk 0 = .ok (.aload_n 0, 1) := by decide +kernel
theorem dX8_walk_1 : decode cX8_walk 1 = .ok (.getfield 12, 3) := by decide +kernel
theorem dX8_walk_4 : decode cX8_walk 4 = .ok (.iload_n 1, 1) := by decide +kernel
theorem dX8_walk_5 : decode cX8_walk 5 = .ok (.iload_n 2, 1) := by decide +kernel
theorem dX8_walk_6 : decode cX8_walk 6 = .ok (.invokevirtual 99, 3) := by decide +kernel
theorem dX8_walk_9 : decode cX8_walk 9 = .ok (.ifCond .eq 27, 3) := by decide +kernel
theorem dX8_walk_36 : decode cX8_walk 36 = .ok (.aload_n 0, 1) := by decide +kernel
theorem dX8_walk_37 : decode cX8_walk 37 = .ok (.ldc 95, 2) := by decide +kernel
theorem dX8_walk_39 : decode cX8_walk 39 = .ok (.invokevirtual 80, 3) := by decide +kernel
theorem dX8_walk_42 : decode cX8_walk 42 = .ok (.ireturn, 1) := by decide +kernel
theorem dX8_way_0 : decode cX8_way 0 = .ok (.aload_n 0, 1) := by decide +kernel
theorem dX8_way_1 : decode cX8_way 1 = .ok (.getfield 12, 3) := by decide +kernel
theorem dX8_way_4 : decode cX8_way 4 = .ok (.iload_n 1, 1) := by decide +kernel
theorem dX8_way_5 : decode cX8_way 5 = .ok (.iload_n 2, 1) := by decide +kernel
theorem dX8_way_6 : decode cX8_way 6 = .ok (.invokevirtual 99, 3) := by decide +kernel
theorem dX8_way_9 : decode cX8_way 9 = .ok (.ifCond .eq 12, 3) := by decide +kernel
theorem dX8_way_21 : decode cX8_way 21 = .ok (.aload_n 0, 1) := by decide +kernel
theorem dX8_way_22 : decode cX8_way 22 = .ok (.ldc 95, 2) := by decide +kernel
theorem dX8_way_24 : decode cX8_way 24 = .ok (.invokevirtual 80, 3) := by decide +kernel
theorem dX8_way_27 : decode cX8_way 27 = .ok (.ireturn, 1) := by decide +kernel
theorem dX8_wayOf_0 : decode cX8_wayOf 0 = .ok (.aload_n 0, 1) := by decide +kernel
theorem dX8_wayOf_1 : decode cX8_wayOf 1 = .ok (.getfield 12, 3) := by decide +kernel
theorem dX8_wayOf_4 : decode cX8_wayOf 4 = .ok (.iload_n 1, 1) := by decide +kernel
theorem dX8_wayOf_5 : decode cX8_wayOf 5 = .ok (.iload_n 2, 1) := by decide +kernel
theorem dX8_wayOf_6 : decode cX8_wayOf 6 = .ok (.invokevirtual 99, 3) := by decide +kernel
theorem dX8_wayOf_9 : decode cX8_wayOf 9 = .ok (.ifCond .eq 12, 3) := by decide +kernel
theorem dX8_wayOf_21 : decode cX8_wayOf 21 = .ok (.aload_n 0, 1) := by decide +kernel
theorem dX8_wayOf_22 : decode cX8_wayOf 22 = .ok (.ldc 95, 2) := by decide +kernel
theorem dX8_wayOf_24 : decode cX8_wayOf 24 = .ok (.invokevirtual 80, 3) := by decide +kernel
theorem dX8_wayOf_27 : decode cX8_wayOf 27 = .ok (.ireturn, 1) := by decide +kernel
theorem dX8_wipe_0 : decode cX8_wipe 0 = .ok (.aload_n 0, 1) := by decide +kernel
theorem dX8_wipe_1 : decode cX8_wipe 1 = .ok (.getfield 60, 3) := by decide +kernel
theorem dX8_wipe_4 : decode cX8_wipe 4 = .ok (.getfield 275, 3) := by decide +kernel
theorem dX8_wipe_7 : decode cX8_wipe 7 = .ok (.istore_n 1, 1) := by decide +kernel
theorem dX8_wipe_8 : decode cX8_wipe 8 = .ok (.aload_n 0, 1) := by decide +kernel
theorem dX8_wipe_9 : decode cX8_wipe 9 = .ok (.getfield 60, 3) := by decide +kernel
theorem dX8_wipe_12 : decode cX8_wipe 12 = .ok (.iconst 0, 1) := by decide +kernel
theorem dX8_wipe_13 : decode cX8_wipe 13 = .ok (.putfield 275, 3) := by decide +kernel
theorem dX8_wipe_16 : decode cX8_wipe 16 = .ok (.iload_n 1, 1) := by decide +kernel
theorem dX8_wipe_17 : decode cX8_wipe 17 = .ok (.ireturn, 1) := by decide +kernel
theorem dX8_worst_0 : decode cX8_worst 0 = .ok (.aload_n 0, 1) := by decide +kernel
theorem dX8_worst_1 : decode cX8_worst 1 = .ok (.getfield 12, 3) := by decide +kernel
theorem dX8_worst_4 : decode cX8_worst 4 = .ok (.invokestatic 226, 3) := by decide +kernel
theorem dX8_worst_7 : decode cX8_worst 7 = .ok (.istore_n 1, 1) := by decide +kernel
theorem dX8_worst_8 : decode cX8_worst 8 = .ok (.iload_n 1, 1) := by decide +kernel
theorem dX8_worst_9 : decode cX8_worst 9 = .ok (.ifCond .ge 12, 3) := by decide +kernel
theorem dX8_worst_12 : decode cX8_worst 12 = .ok (.aload_n 0, 1) := by decide +kernel
theorem dX8_worst_13 : decode cX8_worst 13 = .ok (.ldc 113, 2) := by decide +kernel
theorem dX8_worst_15 : decode cX8_worst 15 = .ok (.invokevirtual 80, 3) := by decide +kernel
theorem dX8_worst_18 : decode cX8_worst 18 = .ok (.goto 4, 3) := by decide +kernel
theorem dX8_worst_22 : decode cX8_worst 22 = .ok (.ireturn, 1) := by decide +kernel
