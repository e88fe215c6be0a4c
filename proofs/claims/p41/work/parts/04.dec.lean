theorem dJ0_charAt_5068e_0 : decode cJ0_charAt_5068e 0 = .ok (.aload_n 0, 1) := by decide +kernel
theorem dJ0_charAt_5068e_1 : decode cJ0_charAt_5068e 1 = .ok (.invokevirtual 492, 3) := by decide +kernel
theorem dJ0_charAt_5068e_4 : decode cJ0_charAt_5068e 4 = .ok (.ifCond .eq 12, 3) := by decide +kernel
theorem dJ0_charAt_5068e_7 : decode cJ0_charAt_5068e 7 = .ok (.aload_n 0, 1) := by decide +kernel
theorem dJ0_charAt_5068e_8 : decode cJ0_charAt_5068e 8 = .ok (.getfield 9, 3) := by decide +kernel
theorem dJ0_charAt_5068e_11 : decode cJ0_charAt_5068e 11 = .ok (.iload_n 1, 1) := by decide +kernel
theorem dJ0_charAt_5068e_12 : decode cJ0_charAt_5068e 12 = .ok (.invokestatic 495, 3) := by decide +kernel
theorem dJ0_charAt_5068e_15 : decode cJ0_charAt_5068e 15 = .ok (.ireturn, 1) := by decide +kernel
theorem dJ0_checkIndex_df160_0 : decode cJ0_checkIndex_df160 0 = .ok (.iload_n 0, 1) := by decide +kernel
theorem dJ0_checkIndex_df160_1 : decode cJ0_checkIndex_df160 1 = .ok (.iload_n 1, 1) := by decide +kernel
theorem dJ0_checkIndex_df160_2 : decode cJ0_checkIndex_df160 2 = .ok (.getstatic 1053, 3) := by decide +kernel
theorem dJ0_checkIndex_df160_5 : decode cJ0_checkIndex_df160 5 = .ok (.invokestatic 1059, 3) := by decide +kernel
theorem dJ0_checkIndex_df160_8 : decode cJ0_checkIndex_df160 8 = .ok (.pop, 1) := by decide +kernel
theorem dJ0_checkIndex_df160_9 : decode cJ0_checkIndex_df160 9 = .ok (.return_, 1) := by decide +kernel
theorem dJ0_coder_7d493_0 : decode cJ0_coder_7d493 0 = .ok (.getstatic 38, 3) := by decide +kernel
theorem dJ0_coder_7d493_3 : decode cJ0_coder_7d493 3 = .ok (.ifCond .eq 10, 3) := by decide +kernel
theorem dJ0_coder_7d493_6 : decode cJ0_coder_7d493 6 = .ok (.aload_n 0, 1) := by decide +kernel
theorem dJ0_coder_7d493_7 : decode cJ0_coder_7d493 7 = .ok (.getfield 15, 3) := by decide +kernel
theorem dJ0_coder_7d493_10 : decode cJ0_coder_7d493 10 = .ok (.goto 4, 3) := by decide +kernel
theorem dJ0_coder_7d493_14 : decode cJ0_coder_7d493 14 = .ok (.ireturn, 1) := by decide +kernel
theorem dJ0_isLatin1_aae02_0 : decode cJ0_isLatin1_aae02 0 = .ok (.getstatic 38, 3) := by decide +kernel
theorem dJ0_isLatin1_aae02_3 : decode cJ0_isLatin1_aae02 3 = .ok (.ifCond .eq 14, 3) := by decide +kernel
theorem dJ0_isLatin1_aae02_6 : decode cJ0_isLatin1_aae02 6 = .ok (.aload_n 0, 1) := by decide +kernel
theorem dJ0_isLatin1_aae02_7 : decode cJ0_isLatin1_aae02 7 = .ok (.getfield 15, 3) := by decide +kernel
theorem dJ0_isLatin1_aae02_10 : decode cJ0_isLatin1_aae02 10 = .ok (.ifCond .ne 7, 3) := by decide +kernel
theorem dJ0_isLatin1_aae02_13 : decode cJ0_isLatin1_aae02 13 = .ok (.iconst 1, 1) := by decide +kernel
theorem dJ0_isLatin1_aae02_14 : decode cJ0_isLatin1_aae02 14 = .ok (.goto 4, 3) := by decide +kernel
theorem dJ0_isLatin1_aae02_18 : decode cJ0_isLatin1_aae02 18 = .ok (.ireturn, 1) := by decide +kernel
theorem dJ0_length_8abf5_0 : decode cJ0_length_8abf5 0 = .ok (.aload_n 0, 1) := by decide +kernel
theorem dJ0_length_8abf5_1 : decode cJ0_length_8abf5 1 = .ok (.getfield 9, 3) := by decide +kernel
theorem dJ0_length_8abf5_4 : decode cJ0_length_8abf5 4 = .ok (.arraylength, 1) := by decide +kernel
theorem dJ0_length_8abf5_5 : decode cJ0_length_8abf5 5 = .ok (.aload_n 0, 1) := by decide +kernel
theorem dJ0_length_8abf5_6 : decode cJ0_length_8abf5 6 = .ok (.invokevirtual 335, 3) := by decide +kernel
theorem dJ0_length_8abf5_9 : decode cJ0_length_8abf5 9 = .ok (.ishr, 1) := by decide +kernel
theorem dJ0_length_8abf5_10 : decode cJ0_length_8abf5 10 = .ok (.ireturn, 1) := by decide +kernel
theorem dJ1_charAt_3b067_0 : decode cJ1_charAt_3b067 0 = .ok (.iload_n 1, 1) := by decide +kernel
theorem dJ1_charAt_3b067_1 : decode cJ1_charAt_3b067 1 = .ok (.aload_n 0, 1) := by decide +kernel
theorem dJ1_charAt_3b067_2 : decode cJ1_charAt_3b067 2 = .ok (.arraylength, 1) := by decide +kernel
theorem dJ1_charAt_3b067_3 : decode cJ1_charAt_3b067 3 = .ok (.invokestatic 9, 3) := by decide +kernel
theorem dJ1_charAt_3b067_6 : decode cJ1_charAt_3b067 6 = .ok (.aload_n 0, 1) := by decide +kernel
theorem dJ1_charAt_3b067_7 : decode cJ1_charAt_3b067 7 = .ok (.iload_n 1, 1) := by decide +kernel
theorem dJ1_charAt_3b067_8 : decode cJ1_charAt_3b067 8 = .ok (.baload, 1) := by decide +kernel
theorem dJ1_charAt_3b067_9 : decode cJ1_charAt_3b067 9 = .ok (.sipush 255, 3) := by decide +kernel
theorem dJ1_charAt_3b067_12 : decode cJ1_charAt_3b067 12 = .ok (.iand, 1) := by decide +kernel
theorem dJ1_charAt_3b067_13 : decode cJ1_charAt_3b067 13 = .ok (.i2c, 1) := by decide +kernel
theorem dJ1_charAt_3b067_14 : decode cJ1_charAt_3b067 14 = .ok (.ireturn, 1) := by decide +kernel
theorem dJ3_checkIndex_8e157_0 : decode cJ3_checkIndex_8e157 0 = .ok (.iload_n 0, 1) := by decide +kernel
theorem dJ3_checkIndex_8e157_1 : decode cJ3_checkIndex_8e157 1 = .ok (.ifCond .lt 8, 3) := by decide +kernel
theorem dJ3_checkIndex_8e157_4 : decode cJ3_checkIndex_8e157 4 = .ok (.iload_n 0, 1) := by decide +kernel
theorem dJ3_checkIndex_8e157_5 : decode cJ3_checkIndex_8e157 5 = .ok (.iload_n 1, 1) := by decide +kernel
theorem dJ3_checkIndex_8e157_6 : decode cJ3_checkIndex_8e157 6 = .ok (.if_icmp .lt 10, 3) := by decide +kernel
theorem dJ3_checkIndex_8e157_16 : decode cJ3_checkIndex_8e157 16 = .ok (.iload_n 0, 1) := by decide +kernel
theorem dJ3_checkIndex_8e157_17 : decode cJ3_checkIndex_8e157 17 = .ok (.ireturn, 1) := by decide +kernel
theorem dJ9_floorDiv_7cf53_0 : decode cJ9_floorDiv_7cf53 0 = .ok (.iload_n 0, 1) := by decide +kernel
theorem dJ9_floorDiv_7cf53_1 : decode cJ9_floorDiv_7cf53 1 = .ok (.iload_n 1, 1) := by decide +kernel
theorem dJ9_floorDiv_7cf53_2 : decode cJ9_floorDiv_7cf53 2 = .ok (.idiv, 1) := by decide +kernel
theorem dJ9_floorDiv_7cf53_3 : decode cJ9_floorDiv_7cf53 3 = .ok (.istore_n 2, 1) := by decide +kernel
theorem dJ9_floorDiv_7cf53_4 : decode cJ9_floorDiv_7cf53 4 = .ok (.iload_n 0, 1) := by decide +kernel
theorem dJ9_floorDiv_7cf53_5 : decode cJ9_floorDiv_7cf53 5 = .ok (.iload_n 1, 1) := by decide +kernel
theorem dJ9_floorDiv_7cf53_6 : decode cJ9_floorDiv_7cf53 6 = .ok (.ixor, 1) := by decide +kernel
theorem dJ9_floorDiv_7cf53_7 : decode cJ9_floorDiv_7cf53 7 = .ok (.ifCond .ge 14, 3) := by decide +kernel
theorem dJ9_floorDiv_7cf53_10 : decode cJ9_floorDiv_7cf53 10 = .ok (.iload_n 2, 1) := by decide +kernel
theorem dJ9_floorDiv_7cf53_11 : decode cJ9_floorDiv_7cf53 11 = .ok (.iload_n 1, 1) := by decide +kernel
theorem dJ9_floorDiv_7cf53_12 : decode cJ9_floorDiv_7cf53 12 = .ok (.imul, 1) := by decide +kernel
theorem dJ9_floorDiv_7cf53_13 : decode cJ9_floorDiv_7cf53 13 = .ok (.iload_n 0, 1) := by decide +kernel
theorem dJ9_floorDiv_7cf53_14 : decode cJ9_floorDiv_7cf53 14 = .ok (.if_icmp .eq 7, 3) := by decide +kernel
theorem dJ9_floorDiv_7cf53_17 : decode cJ9_floorDiv_7cf53 17 = .ok (.iload_n 2, 1) := by decide +kernel
theorem dJ9_floorDiv_7cf53_18 : decode cJ9_floorDiv_7cf53 18 = .ok (.iconst 1, 1) := by decide +kernel
theorem dJ9_floorDiv_7cf53_19 : decode cJ9_floorDiv_7cf53 19 = .ok (.isub, 1) := by decide +kernel
theorem dJ9_floorDiv_7cf53_20 : decode cJ9_floorDiv_7cf53 20 = .ok (.ireturn, 1) := by decide +kernel
theorem dJ9_floorDiv_7cf53_21 : decode cJ9_floorDiv_7cf53 21 = .ok (.iload_n 2, 1) := by decide +kernel
theorem dJ9_floorDiv_7cf53_22 : decode cJ9_floorDiv_7cf53 22 = .ok (.ireturn, 1) := by decide +kernel
theorem dJ9_floorMod_7cf53_0 : decode cJ9_floorMod_7cf53 0 = .ok (.iload_n 0, 1) := by decide +kernel
theorem dJ9_floorMod_7cf53_1 : decode cJ9_floorMod_7cf53 1 = .ok (.iload_n 1, 1) := by decide +kernel
theorem dJ9_floorMod_7cf53_2 : decode cJ9_floorMod_7cf53 2 = .ok (.irem, 1) := by decide +kernel
theorem dJ9_floorMod_7cf53_3 : decode cJ9_floorMod_7cf53 3 = .ok (.istore_n 2, 1) := by decide +kernel
theorem dJ9_floorMod_7cf53_4 : decode cJ9_floorMod_7cf53 4 = .ok (.iload_n 0, 1) := by decide +kernel
theorem dJ9_floorMod_7cf53_5 : decode cJ9_floorMod_7cf53 5 = .ok (.iload_n 1, 1) := by decide +kernel
theorem dJ9_floorMod_7cf53_6 : decode cJ9_floorMod_7cf53 6 = .ok (.ixor, 1) := by decide +kernel
theorem dJ9_floorMod_7cf53_7 : decode cJ9_floorMod_7cf53 7 = .ok (.ifCond .ge 11, 3) := by decide +kernel
theorem dJ9_floorMod_7cf53_10 : decode cJ9_floorMod_7cf53 10 = .ok (.iload_n 2, 1) := by decide +kernel
theorem dJ9_floorMod_7cf53_11 : decode cJ9_floorMod_7cf53 11 = .ok (.ifCond .eq 7, 3) := by decide +kernel
theorem dJ9_floorMod_7cf53_14 : decode cJ9_floorMod_7cf53 14 = .ok (.iload_n 2, 1) := by decide +kernel
theorem dJ9_floorMod_7cf53_15 : decode cJ9_floorMod_7cf53 15 = .ok (.iload_n 1, 1) := by decide +kernel
theorem dJ9_floorMod_7cf53_16 : decode cJ9_floorMod_7cf53 16 = .ok (.iadd, 1) := by decide +kernel
theorem dJ9_floorMod_7cf53_17 : decode cJ9_floorMod_7cf53 17 = .ok (.ireturn, 1) := by decide +kernel
theorem dJ9_floorMod_7cf53_18 : decode cJ9_floorMod_7cf53 18 = .ok (.iload_n 2, 1) := by decide +kernel
theorem dJ9_floorMod_7cf53_19 : decode cJ9_floorMod_7cf53 19 = .ok (.ireturn, 1) := by decide +kernel
theorem dX0_farOf_0 : decode cX0_farOf 0 = .ok (.aload_n 0, 1) := by decide +kernel
theorem dX0_farOf_1 : decode cX0_farOf 1 = .ok (.iload_n 1, 1) := by decide +kernel
theorem dX0_farOf_2 : decode cX0_farOf 2 = .ok (.iload_n 2, 1) := by decide +kernel
theorem dX0_farOf_3 : decode cX0_farOf 3 = .ok (.invokevirtual 39, 3) := by decide +kernel
theorem dX0_farOf_6 : decode cX0_farOf 6 = .ok (.istore_n 3, 1) := by decide +kernel
theorem dX0_farOf_7 : decode cX0_farOf 7 = .ok (.iload_n 3, 1) := by decide +kernel
theorem dX0_farOf_8 : decode cX0_farOf 8 = .ok (.ldc 38, 2) := by decide +kernel
theorem dX0_farOf_10 : decode cX0_farOf 10 = .ok (.if_icmp .ne 8, 3) := by decide +kernel
theorem dX0_farOf_13 : decode cX0_farOf 13 = .ok (.ldc 38, 2) := by decide +kernel
theorem dX0_farOf_15 : decode cX0_farOf 15 = .ok (.goto 9, 3) := by decide +kernel
theorem dX0_farOf_18 : decode cX0_farOf 18 = .ok (.iload_n 3, 1) := by decide +kernel
theorem dX0_farOf_19 : decode cX0_farOf 19 = .ok (.bipush 100, 2) := by decide +kernel
theorem dX0_farOf_21 : decode cX0_farOf 21 = .ok (.invokestatic 54, 3) := by decide +kernel
theorem dX0_farOf_24 : decode cX0_farOf 24 = .ok (.ireturn, 1) := by decide +kernel
theorem dX0_hasLoop_0 : decode cX0_hasLoop 0 = .ok (.iconst 0, 1) := by decide +kernel
theorem dX0_hasLoop_1 : decode cX0_hasLoop 1 = .ok (.istore_n 1, 1) := by decide +kernel
theorem dX0_hasLoop_2 : decode cX0_hasLoop 2 = .ok (.iload_n 1, 1) := by decide +kernel
theorem dX0_hasLoop_3 : decode cX0_hasLoop 3 = .ok (.aload_n 0, 1) := by decide +kernel
theorem dX0_hasLoop_4 : decode cX0_hasLoop 4 = .ok (.getfield 9, 3) := by decide +kernel
theorem dX0_hasLoop_7 : decode cX0_hasLoop 7 = .ok (.if_icmp .ge 20, 3) := by decide +kernel
theorem dX0_hasLoop_10 : decode cX0_hasLoop 10 = .ok (.aload_n 0, 1) := by decide +kernel
theorem dX0_hasLoop_11 : decode cX0_hasLoop 11 = .ok (.iload_n 1, 1) := by decide +kernel
theorem dX0_hasLoop_12 : decode cX0_hasLoop 12 = .ok (.iload_n 1, 1) := by decide +kernel
theorem dX0_hasLoop_13 : decode cX0_hasLoop 13 = .ok (.invokevirtual 39, 3) := by decide +kernel
theorem dX0_hasLoop_16 : decode cX0_hasLoop 16 = .ok (.ifCond .ge 5, 3) := by decide +kernel
theorem dX0_hasLoop_19 : decode cX0_hasLoop 19 = .ok (.iconst 1, 1) := by decide +kernel
theorem dX0_hasLoop_20 : decode cX0_hasLoop 20 = .ok (.ireturn, 1) := by decide +kernel
theorem dX0_hasLoop_21 : decode cX0_hasLoop 21 = .ok (.iinc 1 1, 3) := by decide +kernel
theorem dX0_hasLoop_24 : decode cX0_hasLoop 24 = .ok (.goto (-22), 3) := by decide +kernel
theorem dX0_hasLoop_27 : decode cX0_hasLoop 27 = .ok (.iconst 0, 1) := by decide +kernel
theorem dX0_hasLoop_28 : decode cX0_hasLoop 28 = .ok (.ireturn, 1) := by decide +kernel
theorem dX0_homeOf_0 : decode cX0_homeOf 0 = .ok (.iconst (-1), 1) := by decide +kernel
theorem dX0_homeOf_1 : decode cX0_homeOf 1 = .ok (.istore_n 2, 1) := by decide +kernel
theorem dX0_homeOf_2 : decode cX0_homeOf 2 = .ok (.ldc 38, 2) := by decide +kernel
theorem dX0_homeOf_4 : decode cX0_homeOf 4 = .ok (.istore_n 3, 1) := by decide +kernel
theorem dX0_homeOf_5 : decode cX0_homeOf 5 = .ok (.iconst 0, 1) := by decide +kernel
theorem dX0_homeOf_6 : decode cX0_homeOf 6 = .ok (.istore 4, 2) := by decide +kernel
theorem dX0_homeOf_8 : decode cX0_homeOf 8 = .ok (.iload 4, 2) := by decide +kernel
theorem dX0_homeOf_10 : decode cX0_homeOf 10 = .ok (.aload_n 0, 1) := by decide +kernel
theorem dX0_homeOf_11 : decode cX0_homeOf 11 = .ok (.getfield 9, 3) := by decide +kernel
theorem dX0_homeOf_14 : decode cX0_homeOf 14 = .ok (.if_icmp .ge 30, 3) := by decide +kernel
theorem dX0_homeOf_17 : decode cX0_homeOf 17 = .ok (.aload_n 0, 1) := by decide +kernel
theorem dX0_homeOf_18 : decode cX0_homeOf 18 = .ok (.aload_n 1, 1) := by decide +kernel
theorem dX0_homeOf_19 : decode cX0_homeOf 19 = .ok (.iload 4, 2) := by decide +kernel
theorem dX0_homeOf_21 : decode cX0_homeOf 21 = .ok (.invokevirtual 69, 3) := by decide +kernel
theorem dX0_homeOf_24 : decode cX0_homeOf 24 = .ok (.istore 5, 2) := by decide +kernel
theorem dX0_homeOf_26 : decode cX0_homeOf 26 = .ok (.iload 5, 2) := by decide +kernel
theorem dX0_homeOf_28 : decode cX0_homeOf 28 = .ok (.iload_n 3, 1) := by decide +kernel
theorem dX0_homeOf_29 : decode cX0_homeOf 29 = .ok (.if_icmp .ge 9, 3) := by decide +kernel
theorem dX0_homeOf_32 : decode cX0_homeOf 32 = .ok (.iload 4, 2) := by decide +kernel
theorem dX0_homeOf_34 : decode cX0_homeOf 34 = .ok (.istore_n 2, 1) := by decide +kernel
theorem dX0_homeOf_35 : decode cX0_homeOf 35 = .ok (.iload 5, 2) := by decide +kernel
theorem dX0_homeOf_37 : decode cX0_homeOf 37 = .ok (.istore_n 3, 1) := by decide +kernel
theorem dX0_homeOf_38 : decode cX0_homeOf 38 = .ok (.iinc 4 1, 3) := by decide +kernel
theorem dX0_homeOf_41 : decode cX0_homeOf 41 = .ok (.goto (-33), 3) := by decide +kernel
theorem dX0_homeOf_44 : decode cX0_homeOf 44 = .ok (.iload_n 2, 1) := by decide +kernel
theorem dX0_homeOf_45 : decode cX0_homeOf 45 = .ok (.ireturn, 1) := by decide +kernel
theorem dX0_isBackAndForth_0 : decode cX0_isBackAndForth 0 = .ok (.aload_n 0, 1) := by decide +kernel
theorem dX0_isBackAndForth_1 : decode cX0_isBackAndForth 1 = .ok (.iload_n 1, 1) := by decide +kernel
theorem dX0_isBackAndForth_2 : decode cX0_isBackAndForth 2 = .ok (.iload_n 2, 1) := by decide +kernel
theorem dX0_isBackAndForth_3 : decode cX0_isBackAndForth 3 = .ok (.invokevirtual 39, 3) := by decide +kernel
theorem dX0_isBackAndForth_6 : decode cX0_isBackAndForth 6 = .ok (.ldc 38, 2) := by decide +kernel
theorem dX0_isBackAndForth_8 : decode cX0_isBackAndForth 8 = .ok (.if_icmp .eq 18, 3) := by decide +kernel
theorem dX0_isBackAndForth_11 : decode cX0_isBackAndForth 11 = .ok (.aload_n 0, 1) := by decide +kernel
theorem dX0_isBackAndForth_12 : decode cX0_isBackAndForth 12 = .ok (.iload_n 2, 1) := by decide +kernel
theorem dX0_isBackAndForth_13 : decode cX0_isBackAndForth 13 = .ok (.iload_n 1, 1) := by decide +kernel
theorem dX0_isBackAndForth_14 : decode cX0_isBackAndForth 14 = .ok (.invokevirtual 39, 3) := by decide +kernel
theorem dX0_isBackAndForth_17 : decode cX0_isBackAndForth 17 = .ok (.ldc 38, 2) := by decide +kernel
theorem dX0_isBackAndForth_19 : decode cX0_isBackAndForth 19 = .ok (.if_icmp .eq 7, 3) := by decide +kernel
theorem dX0_isBackAndForth_22 : decode cX0_isBackAndForth 22 = .ok (.iconst 1, 1) := by decide +kernel
theorem dX0_isBackAndForth_23 : decode cX0_isBackAndForth 23 = .ok (.goto 4, 3) := by decide +kernel
theorem dX0_isBackAndForth_26 : decode cX0_isBackAndForth 26 = .ok (.iconst 0, 1) := by decide +kernel
theorem dX0_isBackAndForth_27 : decode cX0_isBackAndForth 27 = .ok (.ireturn, 1) := by decide +kernel
theorem dX0_leastTrip_0 : decode cX0_leastTrip 0 = .ok (.aload_n 0, 1) := by decide +kernel
theorem dX0_leastTrip_1 : decode cX0_leastTrip 1 = .ok (.aload_n 1, 1) := by decide +kernel
theorem dX0_leastTrip_2 : decode cX0_leastTrip 2 = .ok (.invokevirtual 73, 3) := by decide +kernel
theorem dX0_leastTrip_5 : decode cX0_leastTrip 5 = .ok (.istore_n 2, 1) := by decide +kernel
theorem dX0_leastTrip_6 : decode cX0_leastTrip 6 = .ok (.iload_n 2, 1) := by decide +kernel
theorem dX0_leastTrip_7 : decode cX0_leastTrip 7 = .ok (.ifCond .ge 8, 3) := by decide +kernel
theorem dX0_leastTrip_10 : decode cX0_leastTrip 10 = .ok (.ldc 38, 2) := by decide +kernel
theorem dX0_leastTrip_12 : decode cX0_leastTrip 12 = .ok (.goto 9, 3) := by decide +kernel
theorem dX0_leastTrip_15 : decode cX0_leastTrip 15 = .ok (.aload_n 0, 1) := by decide +kernel
theorem dX0_leastTrip_16 : decode cX0_leastTrip 16 = .ok (.aload_n 1, 1) := by decide +kernel
theorem dX0_leastTrip_17 : decode cX0_leastTrip 17 = .ok (.iload_n 2, 1) := by decide +kernel
theorem dX0_leastTrip_18 : decode cX0_leastTrip 18 = .ok (.invokevirtual 69, 3) := by decide +kernel
theorem dX0_leastTrip_21 : decode cX0_leastTrip 21 = .ok (.ireturn, 1) := by decide +kernel
theorem dX0_lengthOf_0 : decode cX0_lengthOf 0 = .ok (.aload_n 0, 1) := by decide +kernel
theorem dX0_lengthOf_1 : decode cX0_lengthOf 1 = .ok (.getfield 15, 3) := by decide +kernel
theorem dX0_lengthOf_4 : decode cX0_lengthOf 4 = .ok (.bipush 10, 2) := by decide +kernel
theorem dX0_lengthOf_6 : decode cX0_lengthOf 6 = .ok (.iload_n 1, 1) := by decide +kernel
theorem dX0_lengthOf_7 : decode cX0_lengthOf 7 = .ok (.imul, 1) := by decide +kernel
theorem dX0_lengthOf_8 : decode cX0_lengthOf 8 = .ok (.iload_n 2, 1) := by decide +kernel
theorem dX0_lengthOf_9 : decode cX0_lengthOf 9 = .ok (.iadd, 1) := by decide +kernel
theorem dX0_lengthOf_10 : decode cX0_lengthOf 10 = .ok (.iaload, 1) := by decide +kernel
theorem dX0_lengthOf_11 : decode cX0_lengthOf 11 = .ok (.ireturn, 1) := by decide +kernel
theorem dX0_loopSet_0 : decode cX0_loopSet 0 = .ok (.iconst 0, 1) := by decide +kernel
theorem dX0_loopSet_1 : decode cX0_loopSet 1 = .ok (.istore_n 1, 1) := by decide +kernel
theorem dX0_loopSet_2 : decode cX0_loopSet 2 = .ok (.iconst 0, 1) := by decide +kernel
theorem dX0_loopSet_3 : decode cX0_loopSet 3 = .ok (.istore_n 2, 1) := by decide +kernel
theorem dX0_loopSet_4 : decode cX0_loopSet 4 = .ok (.iload_n 2, 1) := by decide +kernel
theorem dX0_loopSet_5 : decode cX0_loopSet 5 = .ok (.aload_n 0, 1) := by decide +kernel
theorem dX0_loopSet_6 : decode cX0_loopSet 6 = .ok (.getfield 9, 3) := by decide +kernel
theorem dX0_loopSet_9 : decode cX0_loopSet 9 = .ok (.if_icmp .ge 49, 3) := by decide +kernel
theorem dX0_loopSet_12 : decode cX0_loopSet 12 = .ok (.iconst 0, 1) := by decide +kernel
theorem dX0_loopSet_13 : decode cX0_loopSet 13 = .ok (.istore_n 3, 1) := by decide +kernel
theorem dX0_loopSet_14 : decode cX0_loopSet 14 = .ok (.iload_n 3, 1) := by decide +kernel
theorem dX0_loopSet_15 : decode cX0_loopSet 15 = .ok (.aload_n 0, 1) := by decide +kernel
theorem dX0_loopSet_16 : decode cX0_loopSet 16 = .ok (.getfield 9, 3) := by decide +kernel
theorem dX0_loopSet_19 : decode cX0_loopSet 19 = .ok (.if_icmp .ge 33, 3) := by decide +kernel
theorem dX0_loopSet_22 : decode cX0_loopSet 22 = .ok (.aload_n 0, 1) := by decide +kernel
theorem dX0_loopSet_23 : decode cX0_loopSet 23 = .ok (.iload_n 3, 1) := by decide +kernel
theorem dX0_loopSet_24 : decode cX0_loopSet 24 = .ok (.iload_n 3, 1) := by decide +kernel
theorem dX0_loopSet_25 : decode cX0_loopSet 25 = .ok (.invokevirtual 39, 3) := by decide +kernel
theorem dX0_loopSet_28 : decode cX0_loopSet 28 = .ok (.ifCond .ge 18, 3) := by decide +kernel
theorem dX0_loopSet_31 : decode cX0_loopSet 31 = .ok (.aload_n 0, 1) := by decide +kernel
theorem dX0_loopSet_32 : decode cX0_loopSet 32 = .ok (.iload_n 2, 1) := by decide +kernel
theorem dX0_loopSet_33 : decode cX0_loopSet 33 = .ok (.iload_n 3, 1) := by decide +kernel
theorem dX0_loopSet_34 : decode cX0_loopSet 34 = .ok (.invokevirtual 51, 3) := by decide +kernel
theorem dX0_loopSet_37 : decode cX0_loopSet 37 = .ok (.ifCond .eq 9, 3) := by decide +kernel
theorem dX0_loopSet_40 : decode cX0_loopSet 40 = .ok (.iload_n 1, 1) := by decide +kernel
theorem dX0_loopSet_41 : decode cX0_loopSet 41 = .ok (.iconst 1, 1) := by decide +kernel
theorem dX0_loopSet_42 : decode cX0_loopSet 42 = .ok (.iload_n 2, 1) := by decide +kernel
theorem dX0_loopSet_43 : decode cX0_loopSet 43 = .ok (.ishl, 1) := by decide +kernel
theorem dX0_loopSet_44 : decode cX0_loopSet 44 = .ok (.ior, 1) := by decide +kernel
theorem dX0_loopSet_45 : decode cX0_loopSet 45 = .ok (.istore_n 1, 1) := by decide +kernel
theorem dX0_loopSet_46 : decode cX0_loopSet 46 = .ok (.iinc 3 1, 3) := by decide +kernel
theorem dX0_loopSet_49 : decode cX0_loopSet 49 = .ok (.goto (-35), 3) := by decide +kernel
theorem dX0_loopSet_52 : decode cX0_loopSet 52 = .ok (.iinc 2 1, 3) := by decide +kernel
theorem dX0_loopSet_55 : decode cX0_loopSet 55 = .ok (.goto (-51), 3) := by decide +kernel
theorem dX0_loopSet_58 : decode cX0_loopSet 58 = .ok (.iload_n 1, 1) := by decide +kernel
theorem dX0_loopSet_59 : decode cX0_loopSet 59 = .ok (.ireturn, 1) := by decide +kernel
theorem dX0_measure_0 : decode cX0_measure 0 = .ok (.aload_n 0, 1) := by decide +kernel
theorem dX0_measure_1 : decode cX0_measure 1 = .ok (.aload_n 1, 1) := by decide +kernel
theorem dX0_measure_2 : decode cX0_measure 2 = .ok (.getfield 19, 3) := by decide +kernel
theorem dX0_measure_5 : decode cX0_measure 5 = .ok (.putfield 9, 3) := by decide +kernel
theorem dX0_measure_8 : decode cX0_measure 8 = .ok (.iconst 0, 1) := by decide +kernel
theorem dX0_measure_9 : decode cX0_measure 9 = .ok (.istore_n 2, 1) := by decide +kernel
theorem dX0_measure_10 : decode cX0_measure 10 = .ok (.iload_n 2, 1) := by decide +kernel
theorem dX0_measure_11 : decode cX0_measure 11 = .ok (.aload_n 0, 1) := by decide +kernel
theorem dX0_measure_12 : decode cX0_measure 12 = .ok (.getfield 9, 3) := by decide +kernel
theorem dX0_measure_15 : decode cX0_measure 15 = .ok (.if_icmp .ge 51, 3) := by decide +kernel
theorem dX0_measure_18 : decode cX0_measure 18 = .ok (.iconst 0, 1) := by decide +kernel
theorem dX0_measure_19 : decode cX0_measure 19 = .ok (.istore_n 3, 1) := by decide +kernel
theorem dX0_measure_20 : decode cX0_measure 20 = .ok (.iload_n 3, 1) := by decide +kernel
theorem dX0_measure_21 : decode cX0_measure 21 = .ok (.aload_n 0, 1) := by decide +kernel
theorem dX0_measure_22 : decode cX0_measure 22 = .ok (.getfield 9, 3) := by decide +kernel
theorem dX0_measure_25 : decode cX0_measure 25 = .ok (.if_icmp .ge 35, 3) := by decide +kernel
theorem dX0_measure_28 : decode cX0_measure 28 = .ok (.aload_n 0, 1) := by decide +kernel
theorem dX0_measure_29 : decode cX0_measure 29 = .ok (.getfield 15, 3) := by decide +kernel
theorem dX0_measure_32 : decode cX0_measure 32 = .ok (.bipush 10, 2) := by decide +kernel
theorem dX0_measure_34 : decode cX0_measure 34 = .ok (.iload_n 2, 1) := by decide +kernel
theorem dX0_measure_35 : decode cX0_measure 35 = .ok (.imul, 1) := by decide +kernel
theorem dX0_measure_36 : decode cX0_measure 36 = .ok (.iload_n 3, 1) := by decide +kernel
theorem dX0_measure_37 : decode cX0_measure 37 = .ok (.iadd, 1) := by decide +kernel
theorem dX0_measure_38 : decode cX0_measure 38 = .ok (.iload_n 2, 1) := by decide +kernel
theorem dX0_measure_39 : decode cX0_measure 39 = .ok (.iload_n 3, 1) := by decide +kernel
theorem dX0_measure_40 : decode cX0_measure 40 = .ok (.if_icmp .ne 7, 3) := by decide +kernel
theorem dX0_measure_43 : decode cX0_measure 43 = .ok (.iconst 0, 1) := by decide +kernel
theorem dX0_measure_44 : decode cX0_measure 44 = .ok (.goto 9, 3) := by decide +kernel
theorem dX0_measure_47 : decode cX0_measure 47 = .ok (.aload_n 1, 1) := by decide +kernel
theorem dX0_measure_48 : decode cX0_measure 48 = .ok (.iload_n 2, 1) := by decide +kernel
theorem dX0_measure_49 : decode cX0_measure 49 = .ok (.iload_n 3, 1) := by decide +kernel
theorem dX0_measure_50 : decode cX0_measure 50 = .ok (.invokestatic 22, 3) := by decide +kernel
theorem dX0_measure_53 : decode cX0_measure 53 = .ok (.iastore, 1) := by decide +kernel
theorem dX0_measure_54 : decode cX0_measure 54 = .ok (.iinc 3 1, 3) := by decide +kernel
theorem dX0_measure_57 : decode cX0_measure 57 = .ok (.goto (-37), 3) := by decide +kernel
theorem dX0_measure_60 : decode cX0_measure 60 = .ok (.iinc 2 1, 3) := by decide +kernel
theorem dX0_measure_63 : decode cX0_measure 63 = .ok (.goto (-53), 3) := by decide +kernel
theorem dX0_measure_66 : decode cX0_measure 66 = .ok (.iconst 0, 1) := by decide +kernel
theorem dX0_measure_67 : decode cX0_measure 67 = .ok (.istore_n 2, 1) := by decide +kernel
theorem dX0_measure_68 : decode cX0_measure 68 = .ok (.iload_n 2, 1) := by decide +kernel
theorem dX0_measure_69 : decode cX0_measure 69 = .ok (.aload_n 0, 1) := by decide +kernel
theorem dX0_measure_70 : decode cX0_measure 70 = .ok (.getfield 9, 3) := by decide +kernel
theorem dX0_measure_73 : decode cX0_measure 73 = .ok (.if_icmp .ge 14, 3) := by decide +kernel
theorem dX0_measure_76 : decode cX0_measure 76 = .ok (.aload_n 0, 1) := by decide +kernel
theorem dX0_measure_77 : decode cX0_measure 77 = .ok (.iload_n 2, 1) := by decide +kernel
theorem dX0_measure_78 : decode cX0_measure 78 = .ok (.invokevirtual 26, 3) := by decide +kernel
theorem dX0_measure_81 : decode cX0_measure 81 = .ok (.iinc 2 1, 3) := by decide +kernel
theorem dX0_measure_84 : decode cX0_measure 84 = .ok (.goto (-16), 3) := by decide +kernel
theorem dX0_measure_87 : decode cX0_measure 87 = .ok (.return_, 1) := by decide +kernel
theorem dX0_meetingOf_0 : decode cX0_meetingOf 0 = .ok (.iconst (-1), 1) := by decide +kernel
theorem dX0_meetingOf_1 : decode cX0_meetingOf 1 = .ok (.istore 4, 2) := by decide +kernel
theorem dX0_meetingOf_3 : decode cX0_meetingOf 3 = .ok (.ldc 38, 2) := by decide +kernel
theorem dX0_meetingOf_5 : decode cX0_meetingOf 5 = .ok (.istore 5, 2) := by decide +kernel
theorem dX0_meetingOf_7 : decode cX0_meetingOf 7 = .ok (.iconst 0, 1) := by decide +kernel
theorem dX0_meetingOf_8 : decode cX0_meetingOf 8 = .ok (.istore 6, 2) := by decide +kernel
theorem dX0_meetingOf_10 : decode cX0_meetingOf 10 = .ok (.iload 6, 2) := by decide +kernel
theorem dX0_meetingOf_12 : decode cX0_meetingOf 12 = .ok (.aload_n 0, 1) := by decide +kernel
theorem dX0_meetingOf_13 : decode cX0_meetingOf 13 = .ok (.getfield 9, 3) := by decide +kernel
theorem dX0_meetingOf_16 : decode cX0_meetingOf 16 = .ok (.if_icmp .ge 35, 3) := by decide +kernel
theorem dX0_meetingOf_19 : decode cX0_meetingOf 19 = .ok (.aload_n 0, 1) := by decide +kernel
theorem dX0_meetingOf_20 : decode cX0_meetingOf 20 = .ok (.iload_n 1, 1) := by decide +kernel
theorem dX0_meetingOf_21 : decode cX0_meetingOf 21 = .ok (.iload_n 2, 1) := by decide +kernel
theorem dX0_meetingOf_22 : decode cX0_meetingOf 22 = .ok (.iload 6, 2) := by decide +kernel
theorem dX0_meetingOf_24 : decode cX0_meetingOf 24 = .ok (.iload_n 3, 1) := by decide +kernel
theorem dX0_meetingOf_25 : decode cX0_meetingOf 25 = .ok (.invokevirtual 77, 3) := by decide +kernel
theorem dX0_meetingOf_28 : decode cX0_meetingOf 28 = .ok (.istore 7, 2) := by decide +kernel
theorem dX0_meetingOf_30 : decode cX0_meetingOf 30 = .ok (.iload 7, 2) := by decide +kernel
theorem dX0_meetingOf_32 : decode cX0_meetingOf 32 = .ok (.iload 5, 2) := by decide +kernel
theorem dX0_meetingOf_34 : decode cX0_meetingOf 34 = .ok (.if_icmp .ge 11, 3) := by decide +kernel
theorem dX0_meetingOf_37 : decode cX0_meetingOf 37 = .ok (.iload 6, 2) := by decide +kernel
theorem dX0_meetingOf_39 : decode cX0_meetingOf 39 = .ok (.istore 4, 2) := by decide +kernel
theorem dX0_meetingOf_41 : decode cX0_meetingOf 41 = .ok (.iload 7, 2) := by decide +kernel
theorem dX0_meetingOf_43 : decode cX0_meetingOf 43 = .ok (.istore 5, 2) := by decide +kernel
theorem dX0_meetingOf_45 : decode cX0_meetingOf 45 = .ok (.iinc 6 1, 3) := by decide +kernel
theorem dX0_meetingOf_48 : decode cX0_meetingOf 48 = .ok (.goto (-38), 3) := by decide +kernel
theorem dX0_meetingOf_51 : decode cX0_meetingOf 51 = .ok (.iload 4, 2) := by decide +kernel
theorem dX0_meetingOf_53 : decode cX0_meetingOf 53 = .ok (.ireturn, 1) := by decide +kernel
theorem dX0_mendFrom_0 : decode cX0_mendFrom 0 = .ok (.aload_n 2, 1) := by decide +kernel
theorem dX0_mendFrom_1 : decode cX0_mendFrom 1 = .ok (.iload_n 3, 1) := by decide +kernel
theorem dX0_mendFrom_2 : decode cX0_mendFrom 2 = .ok (.iload 4, 2) := by decide +kernel
theorem dX0_mendFrom_4 : decode cX0_mendFrom 4 = .ok (.invokevirtual 34, 3) := by decide +kernel
theorem dX0_mendFrom_7 : decode cX0_mendFrom 7 = .ok (.aload_n 2, 1) := by decide +kernel
theorem dX0_mendFrom_8 : decode cX0_mendFrom 8 = .ok (.iload 4, 2) := by decide +kernel
theorem dX0_mendFrom_10 : decode cX0_mendFrom 10 = .ok (.iload_n 3, 1) := by decide +kernel
theorem dX0_mendFrom_11 : decode cX0_mendFrom 11 = .ok (.invokevirtual 34, 3) := by decide +kernel
theorem dX0_mendFrom_14 : decode cX0_mendFrom 14 = .ok (.if_icmp .gt 7, 3) := by decide +kernel
theorem dX0_mendFrom_17 : decode cX0_mendFrom 17 = .ok (.iconst 1, 1) := by decide +kernel
theorem dX0_mendFrom_18 : decode cX0_mendFrom 18 = .ok (.goto 4, 3) := by decide +kernel
theorem dX0_mendFrom_21 : decode cX0_mendFrom 21 = .ok (.iconst 0, 1) := by decide +kernel
theorem dX0_mendFrom_22 : decode cX0_mendFrom 22 = .ok (.istore 5, 2) := by decide +kernel
theorem dX0_mendFrom_24 : decode cX0_mendFrom 24 = .ok (.iload 5, 2) := by decide +kernel
theorem dX0_mendFrom_26 : decode cX0_mendFrom 26 = .ok (.ifCond .eq 8, 3) := by decide +kernel
theorem dX0_mendFrom_29 : decode cX0_mendFrom 29 = .ok (.iload 4, 2) := by decide +kernel
theorem dX0_mendFrom_31 : decode cX0_mendFrom 31 = .ok (.goto 4, 3) := by decide +kernel
theorem dX0_mendFrom_34 : decode cX0_mendFrom 34 = .ok (.iload_n 3, 1) := by decide +kernel
theorem dX0_mendFrom_35 : decode cX0_mendFrom 35 = .ok (.istore 6, 2) := by decide +kernel
theorem dX0_mendFrom_37 : decode cX0_mendFrom 37 = .ok (.iload 5, 2) := by decide +kernel
theorem dX0_mendFrom_39 : decode cX0_mendFrom 39 = .ok (.ifCond .eq 7, 3) := by decide +kernel
theorem dX0_mendFrom_42 : decode cX0_mendFrom 42 = .ok (.iload_n 3, 1) := by decide +kernel
theorem dX0_mendFrom_43 : decode cX0_mendFrom 43 = .ok (.goto 5, 3) := by decide +kernel
theorem dX0_mendFrom_46 : decode cX0_mendFrom 46 = .ok (.iload 4, 2) := by decide +kernel
theorem dX0_mendFrom_48 : decode cX0_mendFrom 48 = .ok (.istore 7, 2) := by decide +kernel
theorem dX0_mendFrom_50 : decode cX0_mendFrom 50 = .ok (.aload_n 2, 1) := by decide +kernel
theorem dX0_mendFrom_51 : decode cX0_mendFrom 51 = .ok (.iload 7, 2) := by decide +kernel
theorem dX0_mendFrom_53 : decode cX0_mendFrom 53 = .ok (.iload 6, 2) := by decide +kernel
theorem dX0_mendFrom_55 : decode cX0_mendFrom 55 = .ok (.invokestatic 22, 3) := by decide +kernel
theorem dX0_mendFrom_58 : decode cX0_mendFrom 58 = .ok (.istore 8, 2) := by decide +kernel
theorem dX0_mendFrom_60 : decode cX0_mendFrom 60 = .ok (.iload 8, 2) := by decide +kernel
theorem dX0_mendFrom_62 : decode cX0_mendFrom 62 = .ok (.aload_n 1, 1) := by decide +kernel
theorem dX0_mendFrom_63 : decode cX0_mendFrom 63 = .ok (.iload 7, 2) := by decide +kernel
theorem dX0_mendFrom_65 : decode cX0_mendFrom 65 = .ok (.iload 6, 2) := by decide +kernel
theorem dX0_mendFrom_67 : decode cX0_mendFrom 67 = .ok (.invokevirtual 39, 3) := by decide +kernel
theorem dX0_mendFrom_70 : decode cX0_mendFrom 70 = .ok (.invokestatic 42, 3) := by decide +kernel
theorem dX0_mendFrom_73 : decode cX0_mendFrom 73 = .ok (.ifCond .ge 5, 3) := by decide +kernel
theorem dX0_mendFrom_76 : decode cX0_mendFrom 76 = .ok (.iconst 0, 1) := by decide +kernel
theorem dX0_mendFrom_77 : decode cX0_mendFrom 77 = .ok (.ireturn, 1) := by decide +kernel
theorem dX0_mendFrom_78 : decode cX0_mendFrom 78 = .ok (.aload_n 0, 1) := by decide +kernel
theorem dX0_mendFrom_79 : decode cX0_mendFrom 79 = .ok (.aload_n 1, 1) := by decide +kernel
theorem dX0_mendFrom_80 : decode cX0_mendFrom 80 = .ok (.getfield 9, 3) := by decide +kernel
theorem dX0_mendFrom_83 : decode cX0_mendFrom 83 = .ok (.putfield 9, 3) := by decide +kernel
theorem dX0_mendFrom_86 : decode cX0_mendFrom 86 = .ok (.iconst 0, 1) := by decide +kernel
theorem dX0_mendFrom_87 : decode cX0_mendFrom 87 = .ok (.istore 9, 2) := by decide +kernel
theorem dX0_mendFrom_89 : decode cX0_mendFrom 89 = .ok (.iload 9, 2) := by decide +kernel
theorem dX0_mendFrom_91 : decode cX0_mendFrom 91 = .ok (.aload_n 0, 1) := by decide +kernel
theorem dX0_mendFrom_92 : decode cX0_mendFrom 92 = .ok (.getfield 9, 3) := by decide +kernel
theorem dX0_mendFrom_95 : decode cX0_mendFrom 95 = .ok (.if_icmp .ge 83, 3) := by decide +kernel
theorem dX0_mendFrom_98 : decode cX0_mendFrom 98 = .ok (.aload_n 1, 1) := by decide +kernel
theorem dX0_mendFrom_99 : decode cX0_mendFrom 99 = .ok (.iload 9, 2) := by decide +kernel
theorem dX0_mendFrom_101 : decode cX0_mendFrom 101 = .ok (.iload 6, 2) := by decide +kernel
theorem dX0_mendFrom_103 : decode cX0_mendFrom 103 = .ok (.invokevirtual 39, 3) := by decide +kernel
theorem dX0_mendFrom_106 : decode cX0_mendFrom 106 = .ok (.iload 8, 2) := by decide +kernel
theorem dX0_mendFrom_108 : decode cX0_mendFrom 108 = .ok (.invokestatic 42, 3) := by decide +kernel
theorem dX0_mendFrom_111 : decode cX0_mendFrom 111 = .ok (.istore 10, 2) := by decide +kernel
theorem dX0_mendFrom_113 : decode cX0_mendFrom 113 = .ok (.iconst 0, 1) := by decide +kernel
theorem dX0_mendFrom_114 : decode cX0_mendFrom 114 = .ok (.istore 11, 2) := by decide +kernel
theorem dX0_mendFrom_116 : decode cX0_mendFrom 116 = .ok (.iload 11, 2) := by decide +kernel
theorem dX0_mendFrom_118 : decode cX0_mendFrom 118 = .ok (.aload_n 0, 1) := by decide +kernel
theorem dX0_mendFrom_119 : decode cX0_mendFrom 119 = .ok (.getfield 9, 3) := by decide +kernel
theorem dX0_mendFrom_122 : decode cX0_mendFrom 122 = .ok (.if_icmp .ge 50, 3) := by decide +kernel
theorem dX0_mendFrom_125 : decode cX0_mendFrom 125 = .ok (.iload 10, 2) := by decide +kernel
theorem dX0_mendFrom_127 : decode cX0_mendFrom 127 = .ok (.aload_n 1, 1) := by decide +kernel
theorem dX0_mendFrom_128 : decode cX0_mendFrom 128 = .ok (.iload 7, 2) := by decide +kernel
theorem dX0_mendFrom_130 : decode cX0_mendFrom 130 = .ok (.iload 11, 2) := by decide +kernel
theorem dX0_mendFrom_132 : decode cX0_mendFrom 132 = .ok (.invokevirtual 39, 3) := by decide +kernel
theorem dX0_mendFrom_135 : decode cX0_mendFrom 135 = .ok (.invokestatic 42, 3) := by decide +kernel
theorem dX0_mendFrom_138 : decode cX0_mendFrom 138 = .ok (.istore 12, 2) := by decide +kernel
theorem dX0_mendFrom_140 : decode cX0_mendFrom 140 = .ok (.aload_n 0, 1) := by decide +kernel
theorem dX0_mendFrom_141 : decode cX0_mendFrom 141 = .ok (.getfield 15, 3) := by decide +kernel
theorem dX0_mendFrom_144 : decode cX0_mendFrom 144 = .ok (.bipush 10, 2) := by decide +kernel
theorem dX0_mendFrom_146 : decode cX0_mendFrom 146 = .ok (.iload 9, 2) := by decide +kernel
theorem dX0_mendFrom_148 : decode cX0_mendFrom 148 = .ok (.imul, 1) := by decide +kernel
theorem dX0_mendFrom_149 : decode cX0_mendFrom 149 = .ok (.iload 11, 2) := by decide +kernel
theorem dX0_mendFrom_151 : decode cX0_mendFrom 151 = .ok (.iadd, 1) := by decide +kernel
theorem dX0_mendFrom_152 : decode cX0_mendFrom 152 = .ok (.iload 12, 2) := by decide +kernel
theorem dX0_mendFrom_154 : decode cX0_mendFrom 154 = .ok (.aload_n 1, 1) := by decide +kernel
theorem dX0_mendFrom_155 : decode cX0_mendFrom 155 = .ok (.iload 9, 2) := by decide +kernel
theorem dX0_mendFrom_157 : decode cX0_mendFrom 157 = .ok (.iload 11, 2) := by decide +kernel
theorem dX0_mendFrom_159 : decode cX0_mendFrom 159 = .ok (.invokevirtual 39, 3) := by decide +kernel
theorem dX0_mendFrom_162 : decode cX0_mendFrom 162 = .ok (.invokestatic 81, 3) := by decide +kernel
theorem dX0_mendFrom_165 : decode cX0_mendFrom 165 = .ok (.iastore, 1) := by decide +kernel
theorem dX0_mendFrom_166 : decode cX0_mendFrom 166 = .ok (.iinc 11 1, 3) := by decide +kernel
theorem dX0_mendFrom_169 : decode cX0_mendFrom 169 = .ok (.goto (-53), 3) := by decide +kernel
theorem dX0_mendFrom_172 : decode cX0_mendFrom 172 = .ok (.iinc 9 1, 3) := by decide +kernel
theorem dX0_mendFrom_175 : decode cX0_mendFrom 175 = .ok (.goto (-86), 3) := by decide +kernel
theorem dX0_mendFrom_178 : decode cX0_mendFrom 178 = .ok (.iconst 1, 1) := by decide +kernel
theorem dX0_mendFrom_179 : decode cX0_mendFrom 179 = .ok (.ireturn, 1) := by decide +kernel
theorem dX0_nextStop_0 : decode cX0_nextStop 0 = .ok (.iconst 0, 1) := by decide +kernel
theorem dX0_nextStop_1 : decode cX0_nextStop 1 = .ok (.istore 4, 2) := by decide +kernel
theorem dX0_nextStop_3 : decode cX0_nextStop 3 = .ok (.iload 4, 2) := by decide +kernel
theorem dX0_nextStop_5 : decode cX0_nextStop 5 = .ok (.aload_n 0, 1) := by decide +kernel
theorem dX0_nextStop_6 : decode cX0_nextStop 6 = .ok (.getfield 9, 3) := by decide +kernel
theorem dX0_nextStop_9 : decode cX0_nextStop 9 = .ok (.if_icmp .ge 44, 3) := by decide +kernel
theorem dX0_nextStop_12 : decode cX0_nextStop 12 = .ok (.iload 4, 2) := by decide +kernel
theorem dX0_nextStop_14 : decode cX0_nextStop 14 = .ok (.iload_n 2, 1) := by decide +kernel
theorem dX0_nextStop_15 : decode cX0_nextStop 15 = .ok (.if_icmp .eq 32, 3) := by decide +kernel
theorem dX0_nextStop_18 : decode cX0_nextStop 18 = .ok (.aload_n 1, 1) := by decide +kernel
theorem dX0_nextStop_19 : decode cX0_nextStop 19 = .ok (.iload_n 2, 1) := by decide +kernel
theorem dX0_nextStop_20 : decode cX0_nextStop 20 = .ok (.iload 4, 2) := by decide +kernel
theorem dX0_nextStop_22 : decode cX0_nextStop 22 = .ok (.invokestatic 22, 3) := by decide +kernel
theorem dX0_nextStop_25 : decode cX0_nextStop 25 = .ok (.aload_n 0, 1) := by decide +kernel
theorem dX0_nextStop_26 : decode cX0_nextStop 26 = .ok (.iload 4, 2) := by decide +kernel
theorem dX0_nextStop_28 : decode cX0_nextStop 28 = .ok (.iload_n 3, 1) := by decide +kernel
theorem dX0_nextStop_29 : decode cX0_nextStop 29 = .ok (.invokevirtual 39, 3) := by decide +kernel
theorem dX0_nextStop_32 : decode cX0_nextStop 32 = .ok (.invokestatic 42, 3) := by decide +kernel
theorem dX0_nextStop_35 : decode cX0_nextStop 35 = .ok (.aload_n 0, 1) := by decide +kernel
theorem dX0_nextStop_36 : decode cX0_nextStop 36 = .ok (.iload_n 2, 1) := by decide +kernel
theorem dX0_nextStop_37 : decode cX0_nextStop 37 = .ok (.iload_n 3, 1) := by decide +kernel
theorem dX0_nextStop_38 : decode cX0_nextStop 38 = .ok (.invokevirtual 39, 3) := by decide +kernel
theorem dX0_nextStop_41 : decode cX0_nextStop 41 = .ok (.if_icmp .ne 6, 3) := by decide +kernel
theorem dX0_nextStop_44 : decode cX0_nextStop 44 = .ok (.iload 4, 2) := by decide +kernel
theorem dX0_nextStop_46 : decode cX0_nextStop 46 = .ok (.ireturn, 1) := by decide +kernel
theorem dX0_nextStop_47 : decode cX0_nextStop 47 = .ok (.iinc 4 1, 3) := by decide +kernel
theorem dX0_nextStop_50 : decode cX0_nextStop 50 = .ok (.goto (-47), 3) := by decide +kernel
theorem dX0_nextStop_53 : decode cX0_nextStop 53 = .ok (.iload_n 3, 1) := by decide +kernel
theorem dX0_nextStop_54 : decode cX0_nextStop 54 = .ok (.ireturn, 1) := by decide +kernel
theorem dX0_oneWay_0 : decode cX0_oneWay 0 = .ok (.aload_n 0, 1) := by decide +kernel
theorem dX0_oneWay_1 : decode cX0_oneWay 1 = .ok (.iload_n 1, 1) := by decide +kernel
theorem dX0_oneWay_2 : decode cX0_oneWay 2 = .ok (.iload_n 2, 1) := by decide +kernel
theorem dX0_oneWay_3 : decode cX0_oneWay 3 = .ok (.invokevirtual 30, 3) := by decide +kernel
theorem dX0_oneWay_6 : decode cX0_oneWay 6 = .ok (.ifCond .eq 17, 3) := by decide +kernel
theorem dX0_oneWay_9 : decode cX0_oneWay 9 = .ok (.bipush 100, 2) := by decide +kernel
theorem dX0_oneWay_11 : decode cX0_oneWay 11 = .ok (.aload_n 0, 1) := by decide +kernel
theorem dX0_oneWay_12 : decode cX0_oneWay 12 = .ok (.iload_n 1, 1) := by decide +kernel
theorem dX0_oneWay_13 : decode cX0_oneWay 13 = .ok (.iload_n 2, 1) := by decide +kernel
theorem dX0_oneWay_14 : decode cX0_oneWay 14 = .ok (.invokevirtual 34, 3) := by decide +kernel
theorem dX0_oneWay_17 : decode cX0_oneWay 17 = .ok (.imul, 1) := by decide +kernel
theorem dX0_oneWay_18 : decode cX0_oneWay 18 = .ok (.iconst 1, 1) := by decide +kernel
theorem dX0_oneWay_19 : decode cX0_oneWay 19 = .ok (.iadd, 1) := by decide +kernel
theorem dX0_oneWay_20 : decode cX0_oneWay 20 = .ok (.goto 5, 3) := by decide +kernel
theorem dX0_oneWay_23 : decode cX0_oneWay 23 = .ok (.ldc 38, 2) := by decide +kernel
theorem dX0_oneWay_25 : decode cX0_oneWay 25 = .ok (.ireturn, 1) := by decide +kernel
theorem dX0_priceOf_0 : decode cX0_priceOf 0 = .ok (.aload_n 0, 1) := by decide +kernel
theorem dX0_priceOf_1 : decode cX0_priceOf 1 = .ok (.iload_n 1, 1) := by decide +kernel
theorem dX0_priceOf_2 : decode cX0_priceOf 2 = .ok (.iload_n 3, 1) := by decide +kernel
theorem dX0_priceOf_3 : decode cX0_priceOf 3 = .ok (.invokevirtual 66, 3) := by decide +kernel
theorem dX0_priceOf_6 : decode cX0_priceOf 6 = .ok (.istore 5, 2) := by decide +kernel
theorem dX0_priceOf_8 : decode cX0_priceOf 8 = .ok (.aload_n 0, 1) := by decide +kernel
theorem dX0_priceOf_9 : decode cX0_priceOf 9 = .ok (.iload_n 2, 1) := by decide +kernel
theorem dX0_priceOf_10 : decode cX0_priceOf 10 = .ok (.iload_n 3, 1) := by decide +kernel
theorem dX0_priceOf_11 : decode cX0_priceOf 11 = .ok (.invokevirtual 66, 3) := by decide +kernel
theorem dX0_priceOf_14 : decode cX0_priceOf 14 = .ok (.istore 6, 2) := by decide +kernel
theorem dX0_priceOf_16 : decode cX0_priceOf 16 = .ok (.iload 4, 2) := by decide +kernel
theorem dX0_priceOf_18 : decode cX0_priceOf 18 = .ok (.iconst 1, 1) := by decide +kernel
theorem dX0_priceOf_19 : decode cX0_priceOf 19 = .ok (.if_icmp .ne 11, 3) := by decide +kernel
theorem dX0_priceOf_22 : decode cX0_priceOf 22 = .ok (.iload 5, 2) := by decide +kernel
theorem dX0_priceOf_24 : decode cX0_priceOf 24 = .ok (.iload 6, 2) := by decide +kernel
theorem dX0_priceOf_26 : decode cX0_priceOf 26 = .ok (.invokestatic 46, 3) := by decide +kernel
theorem dX0_priceOf_29 : decode cX0_priceOf 29 = .ok (.ireturn, 1) := by decide +kernel
theorem dX0_priceOf_30 : decode cX0_priceOf 30 = .ok (.iload 5, 2) := by decide +kernel
theorem dX0_priceOf_32 : decode cX0_priceOf 32 = .ok (.iload 6, 2) := by decide +kernel
theorem dX0_priceOf_34 : decode cX0_priceOf 34 = .ok (.invokestatic 42, 3) := by decide +kernel
theorem dX0_priceOf_37 : decode cX0_priceOf 37 = .ok (.istore 7, 2) := by decide +kernel
theorem dX0_priceOf_39 : decode cX0_priceOf 39 = .ok (.iload 4, 2) := by decide +kernel
theorem dX0_priceOf_41 : decode cX0_priceOf 41 = .ok (.ifCond .ne 8, 3) := by decide +kernel
theorem dX0_priceOf_44 : decode cX0_priceOf 44 = .ok (.iload 7, 2) := by decide +kernel
theorem dX0_priceOf_46 : decode cX0_priceOf 46 = .ok (.goto 23, 3) := by decide +kernel
theorem dX0_priceOf_49 : decode cX0_priceOf 49 = .ok (.iload 7, 2) := by decide +kernel
theorem dX0_priceOf_51 : decode cX0_priceOf 51 = .ok (.aload_n 0, 1) := by decide +kernel
theorem dX0_priceOf_52 : decode cX0_priceOf 52 = .ok (.iload_n 3, 1) := by decide +kernel
theorem dX0_priceOf_53 : decode cX0_priceOf 53 = .ok (.iload_n 1, 1) := by decide +kernel
theorem dX0_priceOf_54 : decode cX0_priceOf 54 = .ok (.invokevirtual 66, 3) := by decide +kernel
theorem dX0_priceOf_57 : decode cX0_priceOf 57 = .ok (.aload_n 0, 1) := by decide +kernel
theorem dX0_priceOf_58 : decode cX0_priceOf 58 = .ok (.iload_n 3, 1) := by decide +kernel
theorem dX0_priceOf_59 : decode cX0_priceOf 59 = .ok (.iload_n 2, 1) := by decide +kernel
theorem dX0_priceOf_60 : decode cX0_priceOf 60 = .ok (.invokevirtual 66, 3) := by decide +kernel
theorem dX0_priceOf_63 : decode cX0_priceOf 63 = .ok (.invokestatic 42, 3) := by decide +kernel
theorem dX0_priceOf_66 : decode cX0_priceOf 66 = .ok (.invokestatic 42, 3) := by decide +kernel
theorem dX0_priceOf_69 : decode cX0_priceOf 69 = .ok (.ireturn, 1) := by decide +kernel
theorem dX0_shortenOver_0 : decode cX0_shortenOver 0 = .ok (.iconst 0, 1) := by decide +kernel
theorem dX0_shortenOver_1 : decode cX0_shortenOver 1 = .ok (.istore_n 2, 1) := by decide +kernel
theorem dX0_shortenOver_2 : decode cX0_shortenOver 2 = .ok (.iload_n 2, 1) := by decide +kernel
theorem dX0_shortenOver_3 : decode cX0_shortenOver 3 = .ok (.aload_n 0, 1) := by decide +kernel
theorem dX0_shortenOver_4 : decode cX0_shortenOver 4 = .ok (.getfield 9, 3) := by decide +kernel
theorem dX0_shortenOver_7 : decode cX0_shortenOver 7 = .ok (.if_icmp .ge 84, 3) := by decide +kernel
theorem dX0_shortenOver_10 : decode cX0_shortenOver 10 = .ok (.aload_n 0, 1) := by decide +kernel
theorem dX0_shortenOver_11 : decode cX0_shortenOver 11 = .ok (.iload_n 2, 1) := by decide +kernel
theorem dX0_shortenOver_12 : decode cX0_shortenOver 12 = .ok (.iload_n 1, 1) := by decide +kernel
theorem dX0_shortenOver_13 : decode cX0_shortenOver 13 = .ok (.invokevirtual 39, 3) := by decide +kernel
theorem dX0_shortenOver_16 : decode cX0_shortenOver 16 = .ok (.istore_n 3, 1) := by decide +kernel
theorem dX0_shortenOver_17 : decode cX0_shortenOver 17 = .ok (.iconst 0, 1) := by decide +kernel
theorem dX0_shortenOver_18 : decode cX0_shortenOver 18 = .ok (.istore 4, 2) := by decide +kernel
theorem dX0_shortenOver_20 : decode cX0_shortenOver 20 = .ok (.iload 4, 2) := by decide +kernel
theorem dX0_shortenOver_22 : decode cX0_shortenOver 22 = .ok (.aload_n 0, 1) := by decide +kernel
theorem dX0_shortenOver_23 : decode cX0_shortenOver 23 = .ok (.getfield 9, 3) := by decide +kernel
theorem dX0_shortenOver_26 : decode cX0_shortenOver 26 = .ok (.if_icmp .ge 59, 3) := by decide +kernel
theorem dX0_shortenOver_29 : decode cX0_shortenOver 29 = .ok (.iload_n 3, 1) := by decide +kernel
theorem dX0_shortenOver_30 : decode cX0_shortenOver 30 = .ok (.ldc 38, 2) := by decide +kernel
theorem dX0_shortenOver_32 : decode cX0_shortenOver 32 = .ok (.if_icmp .eq 53, 3) := by decide +kernel
theorem dX0_shortenOver_35 : decode cX0_shortenOver 35 = .ok (.iload_n 3, 1) := by decide +kernel
theorem dX0_shortenOver_36 : decode cX0_shortenOver 36 = .ok (.aload_n 0, 1) := by decide +kernel
theorem dX0_shortenOver_37 : decode cX0_shortenOver 37 = .ok (.iload_n 1, 1) := by decide +kernel
theorem dX0_shortenOver_38 : decode cX0_shortenOver 38 = .ok (.iload 4, 2) := by decide +kernel
theorem dX0_shortenOver_40 : decode cX0_shortenOver 40 = .ok (.invokevirtual 39, 3) := by decide +kernel
theorem dX0_shortenOver_43 : decode cX0_shortenOver 43 = .ok (.invokestatic 42, 3) := by decide +kernel
theorem dX0_shortenOver_46 : decode cX0_shortenOver 46 = .ok (.istore 5, 2) := by decide +kernel
theorem dX0_shortenOver_48 : decode cX0_shortenOver 48 = .ok (.iload 5, 2) := by decide +kernel
theorem dX0_shortenOver_50 : decode cX0_shortenOver 50 = .ok (.aload_n 0, 1) := by decide +kernel
theorem dX0_shortenOver_51 : decode cX0_shortenOver 51 = .ok (.iload_n 2, 1) := by decide +kernel
theorem dX0_shortenOver_52 : decode cX0_shortenOver 52 = .ok (.iload 4, 2) := by decide +kernel
theorem dX0_shortenOver_54 : decode cX0_shortenOver 54 = .ok (.invokevirtual 39, 3) := by decide +kernel
theorem dX0_shortenOver_57 : decode cX0_shortenOver 57 = .ok (.if_icmp .ge 22, 3) := by decide +kernel
theorem dX0_shortenOver_60 : decode cX0_shortenOver 60 = .ok (.aload_n 0, 1) := by decide +kernel
theorem dX0_shortenOver_61 : decode cX0_shortenOver 61 = .ok (.getfield 15, 3) := by decide +kernel
theorem dX0_shortenOver_64 : decode cX0_shortenOver 64 = .ok (.bipush 10, 2) := by decide +kernel
theorem dX0_shortenOver_66 : decode cX0_shortenOver 66 = .ok (.iload_n 2, 1) := by decide +kernel
theorem dX0_shortenOver_67 : decode cX0_shortenOver 67 = .ok (.imul, 1) := by decide +kernel
theorem dX0_shortenOver_68 : decode cX0_shortenOver 68 = .ok (.iload 4, 2) := by decide +kernel
theorem dX0_shortenOver_70 : decode cX0_shortenOver 70 = .ok (.iadd, 1) := by decide +kernel
theorem dX0_shortenOver_71 : decode cX0_shortenOver 71 = .ok (.iload 5, 2) := by decide +kernel
theorem dX0_shortenOver_73 : decode cX0_shortenOver 73 = .ok (.ldc 45, 2) := by decide +kernel
theorem dX0_shortenOver_75 : decode cX0_shortenOver 75 = .ok (.invokestatic 46, 3) := by decide +kernel
theorem dX0_shortenOver_78 : decode cX0_shortenOver 78 = .ok (.iastore, 1) := by decide +kernel
theorem dX0_shortenOver_79 : decode cX0_shortenOver 79 = .ok (.iinc 4 1, 3) := by decide +kernel
theorem dX0_shortenOver_82 : decode cX0_shortenOver 82 = .ok (.goto (-62), 3) := by decide +kernel
theorem dX0_shortenOver_85 : decode cX0_shortenOver 85 = .ok (.iinc 2 1, 3) := by decide +kernel
theorem dX0_shortenOver_88 : decode cX0_shortenOver 88 = .ok (.goto (-86), 3) := by decide +kernel
theorem dX0_shortenOver_91 : decode cX0_shortenOver 91 = .ok (.return_, 1) := by decide +kernel
theorem dX0_stopOf_0 : decode cX0_stopOf 0 = .ok (.iload_n 2, 1) := by decide +kernel
theorem dX0_stopOf_1 : decode cX0_stopOf 1 = .ok (.istore 5, 2) := by decide +kernel
theorem dX0_stopOf_3 : decode cX0_stopOf 3 = .ok (.iconst 0, 1) := by decide +kernel
theorem dX0_stopOf_4 : decode cX0_stopOf 4 = .ok (.istore 6, 2) := by decide +kernel
theorem dX0_stopOf_6 : decode cX0_stopOf 6 = .ok (.iload 6, 2) := by decide +kernel
theorem dX0_stopOf_8 : decode cX0_stopOf 8 = .ok (.iload 4, 2) := by decide +kernel
theorem dX0_stopOf_10 : decode cX0_stopOf 10 = .ok (.if_icmp .ge 19, 3) := by decide +kernel
theorem dX0_stopOf_13 : decode cX0_stopOf 13 = .ok (.aload_n 0, 1) := by decide +kernel
theorem dX0_stopOf_14 : decode cX0_stopOf 14 = .ok (.aload_n 1, 1) := by decide +kernel
theorem dX0_stopOf_15 : decode cX0_stopOf 15 = .ok (.iload 5, 2) := by decide +kernel
theorem dX0_stopOf_17 : decode cX0_stopOf 17 = .ok (.iload_n 3, 1) := by decide +kernel
theorem dX0_stopOf_18 : decode cX0_stopOf 18 = .ok (.invokevirtual 60, 3) := by decide +kernel
theorem dX0_stopOf_21 : decode cX0_stopOf 21 = .ok (.istore 5, 2) := by decide +kernel
theorem dX0_stopOf_23 : decode cX0_stopOf 23 = .ok (.iinc 6 1, 3) := by decide +kernel
theorem dX0_stopOf_26 : decode cX0_stopOf 26 = .ok (.goto (-20), 3) := by decide +kernel
theorem dX0_stopOf_29 : decode cX0_stopOf 29 = .ok (.iload 5, 2) := by decide +kernel
theorem dX0_stopOf_31 : decode cX0_stopOf 31 = .ok (.ireturn, 1) := by decide +kernel
theorem dX0_tripOf_0 : decode cX0_tripOf 0 = .ok (.iconst 0, 1) := by decide +kernel
theorem dX0_tripOf_1 : decode cX0_tripOf 1 = .ok (.istore_n 3, 1) := by decide +kernel
theorem dX0_tripOf_2 : decode cX0_tripOf 2 = .ok (.iconst 0, 1) := by decide +kernel
theorem dX0_tripOf_3 : decode cX0_tripOf 3 = .ok (.istore 4, 2) := by decide +kernel
theorem dX0_tripOf_5 : decode cX0_tripOf 5 = .ok (.iload 4, 2) := by decide +kernel
theorem dX0_tripOf_7 : decode cX0_tripOf 7 = .ok (.aload_n 0, 1) := by decide +kernel
theorem dX0_tripOf_8 : decode cX0_tripOf 8 = .ok (.getfield 9, 3) := by decide +kernel
theorem dX0_tripOf_11 : decode cX0_tripOf 11 = .ok (.if_icmp .ge 61, 3) := by decide +kernel
theorem dX0_tripOf_14 : decode cX0_tripOf 14 = .ok (.aload_n 1, 1) := by decide +kernel
theorem dX0_tripOf_15 : decode cX0_tripOf 15 = .ok (.getfield 63, 3) := by decide +kernel
theorem dX0_tripOf_18 : decode cX0_tripOf 18 = .ok (.iload 4, 2) := by decide +kernel
theorem dX0_tripOf_20 : decode cX0_tripOf 20 = .ok (.iaload, 1) := by decide +kernel
theorem dX0_tripOf_21 : decode cX0_tripOf 21 = .ok (.ifCond .le 45, 3) := by decide +kernel
theorem dX0_tripOf_24 : decode cX0_tripOf 24 = .ok (.aload_n 0, 1) := by decide +kernel
theorem dX0_tripOf_25 : decode cX0_tripOf 25 = .ok (.iload_n 2, 1) := by decide +kernel
theorem dX0_tripOf_26 : decode cX0_tripOf 26 = .ok (.iload 4, 2) := by decide +kernel
theorem dX0_tripOf_28 : decode cX0_tripOf 28 = .ok (.invokevirtual 66, 3) := by decide +kernel
theorem dX0_tripOf_31 : decode cX0_tripOf 31 = .ok (.aload_n 0, 1) := by decide +kernel
theorem dX0_tripOf_32 : decode cX0_tripOf 32 = .ok (.iload 4, 2) := by decide +kernel
theorem dX0_tripOf_34 : decode cX0_tripOf 34 = .ok (.iload_n 2, 1) := by decide +kernel
theorem dX0_tripOf_35 : decode cX0_tripOf 35 = .ok (.invokevirtual 66, 3) := by decide +kernel
theorem dX0_tripOf_38 : decode cX0_tripOf 38 = .ok (.invokestatic 42, 3) := by decide +kernel
theorem dX0_tripOf_41 : decode cX0_tripOf 41 = .ok (.istore 5, 2) := by decide +kernel
theorem dX0_tripOf_43 : decode cX0_tripOf 43 = .ok (.iload 5, 2) := by decide +kernel
theorem dX0_tripOf_45 : decode cX0_tripOf 45 = .ok (.ldc 38, 2) := by decide +kernel
theorem dX0_tripOf_47 : decode cX0_tripOf 47 = .ok (.if_icmp .ne 6, 3) := by decide +kernel
theorem dX0_tripOf_50 : decode cX0_tripOf 50 = .ok (.ldc 38, 2) := by decide +kernel
theorem dX0_tripOf_52 : decode cX0_tripOf 52 = .ok (.ireturn, 1) := by decide +kernel
theorem dX0_tripOf_53 : decode cX0_tripOf 53 = .ok (.iload_n 3, 1) := by decide +kernel
theorem dX0_tripOf_54 : decode cX0_tripOf 54 = .ok (.aload_n 1, 1) := by decide +kernel
theorem dX0_tripOf_55 : decode cX0_tripOf 55 = .ok (.getfield 63, 3) := by decide +kernel
theorem dX0_tripOf_58 : decode cX0_tripOf 58 = .ok (.iload 4, 2) := by decide +kernel
theorem dX0_tripOf_60 : decode cX0_tripOf 60 = .ok (.iaload, 1) := by decide +kernel
theorem dX0_tripOf_61 : decode cX0_tripOf 61 = .ok (.iload 5, 2) := by decide +kernel
theorem dX0_tripOf_63 : decode cX0_tripOf 63 = .ok (.imul, 1) := by decide +kernel
theorem dX0_tripOf_64 : decode cX0_tripOf 64 = .ok (.iadd, 1) := by decide +kernel
theorem dX0_tripOf_65 : decode cX0_tripOf 65 = .ok (.istore_n 3, 1) := by decide +kernel
theorem dX0_tripOf_66 : decode cX0_tripOf 66 = .ok (.iinc 4 1, 3) := by decide +kernel
theorem dX0_tripOf_69 : decode cX0_tripOf 69 = .ok (.goto (-64), 3) := by decide +kernel
theorem dX0_tripOf_72 : decode cX0_tripOf 72 = .ok (.iload_n 3, 1) := by decide +kernel
theorem dX0_tripOf_73 : decode cX0_tripOf 73 = .ok (.ireturn, 1) := by decide +kernel
theorem dX0_waysOf_0 : decode cX0_waysOf 0 = .ok (.aload_n 0, 1) := by decide +kernel
theorem dX0_waysOf_1 : decode cX0_waysOf 1 = .ok (.iload_n 1, 1) := by decide +kernel
theorem dX0_waysOf_2 : decode cX0_waysOf 2 = .ok (.iload_n 2, 1) := by decide +kernel
theorem dX0_waysOf_3 : decode cX0_waysOf 3 = .ok (.invokevirtual 39, 3) := by decide +kernel
theorem dX0_waysOf_6 : decode cX0_waysOf 6 = .ok (.istore_n 3, 1) := by decide +kernel
theorem dX0_waysOf_7 : decode cX0_waysOf 7 = .ok (.iload_n 3, 1) := by decide +kernel
theorem dX0_waysOf_8 : decode cX0_waysOf 8 = .ok (.ldc 38, 2) := by decide +kernel
theorem dX0_waysOf_10 : decode cX0_waysOf 10 = .ok (.if_icmp .ne 7, 3) := by decide +kernel
theorem dX0_waysOf_13 : decode cX0_waysOf 13 = .ok (.iconst (-1), 1) := by decide +kernel
theorem dX0_waysOf_14 : decode cX0_waysOf 14 = .ok (.goto 9, 3) := by decide +kernel
theorem dX0_waysOf_17 : decode cX0_waysOf 17 = .ok (.iload_n 3, 1) := by decide +kernel
theorem dX0_waysOf_18 : decode cX0_waysOf 18 = .ok (.bipush 100, 2) := by decide +kernel
theorem dX0_waysOf_20 : decode cX0_waysOf 20 = .ok (.invokestatic 57, 3) := by decide +kernel
theorem dX0_waysOf_23 : decode cX0_waysOf 23 = .ok (.ireturn, 1) := by decide +kernel
theorem dX1_addPlace_0 : decode cX1_addPlace 0 = .ok (.aload_n 0, 1) := by decide +kernel
theorem dX1_addPlace_1 : decode cX1_addPlace 1 = .ok (.getfield 9, 3) := by decide +kernel
theorem dX1_addPlace_4 : decode cX1_addPlace 4 = .ok (.istore_n 2, 1) := by decide +kernel
theorem dX1_addPlace_5 : decode cX1_addPlace 5 = .ok (.aload_n 0, 1) := by decide +kernel
theorem dX1_addPlace_6 : decode cX1_addPlace 6 = .ok (.dup, 1) := by decide +kernel
theorem dX1_addPlace_7 : decode cX1_addPlace 7 = .ok (.getfield 9, 3) := by decide +kernel
theorem dX1_addPlace_10 : decode cX1_addPlace 10 = .ok (.iconst 1, 1) := by decide +kernel
theorem dX1_addPlace_11 : decode cX1_addPlace 11 = .ok (.iadd, 1) := by decide +kernel
theorem dX1_addPlace_12 : decode cX1_addPlace 12 = .ok (.putfield 9, 3) := by decide +kernel
theorem dX1_addPlace_15 : decode cX1_addPlace 15 = .ok (.aload_n 0, 1) := by decide +kernel
theorem dX1_addPlace_16 : decode cX1_addPlace 16 = .ok (.getfield 15, 3) := by decide +kernel
theorem dX1_addPlace_19 : decode cX1_addPlace 19 = .ok (.iload_n 2, 1) := by decide +kernel
theorem dX1_addPlace_20 : decode cX1_addPlace 20 = .ok (.iload_n 1, 1) := by decide +kernel
theorem dX1_addPlace_21 : decode cX1_addPlace 21 = .ok (.iastore, 1) := by decide +kernel
theorem dX1_addPlace_22 : decode cX1_addPlace 22 = .ok (.iload_n 2, 1) := by decide +kernel
theorem dX1_addPlace_23 : decode cX1_addPlace 23 = .ok (.ireturn, 1) := by decide +kernel
theorem dX1_addRound_0 : decode cX1_addRound 0 = .ok (.aload_n 0, 1) := by decide +kernel
theorem dX1_addRound_1 : decode cX1_addRound 1 = .ok (.getfield 31, 3) := by decide +kernel
theorem dX1_addRound_4 : decode cX1_addRound 4 = .ok (.iload_n 2, 1) := by decide +kernel
theorem dX1_addRound_5 : decode cX1_addRound 5 = .ok (.invokevirtual 69, 3) := by decide +kernel
theorem dX1_addRound_8 : decode cX1_addRound 8 = .ok (.istore_n 3, 1) := by decide +kernel
theorem dX1_addRound_9 : decode cX1_addRound 9 = .ok (.aload_n 0, 1) := by decide +kernel
theorem dX1_addRound_10 : decode cX1_addRound 10 = .ok (.getfield 35, 3) := by decide +kernel
theorem dX1_addRound_13 : decode cX1_addRound 13 = .ok (.iload_n 3, 1) := by decide +kernel
theorem dX1_addRound_14 : decode cX1_addRound 14 = .ok (.iload_n 1, 1) := by decide +kernel
theorem dX1_addRound_15 : decode cX1_addRound 15 = .ok (.iastore, 1) := by decide +kernel
theorem dX1_addRound_16 : decode cX1_addRound 16 = .ok (.iload_n 3, 1) := by decide +kernel
theorem dX1_addRound_17 : decode cX1_addRound 17 = .ok (.ireturn, 1) := by decide +kernel
theorem dX1_addWalk_0 : decode cX1_addWalk 0 = .ok (.aload_n 0, 1) := by decide +kernel
theorem dX1_addWalk_1 : decode cX1_addWalk 1 = .ok (.getfield 38, 3) := by decide +kernel
theorem dX1_addWalk_4 : decode cX1_addWalk 4 = .ok (.iload_n 1, 1) := by decide +kernel
theorem dX1_addWalk_5 : decode cX1_addWalk 5 = .ok (.invokevirtual 69, 3) := by decide +kernel
theorem dX1_addWalk_8 : decode cX1_addWalk 8 = .ok (.istore 4, 2) := by decide +kernel
theorem dX1_addWalk_10 : decode cX1_addWalk 10 = .ok (.aload_n 0, 1) := by decide +kernel
theorem dX1_addWalk_11 : decode cX1_addWalk 11 = .ok (.getfield 41, 3) := by decide +kernel
theorem dX1_addWalk_14 : decode cX1_addWalk 14 = .ok (.iload 4, 2) := by decide +kernel
theorem dX1_addWalk_16 : decode cX1_addWalk 16 = .ok (.iload_n 2, 1) := by decide +kernel
theorem dX1_addWalk_17 : decode cX1_addWalk 17 = .ok (.iastore, 1) := by decide +kernel
theorem dX1_addWalk_18 : decode cX1_addWalk 18 = .ok (.aload_n 0, 1) := by decide +kernel
theorem dX1_addWalk_19 : decode cX1_addWalk 19 = .ok (.getfield 44, 3) := by decide +kernel
theorem dX1_addWalk_22 : decode cX1_addWalk 22 = .ok (.iload 4, 2) := by decide +kernel
theorem dX1_addWalk_24 : decode cX1_addWalk 24 = .ok (.iload_n 3, 1) := by decide +kernel
theorem dX1_addWalk_25 : decode cX1_addWalk 25 = .ok (.iastore, 1) := by decide +kernel
theorem dX1_addWalk_26 : decode cX1_addWalk 26 = .ok (.iload 4, 2) := by decide +kernel
theorem dX1_addWalk_28 : decode cX1_addWalk 28 = .ok (.ireturn, 1) := by decide +kernel
theorem dX1_allBetweenEnds_0 : decode cX1_allBetweenEnds 0 = .ok (.iconst 0, 1) := by decide +kernel
theorem dX1_allBetweenEnds_1 : decode cX1_allBetweenEnds 1 = .ok (.istore_n 1, 1) := by decide +kernel
theorem dX1_allBetweenEnds_2 : decode cX1_allBetweenEnds 2 = .ok (.iconst 0, 1) := by decide +kernel
theorem dX1_allBetweenEnds_3 : decode cX1_allBetweenEnds 3 = .ok (.istore_n 2, 1) := by decide +kernel
theorem dX1_allBetweenEnds_4 : decode cX1_allBetweenEnds 4 = .ok (.iload_n 2, 1) := by decide +kernel
theorem dX1_allBetweenEnds_5 : decode cX1_allBetweenEnds 5 = .ok (.bipush 100, 2) := by decide +kernel
theorem dX1_allBetweenEnds_7 : decode cX1_allBetweenEnds 7 = .ok (.if_icmp .ge 38, 3) := by decide +kernel
theorem dX1_allBetweenEnds_10 : decode cX1_allBetweenEnds 10 = .ok (.iload_n 1, 1) := by decide +kernel
theorem dX1_allBetweenEnds_11 : decode cX1_allBetweenEnds 11 = .ok (.aload_n 0, 1) := by decide +kernel
theorem dX1_allBetweenEnds_12 : decode cX1_allBetweenEnds 12 = .ok (.getfield 25, 3) := by decide +kernel
theorem dX1_allBetweenEnds_15 : decode cX1_allBetweenEnds 15 = .ok (.iload_n 2, 1) := by decide +kernel
theorem dX1_allBetweenEnds_16 : decode cX1_allBetweenEnds 16 = .ok (.iaload, 1) := by decide +kernel
theorem dX1_allBetweenEnds_17 : decode cX1_allBetweenEnds 17 = .ok (.ifCond .ne 7, 3) := by decide +kernel
theorem dX1_allBetweenEnds_20 : decode cX1_allBetweenEnds 20 = .ok (.iconst 0, 1) := by decide +kernel
theorem dX1_allBetweenEnds_21 : decode cX1_allBetweenEnds 21 = .ok (.goto 16, 3) := by decide +kernel
theorem dX1_allBetweenEnds_24 : decode cX1_allBetweenEnds 24 = .ok (.aload_n 0, 1) := by decide +kernel
theorem dX1_allBetweenEnds_25 : decode cX1_allBetweenEnds 25 = .ok (.getfield 22, 3) := by decide +kernel
theorem dX1_allBetweenEnds_28 : decode cX1_allBetweenEnds 28 = .ok (.iload_n 2, 1) := by decide +kernel
theorem dX1_allBetweenEnds_29 : decode cX1_allBetweenEnds 29 = .ok (.iaload, 1) := by decide +kernel
theorem dX1_allBetweenEnds_30 : decode cX1_allBetweenEnds 30 = .ok (.aload_n 0, 1) := by decide +kernel
theorem dX1_allBetweenEnds_31 : decode cX1_allBetweenEnds 31 = .ok (.getfield 19, 3) := by decide +kernel
theorem dX1_allBetweenEnds_34 : decode cX1_allBetweenEnds 34 = .ok (.iload_n 2, 1) := by decide +kernel
theorem dX1_allBetweenEnds_35 : decode cX1_allBetweenEnds 35 = .ok (.iaload, 1) := by decide +kernel
theorem dX1_allBetweenEnds_36 : decode cX1_allBetweenEnds 36 = .ok (.isub, 1) := by decide +kernel
theorem dX1_allBetweenEnds_37 : decode cX1_allBetweenEnds 37 = .ok (.iadd, 1) := by decide +kernel
theorem dX1_allBetweenEnds_38 : decode cX1_allBetweenEnds 38 = .ok (.istore_n 1, 1) := by decide +kernel
theorem dX1_allBetweenEnds_39 : decode cX1_allBetweenEnds 39 = .ok (.iinc 2 1, 3) := by decide +kernel
theorem dX1_allBetweenEnds_42 : decode cX1_allBetweenEnds 42 = .ok (.goto (-38), 3) := by decide +kernel
theorem dX1_allBetweenEnds_45 : decode cX1_allBetweenEnds 45 = .ok (.iload_n 1, 1) := by decide +kernel
theorem dX1_allBetweenEnds_46 : decode cX1_allBetweenEnds 46 = .ok (.ireturn, 1) := by decide +kernel
theorem dX1_allErrands_0 : decode cX1_allErrands 0 = .ok (.iconst 0, 1) := by decide +kernel
theorem dX1_allErrands_1 : decode cX1_allErrands 1 = .ok (.istore_n 1, 1) := by decide +kernel
theorem dX1_allErrands_2 : decode cX1_allErrands 2 = .ok (.iconst 0, 1) := by decide +kernel
theorem dX1_allErrands_3 : decode cX1_allErrands 3 = .ok (.istore_n 2, 1) := by decide +kernel
theorem dX1_allErrands_4 : decode cX1_allErrands 4 = .ok (.iload_n 2, 1) := by decide +kernel
theorem dX1_allErrands_5 : decode cX1_allErrands 5 = .ok (.aload_n 0, 1) := by decide +kernel
theorem dX1_allErrands_6 : decode cX1_allErrands 6 = .ok (.getfield 9, 3) := by decide +kernel
theorem dX1_allErrands_9 : decode cX1_allErrands 9 = .ok (.if_icmp .ge 18, 3) := by decide +kernel
theorem dX1_allErrands_12 : decode cX1_allErrands 12 = .ok (.iload_n 1, 1) := by decide +kernel
theorem dX1_allErrands_13 : decode cX1_allErrands 13 = .ok (.aload_n 0, 1) := by decide +kernel
theorem dX1_allErrands_14 : decode cX1_allErrands 14 = .ok (.getfield 15, 3) := by decide +kernel
theorem dX1_allErrands_17 : decode cX1_allErrands 17 = .ok (.iload_n 2, 1) := by decide +kernel
theorem dX1_allErrands_18 : decode cX1_allErrands 18 = .ok (.iaload, 1) := by decide +kernel
theorem dX1_allErrands_19 : decode cX1_allErrands 19 = .ok (.iadd, 1) := by decide +kernel
theorem dX1_allErrands_20 : decode cX1_allErrands 20 = .ok (.istore_n 1, 1) := by decide +kernel
theorem dX1_allErrands_21 : decode cX1_allErrands 21 = .ok (.iinc 2 1, 3) := by decide +kernel
theorem dX1_allErrands_24 : decode cX1_allErrands 24 = .ok (.goto (-20), 3) := by decide +kernel
theorem dX1_allErrands_27 : decode cX1_allErrands 27 = .ok (.iload_n 1, 1) := by decide +kernel
theorem dX1_allErrands_28 : decode cX1_allErrands 28 = .ok (.ireturn, 1) := by decide +kernel
theorem dX1_areBothWays_0 : decode cX1_areBothWays 0 = .ok (.aload_n 0, 1) := by decide +kernel
theorem dX1_areBothWays_1 : decode cX1_areBothWays 1 = .ok (.iload_n 1, 1) := by decide +kernel
theorem dX1_areBothWays_2 : decode cX1_areBothWays 2 = .ok (.iload_n 2, 1) := by decide +kernel
theorem dX1_areBothWays_3 : decode cX1_areBothWays 3 = .ok (.invokevirtual 65, 3) := by decide +kernel
theorem dX1_areBothWays_6 : decode cX1_areBothWays 6 = .ok (.ifCond .eq 16, 3) := by decide +kernel
theorem dX1_areBothWays_9 : decode cX1_areBothWays 9 = .ok (.aload_n 0, 1) := by decide +kernel
theorem dX1_areBothWays_10 : decode cX1_areBothWays 10 = .ok (.iload_n 2, 1) := by decide +kernel
theorem dX1_areBothWays_11 : decode cX1_areBothWays 11 = .ok (.iload_n 1, 1) := by decide +kernel
theorem dX1_areBothWays_12 : decode cX1_areBothWays 12 = .ok (.invokevirtual 65, 3) := by decide +kernel
theorem dX1_areBothWays_15 : decode cX1_areBothWays 15 = .ok (.ifCond .eq 7, 3) := by decide +kernel
theorem dX1_areBothWays_18 : decode cX1_areBothWays 18 = .ok (.iconst 1, 1) := by decide +kernel
theorem dX1_areBothWays_19 : decode cX1_areBothWays 19 = .ok (.goto 4, 3) := by decide +kernel
theorem dX1_areBothWays_22 : decode cX1_areBothWays 22 = .ok (.iconst 0, 1) := by decide +kernel
theorem dX1_areBothWays_23 : decode cX1_areBothWays 23 = .ok (.ireturn, 1) := by decide +kernel
theorem dX1_areTwo_0 : decode cX1_areTwo 0 = .ok (.aload_n 0, 1) := by decide +kernel
theorem dX1_areTwo_1 : decode cX1_areTwo 1 = .ok (.iload_n 1, 1) := by decide +kernel
theorem dX1_areTwo_2 : decode cX1_areTwo 2 = .ok (.i2l, 1) := by decide +kernel
theorem dX1_areTwo_3 : decode cX1_areTwo 3 = .ok (.invokevirtual 57, 3) := by decide +kernel
theorem dX1_areTwo_6 : decode cX1_areTwo 6 = .ok (.ifCond .eq 21, 3) := by decide +kernel
theorem dX1_areTwo_9 : decode cX1_areTwo 9 = .ok (.aload_n 0, 1) := by decide +kernel
theorem dX1_areTwo_10 : decode cX1_areTwo 10 = .ok (.iload_n 2, 1) := by decide +kernel
theorem dX1_areTwo_11 : decode cX1_areTwo 11 = .ok (.i2l, 1) := by decide +kernel
theorem dX1_areTwo_12 : decode cX1_areTwo 12 = .ok (.invokevirtual 57, 3) := by decide +kernel
theorem dX1_areTwo_15 : decode cX1_areTwo 15 = .ok (.ifCond .eq 12, 3) := by decide +kernel
theorem dX1_areTwo_18 : decode cX1_areTwo 18 = .ok (.iload_n 1, 1) := by decide +kernel
theorem dX1_areTwo_19 : decode cX1_areTwo 19 = .ok (.iload_n 2, 1) := by decide +kernel
theorem dX1_areTwo_20 : decode cX1_areTwo 20 = .ok (.if_icmp .eq 7, 3) := by decide +kernel
theorem dX1_areTwo_23 : decode cX1_areTwo 23 = .ok (.iconst 1, 1) := by decide +kernel
theorem dX1_areTwo_24 : decode cX1_areTwo 24 = .ok (.goto 4, 3) := by decide +kernel
theorem dX1_areTwo_27 : decode cX1_areTwo 27 = .ok (.iconst 0, 1) := by decide +kernel
theorem dX1_areTwo_28 : decode cX1_areTwo 28 = .ok (.ireturn, 1) := by decide +kernel
theorem dX1_become_0 : decode cX1_become 0 = .ok (.aload_n 0, 1) := by decide +kernel
theorem dX1_become_1 : decode cX1_become 1 = .ok (.aload_n 1, 1) := by decide +kernel
theorem dX1_become_2 : decode cX1_become 2 = .ok (.getfield 9, 3) := by decide +kernel
theorem dX1_become_5 : decode cX1_become 5 = .ok (.putfield 9, 3) := by decide +kernel
theorem dX1_become_8 : decode cX1_become 8 = .ok (.aload_n 1, 1) := by decide +kernel
theorem dX1_become_9 : decode cX1_become 9 = .ok (.getfield 15, 3) := by decide +kernel
theorem dX1_become_12 : decode cX1_become 12 = .ok (.iconst 0, 1) := by decide +kernel
theorem dX1_become_13 : decode cX1_become 13 = .ok (.aload_n 0, 1) := by decide +kernel
theorem dX1_become_14 : decode cX1_become 14 = .ok (.getfield 15, 3) := by decide +kernel
theorem dX1_become_17 : decode cX1_become 17 = .ok (.iconst 0, 1) := by decide +kernel
theorem dX1_become_18 : decode cX1_become 18 = .ok (.bipush 10, 2) := by decide +kernel
theorem dX1_become_20 : decode cX1_become 20 = .ok (.invokestatic 47, 3) := by decide +kernel
theorem dX1_become_23 : decode cX1_become 23 = .ok (.aload_n 1, 1) := by decide +kernel
theorem dX1_become_24 : decode cX1_become 24 = .ok (.getfield 19, 3) := by decide +kernel
theorem dX1_become_27 : decode cX1_become 27 = .ok (.iconst 0, 1) := by decide +kernel
theorem dX1_become_28 : decode cX1_become 28 = .ok (.aload_n 0, 1) := by decide +kernel
theorem dX1_become_29 : decode cX1_become 29 = .ok (.getfield 19, 3) := by decide +kernel
theorem dX1_become_32 : decode cX1_become 32 = .ok (.iconst 0, 1) := by decide +kernel
theorem dX1_become_33 : decode cX1_become 33 = .ok (.bipush 100, 2) := by decide +kernel
theorem dX1_become_35 : decode cX1_become 35 = .ok (.invokestatic 47, 3) := by decide +kernel
theorem dX1_become_38 : decode cX1_become 38 = .ok (.aload_n 1, 1) := by decide +kernel
theorem dX1_become_39 : decode cX1_become 39 = .ok (.getfield 22, 3) := by decide +kernel
theorem dX1_become_42 : decode cX1_become 42 = .ok (.iconst 0, 1) := by decide +kernel
theorem dX1_become_43 : decode cX1_become 43 = .ok (.aload_n 0, 1) := by decide +kernel
theorem dX1_become_44 : decode cX1_become 44 = .ok (.getfield 22, 3) := by decide +kernel
theorem dX1_become_47 : decode cX1_become 47 = .ok (.iconst 0, 1) := by decide +kernel
theorem dX1_become_48 : decode cX1_become 48 = .ok (.bipush 100, 2) := by decide +kernel
theorem dX1_become_50 : decode cX1_become 50 = .ok (.invokestatic 47, 3) := by decide +kernel
theorem dX1_become_53 : decode cX1_become 53 = .ok (.aload_n 1, 1) := by decide +kernel
theorem dX1_become_54 : decode cX1_become 54 = .ok (.getfield 25, 3) := by decide +kernel
theorem dX1_become_57 : decode cX1_become 57 = .ok (.iconst 0, 1) := by decide +kernel
theorem dX1_become_58 : decode cX1_become 58 = .ok (.aload_n 0, 1) := by decide +kernel
theorem dX1_become_59 : decode cX1_become 59 = .ok (.getfield 25, 3) := by decide +kernel
theorem dX1_become_62 : decode cX1_become 62 = .ok (.iconst 0, 1) := by decide +kernel
theorem dX1_become_63 : decode cX1_become 63 = .ok (.bipush 100, 2) := by decide +kernel
theorem dX1_become_65 : decode cX1_become 65 = .ok (.invokestatic 47, 3) := by decide +kernel
theorem dX1_become_68 : decode cX1_become 68 = .ok (.aload_n 0, 1) := by decide +kernel
theorem dX1_become_69 : decode cX1_become 69 = .ok (.getfield 31, 3) := by decide +kernel
theorem dX1_become_72 : decode cX1_become 72 = .ok (.aload_n 1, 1) := by decide +kernel
theorem dX1_become_73 : decode cX1_become 73 = .ok (.getfield 31, 3) := by decide +kernel
theorem dX1_become_76 : decode cX1_become 76 = .ok (.invokevirtual 53, 3) := by decide +kernel
theorem dX1_become_79 : decode cX1_become 79 = .ok (.aload_n 1, 1) := by decide +kernel
theorem dX1_become_80 : decode cX1_become 80 = .ok (.getfield 35, 3) := by decide +kernel
theorem dX1_become_83 : decode cX1_become 83 = .ok (.iconst 0, 1) := by decide +kernel
theorem dX1_become_84 : decode cX1_become 84 = .ok (.aload_n 0, 1) := by decide +kernel
theorem dX1_become_85 : decode cX1_become 85 = .ok (.getfield 35, 3) := by decide +kernel
theorem dX1_become_88 : decode cX1_become 88 = .ok (.iconst 0, 1) := by decide +kernel
theorem dX1_become_89 : decode cX1_become 89 = .ok (.bipush 8, 2) := by decide +kernel
theorem dX1_become_91 : decode cX1_become 91 = .ok (.invokestatic 47, 3) := by decide +kernel
theorem dX1_become_94 : decode cX1_become 94 = .ok (.aload_n 0, 1) := by decide +kernel
theorem dX1_become_95 : decode cX1_become 95 = .ok (.getfield 38, 3) := by decide +kernel
theorem dX1_become_98 : decode cX1_become 98 = .ok (.aload_n 1, 1) := by decide +kernel
theorem dX1_become_99 : decode cX1_become 99 = .ok (.getfield 38, 3) := by decide +kernel
theorem dX1_become_102 : decode cX1_become 102 = .ok (.invokevirtual 53, 3) := by decide +kernel
theorem dX1_become_105 : decode cX1_become 105 = .ok (.aload_n 1, 1) := by decide +kernel
theorem dX1_become_106 : decode cX1_become 106 = .ok (.getfield 41, 3) := by decide +kernel
theorem dX1_become_109 : decode cX1_become 109 = .ok (.iconst 0, 1) := by decide +kernel
theorem dX1_become_110 : decode cX1_become 110 = .ok (.aload_n 0, 1) := by decide +kernel
theorem dX1_become_111 : decode cX1_become 111 = .ok (.getfield 41, 3) := by decide +kernel
theorem dX1_become_114 : decode cX1_become 114 = .ok (.iconst 0, 1) := by decide +kernel
theorem dX1_become_115 : decode cX1_become 115 = .ok (.bipush 8, 2) := by decide +kernel
theorem dX1_become_117 : decode cX1_become 117 = .ok (.invokestatic 47, 3) := by decide +kernel
theorem dX1_become_120 : decode cX1_become 120 = .ok (.aload_n 1, 1) := by decide +kernel
theorem dX1_become_121 : decode cX1_become 121 = .ok (.getfield 44, 3) := by decide +kernel
theorem dX1_become_124 : decode cX1_become 124 = .ok (.iconst 0, 1) := by decide +kernel
theorem dX1_become_125 : decode cX1_become 125 = .ok (.aload_n 0, 1) := by decide +kernel
theorem dX1_become_126 : decode cX1_become 126 = .ok (.getfield 44, 3) := by decide +kernel
theorem dX1_become_129 : decode cX1_become 129 = .ok (.iconst 0, 1) := by decide +kernel
theorem dX1_become_130 : decode cX1_become 130 = .ok (.bipush 8, 2) := by decide +kernel
theorem dX1_become_132 : decode cX1_become 132 = .ok (.invokestatic 47, 3) := by decide +kernel
theorem dX1_become_135 : decode cX1_become 135 = .ok (.return_, 1) := by decide +kernel
theorem dX1_comesTo_0 : decode cX1_comesTo 0 = .ok (.iload_n 1, 1) := by decide +kernel
theorem dX1_comesTo_1 : decode cX1_comesTo 1 = .ok (.istore_n 3, 1) := by decide +kernel
theorem dX1_comesTo_2 : decode cX1_comesTo 2 = .ok (.iconst 0, 1) := by decide +kernel
theorem dX1_comesTo_3 : decode cX1_comesTo 3 = .ok (.istore 4, 2) := by decide +kernel
theorem dX1_comesTo_5 : decode cX1_comesTo 5 = .ok (.iload 4, 2) := by decide +kernel
theorem dX1_comesTo_7 : decode cX1_comesTo 7 = .ok (.iload_n 2, 1) := by decide +kernel
theorem dX1_comesTo_8 : decode cX1_comesTo 8 = .ok (.if_icmp .ge 19, 3) := by decide +kernel
theorem dX1_comesTo_11 : decode cX1_comesTo 11 = .ok (.iload_n 3, 1) := by decide +kernel
theorem dX1_comesTo_12 : decode cX1_comesTo 12 = .ok (.ifCond .lt 15, 3) := by decide +kernel
theorem dX1_comesTo_15 : decode cX1_comesTo 15 = .ok (.aload_n 0, 1) := by decide +kernel
theorem dX1_comesTo_16 : decode cX1_comesTo 16 = .ok (.iload_n 3, 1) := by decide +kernel
theorem dX1_comesTo_17 : decode cX1_comesTo 17 = .ok (.invokevirtual 77, 3) := by decide +kernel
theorem dX1_comesTo_20 : decode cX1_comesTo 20 = .ok (.istore_n 3, 1) := by decide +kernel
theorem dX1_comesTo_21 : decode cX1_comesTo 21 = .ok (.iinc 4 1, 3) := by decide +kernel
theorem dX1_comesTo_24 : decode cX1_comesTo 24 = .ok (.goto (-19), 3) := by decide +kernel
theorem dX1_comesTo_27 : decode cX1_comesTo 27 = .ok (.iload_n 3, 1) := by decide +kernel
theorem dX1_comesTo_28 : decode cX1_comesTo 28 = .ok (.ireturn, 1) := by decide +kernel
theorem dX1_countUnknown_0 : decode cX1_countUnknown 0 = .ok (.iconst 0, 1) := by decide +kernel
theorem dX1_countUnknown_1 : decode cX1_countUnknown 1 = .ok (.istore_n 1, 1) := by decide +kernel
theorem dX1_countUnknown_2 : decode cX1_countUnknown 2 = .ok (.iconst 0, 1) := by decide +kernel
theorem dX1_countUnknown_3 : decode cX1_countUnknown 3 = .ok (.istore_n 2, 1) := by decide +kernel
theorem dX1_countUnknown_4 : decode cX1_countUnknown 4 = .ok (.iload_n 2, 1) := by decide +kernel
theorem dX1_countUnknown_5 : decode cX1_countUnknown 5 = .ok (.bipush 100, 2) := by decide +kernel
theorem dX1_countUnknown_7 : decode cX1_countUnknown 7 = .ok (.if_icmp .ge 41, 3) := by decide +kernel
theorem dX1_countUnknown_10 : decode cX1_countUnknown 10 = .ok (.iload_n 1, 1) := by decide +kernel
theorem dX1_countUnknown_11 : decode cX1_countUnknown 11 = .ok (.aload_n 0, 1) := by decide +kernel
theorem dX1_countUnknown_12 : decode cX1_countUnknown 12 = .ok (.getfield 25, 3) := by decide +kernel
theorem dX1_countUnknown_15 : decode cX1_countUnknown 15 = .ok (.iload_n 2, 1) := by decide +kernel
theorem dX1_countUnknown_16 : decode cX1_countUnknown 16 = .ok (.iaload, 1) := by decide +kernel
theorem dX1_countUnknown_17 : decode cX1_countUnknown 17 = .ok (.ifCond .eq 22, 3) := by decide +kernel
theorem dX1_countUnknown_20 : decode cX1_countUnknown 20 = .ok (.aload_n 0, 1) := by decide +kernel
theorem dX1_countUnknown_21 : decode cX1_countUnknown 21 = .ok (.getfield 19, 3) := by decide +kernel
theorem dX1_countUnknown_24 : decode cX1_countUnknown 24 = .ok (.iload_n 2, 1) := by decide +kernel
theorem dX1_countUnknown_25 : decode cX1_countUnknown 25 = .ok (.iaload, 1) := by decide +kernel
theorem dX1_countUnknown_26 : decode cX1_countUnknown 26 = .ok (.aload_n 0, 1) := by decide +kernel
theorem dX1_countUnknown_27 : decode cX1_countUnknown 27 = .ok (.getfield 22, 3) := by decide +kernel
theorem dX1_countUnknown_30 : decode cX1_countUnknown 30 = .ok (.iload_n 2, 1) := by decide +kernel
theorem dX1_countUnknown_31 : decode cX1_countUnknown 31 = .ok (.iaload, 1) := by decide +kernel
theorem dX1_countUnknown_32 : decode cX1_countUnknown 32 = .ok (.if_icmp .ge 7, 3) := by decide +kernel
theorem dX1_countUnknown_35 : decode cX1_countUnknown 35 = .ok (.iconst 1, 1) := by decide +kernel
theorem dX1_countUnknown_36 : decode cX1_countUnknown 36 = .ok (.goto 4, 3) := by decide +kernel
theorem dX1_countUnknown_39 : decode cX1_countUnknown 39 = .ok (.iconst 0, 1) := by decide +kernel
theorem dX1_countUnknown_40 : decode cX1_countUnknown 40 = .ok (.iadd, 1) := by decide +kernel
theorem dX1_countUnknown_41 : decode cX1_countUnknown 41 = .ok (.istore_n 1, 1) := by decide +kernel
theorem dX1_countUnknown_42 : decode cX1_countUnknown 42 = .ok (.iinc 2 1, 3) := by decide +kernel
theorem dX1_countUnknown_45 : decode cX1_countUnknown 45 = .ok (.goto (-41), 3) := by decide +kernel
theorem dX1_countUnknown_48 : decode cX1_countUnknown 48 = .ok (.iload_n 1, 1) := by decide +kernel
theorem dX1_countUnknown_49 : decode cX1_countUnknown 49 = .ok (.ireturn, 1) := by decide +kernel
theorem dX1_countWays_0 : decode cX1_countWays 0 = .ok (.iconst 0, 1) := by decide +kernel
theorem dX1_countWays_1 : decode cX1_countWays 1 = .ok (.istore_n 1, 1) := by decide +kernel
theorem dX1_countWays_2 : decode cX1_countWays 2 = .ok (.iconst 0, 1) := by decide +kernel
theorem dX1_countWays_3 : decode cX1_countWays 3 = .ok (.istore_n 2, 1) := by decide +kernel
theorem dX1_countWays_4 : decode cX1_countWays 4 = .ok (.iload_n 2, 1) := by decide +kernel
theorem dX1_countWays_5 : decode cX1_countWays 5 = .ok (.bipush 100, 2) := by decide +kernel
theorem dX1_countWays_7 : decode cX1_countWays 7 = .ok (.if_icmp .ge 26, 3) := by decide +kernel
theorem dX1_countWays_10 : decode cX1_countWays 10 = .ok (.iload_n 1, 1) := by decide +kernel
theorem dX1_countWays_11 : decode cX1_countWays 11 = .ok (.aload_n 0, 1) := by decide +kernel
theorem dX1_countWays_12 : decode cX1_countWays 12 = .ok (.getfield 25, 3) := by decide +kernel
theorem dX1_countWays_15 : decode cX1_countWays 15 = .ok (.iload_n 2, 1) := by decide +kernel
theorem dX1_countWays_16 : decode cX1_countWays 16 = .ok (.iaload, 1) := by decide +kernel
theorem dX1_countWays_17 : decode cX1_countWays 17 = .ok (.ifCond .ne 7, 3) := by decide +kernel
theorem dX1_countWays_20 : decode cX1_countWays 20 = .ok (.iconst 0, 1) := by decide +kernel
theorem dX1_countWays_21 : decode cX1_countWays 21 = .ok (.goto 4, 3) := by decide +kernel
theorem dX1_countWays_24 : decode cX1_countWays 24 = .ok (.iconst 1, 1) := by decide +kernel
theorem dX1_countWays_25 : decode cX1_countWays 25 = .ok (.iadd, 1) := by decide +kernel
theorem dX1_countWays_26 : decode cX1_countWays 26 = .ok (.istore_n 1, 1) := by decide +kernel
theorem dX1_countWays_27 : decode cX1_countWays 27 = .ok (.iinc 2 1, 3) := by decide +kernel
theorem dX1_countWays_30 : decode cX1_countWays 30 = .ok (.goto (-26), 3) := by decide +kernel
theorem dX1_countWays_33 : decode cX1_countWays 33 = .ok (.iload_n 1, 1) := by decide +kernel
theorem dX1_countWays_34 : decode cX1_countWays 34 = .ok (.ireturn, 1) := by decide +kernel
theorem dX1_highOf_0 : decode cX1_highOf 0 = .ok (.aload_n 0, 1) := by decide +kernel
theorem dX1_highOf_1 : decode cX1_highOf 1 = .ok (.getfield 22, 3) := by decide +kernel
theorem dX1_highOf_4 : decode cX1_highOf 4 = .ok (.iload_n 1, 1) := by decide +kernel
theorem dX1_highOf_5 : decode cX1_highOf 5 = .ok (.iload_n 2, 1) := by decide +kernel
theorem dX1_highOf_6 : decode cX1_highOf 6 = .ok (.invokestatic 61, 3) := by decide +kernel
theorem dX1_highOf_9 : decode cX1_highOf 9 = .ok (.iaload, 1) := by decide +kernel
theorem dX1_highOf_10 : decode cX1_highOf 10 = .ok (.ireturn, 1) := by decide +kernel
theorem dX1_hollowSet_0 : decode cX1_hollowSet 0 = .ok (.iconst 0, 1) := by decide +kernel
theorem dX1_hollowSet_1 : decode cX1_hollowSet 1 = .ok (.istore_n 1, 1) := by decide +kernel
theorem dX1_hollowSet_2 : decode cX1_hollowSet 2 = .ok (.iconst 0, 1) := by decide +kernel
theorem dX1_hollowSet_3 : decode cX1_hollowSet 3 = .ok (.istore_n 2, 1) := by decide +kernel
theorem dX1_hollowSet_4 : decode cX1_hollowSet 4 = .ok (.iload_n 2, 1) := by decide +kernel
theorem dX1_hollowSet_5 : decode cX1_hollowSet 5 = .ok (.aload_n 0, 1) := by decide +kernel
theorem dX1_hollowSet_6 : decode cX1_hollowSet 6 = .ok (.getfield 9, 3) := by decide +kernel
theorem dX1_hollowSet_9 : decode cX1_hollowSet 9 = .ok (.if_icmp .ge 53, 3) := by decide +kernel
theorem dX1_hollowSet_12 : decode cX1_hollowSet 12 = .ok (.aload_n 0, 1) := by decide +kernel
theorem dX1_hollowSet_13 : decode cX1_hollowSet 13 = .ok (.iload_n 2, 1) := by decide +kernel
theorem dX1_hollowSet_14 : decode cX1_hollowSet 14 = .ok (.aload_n 0, 1) := by decide +kernel
theorem dX1_hollowSet_15 : decode cX1_hollowSet 15 = .ok (.getfield 9, 3) := by decide +kernel
theorem dX1_hollowSet_18 : decode cX1_hollowSet 18 = .ok (.invokevirtual 80, 3) := by decide +kernel
theorem dX1_hollowSet_21 : decode cX1_hollowSet 21 = .ok (.istore_n 3, 1) := by decide +kernel
theorem dX1_hollowSet_22 : decode cX1_hollowSet 22 = .ok (.iconst 0, 1) := by decide +kernel
theorem dX1_hollowSet_23 : decode cX1_hollowSet 23 = .ok (.istore 4, 2) := by decide +kernel
theorem dX1_hollowSet_25 : decode cX1_hollowSet 25 = .ok (.iload 4, 2) := by decide +kernel
theorem dX1_hollowSet_27 : decode cX1_hollowSet 27 = .ok (.aload_n 0, 1) := by decide +kernel
theorem dX1_hollowSet_28 : decode cX1_hollowSet 28 = .ok (.getfield 9, 3) := by decide +kernel
theorem dX1_hollowSet_31 : decode cX1_hollowSet 31 = .ok (.if_icmp .ge 25, 3) := by decide +kernel
theorem dX1_hollowSet_34 : decode cX1_hollowSet 34 = .ok (.iload_n 3, 1) := by decide +kernel
theorem dX1_hollowSet_35 : decode cX1_hollowSet 35 = .ok (.ifCond .lt 21, 3) := by decide +kernel
theorem dX1_hollowSet_38 : decode cX1_hollowSet 38 = .ok (.iload_n 1, 1) := by decide +kernel
theorem dX1_hollowSet_39 : decode cX1_hollowSet 39 = .ok (.iconst 1, 1) := by decide +kernel
theorem dX1_hollowSet_40 : decode cX1_hollowSet 40 = .ok (.iload_n 3, 1) := by decide +kernel
theorem dX1_hollowSet_41 : decode cX1_hollowSet 41 = .ok (.ishl, 1) := by decide +kernel
theorem dX1_hollowSet_42 : decode cX1_hollowSet 42 = .ok (.ior, 1) := by decide +kernel
theorem dX1_hollowSet_43 : decode cX1_hollowSet 43 = .ok (.istore_n 1, 1) := by decide +kernel
theorem dX1_hollowSet_44 : decode cX1_hollowSet 44 = .ok (.aload_n 0, 1) := by decide +kernel
theorem dX1_hollowSet_45 : decode cX1_hollowSet 45 = .ok (.iload_n 3, 1) := by decide +kernel
theorem dX1_hollowSet_46 : decode cX1_hollowSet 46 = .ok (.invokevirtual 77, 3) := by decide +kernel
theorem dX1_hollowSet_49 : decode cX1_hollowSet 49 = .ok (.istore_n 3, 1) := by decide +kernel
theorem dX1_hollowSet_50 : decode cX1_hollowSet 50 = .ok (.iinc 4 1, 3) := by decide +kernel
theorem dX1_hollowSet_53 : decode cX1_hollowSet 53 = .ok (.goto (-28), 3) := by decide +kernel
theorem dX1_hollowSet_56 : decode cX1_hollowSet 56 = .ok (.iinc 2 1, 3) := by decide +kernel
theorem dX1_hollowSet_59 : decode cX1_hollowSet 59 = .ok (.goto (-55), 3) := by decide +kernel
theorem dX1_hollowSet_62 : decode cX1_hollowSet 62 = .ok (.iload_n 1, 1) := by decide +kernel
theorem dX1_hollowSet_63 : decode cX1_hollowSet 63 = .ok (.ireturn, 1) := by decide +kernel
theorem dX1_isOpen_0 : decode cX1_isOpen 0 = .ok (.aload_n 0, 1) := by decide +kernel
theorem dX1_isOpen_1 : decode cX1_isOpen 1 = .ok (.getfield 25, 3) := by decide +kernel
theorem dX1_isOpen_4 : decode cX1_isOpen 4 = .ok (.iload_n 1, 1) := by decide +kernel
theorem dX1_isOpen_5 : decode cX1_isOpen 5 = .ok (.iload_n 2, 1) := by decide +kernel
theorem dX1_isOpen_6 : decode cX1_isOpen 6 = .ok (.invokestatic 61, 3) := by decide +kernel
theorem dX1_isOpen_9 : decode cX1_isOpen 9 = .ok (.iaload, 1) := by decide +kernel
theorem dX1_isOpen_10 : decode cX1_isOpen 10 = .ok (.iconst 1, 1) := by decide +kernel
theorem dX1_isOpen_11 : decode cX1_isOpen 11 = .ok (.if_icmp .ne 7, 3) := by decide +kernel
theorem dX1_isOpen_14 : decode cX1_isOpen 14 = .ok (.iconst 1, 1) := by decide +kernel
theorem dX1_isOpen_15 : decode cX1_isOpen 15 = .ok (.goto 4, 3) := by decide +kernel
theorem dX1_isOpen_18 : decode cX1_isOpen 18 = .ok (.iconst 0, 1) := by decide +kernel
theorem dX1_isOpen_19 : decode cX1_isOpen 19 = .ok (.ireturn, 1) := by decide +kernel
theorem dX1_isPlace_0 : decode cX1_isPlace 0 = .ok (.lload_n 1, 1) := by decide +kernel
theorem dX1_isPlace_1 : decode cX1_isPlace 1 = .ok (.lconst 0, 1) := by decide +kernel
theorem dX1_isPlace_2 : decode cX1_isPlace 2 = .ok (.lcmp, 1) := by decide +kernel
theorem dX1_isPlace_3 : decode cX1_isPlace 3 = .ok (.ifCond .lt 17, 3) := by decide +kernel
theorem dX1_isPlace_6 : decode cX1_isPlace 6 = .ok (.lload_n 1, 1) := by decide +kernel
theorem dX1_isPlace_7 : decode cX1_isPlace 7 = .ok (.aload_n 0, 1) := by decide +kernel
theorem dX1_isPlace_8 : decode cX1_isPlace 8 = .ok (.getfield 9, 3) := by decide +kernel
theorem dX1_isPlace_11 : decode cX1_isPlace 11 = .ok (.i2l, 1) := by decide +kernel
theorem dX1_isPlace_12 : decode cX1_isPlace 12 = .ok (.lcmp, 1) := by decide +kernel
theorem dX1_isPlace_13 : decode cX1_isPlace 13 = .ok (.ifCond .ge 7, 3) := by decide +kernel
theorem dX1_isPlace_16 : decode cX1_isPlace 16 = .ok (.iconst 1, 1) := by decide +kernel
theorem dX1_isPlace_17 : decode cX1_isPlace 17 = .ok (.goto 4, 3) := by decide +kernel
theorem dX1_isPlace_20 : decode cX1_isPlace 20 = .ok (.iconst 0, 1) := by decide +kernel
theorem dX1_isPlace_21 : decode cX1_isPlace 21 = .ok (.ireturn, 1) := by decide +kernel
theorem dX1_isThere_0 : decode cX1_isThere 0 = .ok (.aload_n 0, 1) := by decide +kernel
theorem dX1_isThere_1 : decode cX1_isThere 1 = .ok (.getfield 25, 3) := by decide +kernel
theorem dX1_isThere_4 : decode cX1_isThere 4 = .ok (.iload_n 1, 1) := by decide +kernel
theorem dX1_isThere_5 : decode cX1_isThere 5 = .ok (.iload_n 2, 1) := by decide +kernel
theorem dX1_isThere_6 : decode cX1_isThere 6 = .ok (.invokestatic 61, 3) := by decide +kernel
theorem dX1_isThere_9 : decode cX1_isThere 9 = .ok (.iaload, 1) := by decide +kernel
theorem dX1_isThere_10 : decode cX1_isThere 10 = .ok (.ifCond .eq 7, 3) := by decide +kernel
theorem dX1_isThere_13 : decode cX1_isThere 13 = .ok (.iconst 1, 1) := by decide +kernel
theorem dX1_isThere_14 : decode cX1_isThere 14 = .ok (.goto 4, 3) := by decide +kernel
theorem dX1_isThere_17 : decode cX1_isThere 17 = .ok (.iconst 0, 1) := by decide +kernel
theorem dX1_isThere_18 : decode cX1_isThere 18 = .ok (.ireturn, 1) := by decide +kernel
theorem dX1_lowOf_0 : decode cX1_lowOf 0 = .ok (.aload_n 0, 1) := by decide +kernel
theorem dX1_lowOf_1 : decode cX1_lowOf 1 = .ok (.getfield 19, 3) := by decide +kernel
theorem dX1_lowOf_4 : decode cX1_lowOf 4 = .ok (.iload_n 1, 1) := by decide +kernel
theorem dX1_lowOf_5 : decode cX1_lowOf 5 = .ok (.iload_n 2, 1) := by decide +kernel
theorem dX1_lowOf_6 : decode cX1_lowOf 6 = .ok (.invokestatic 61, 3) := by decide +kernel
theorem dX1_lowOf_9 : decode cX1_lowOf 9 = .ok (.iaload, 1) := by decide +kernel
theorem dX1_lowOf_10 : decode cX1_lowOf 10 = .ok (.ireturn, 1) := by decide +kernel
theorem dX1_nearestOf_0 : decode cX1_nearestOf 0 = .ok (.iconst (-1), 1) := by decide +kernel
theorem dX1_nearestOf_1 : decode cX1_nearestOf 1 = .ok (.istore_n 2, 1) := by decide +kernel
theorem dX1_nearestOf_2 : decode cX1_nearestOf 2 = .ok (.ldc 73, 2) := by decide +kernel
theorem dX1_nearestOf_4 : decode cX1_nearestOf 4 = .ok (.istore_n 3, 1) := by decide +kernel
theorem dX1_nearestOf_5 : decode cX1_nearestOf 5 = .ok (.iconst 0, 1) := by decide +kernel
theorem dX1_nearestOf_6 : decode cX1_nearestOf 6 = .ok (.istore 4, 2) := by decide +kernel
theorem dX1_nearestOf_8 : decode cX1_nearestOf 8 = .ok (.iload 4, 2) := by decide +kernel
theorem dX1_nearestOf_10 : decode cX1_nearestOf 10 = .ok (.aload_n 0, 1) := by decide +kernel
theorem dX1_nearestOf_11 : decode cX1_nearestOf 11 = .ok (.getfield 9, 3) := by decide +kernel
theorem dX1_nearestOf_14 : decode cX1_nearestOf 14 = .ok (.if_icmp .ge 41, 3) := by decide +kernel
theorem dX1_nearestOf_17 : decode cX1_nearestOf 17 = .ok (.aload_n 0, 1) := by decide +kernel
theorem dX1_nearestOf_18 : decode cX1_nearestOf 18 = .ok (.iload_n 1, 1) := by decide +kernel
theorem dX1_nearestOf_19 : decode cX1_nearestOf 19 = .ok (.iload 4, 2) := by decide +kernel
theorem dX1_nearestOf_21 : decode cX1_nearestOf 21 = .ok (.invokevirtual 65, 3) := by decide +kernel
theorem dX1_nearestOf_24 : decode cX1_nearestOf 24 = .ok (.ifCond .eq 25, 3) := by decide +kernel
theorem dX1_nearestOf_27 : decode cX1_nearestOf 27 = .ok (.aload_n 0, 1) := by decide +kernel
theorem dX1_nearestOf_28 : decode cX1_nearestOf 28 = .ok (.iload_n 1, 1) := by decide +kernel
theorem dX1_nearestOf_29 : decode cX1_nearestOf 29 = .ok (.iload 4, 2) := by decide +kernel
theorem dX1_nearestOf_31 : decode cX1_nearestOf 31 = .ok (.invokevirtual 74, 3) := by decide +kernel
theorem dX1_nearestOf_34 : decode cX1_nearestOf 34 = .ok (.iload_n 3, 1) := by decide +kernel
theorem dX1_nearestOf_35 : decode cX1_nearestOf 35 = .ok (.if_icmp .ge 14, 3) := by decide +kernel
theorem dX1_nearestOf_38 : decode cX1_nearestOf 38 = .ok (.iload 4, 2) := by decide +kernel
theorem dX1_nearestOf_40 : decode cX1_nearestOf 40 = .ok (.istore_n 2, 1) := by decide +kernel
theorem dX1_nearestOf_41 : decode cX1_nearestOf 41 = .ok (.aload_n 0, 1) := by decide +kernel
theorem dX1_nearestOf_42 : decode cX1_nearestOf 42 = .ok (.iload_n 1, 1) := by decide +kernel
theorem dX1_nearestOf_43 : decode cX1_nearestOf 43 = .ok (.iload 4, 2) := by decide +kernel
theorem dX1_nearestOf_45 : decode cX1_nearestOf 45 = .ok (.invokevirtual 74, 3) := by decide +kernel
theorem dX1_nearestOf_48 : decode cX1_nearestOf 48 = .ok (.istore_n 3, 1) := by decide +kernel
theorem dX1_nearestOf_49 : decode cX1_nearestOf 49 = .ok (.iinc 4 1, 3) := by decide +kernel
theorem dX1_nearestOf_52 : decode cX1_nearestOf 52 = .ok (.goto (-44), 3) := by decide +kernel
theorem dX1_nearestOf_55 : decode cX1_nearestOf 55 = .ok (.iload_n 2, 1) := by decide +kernel
theorem dX1_nearestOf_56 : decode cX1_nearestOf 56 = .ok (.ireturn, 1) := by decide +kernel
theorem dX1_setShut_0 : decode cX1_setShut 0 = .ok (.aload_n 0, 1) := by decide +kernel
theorem dX1_setShut_1 : decode cX1_setShut 1 = .ok (.getfield 25, 3) := by decide +kernel
theorem dX1_setShut_4 : decode cX1_setShut 4 = .ok (.iload_n 1, 1) := by decide +kernel
theorem dX1_setShut_5 : decode cX1_setShut 5 = .ok (.iload_n 2, 1) := by decide +kernel
theorem dX1_setShut_6 : decode cX1_setShut 6 = .ok (.invokestatic 61, 3) := by decide +kernel
theorem dX1_setShut_9 : decode cX1_setShut 9 = .ok (.iload_n 3, 1) := by decide +kernel
theorem dX1_setShut_10 : decode cX1_setShut 10 = .ok (.ifCond .eq 7, 3) := by decide +kernel
theorem dX1_setShut_13 : decode cX1_setShut 13 = .ok (.iconst 2, 1) := by decide +kernel
theorem dX1_setShut_14 : decode cX1_setShut 14 = .ok (.goto 4, 3) := by decide +kernel
theorem dX1_setShut_17 : decode cX1_setShut 17 = .ok (.iconst 1, 1) := by decide +kernel
theorem dX1_setShut_18 : decode cX1_setShut 18 = .ok (.iastore, 1) := by decide +kernel
theorem dX1_setShut_19 : decode cX1_setShut 19 = .ok (.return_, 1) := by decide +kernel
theorem dX1_setWay_0 : decode cX1_setWay 0 = .ok (.iload_n 1, 1) := by decide +kernel
theorem dX1_setWay_1 : decode cX1_setWay 1 = .ok (.iload_n 2, 1) := by decide +kernel
theorem dX1_setWay_2 : decode cX1_setWay 2 = .ok (.invokestatic 61, 3) := by decide +kernel
theorem dX1_setWay_5 : decode cX1_setWay 5 = .ok (.istore 5, 2) := by decide +kernel
theorem dX1_setWay_7 : decode cX1_setWay 7 = .ok (.aload_n 0, 1) := by decide +kernel
theorem dX1_setWay_8 : decode cX1_setWay 8 = .ok (.getfield 19, 3) := by decide +kernel
theorem dX1_setWay_11 : decode cX1_setWay 11 = .ok (.iload 5, 2) := by decide +kernel
theorem dX1_setWay_13 : decode cX1_setWay 13 = .ok (.iload_n 3, 1) := by decide +kernel
theorem dX1_setWay_14 : decode cX1_setWay 14 = .ok (.iastore, 1) := by decide +kernel
theorem dX1_setWay_15 : decode cX1_setWay 15 = .ok (.aload_n 0, 1) := by decide +kernel
theorem dX1_setWay_16 : decode cX1_setWay 16 = .ok (.getfield 22, 3) := by decide +kernel
theorem dX1_setWay_19 : decode cX1_setWay 19 = .ok (.iload 5, 2) := by decide +kernel
theorem dX1_setWay_21 : decode cX1_setWay 21 = .ok (.iload 4, 2) := by decide +kernel
theorem dX1_setWay_23 : decode cX1_setWay 23 = .ok (.iastore, 1) := by decide +kernel
theorem dX1_setWay_24 : decode cX1_setWay 24 = .ok (.aload_n 0, 1) := by decide +kernel
theorem dX1_setWay_25 : decode cX1_setWay 25 = .ok (.getfield 25, 3) := by decide +kernel
theorem dX1_setWay_28 : decode cX1_setWay 28 = .ok (.iload 5, 2) := by decide +kernel
theorem dX1_setWay_30 : decode cX1_setWay 30 = .ok (.iconst 1, 1) := by decide +kernel
theorem dX1_setWay_31 : decode cX1_setWay 31 = .ok (.iastore, 1) := by decide +kernel
theorem dX1_setWay_32 : decode cX1_setWay 32 = .ok (.return_, 1) := by decide +kernel
theorem dX1_wayAt_0 : decode cX1_wayAt 0 = .ok (.bipush 10, 2) := by decide +kernel
theorem dX1_wayAt_2 : decode cX1_wayAt 2 = .ok (.iload_n 0, 1) := by decide +kernel
theorem dX1_wayAt_3 : decode cX1_wayAt 3 = .ok (.imul, 1) := by decide +kernel
theorem dX1_wayAt_4 : decode cX1_wayAt 4 = .ok (.iload_n 1, 1) := by decide +kernel
theorem dX1_wayAt_5 : decode cX1_wayAt 5 = .ok (.iadd, 1) := by decide +kernel
theorem dX1_wayAt_6 : decode cX1_wayAt 6 = .ok (.ireturn, 1) := by decide +kernel
theorem dX1_widestWay_0 : decode cX1_widestWay 0 = .ok (.iconst (-1), 1) := by decide +kernel
theorem dX1_widestWay_1 : decode cX1_widestWay 1 = .ok (.istore_n 1, 1) := by decide +kernel
theorem dX1_widestWay_2 : decode cX1_widestWay 2 = .ok (.iconst 0, 1) := by decide +kernel
theorem dX1_widestWay_3 : decode cX1_widestWay 3 = .ok (.istore_n 2, 1) := by decide +kernel
theorem dX1_widestWay_4 : decode cX1_widestWay 4 = .ok (.iconst 0, 1) := by decide +kernel
theorem dX1_widestWay_5 : decode cX1_widestWay 5 = .ok (.istore_n 3, 1) := by decide +kernel
theorem dX1_widestWay_6 : decode cX1_widestWay 6 = .ok (.iload_n 3, 1) := by decide +kernel
theorem dX1_widestWay_7 : decode cX1_widestWay 7 = .ok (.bipush 100, 2) := by decide +kernel
theorem dX1_widestWay_9 : decode cX1_widestWay 9 = .ok (.if_icmp .ge 52, 3) := by decide +kernel
theorem dX1_widestWay_12 : decode cX1_widestWay 12 = .ok (.aload_n 0, 1) := by decide +kernel
theorem dX1_widestWay_13 : decode cX1_widestWay 13 = .ok (.getfield 25, 3) := by decide +kernel
theorem dX1_widestWay_16 : decode cX1_widestWay 16 = .ok (.iload_n 3, 1) := by decide +kernel
theorem dX1_widestWay_17 : decode cX1_widestWay 17 = .ok (.iaload, 1) := by decide +kernel
theorem dX1_widestWay_18 : decode cX1_widestWay 18 = .ok (.iconst 1, 1) := by decide +kernel
theorem dX1_widestWay_19 : decode cX1_widestWay 19 = .ok (.if_icmp .ne 36, 3) := by decide +kernel
theorem dX1_widestWay_22 : decode cX1_widestWay 22 = .ok (.aload_n 0, 1) := by decide +kernel
theorem dX1_widestWay_23 : decode cX1_widestWay 23 = .ok (.getfield 22, 3) := by decide +kernel
theorem dX1_widestWay_26 : decode cX1_widestWay 26 = .ok (.iload_n 3, 1) := by decide +kernel
theorem dX1_widestWay_27 : decode cX1_widestWay 27 = .ok (.iaload, 1) := by decide +kernel
theorem dX1_widestWay_28 : decode cX1_widestWay 28 = .ok (.aload_n 0, 1) := by decide +kernel
theorem dX1_widestWay_29 : decode cX1_widestWay 29 = .ok (.getfield 19, 3) := by decide +kernel
theorem dX1_widestWay_32 : decode cX1_widestWay 32 = .ok (.iload_n 3, 1) := by decide +kernel
theorem dX1_widestWay_33 : decode cX1_widestWay 33 = .ok (.iaload, 1) := by decide +kernel
theorem dX1_widestWay_34 : decode cX1_widestWay 34 = .ok (.isub, 1) := by decide +kernel
theorem dX1_widestWay_35 : decode cX1_widestWay 35 = .ok (.iload_n 2, 1) := by decide +kernel
theorem dX1_widestWay_36 : decode cX1_widestWay 36 = .ok (.if_icmp .le 19, 3) := by decide +kernel
theorem dX1_widestWay_39 : decode cX1_widestWay 39 = .ok (.iload_n 3, 1) := by decide +kernel
theorem dX1_widestWay_40 : decode cX1_widestWay 40 = .ok (.istore_n 1, 1) := by decide +kernel
theorem dX1_widestWay_41 : decode cX1_widestWay 41 = .ok (.aload_n 0, 1) := by decide +kernel
theorem dX1_widestWay_42 : decode cX1_widestWay 42 = .ok (.getfield 22, 3) := by decide +kernel
theorem dX1_widestWay_45 : decode cX1_widestWay 45 = .ok (.iload_n 3, 1) := by decide +kernel
theorem dX1_widestWay_46 : decode cX1_widestWay 46 = .ok (.iaload, 1) := by decide +kernel
theorem dX1_widestWay_47 : decode cX1_widestWay 47 = .ok (.aload_n 0, 1) := by decide +kernel
theorem dX1_widestWay_48 : decode cX1_widestWay 48 = .ok (.getfield 19, 3) := by decide +kernel
theorem dX1_widestWay_51 : decode cX1_widestWay 51 = .ok (.iload_n 3, 1) := by decide +kernel
theorem dX1_widestWay_52 : decode cX1_widestWay 52 = .ok (.iaload, 1) := by decide +kernel
theorem dX1_widestWay_53 : decode cX1_widestWay 53 = .ok (.isub, 1) := by decide +kernel
theorem dX1_widestWay_54 : decode cX1_widestWay 54 = .ok (.istore_n 2, 1) := by decide +kernel
theorem dX1_widestWay_55 : decode cX1_widestWay 55 = .ok (.iinc 3 1, 3) := by decide +kernel
theorem dX1_widestWay_58 : decode cX1_widestWay 58 = .ok (.goto (-52), 3) := by decide +kernel
theorem dX1_widestWay_61 : decode cX1_widestWay 61 = .ok (.iload_n 1, 1) := by decide +kernel
theorem dX1_widestWay_62 : decode cX1_widestWay 62 = .ok (.ireturn, 1) := by decide +kernel
theorem dX2_isBelieved_0 : decode cX2_isBelieved 0 = .ok (.aload_n 1, 1) := by decide +kernel
theorem dX2_isBelieved_1 : decode cX2_isBelieved 1 = .ok (.getfield 17, 3) := by decide +kernel
theorem dX2_isBelieved_4 : decode cX2_isBelieved 4 = .ok (.getfield 32, 3) := by decide +kernel
theorem dX2_isBelieved_7 : decode cX2_isBelieved 7 = .ok (.iload_n 2, 1) := by decide +kernel
theorem dX2_isBelieved_8 : decode cX2_isBelieved 8 = .ok (.iaload, 1) := by decide +kernel
theorem dX2_isBelieved_9 : decode cX2_isBelieved 9 = .ok (.iconst 1, 1) := by decide +kernel
theorem dX2_isBelieved_10 : decode cX2_isBelieved 10 = .ok (.isub, 1) := by decide +kernel
theorem dX2_isBelieved_11 : decode cX2_isBelieved 11 = .ok (.istore_n 3, 1) := by decide +kernel
theorem dX2_isBelieved_12 : decode cX2_isBelieved 12 = .ok (.iconst 0, 1) := by decide +kernel
theorem dX2_isBelieved_13 : decode cX2_isBelieved 13 = .ok (.istore 4, 2) := by decide +kernel
theorem dX2_isBelieved_15 : decode cX2_isBelieved 15 = .ok (.iload 4, 2) := by decide +kernel
theorem dX2_isBelieved_17 : decode cX2_isBelieved 17 = .ok (.iload_n 3, 1) := by decide +kernel
theorem dX2_isBelieved_18 : decode cX2_isBelieved 18 = .ok (.if_icmp .ge 40, 3) := by decide +kernel
theorem dX2_isBelieved_21 : decode cX2_isBelieved 21 = .ok (.aload_n 1, 1) := by decide +kernel
theorem dX2_isBelieved_22 : decode cX2_isBelieved 22 = .ok (.aload_n 1, 1) := by decide +kernel
theorem dX2_isBelieved_23 : decode cX2_isBelieved 23 = .ok (.getfield 17, 3) := by decide +kernel
theorem dX2_isBelieved_26 : decode cX2_isBelieved 26 = .ok (.iload_n 2, 1) := by decide +kernel
theorem dX2_isBelieved_27 : decode cX2_isBelieved 27 = .ok (.iload 4, 2) := by decide +kernel
theorem dX2_isBelieved_29 : decode cX2_isBelieved 29 = .ok (.invokevirtual 36, 3) := by decide +kernel
theorem dX2_isBelieved_32 : decode cX2_isBelieved 32 = .ok (.aload_n 1, 1) := by decide +kernel
theorem dX2_isBelieved_33 : decode cX2_isBelieved 33 = .ok (.getfield 17, 3) := by decide +kernel
theorem dX2_isBelieved_36 : decode cX2_isBelieved 36 = .ok (.iload_n 2, 1) := by decide +kernel
theorem dX2_isBelieved_37 : decode cX2_isBelieved 37 = .ok (.iload 4, 2) := by decide +kernel
theorem dX2_isBelieved_39 : decode cX2_isBelieved 39 = .ok (.iconst 1, 1) := by decide +kernel
theorem dX2_isBelieved_40 : decode cX2_isBelieved 40 = .ok (.iadd, 1) := by decide +kernel
theorem dX2_isBelieved_41 : decode cX2_isBelieved 41 = .ok (.invokevirtual 36, 3) := by decide +kernel
theorem dX2_isBelieved_44 : decode cX2_isBelieved 44 = .ok (.invokevirtual 40, 3) := by decide +kernel
theorem dX2_isBelieved_47 : decode cX2_isBelieved 47 = .ok (.ifCond .ne 5, 3) := by decide +kernel
theorem dX2_isBelieved_50 : decode cX2_isBelieved 50 = .ok (.iconst 0, 1) := by decide +kernel
theorem dX2_isBelieved_51 : decode cX2_isBelieved 51 = .ok (.ireturn, 1) := by decide +kernel
theorem dX2_isBelieved_52 : decode cX2_isBelieved 52 = .ok (.iinc 4 1, 3) := by decide +kernel
theorem dX2_isBelieved_55 : decode cX2_isBelieved 55 = .ok (.goto (-40), 3) := by decide +kernel
theorem dX2_isBelieved_58 : decode cX2_isBelieved 58 = .ok (.iconst 0, 1) := by decide +kernel
theorem dX2_isBelieved_59 : decode cX2_isBelieved 59 = .ok (.istore 4, 2) := by decide +kernel
theorem dX2_isBelieved_61 : decode cX2_isBelieved 61 = .ok (.iload 4, 2) := by decide +kernel
theorem dX2_isBelieved_63 : decode cX2_isBelieved 63 = .ok (.iload_n 3, 1) := by decide +kernel
theorem dX2_isBelieved_64 : decode cX2_isBelieved 64 = .ok (.if_icmp .ge 22, 3) := by decide +kernel
theorem dX2_isBelieved_67 : decode cX2_isBelieved 67 = .ok (.aload_n 0, 1) := by decide +kernel
theorem dX2_isBelieved_68 : decode cX2_isBelieved 68 = .ok (.aload_n 1, 1) := by decide +kernel
theorem dX2_isBelieved_69 : decode cX2_isBelieved 69 = .ok (.iload_n 2, 1) := by decide +kernel
theorem dX2_isBelieved_70 : decode cX2_isBelieved 70 = .ok (.iload 4, 2) := by decide +kernel
theorem dX2_isBelieved_72 : decode cX2_isBelieved 72 = .ok (.invokevirtual 44, 3) := by decide +kernel
theorem dX2_isBelieved_75 : decode cX2_isBelieved 75 = .ok (.ifCond .ne 5, 3) := by decide +kernel
theorem dX2_isBelieved_78 : decode cX2_isBelieved 78 = .ok (.iconst 0, 1) := by decide +kernel
theorem dX2_isBelieved_79 : decode cX2_isBelieved 79 = .ok (.ireturn, 1) := by decide +kernel
theorem dX2_isBelieved_80 : decode cX2_isBelieved 80 = .ok (.iinc 4 1, 3) := by decide +kernel
theorem dX2_isBelieved_83 : decode cX2_isBelieved 83 = .ok (.goto (-22), 3) := by decide +kernel
theorem dX2_isBelieved_86 : decode cX2_isBelieved 86 = .ok (.iconst 1, 1) := by decide +kernel
theorem dX2_isBelieved_87 : decode cX2_isBelieved 87 = .ok (.ireturn, 1) := by decide +kernel
theorem dX2_learnIn_0 : decode cX2_learnIn 0 = .ok (.aload_n 0, 1) := by decide +kernel
theorem dX2_learnIn_1 : decode cX2_learnIn 1 = .ok (.iconst 0, 1) := by decide +kernel
theorem dX2_learnIn_2 : decode cX2_learnIn 2 = .ok (.putfield 7, 3) := by decide +kernel
theorem dX2_learnIn_5 : decode cX2_learnIn 5 = .ok (.iconst 0, 1) := by decide +kernel
theorem dX2_learnIn_6 : decode cX2_learnIn 6 = .ok (.istore_n 2, 1) := by decide +kernel
theorem dX2_learnIn_7 : decode cX2_learnIn 7 = .ok (.iconst 0, 1) := by decide +kernel
theorem dX2_learnIn_8 : decode cX2_learnIn 8 = .ok (.istore_n 3, 1) := by decide +kernel
theorem dX2_learnIn_9 : decode cX2_learnIn 9 = .ok (.iload_n 3, 1) := by decide +kernel
theorem dX2_learnIn_10 : decode cX2_learnIn 10 = .ok (.bipush 50, 2) := by decide +kernel
theorem dX2_learnIn_12 : decode cX2_learnIn 12 = .ok (.if_icmp .ge 70, 3) := by decide +kernel
theorem dX2_learnIn_15 : decode cX2_learnIn 15 = .ok (.aload_n 0, 1) := by decide +kernel
theorem dX2_learnIn_16 : decode cX2_learnIn 16 = .ok (.iconst 0, 1) := by decide +kernel
theorem dX2_learnIn_17 : decode cX2_learnIn 17 = .ok (.putfield 13, 3) := by decide +kernel
theorem dX2_learnIn_20 : decode cX2_learnIn 20 = .ok (.iconst 0, 1) := by decide +kernel
theorem dX2_learnIn_21 : decode cX2_learnIn 21 = .ok (.istore 4, 2) := by decide +kernel
theorem dX2_learnIn_23 : decode cX2_learnIn 23 = .ok (.iload 4, 2) := by decide +kernel
theorem dX2_learnIn_25 : decode cX2_learnIn 25 = .ok (.aload_n 1, 1) := by decide +kernel
theorem dX2_learnIn_26 : decode cX2_learnIn 26 = .ok (.getfield 17, 3) := by decide +kernel
theorem dX2_learnIn_29 : decode cX2_learnIn 29 = .ok (.getfield 23, 3) := by decide +kernel
theorem dX2_learnIn_32 : decode cX2_learnIn 32 = .ok (.if_icmp .ge 32, 3) := by decide +kernel
theorem dX2_learnIn_35 : decode cX2_learnIn 35 = .ok (.aload_n 0, 1) := by decide +kernel
theorem dX2_learnIn_36 : decode cX2_learnIn 36 = .ok (.aload_n 1, 1) := by decide +kernel
theorem dX2_learnIn_37 : decode cX2_learnIn 37 = .ok (.iload 4, 2) := by decide +kernel
theorem dX2_learnIn_39 : decode cX2_learnIn 39 = .ok (.invokevirtual 28, 3) := by decide +kernel
theorem dX2_learnIn_42 : decode cX2_learnIn 42 = .ok (.ifCond .ne 16, 3) := by decide +kernel
theorem dX2_learnIn_45 : decode cX2_learnIn 45 = .ok (.aload_n 0, 1) := by decide +kernel
theorem dX2_learnIn_46 : decode cX2_learnIn 46 = .ok (.dup, 1) := by decide +kernel
theorem dX2_learnIn_47 : decode cX2_learnIn 47 = .ok (.getfield 7, 3) := by decide +kernel
theorem dX2_learnIn_50 : decode cX2_learnIn 50 = .ok (.iconst 1, 1) := by decide +kernel
theorem dX2_learnIn_51 : decode cX2_learnIn 51 = .ok (.iload 4, 2) := by decide +kernel
theorem dX2_learnIn_53 : decode cX2_learnIn 53 = .ok (.ishl, 1) := by decide +kernel
theorem dX2_learnIn_54 : decode cX2_learnIn 54 = .ok (.ior, 1) := by decide +kernel
theorem dX2_learnIn_55 : decode cX2_learnIn 55 = .ok (.putfield 7, 3) := by decide +kernel
theorem dX2_learnIn_58 : decode cX2_learnIn 58 = .ok (.iinc 4 1, 3) := by decide +kernel
theorem dX2_learnIn_61 : decode cX2_learnIn 61 = .ok (.goto (-38), 3) := by decide +kernel
theorem dX2_learnIn_64 : decode cX2_learnIn 64 = .ok (.aload_n 0, 1) := by decide +kernel
theorem dX2_learnIn_65 : decode cX2_learnIn 65 = .ok (.getfield 13, 3) := by decide +kernel
theorem dX2_learnIn_68 : decode cX2_learnIn 68 = .ok (.ifCond .ne 5, 3) := by decide +kernel
theorem dX2_learnIn_71 : decode cX2_learnIn 71 = .ok (.iload_n 2, 1) := by decide +kernel
theorem dX2_learnIn_72 : decode cX2_learnIn 72 = .ok (.ireturn, 1) := by decide +kernel
theorem dX2_learnIn_73 : decode cX2_learnIn 73 = .ok (.iinc 2 1, 3) := by decide +kernel
theorem dX2_learnIn_76 : decode cX2_learnIn 76 = .ok (.iinc 3 1, 3) := by decide +kernel
theorem dX2_learnIn_79 : decode cX2_learnIn 79 = .ok (.goto (-70), 3) := by decide +kernel
theorem dX2_learnIn_82 : decode cX2_learnIn 82 = .ok (.iload_n 2, 1) := by decide +kernel
theorem dX2_learnIn_83 : decode cX2_learnIn 83 = .ok (.ireturn, 1) := by decide +kernel
theorem dX2_narrow_0 : decode cX2_narrow 0 = .ok (.aload_n 1, 1) := by decide +kernel
theorem dX2_narrow_1 : decode cX2_narrow 1 = .ok (.iload_n 2, 1) := by decide +kernel
theorem dX2_narrow_2 : decode cX2_narrow 2 = .ok (.iload_n 3, 1) := by decide +kernel
theorem dX2_narrow_3 : decode cX2_narrow 3 = .ok (.invokestatic 51, 3) := by decide +kernel
theorem dX2_narrow_6 : decode cX2_narrow 6 = .ok (.istore 4, 2) := by decide +kernel
theorem dX2_narrow_8 : decode cX2_narrow 8 = .ok (.iconst 0, 1) := by decide +kernel
theorem dX2_narrow_9 : decode cX2_narrow 9 = .ok (.istore 5, 2) := by decide +kernel
theorem dX2_narrow_11 : decode cX2_narrow 11 = .ok (.iconst 0, 1) := by decide +kernel
theorem dX2_narrow_12 : decode cX2_narrow 12 = .ok (.istore 6, 2) := by decide +kernel
theorem dX2_narrow_14 : decode cX2_narrow 14 = .ok (.iconst 0, 1) := by decide +kernel
theorem dX2_narrow_15 : decode cX2_narrow 15 = .ok (.istore 7, 2) := by decide +kernel
theorem dX2_narrow_17 : decode cX2_narrow 17 = .ok (.iconst 0, 1) := by decide +kernel
theorem dX2_narrow_18 : decode cX2_narrow 18 = .ok (.istore 8, 2) := by decide +kernel
theorem dX2_narrow_20 : decode cX2_narrow 20 = .ok (.iload 8, 2) := by decide +kernel
theorem dX2_narrow_22 : decode cX2_narrow 22 = .ok (.aload_n 1, 1) := by decide +kernel
theorem dX2_narrow_23 : decode cX2_narrow 23 = .ok (.getfield 17, 3) := by decide +kernel
theorem dX2_narrow_26 : decode cX2_narrow 26 = .ok (.getfield 32, 3) := by decide +kernel
theorem dX2_narrow_29 : decode cX2_narrow 29 = .ok (.iload_n 2, 1) := by decide +kernel
theorem dX2_narrow_30 : decode cX2_narrow 30 = .ok (.iaload, 1) := by decide +kernel
theorem dX2_narrow_31 : decode cX2_narrow 31 = .ok (.iconst 1, 1) := by decide +kernel
theorem dX2_narrow_32 : decode cX2_narrow 32 = .ok (.isub, 1) := by decide +kernel
theorem dX2_narrow_33 : decode cX2_narrow 33 = .ok (.if_icmp .ge 55, 3) := by decide +kernel
theorem dX2_narrow_36 : decode cX2_narrow 36 = .ok (.aload_n 1, 1) := by decide +kernel
theorem dX2_narrow_37 : decode cX2_narrow 37 = .ok (.iload_n 2, 1) := by decide +kernel
theorem dX2_narrow_38 : decode cX2_narrow 38 = .ok (.iload 8, 2) := by decide +kernel
theorem dX2_narrow_40 : decode cX2_narrow 40 = .ok (.invokestatic 51, 3) := by decide +kernel
theorem dX2_narrow_43 : decode cX2_narrow 43 = .ok (.istore 9, 2) := by decide +kernel
theorem dX2_narrow_45 : decode cX2_narrow 45 = .ok (.iload 9, 2) := by decide +kernel
theorem dX2_narrow_47 : decode cX2_narrow 47 = .ok (.iload 4, 2) := by decide +kernel
theorem dX2_narrow_49 : decode cX2_narrow 49 = .ok (.if_icmp .ne 9, 3) := by decide +kernel
theorem dX2_narrow_52 : decode cX2_narrow 52 = .ok (.iinc 5 1, 3) := by decide +kernel
theorem dX2_narrow_55 : decode cX2_narrow 55 = .ok (.goto 27, 3) := by decide +kernel
theorem dX2_narrow_58 : decode cX2_narrow 58 = .ok (.iload 6, 2) := by decide +kernel
theorem dX2_narrow_60 : decode cX2_narrow 60 = .ok (.aload_n 1, 1) := by decide +kernel
theorem dX2_narrow_61 : decode cX2_narrow 61 = .ok (.getfield 55, 3) := by decide +kernel
theorem dX2_narrow_64 : decode cX2_narrow 64 = .ok (.iload 9, 2) := by decide +kernel
theorem dX2_narrow_66 : decode cX2_narrow 66 = .ok (.iaload, 1) := by decide +kernel
theorem dX2_narrow_67 : decode cX2_narrow 67 = .ok (.iadd, 1) := by decide +kernel
theorem dX2_narrow_68 : decode cX2_narrow 68 = .ok (.istore 6, 2) := by decide +kernel
theorem dX2_narrow_70 : decode cX2_narrow 70 = .ok (.iload 7, 2) := by decide +kernel
theorem dX2_narrow_72 : decode cX2_narrow 72 = .ok (.aload_n 1, 1) := by decide +kernel
theorem dX2_narrow_73 : decode cX2_narrow 73 = .ok (.getfield 58, 3) := by decide +kernel
theorem dX2_narrow_76 : decode cX2_narrow 76 = .ok (.iload 9, 2) := by decide +kernel
theorem dX2_narrow_78 : decode cX2_narrow 78 = .ok (.iaload, 1) := by decide +kernel
theorem dX2_narrow_79 : decode cX2_narrow 79 = .ok (.iadd, 1) := by decide +kernel
theorem dX2_narrow_80 : decode cX2_narrow 80 = .ok (.istore 7, 2) := by decide +kernel
theorem dX2_narrow_82 : decode cX2_narrow 82 = .ok (.iinc 8 1, 3) := by decide +kernel
theorem dX2_narrow_85 : decode cX2_narrow 85 = .ok (.goto (-65), 3) := by decide +kernel
theorem dX2_narrow_88 : decode cX2_narrow 88 = .ok (.iload 5, 2) := by decide +kernel
theorem dX2_narrow_90 : decode cX2_narrow 90 = .ok (.iconst 1, 1) := by decide +kernel
theorem dX2_narrow_91 : decode cX2_narrow 91 = .ok (.if_icmp .le 5, 3) := by decide +kernel
theorem dX2_narrow_94 : decode cX2_narrow 94 = .ok (.iconst 1, 1) := by decide +kernel
theorem dX2_narrow_95 : decode cX2_narrow 95 = .ok (.ireturn, 1) := by decide +kernel
theorem dX2_narrow_96 : decode cX2_narrow 96 = .ok (.aload_n 1, 1) := by decide +kernel
theorem dX2_narrow_97 : decode cX2_narrow 97 = .ok (.getfield 58, 3) := by decide +kernel
theorem dX2_narrow_100 : decode cX2_narrow 100 = .ok (.iload 4, 2) := by decide +kernel
theorem dX2_narrow_102 : decode cX2_narrow 102 = .ok (.iaload, 1) := by decide +kernel
theorem dX2_narrow_103 : decode cX2_narrow 103 = .ok (.aload_n 1, 1) := by decide +kernel
theorem dX2_narrow_104 : decode cX2_narrow 104 = .ok (.getfield 61, 3) := by decide +kernel
theorem dX2_narrow_107 : decode cX2_narrow 107 = .ok (.iload_n 2, 1) := by decide +kernel
theorem dX2_narrow_108 : decode cX2_narrow 108 = .ok (.iaload, 1) := by decide +kernel
theorem dX2_narrow_109 : decode cX2_narrow 109 = .ok (.aload_n 1, 1) := by decide +kernel
theorem dX2_narrow_110 : decode cX2_narrow 110 = .ok (.getfield 64, 3) := by decide +kernel
theorem dX2_narrow_113 : decode cX2_narrow 113 = .ok (.iload_n 2, 1) := by decide +kernel
theorem dX2_narrow_114 : decode cX2_narrow 114 = .ok (.iaload, 1) := by decide +kernel
theorem dX2_narrow_115 : decode cX2_narrow 115 = .ok (.iadd, 1) := by decide +kernel
theorem dX2_narrow_116 : decode cX2_narrow 116 = .ok (.iload 6, 2) := by decide +kernel
theorem dX2_narrow_118 : decode cX2_narrow 118 = .ok (.isub, 1) := by decide +kernel
theorem dX2_narrow_119 : decode cX2_narrow 119 = .ok (.invokestatic 67, 3) := by decide +kernel
theorem dX2_narrow_122 : decode cX2_narrow 122 = .ok (.istore 8, 2) := by decide +kernel
theorem dX2_narrow_124 : decode cX2_narrow 124 = .ok (.aload_n 1, 1) := by decide +kernel
theorem dX2_narrow_125 : decode cX2_narrow 125 = .ok (.getfield 55, 3) := by decide +kernel
theorem dX2_narrow_128 : decode cX2_narrow 128 = .ok (.iload 4, 2) := by decide +kernel
theorem dX2_narrow_130 : decode cX2_narrow 130 = .ok (.iaload, 1) := by decide +kernel
theorem dX2_narrow_131 : decode cX2_narrow 131 = .ok (.aload_n 1, 1) := by decide +kernel
theorem dX2_narrow_132 : decode cX2_narrow 132 = .ok (.getfield 61, 3) := by decide +kernel
theorem dX2_narrow_135 : decode cX2_narrow 135 = .ok (.iload_n 2, 1) := by decide +kernel
theorem dX2_narrow_136 : decode cX2_narrow 136 = .ok (.iaload, 1) := by decide +kernel
theorem dX2_narrow_137 : decode cX2_narrow 137 = .ok (.aload_n 1, 1) := by decide +kernel
theorem dX2_narrow_138 : decode cX2_narrow 138 = .ok (.getfield 64, 3) := by decide +kernel
theorem dX2_narrow_141 : decode cX2_narrow 141 = .ok (.iload_n 2, 1) := by decide +kernel
theorem dX2_narrow_142 : decode cX2_narrow 142 = .ok (.iaload, 1) := by decide +kernel
theorem dX2_narrow_143 : decode cX2_narrow 143 = .ok (.isub, 1) := by decide +kernel
theorem dX2_narrow_144 : decode cX2_narrow 144 = .ok (.iload 7, 2) := by decide +kernel
theorem dX2_narrow_146 : decode cX2_narrow 146 = .ok (.isub, 1) := by decide +kernel
theorem dX2_narrow_147 : decode cX2_narrow 147 = .ok (.invokestatic 72, 3) := by decide +kernel
theorem dX2_narrow_150 : decode cX2_narrow 150 = .ok (.istore 9, 2) := by decide +kernel
theorem dX2_narrow_152 : decode cX2_narrow 152 = .ok (.iload 9, 2) := by decide +kernel
theorem dX2_narrow_154 : decode cX2_narrow 154 = .ok (.iload 8, 2) := by decide +kernel
theorem dX2_narrow_156 : decode cX2_narrow 156 = .ok (.invokestatic 75, 3) := by decide +kernel
theorem dX2_narrow_159 : decode cX2_narrow 159 = .ok (.ifCond .ne 5, 3) := by decide +kernel
theorem dX2_narrow_162 : decode cX2_narrow 162 = .ok (.iconst 0, 1) := by decide +kernel
theorem dX2_narrow_163 : decode cX2_narrow 163 = .ok (.ireturn, 1) := by decide +kernel
theorem dX2_narrow_164 : decode cX2_narrow 164 = .ok (.iload 9, 2) := by decide +kernel
theorem dX2_narrow_166 : decode cX2_narrow 166 = .ok (.aload_n 1, 1) := by decide +kernel
theorem dX2_narrow_167 : decode cX2_narrow 167 = .ok (.getfield 55, 3) := by decide +kernel
theorem dX2_narrow_170 : decode cX2_narrow 170 = .ok (.iload 4, 2) := by decide +kernel
theorem dX2_narrow_172 : decode cX2_narrow 172 = .ok (.iaload, 1) := by decide +kernel
theorem dX2_narrow_173 : decode cX2_narrow 173 = .ok (.if_icmp .ne 15, 3) := by decide +kernel
theorem dX2_narrow_176 : decode cX2_narrow 176 = .ok (.iload 8, 2) := by decide +kernel
theorem dX2_narrow_178 : decode cX2_narrow 178 = .ok (.aload_n 1, 1) := by decide +kernel
theorem dX2_narrow_179 : decode cX2_narrow 179 = .ok (.getfield 58, 3) := by decide +kernel
theorem dX2_narrow_182 : decode cX2_narrow 182 = .ok (.iload 4, 2) := by decide +kernel
theorem dX2_narrow_184 : decode cX2_narrow 184 = .ok (.iaload, 1) := by decide +kernel
theorem dX2_narrow_185 : decode cX2_narrow 185 = .ok (.if_icmp .eq 26, 3) := by decide +kernel
theorem dX2_narrow_188 : decode cX2_narrow 188 = .ok (.aload_n 1, 1) := by decide +kernel
theorem dX2_narrow_189 : decode cX2_narrow 189 = .ok (.getfield 55, 3) := by decide +kernel
theorem dX2_narrow_192 : decode cX2_narrow 192 = .ok (.iload 4, 2) := by decide +kernel
theorem dX2_narrow_194 : decode cX2_narrow 194 = .ok (.iload 9, 2) := by decide +kernel
theorem dX2_narrow_196 : decode cX2_narrow 196 = .ok (.iastore, 1) := by decide +kernel
theorem dX2_narrow_197 : decode cX2_narrow 197 = .ok (.aload_n 1, 1) := by decide +kernel
theorem dX2_narrow_198 : decode cX2_narrow 198 = .ok (.getfield 58, 3) := by decide +kernel
theorem dX2_narrow_201 : decode cX2_narrow 201 = .ok (.iload 4, 2) := by decide +kernel
theorem dX2_narrow_203 : decode cX2_narrow 203 = .ok (.iload 8, 2) := by decide +kernel
theorem dX2_narrow_205 : decode cX2_narrow 205 = .ok (.iastore, 1) := by decide +kernel
theorem dX2_narrow_206 : decode cX2_narrow 206 = .ok (.aload_n 0, 1) := by decide +kernel
theorem dX2_narrow_207 : decode cX2_narrow 207 = .ok (.iconst 1, 1) := by decide +kernel
theorem dX2_narrow_208 : decode cX2_narrow 208 = .ok (.putfield 13, 3) := by decide +kernel
theorem dX2_narrow_211 : decode cX2_narrow 211 = .ok (.iconst 1, 1) := by decide +kernel
theorem dX2_narrow_212 : decode cX2_narrow 212 = .ok (.ireturn, 1) := by decide +kernel
theorem dX2_wayOn_0 : decode cX2_wayOn 0 = .ok (.aload_n 0, 1) := by decide +kernel
theorem dX2_wayOn_1 : decode cX2_wayOn 1 = .ok (.getfield 17, 3) := by decide +kernel
theorem dX2_wayOn_4 : decode cX2_wayOn 4 = .ok (.iload_n 1, 1) := by decide +kernel
theorem dX2_wayOn_5 : decode cX2_wayOn 5 = .ok (.iload_n 2, 1) := by decide +kernel
theorem dX2_wayOn_6 : decode cX2_wayOn 6 = .ok (.invokevirtual 36, 3) := by decide +kernel
theorem dX2_wayOn_9 : decode cX2_wayOn 9 = .ok (.aload_n 0, 1) := by decide +kernel
theorem dX2_wayOn_10 : decode cX2_wayOn 10 = .ok (.getfield 17, 3) := by decide +kernel
theorem dX2_wayOn_13 : decode cX2_wayOn 13 = .ok (.iload_n 1, 1) := by decide +kernel
theorem dX2_wayOn_14 : decode cX2_wayOn 14 = .ok (.iload_n 2, 1) := by decide +kernel
theorem dX2_wayOn_15 : decode cX2_wayOn 15 = .ok (.iconst 1, 1) := by decide +kernel
theorem dX2_wayOn_16 : decode cX2_wayOn 16 = .ok (.iadd, 1) := by decide +kernel
theorem dX2_wayOn_17 : decode cX2_wayOn 17 = .ok (.invokevirtual 36, 3) := by decide +kernel
theorem dX2_wayOn_20 : decode cX2_wayOn 20 = .ok (.invokestatic 48, 3) := by decide +kernel
theorem dX2_wayOn_23 : decode cX2_wayOn 23 = .ok (.ireturn, 1) := by decide +kernel
theorem dX3_append_0 : decode cX3_append 0 = .ok (.aload_n 0, 1) := by decide +kernel
theorem dX3_append_1 : decode cX3_append 1 = .ok (.getfield 19, 3) := by decide +kernel
theorem dX3_append_4 : decode cX3_append 4 = .ok (.iload_n 1, 1) := by decide +kernel
theorem dX3_append_5 : decode cX3_append 5 = .ok (.bipush 6, 2) := by decide +kernel
theorem dX3_append_7 : decode cX3_append 7 = .ok (.imul, 1) := by decide +kernel
theorem dX3_append_8 : decode cX3_append 8 = .ok (.aload_n 0, 1) := by decide +kernel
theorem dX3_append_9 : decode cX3_append 9 = .ok (.getfield 15, 3) := by decide +kernel
theorem dX3_append_12 : decode cX3_append 12 = .ok (.iload_n 1, 1) := by decide +kernel
theorem dX3_append_13 : decode cX3_append 13 = .ok (.iaload, 1) := by decide +kernel
theorem dX3_append_14 : decode cX3_append 14 = .ok (.iadd, 1) := by decide +kernel
theorem dX3_append_15 : decode cX3_append 15 = .ok (.iload_n 2, 1) := by decide +kernel
theorem dX3_append_16 : decode cX3_append 16 = .ok (.iastore, 1) := by decide +kernel
theorem dX3_append_17 : decode cX3_append 17 = .ok (.aload_n 0, 1) := by decide +kernel
theorem dX3_append_18 : decode cX3_append 18 = .ok (.getfield 15, 3) := by decide +kernel
theorem dX3_append_21 : decode cX3_append 21 = .ok (.iload_n 1, 1) := by decide +kernel
theorem dX3_append_22 : decode cX3_append 22 = .ok (.dup2, 1) := by decide +kernel
theorem dX3_append_23 : decode cX3_append 23 = .ok (.iaload, 1) := by decide +kernel
theorem dX3_append_24 : decode cX3_append 24 = .ok (.iconst 1, 1) := by decide +kernel
theorem dX3_append_25 : decode cX3_append 25 = .ok (.iadd, 1) := by decide +kernel
theorem dX3_append_26 : decode cX3_append 26 = .ok (.iastore, 1) := by decide +kernel
theorem dX3_append_27 : decode cX3_append 27 = .ok (.aload_n 0, 1) := by decide +kernel
theorem dX3_append_28 : decode cX3_append 28 = .ok (.getfield 15, 3) := by decide +kernel
theorem dX3_append_31 : decode cX3_append 31 = .ok (.iload_n 1, 1) := by decide +kernel
theorem dX3_append_32 : decode cX3_append 32 = .ok (.iaload, 1) := by decide +kernel
theorem dX3_append_33 : decode cX3_append 33 = .ok (.ireturn, 1) := by decide +kernel
theorem dX3_become_0 : decode cX3_become 0 = .ok (.aload_n 0, 1) := by decide +kernel
theorem dX3_become_1 : decode cX3_become 1 = .ok (.aload_n 1, 1) := by decide +kernel
theorem dX3_become_2 : decode cX3_become 2 = .ok (.getfield 9, 3) := by decide +kernel
theorem dX3_become_5 : decode cX3_become 5 = .ok (.putfield 9, 3) := by decide +kernel
theorem dX3_become_8 : decode cX3_become 8 = .ok (.aload_n 1, 1) := by decide +kernel
theorem dX3_become_9 : decode cX3_become 9 = .ok (.getfield 15, 3) := by decide +kernel
theorem dX3_become_12 : decode cX3_become 12 = .ok (.iconst 0, 1) := by decide +kernel
theorem dX3_become_13 : decode cX3_become 13 = .ok (.aload_n 0, 1) := by decide +kernel
theorem dX3_become_14 : decode cX3_become 14 = .ok (.getfield 15, 3) := by decide +kernel
theorem dX3_become_17 : decode cX3_become 17 = .ok (.iconst 0, 1) := by decide +kernel
theorem dX3_become_18 : decode cX3_become 18 = .ok (.bipush 8, 2) := by decide +kernel
theorem dX3_become_20 : decode cX3_become 20 = .ok (.invokestatic 29, 3) := by decide +kernel
theorem dX3_become_23 : decode cX3_become 23 = .ok (.aload_n 1, 1) := by decide +kernel
theorem dX3_become_24 : decode cX3_become 24 = .ok (.getfield 19, 3) := by decide +kernel
theorem dX3_become_27 : decode cX3_become 27 = .ok (.iconst 0, 1) := by decide +kernel
theorem dX3_become_28 : decode cX3_become 28 = .ok (.aload_n 0, 1) := by decide +kernel
theorem dX3_become_29 : decode cX3_become 29 = .ok (.getfield 19, 3) := by decide +kernel
theorem dX3_become_32 : decode cX3_become 32 = .ok (.iconst 0, 1) := by decide +kernel
theorem dX3_become_33 : decode cX3_become 33 = .ok (.bipush 48, 2) := by decide +kernel
theorem dX3_become_35 : decode cX3_become 35 = .ok (.invokestatic 29, 3) := by decide +kernel
theorem dX3_become_38 : decode cX3_become 38 = .ok (.return_, 1) := by decide +kernel
theorem dX3_begin_0 : decode cX3_begin 0 = .ok (.aload_n 0, 1) := by decide +kernel
theorem dX3_begin_1 : decode cX3_begin 1 = .ok (.getfield 9, 3) := by decide +kernel
theorem dX3_begin_4 : decode cX3_begin 4 = .ok (.istore_n 2, 1) := by decide +kernel
theorem dX3_begin_5 : decode cX3_begin 5 = .ok (.aload_n 0, 1) := by decide +kernel
theorem dX3_begin_6 : decode cX3_begin 6 = .ok (.dup, 1) := by decide +kernel
theorem dX3_begin_7 : decode cX3_begin 7 = .ok (.getfield 9, 3) := by decide +kernel
theorem dX3_begin_10 : decode cX3_begin 10 = .ok (.iconst 1, 1) := by decide +kernel
theorem dX3_begin_11 : decode cX3_begin 11 = .ok (.iadd, 1) := by decide +kernel
theorem dX3_begin_12 : decode cX3_begin 12 = .ok (.putfield 9, 3) := by decide +kernel
theorem dX3_begin_15 : decode cX3_begin 15 = .ok (.aload_n 0, 1) := by decide +kernel
theorem dX3_begin_16 : decode cX3_begin 16 = .ok (.getfield 15, 3) := by decide +kernel
theorem dX3_begin_19 : decode cX3_begin 19 = .ok (.iload_n 2, 1) := by decide +kernel
theorem dX3_begin_20 : decode cX3_begin 20 = .ok (.iconst 0, 1) := by decide +kernel
theorem dX3_begin_21 : decode cX3_begin 21 = .ok (.iastore, 1) := by decide +kernel
theorem dX3_begin_22 : decode cX3_begin 22 = .ok (.aload_n 0, 1) := by decide +kernel
theorem dX3_begin_23 : decode cX3_begin 23 = .ok (.iload_n 2, 1) := by decide +kernel
theorem dX3_begin_24 : decode cX3_begin 24 = .ok (.iload_n 1, 1) := by decide +kernel
theorem dX3_begin_25 : decode cX3_begin 25 = .ok (.invokevirtual 22, 3) := by decide +kernel
theorem dX3_begin_28 : decode cX3_begin 28 = .ok (.pop, 1) := by decide +kernel
theorem dX3_begin_29 : decode cX3_begin 29 = .ok (.iload_n 2, 1) := by decide +kernel
theorem dX3_begin_30 : decode cX3_begin 30 = .ok (.ireturn, 1) := by decide +kernel
theorem dX3_has_0 : decode cX3_has 0 = .ok (.iload_n 1, 1) := by decide +kernel
theorem dX3_has_1 : decode cX3_has 1 = .ok (.ifCond .lt 15, 3) := by decide +kernel
theorem dX3_has_4 : decode cX3_has 4 = .ok (.iload_n 1, 1) := by decide +kernel
theorem dX3_has_5 : decode cX3_has 5 = .ok (.aload_n 0, 1) := by decide +kernel
theorem dX3_has_6 : decode cX3_has 6 = .ok (.getfield 9, 3) := by decide +kernel
theorem dX3_has_9 : decode cX3_has 9 = .ok (.if_icmp .ge 7, 3) := by decide +kernel
theorem dX3_has_12 : decode cX3_has 12 = .ok (.iconst 1, 1) := by decide +kernel
theorem dX3_has_13 : decode cX3_has 13 = .ok (.goto 4, 3) := by decide +kernel
theorem dX3_has_16 : decode cX3_has 16 = .ok (.iconst 0, 1) := by decide +kernel
theorem dX3_has_17 : decode cX3_has 17 = .ok (.ireturn, 1) := by decide +kernel
theorem dX3_isFull_0 : decode cX3_isFull 0 = .ok (.aload_n 0, 1) := by decide +kernel
theorem dX3_isFull_1 : decode cX3_isFull 1 = .ok (.getfield 9, 3) := by decide +kernel
theorem dX3_isFull_4 : decode cX3_isFull 4 = .ok (.bipush 8, 2) := by decide +kernel
theorem dX3_isFull_6 : decode cX3_isFull 6 = .ok (.if_icmp .lt 7, 3) := by decide +kernel
theorem dX3_isFull_9 : decode cX3_isFull 9 = .ok (.iconst 1, 1) := by decide +kernel
theorem dX3_isFull_10 : decode cX3_isFull 10 = .ok (.goto 4, 3) := by decide +kernel
theorem dX3_isFull_13 : decode cX3_isFull 13 = .ok (.iconst 0, 1) := by decide +kernel
theorem dX3_isFull_14 : decode cX3_isFull 14 = .ok (.ireturn, 1) := by decide +kernel
theorem dX3_isFullRow_0 : decode cX3_isFullRow 0 = .ok (.aload_n 0, 1) := by decide +kernel
theorem dX3_isFullRow_1 : decode cX3_isFullRow 1 = .ok (.getfield 15, 3) := by decide +kernel
theorem dX3_isFullRow_4 : decode cX3_isFullRow 4 = .ok (.iload_n 1, 1) := by decide +kernel
theorem dX3_isFullRow_5 : decode cX3_isFullRow 5 = .ok (.iaload, 1) := by decide +kernel
theorem dX3_isFullRow_6 : decode cX3_isFullRow 6 = .ok (.bipush 6, 2) := by decide +kernel
theorem dX3_isFullRow_8 : decode cX3_isFullRow 8 = .ok (.if_icmp .lt 7, 3) := by decide +kernel
theorem dX3_isFullRow_11 : decode cX3_isFullRow 11 = .ok (.iconst 1, 1) := by decide +kernel
theorem dX3_isFullRow_12 : decode cX3_isFullRow 12 = .ok (.goto 4, 3) := by decide +kernel
theorem dX3_isFullRow_15 : decode cX3_isFullRow 15 = .ok (.iconst 0, 1) := by decide +kernel
theorem dX3_isFullRow_16 : decode cX3_isFullRow 16 = .ok (.ireturn, 1) := by decide +kernel
theorem dX3_lastStop_0 : decode cX3_lastStop 0 = .ok (.aload_n 0, 1) := by decide +kernel
theorem dX3_lastStop_1 : decode cX3_lastStop 1 = .ok (.iload_n 1, 1) := by decide +kernel
theorem dX3_lastStop_2 : decode cX3_lastStop 2 = .ok (.aload_n 0, 1) := by decide +kernel
theorem dX3_lastStop_3 : decode cX3_lastStop 3 = .ok (.getfield 15, 3) := by decide +kernel
theorem dX3_lastStop_6 : decode cX3_lastStop 6 = .ok (.iload_n 1, 1) := by decide +kernel
theorem dX3_lastStop_7 : decode cX3_lastStop 7 = .ok (.iaload, 1) := by decide +kernel
theorem dX3_lastStop_8 : decode cX3_lastStop 8 = .ok (.iconst 1, 1) := by decide +kernel
theorem dX3_lastStop_9 : decode cX3_lastStop 9 = .ok (.isub, 1) := by decide +kernel
theorem dX3_lastStop_10 : decode cX3_lastStop 10 = .ok (.invokevirtual 26, 3) := by decide +kernel
theorem dX3_lastStop_13 : decode cX3_lastStop 13 = .ok (.ireturn, 1) := by decide +kernel
theorem dX3_stop_0 : decode cX3_stop 0 = .ok (.aload_n 0, 1) := by decide +kernel
theorem dX3_stop_1 : decode cX3_stop 1 = .ok (.getfield 19, 3) := by decide +kernel
theorem dX3_stop_4 : decode cX3_stop 4 = .ok (.iload_n 1, 1) := by decide +kernel
theorem dX3_stop_5 : decode cX3_stop 5 = .ok (.bipush 6, 2) := by decide +kernel
theorem dX3_stop_7 : decode cX3_stop 7 = .ok (.imul, 1) := by decide +kernel
theorem dX3_stop_8 : decode cX3_stop 8 = .ok (.iload_n 2, 1) := by decide +kernel
theorem dX3_stop_9 : decode cX3_stop 9 = .ok (.iadd, 1) := by decide +kernel
theorem dX3_stop_10 : decode cX3_stop 10 = .ok (.iaload, 1) := by decide +kernel
theorem dX3_stop_11 : decode cX3_stop 11 = .ok (.ireturn, 1) := by decide +kernel
theorem dX4_begin_0 : decode cX4_begin 0 = .ok (.aload_n 0, 1) := by decide +kernel
theorem dX4_begin_1 : decode cX4_begin 1 = .ok (.iload_n 1, 1) := by decide +kernel
theorem dX4_begin_2 : decode cX4_begin 2 = .ok (.putfield 9, 3) := by decide +kernel
theorem dX4_begin_5 : decode cX4_begin 5 = .ok (.aload_n 0, 1) := by decide +kernel
theorem dX4_begin_6 : decode cX4_begin 6 = .ok (.iload_n 2, 1) := by decide +kernel
theorem dX4_begin_7 : decode cX4_begin 7 = .ok (.putfield 15, 3) := by decide +kernel
theorem dX4_begin_10 : decode cX4_begin 10 = .ok (.iconst 0, 1) := by decide +kernel
theorem dX4_begin_11 : decode cX4_begin 11 = .ok (.istore_n 3, 1) := by decide +kernel
theorem dX4_begin_12 : decode cX4_begin 12 = .ok (.iload_n 3, 1) := by decide +kernel
theorem dX4_begin_13 : decode cX4_begin 13 = .ok (.bipush 40, 2) := by decide +kernel
theorem dX4_begin_15 : decode cX4_begin 15 = .ok (.if_icmp .ge 16, 3) := by decide +kernel
theorem dX4_begin_18 : decode cX4_begin 18 = .ok (.aload_n 0, 1) := by decide +kernel
theorem dX4_begin_19 : decode cX4_begin 19 = .ok (.getfield 18, 3) := by decide +kernel
theorem dX4_begin_22 : decode cX4_begin 22 = .ok (.iload_n 3, 1) := by decide +kernel
theorem dX4_begin_23 : decode cX4_begin 23 = .ok (.lconst 0, 1) := by decide +kernel
theorem dX4_begin_24 : decode cX4_begin 24 = .ok (.lastore, 1) := by decide +kernel
theorem dX4_begin_25 : decode cX4_begin 25 = .ok (.iinc 3 1, 3) := by decide +kernel
theorem dX4_begin_28 : decode cX4_begin 28 = .ok (.goto (-16), 3) := by decide +kernel
theorem dX4_begin_31 : decode cX4_begin 31 = .ok (.return_, 1) := by decide +kernel
theorem dX4_hasSpan_0 : decode cX4_hasSpan 0 = .ok (.iload_n 1, 1) := by decide +kernel
theorem dX4_hasSpan_1 : decode cX4_hasSpan 1 = .ok (.ifCond .lt 29, 3) := by decide +kernel
theorem dX4_hasSpan_4 : decode cX4_hasSpan 4 = .ok (.iload_n 2, 1) := by decide +kernel
theorem dX4_hasSpan_5 : decode cX4_hasSpan 5 = .ok (.ifCond .lt 25, 3) := by decide +kernel
theorem dX4_hasSpan_8 : decode cX4_hasSpan 8 = .ok (.iload_n 2, 1) := by decide +kernel
theorem dX4_hasSpan_9 : decode cX4_hasSpan 9 = .ok (.aload_n 0, 1) := by decide +kernel
theorem dX4_hasSpan_10 : decode cX4_hasSpan 10 = .ok (.getfield 15, 3) := by decide +kernel
theorem dX4_hasSpan_13 : decode cX4_hasSpan 13 = .ok (.if_icmp .gt 17, 3) := by decide +kernel
theorem dX4_hasSpan_16 : decode cX4_hasSpan 16 = .ok (.iload_n 1, 1) := by decide +kernel
theorem dX4_hasSpan_17 : decode cX4_hasSpan 17 = .ok (.aload_n 0, 1) := by decide +kernel
theorem dX4_hasSpan_18 : decode cX4_hasSpan 18 = .ok (.getfield 15, 3) := by decide +kernel
theorem dX4_hasSpan_21 : decode cX4_hasSpan 21 = .ok (.iload_n 2, 1) := by decide +kernel
theorem dX4_hasSpan_22 : decode cX4_hasSpan 22 = .ok (.isub, 1) := by decide +kernel
theorem dX4_hasSpan_23 : decode cX4_hasSpan 23 = .ok (.if_icmp .gt 7, 3) := by decide +kernel
theorem dX4_hasSpan_26 : decode cX4_hasSpan 26 = .ok (.iconst 1, 1) := by decide +kernel
theorem dX4_hasSpan_27 : decode cX4_hasSpan 27 = .ok (.goto 4, 3) := by decide +kernel
theorem dX4_hasSpan_30 : decode cX4_hasSpan 30 = .ok (.iconst 0, 1) := by decide +kernel
theorem dX4_hasSpan_31 : decode cX4_hasSpan 31 = .ok (.ireturn, 1) := by decide +kernel
theorem dX4_isMissing_0 : decode cX4_isMissing 0 = .ok (.aload_n 0, 1) := by decide +kernel
theorem dX4_isMissing_1 : decode cX4_isMissing 1 = .ok (.getfield 9, 3) := by decide +kernel
theorem dX4_isMissing_4 : decode cX4_isMissing 4 = .ok (.ifCond .ne 7, 3) := by decide +kernel
theorem dX4_isMissing_7 : decode cX4_isMissing 7 = .ok (.iconst 1, 1) := by decide +kernel
theorem dX4_isMissing_8 : decode cX4_isMissing 8 = .ok (.goto 4, 3) := by decide +kernel
theorem dX4_isMissing_11 : decode cX4_isMissing 11 = .ok (.iconst 0, 1) := by decide +kernel
theorem dX4_isMissing_12 : decode cX4_isMissing 12 = .ok (.ireturn, 1) := by decide +kernel
theorem dX4_lowestBits_0 : decode cX4_lowestBits 0 = .ok (.aload_n 0, 1) := by decide +kernel
theorem dX4_lowestBits_1 : decode cX4_lowestBits 1 = .ok (.getfield 9, 3) := by decide +kernel
theorem dX4_lowestBits_4 : decode cX4_lowestBits 4 = .ok (.bipush 8, 2) := by decide +kernel
theorem dX4_lowestBits_6 : decode cX4_lowestBits 6 = .ok (.if_icmp .ne 8, 3) := by decide +kernel
theorem dX4_lowestBits_9 : decode cX4_lowestBits 9 = .ok (.lload_n 1, 1) := by decide +kernel
theorem dX4_lowestBits_10 : decode cX4_lowestBits 10 = .ok (.l2i, 1) := by decide +kernel
theorem dX4_lowestBits_11 : decode cX4_lowestBits 11 = .ok (.i2b, 1) := by decide +kernel
theorem dX4_lowestBits_12 : decode cX4_lowestBits 12 = .ok (.i2l, 1) := by decide +kernel
theorem dX4_lowestBits_13 : decode cX4_lowestBits 13 = .ok (.lreturn, 1) := by decide +kernel
theorem dX4_lowestBits_14 : decode cX4_lowestBits 14 = .ok (.aload_n 0, 1) := by decide +kernel
theorem dX4_lowestBits_15 : decode cX4_lowestBits 15 = .ok (.getfield 9, 3) := by decide +kernel
theorem dX4_lowestBits_18 : decode cX4_lowestBits 18 = .ok (.bipush 16, 2) := by decide +kernel
theorem dX4_lowestBits_20 : decode cX4_lowestBits 20 = .ok (.if_icmp .ne 10, 3) := by decide +kernel
theorem dX4_lowestBits_23 : decode cX4_lowestBits 23 = .ok (.lload_n 1, 1) := by decide +kernel
theorem dX4_lowestBits_24 : decode cX4_lowestBits 24 = .ok (.l2i, 1) := by decide +kernel
theorem dX4_lowestBits_25 : decode cX4_lowestBits 25 = .ok (.i2s, 1) := by decide +kernel
theorem dX4_lowestBits_26 : decode cX4_lowestBits 26 = .ok (.i2l, 1) := by decide +kernel
theorem dX4_lowestBits_27 : decode cX4_lowestBits 27 = .ok (.goto 4, 3) := by decide +kernel
theorem dX4_lowestBits_30 : decode cX4_lowestBits 30 = .ok (.lload_n 1, 1) := by decide +kernel
theorem dX4_lowestBits_31 : decode cX4_lowestBits 31 = .ok (.lreturn, 1) := by decide +kernel
theorem dX5_climb_0 : decode cX5_climb 0 = .ok (.iconst 0, 1) := by decide +kernel
theorem dX5_climb_1 : decode cX5_climb 1 = .ok (.istore_n 2, 1) := by decide +kernel
theorem dX5_climb_2 : decode cX5_climb 2 = .ok (.iload_n 2, 1) := by decide +kernel
theorem dX5_climb_3 : decode cX5_climb 3 = .ok (.aload_n 1, 1) := by decide +kernel
theorem dX5_climb_4 : decode cX5_climb 4 = .ok (.getfield 22, 3) := by decide +kernel
theorem dX5_climb_7 : decode cX5_climb 7 = .ok (.if_icmp .ge 16, 3) := by decide +kernel
theorem dX5_climb_10 : decode cX5_climb 10 = .ok (.aload_n 0, 1) := by decide +kernel
theorem dX5_climb_11 : decode cX5_climb 11 = .ok (.getfield 15, 3) := by decide +kernel
theorem dX5_climb_14 : decode cX5_climb 14 = .ok (.iload_n 2, 1) := by decide +kernel
theorem dX5_climb_15 : decode cX5_climb 15 = .ok (.iconst 0, 1) := by decide +kernel
theorem dX5_climb_16 : decode cX5_climb 16 = .ok (.bastore, 1) := by decide +kernel
theorem dX5_climb_17 : decode cX5_climb 17 = .ok (.iinc 2 1, 3) := by decide +kernel
theorem dX5_climb_20 : decode cX5_climb 20 = .ok (.goto (-18), 3) := by decide +kernel
theorem dX5_climb_23 : decode cX5_climb 23 = .ok (.iconst 0, 1) := by decide +kernel
theorem dX5_climb_24 : decode cX5_climb 24 = .ok (.istore_n 2, 1) := by decide +kernel
theorem dX5_climb_25 : decode cX5_climb 25 = .ok (.iload_n 2, 1) := by decide +kernel
theorem dX5_climb_26 : decode cX5_climb 26 = .ok (.aload_n 1, 1) := by decide +kernel
theorem dX5_climb_27 : decode cX5_climb 27 = .ok (.getfield 22, 3) := by decide +kernel
theorem dX5_climb_30 : decode cX5_climb 30 = .ok (.if_icmp .ge 24, 3) := by decide +kernel
theorem dX5_climb_33 : decode cX5_climb 33 = .ok (.aload_n 0, 1) := by decide +kernel
theorem dX5_climb_34 : decode cX5_climb 34 = .ok (.getfield 15, 3) := by decide +kernel
theorem dX5_climb_37 : decode cX5_climb 37 = .ok (.iload_n 2, 1) := by decide +kernel
theorem dX5_climb_38 : decode cX5_climb 38 = .ok (.baload, 1) := by decide +kernel
theorem dX5_climb_39 : decode cX5_climb 39 = .ok (.ifCond .ne 9, 3) := by decide +kernel
theorem dX5_climb_42 : decode cX5_climb 42 = .ok (.aload_n 0, 1) := by decide +kernel
theorem dX5_climb_43 : decode cX5_climb 43 = .ok (.aload_n 1, 1) := by decide +kernel
theorem dX5_climb_44 : decode cX5_climb 44 = .ok (.iload_n 2, 1) := by decide +kernel
theorem dX5_climb_45 : decode cX5_climb 45 = .ok (.invokevirtual 28, 3) := by decide +kernel
theorem dX5_climb_48 : decode cX5_climb 48 = .ok (.iinc 2 1, 3) := by decide +kernel
theorem dX5_climb_51 : decode cX5_climb 51 = .ok (.goto (-26), 3) := by decide +kernel
theorem dX5_climb_54 : decode cX5_climb 54 = .ok (.return_, 1) := by decide +kernel
theorem dX5_climbFrom_0 : decode cX5_climbFrom 0 = .ok (.aload_n 0, 1) := by decide +kernel
theorem dX5_climbFrom_1 : decode cX5_climbFrom 1 = .ok (.getfield 9, 3) := by decide +kernel
theorem dX5_climbFrom_4 : decode cX5_climbFrom 4 = .ok (.iload_n 2, 1) := by decide +kernel
theorem dX5_climbFrom_5 : decode cX5_climbFrom 5 = .ok (.iconst 0, 1) := by decide +kernel
theorem dX5_climbFrom_6 : decode cX5_climbFrom 6 = .ok (.iastore, 1) := by decide +kernel
theorem dX5_climbFrom_7 : decode cX5_climbFrom 7 = .ok (.aload_n 0, 1) := by decide +kernel
theorem dX5_climbFrom_8 : decode cX5_climbFrom 8 = .ok (.getfield 15, 3) := by decide +kernel
theorem dX5_climbFrom_11 : decode cX5_climbFrom 11 = .ok (.iload_n 2, 1) := by decide +kernel
theorem dX5_climbFrom_12 : decode cX5_climbFrom 12 = .ok (.iconst 1, 1) := by decide +kernel
theorem dX5_climbFrom_13 : decode cX5_climbFrom 13 = .ok (.bastore, 1) := by decide +kernel
theorem dX5_climbFrom_14 : decode cX5_climbFrom 14 = .ok (.aload_n 0, 1) := by decide +kernel
theorem dX5_climbFrom_15 : decode cX5_climbFrom 15 = .ok (.getfield 19, 3) := by decide +kernel
theorem dX5_climbFrom_18 : decode cX5_climbFrom 18 = .ok (.iconst 0, 1) := by decide +kernel
theorem dX5_climbFrom_19 : decode cX5_climbFrom 19 = .ok (.iload_n 2, 1) := by decide +kernel
theorem dX5_climbFrom_20 : decode cX5_climbFrom 20 = .ok (.iastore, 1) := by decide +kernel
theorem dX5_climbFrom_21 : decode cX5_climbFrom 21 = .ok (.iconst 1, 1) := by decide +kernel
theorem dX5_climbFrom_22 : decode cX5_climbFrom 22 = .ok (.istore_n 3, 1) := by decide +kernel
theorem dX5_climbFrom_23 : decode cX5_climbFrom 23 = .ok (.iconst 0, 1) := by decide +kernel
theorem dX5_climbFrom_24 : decode cX5_climbFrom 24 = .ok (.istore 4, 2) := by decide +kernel
theorem dX5_climbFrom_26 : decode cX5_climbFrom 26 = .ok (.iload 4, 2) := by decide +kernel
theorem dX5_climbFrom_28 : decode cX5_climbFrom 28 = .ok (.iload_n 3, 1) := by decide +kernel
theorem dX5_climbFrom_29 : decode cX5_climbFrom 29 = .ok (.if_icmp .ge 106, 3) := by decide +kernel
theorem dX5_climbFrom_32 : decode cX5_climbFrom 32 = .ok (.iload 4, 2) := by decide +kernel
theorem dX5_climbFrom_34 : decode cX5_climbFrom 34 = .ok (.bipush 10, 2) := by decide +kernel
theorem dX5_climbFrom_36 : decode cX5_climbFrom 36 = .ok (.if_icmp .ge 99, 3) := by decide +kernel
theorem dX5_climbFrom_39 : decode cX5_climbFrom 39 = .ok (.aload_n 0, 1) := by decide +kernel
theorem dX5_climbFrom_40 : decode cX5_climbFrom 40 = .ok (.getfield 19, 3) := by decide +kernel
theorem dX5_climbFrom_43 : decode cX5_climbFrom 43 = .ok (.iload 4, 2) := by decide +kernel
theorem dX5_climbFrom_45 : decode cX5_climbFrom 45 = .ok (.iaload, 1) := by decide +kernel
theorem dX5_climbFrom_46 : decode cX5_climbFrom 46 = .ok (.istore 5, 2) := by decide +kernel
theorem dX5_climbFrom_48 : decode cX5_climbFrom 48 = .ok (.iconst 0, 1) := by decide +kernel
theorem dX5_climbFrom_49 : decode cX5_climbFrom 49 = .ok (.istore 6, 2) := by decide +kernel
theorem dX5_climbFrom_51 : decode cX5_climbFrom 51 = .ok (.iload 6, 2) := by decide +kernel
theorem dX5_climbFrom_53 : decode cX5_climbFrom 53 = .ok (.aload_n 1, 1) := by decide +kernel
theorem dX5_climbFrom_54 : decode cX5_climbFrom 54 = .ok (.getfield 22, 3) := by decide +kernel
theorem dX5_climbFrom_57 : decode cX5_climbFrom 57 = .ok (.if_icmp .ge 72, 3) := by decide +kernel
theorem dX5_climbFrom_60 : decode cX5_climbFrom 60 = .ok (.aload_n 0, 1) := by decide +kernel
theorem dX5_climbFrom_61 : decode cX5_climbFrom 61 = .ok (.getfield 15, 3) := by decide +kernel
theorem dX5_climbFrom_64 : decode cX5_climbFrom 64 = .ok (.iload 6, 2) := by decide +kernel
theorem dX5_climbFrom_66 : decode cX5_climbFrom 66 = .ok (.baload, 1) := by decide +kernel
theorem dX5_climbFrom_67 : decode cX5_climbFrom 67 = .ok (.ifCond .ne 56, 3) := by decide +kernel
theorem dX5_climbFrom_70 : decode cX5_climbFrom 70 = .ok (.aload_n 1, 1) := by decide +kernel
theorem dX5_climbFrom_71 : decode cX5_climbFrom 71 = .ok (.iload 5, 2) := by decide +kernel
theorem dX5_climbFrom_73 : decode cX5_climbFrom 73 = .ok (.iload 6, 2) := by decide +kernel
theorem dX5_climbFrom_75 : decode cX5_climbFrom 75 = .ok (.invokevirtual 32, 3) := by decide +kernel
theorem dX5_climbFrom_78 : decode cX5_climbFrom 78 = .ok (.ifCond .eq 45, 3) := by decide +kernel
theorem dX5_climbFrom_81 : decode cX5_climbFrom 81 = .ok (.aload_n 0, 1) := by decide +kernel
theorem dX5_climbFrom_82 : decode cX5_climbFrom 82 = .ok (.getfield 9, 3) := by decide +kernel
theorem dX5_climbFrom_85 : decode cX5_climbFrom 85 = .ok (.iload 6, 2) := by decide +kernel
theorem dX5_climbFrom_87 : decode cX5_climbFrom 87 = .ok (.aload_n 0, 1) := by decide +kernel
theorem dX5_climbFrom_88 : decode cX5_climbFrom 88 = .ok (.getfield 9, 3) := by decide +kernel
theorem dX5_climbFrom_91 : decode cX5_climbFrom 91 = .ok (.iload 5, 2) := by decide +kernel
theorem dX5_climbFrom_93 : decode cX5_climbFrom 93 = .ok (.iaload, 1) := by decide +kernel
theorem dX5_climbFrom_94 : decode cX5_climbFrom 94 = .ok (.aload_n 1, 1) := by decide +kernel
theorem dX5_climbFrom_95 : decode cX5_climbFrom 95 = .ok (.iload 5, 2) := by decide +kernel
theorem dX5_climbFrom_97 : decode cX5_climbFrom 97 = .ok (.iload 6, 2) := by decide +kernel
theorem dX5_climbFrom_99 : decode cX5_climbFrom 99 = .ok (.invokestatic 36, 3) := by decide +kernel
theorem dX5_climbFrom_102 : decode cX5_climbFrom 102 = .ok (.iadd, 1) := by decide +kernel
theorem dX5_climbFrom_103 : decode cX5_climbFrom 103 = .ok (.iastore, 1) := by decide +kernel
theorem dX5_climbFrom_104 : decode cX5_climbFrom 104 = .ok (.aload_n 0, 1) := by decide +kernel
theorem dX5_climbFrom_105 : decode cX5_climbFrom 105 = .ok (.getfield 15, 3) := by decide +kernel
theorem dX5_climbFrom_108 : decode cX5_climbFrom 108 = .ok (.iload 6, 2) := by decide +kernel
theorem dX5_climbFrom_110 : decode cX5_climbFrom 110 = .ok (.iconst 1, 1) := by decide +kernel
theorem dX5_climbFrom_111 : decode cX5_climbFrom 111 = .ok (.bastore, 1) := by decide +kernel
theorem dX5_climbFrom_112 : decode cX5_climbFrom 112 = .ok (.aload_n 0, 1) := by decide +kernel
theorem dX5_climbFrom_113 : decode cX5_climbFrom 113 = .ok (.getfield 19, 3) := by decide +kernel
theorem dX5_climbFrom_116 : decode cX5_climbFrom 116 = .ok (.iload_n 3, 1) := by decide +kernel
theorem dX5_climbFrom_117 : decode cX5_climbFrom 117 = .ok (.iload 6, 2) := by decide +kernel
theorem dX5_climbFrom_119 : decode cX5_climbFrom 119 = .ok (.iastore, 1) := by decide +kernel
theorem dX5_climbFrom_120 : decode cX5_climbFrom 120 = .ok (.iinc 3 1, 3) := by decide +kernel
theorem dX5_climbFrom_123 : decode cX5_climbFrom 123 = .ok (.iinc 6 1, 3) := by decide +kernel
theorem dX5_climbFrom_126 : decode cX5_climbFrom 126 = .ok (.goto (-75), 3) := by decide +kernel
theorem dX5_climbFrom_129 : decode cX5_climbFrom 129 = .ok (.iinc 4 1, 3) := by decide +kernel
theorem dX5_climbFrom_132 : decode cX5_climbFrom 132 = .ok (.goto (-106), 3) := by decide +kernel
theorem dX5_climbFrom_135 : decode cX5_climbFrom 135 = .ok (.return_, 1) := by decide +kernel
theorem dX5_doFit_0 : decode cX5_doFit 0 = .ok (.iconst 0, 1) := by decide +kernel
theorem dX5_doFit_1 : decode cX5_doFit 1 = .ok (.istore_n 2, 1) := by decide +kernel
theorem dX5_doFit_2 : decode cX5_doFit 2 = .ok (.iload_n 2, 1) := by decide +kernel
theorem dX5_doFit_3 : decode cX5_doFit 3 = .ok (.aload_n 1, 1) := by decide +kernel
theorem dX5_doFit_4 : decode cX5_doFit 4 = .ok (.getfield 22, 3) := by decide +kernel
theorem dX5_doFit_7 : decode cX5_doFit 7 = .ok (.if_icmp .ge 60, 3) := by decide +kernel
theorem dX5_doFit_10 : decode cX5_doFit 10 = .ok (.iload_n 2, 1) := by decide +kernel
theorem dX5_doFit_11 : decode cX5_doFit 11 = .ok (.iconst 1, 1) := by decide +kernel
theorem dX5_doFit_12 : decode cX5_doFit 12 = .ok (.iadd, 1) := by decide +kernel
theorem dX5_doFit_13 : decode cX5_doFit 13 = .ok (.istore_n 3, 1) := by decide +kernel
theorem dX5_doFit_14 : decode cX5_doFit 14 = .ok (.iload_n 3, 1) := by decide +kernel
theorem dX5_doFit_15 : decode cX5_doFit 15 = .ok (.aload_n 1, 1) := by decide +kernel
theorem dX5_doFit_16 : decode cX5_doFit 16 = .ok (.getfield 22, 3) := by decide +kernel
theorem dX5_doFit_19 : decode cX5_doFit 19 = .ok (.if_icmp .ge 42, 3) := by decide +kernel
theorem dX5_doFit_22 : decode cX5_doFit 22 = .ok (.aload_n 1, 1) := by decide +kernel
theorem dX5_doFit_23 : decode cX5_doFit 23 = .ok (.iload_n 2, 1) := by decide +kernel
theorem dX5_doFit_24 : decode cX5_doFit 24 = .ok (.iload_n 3, 1) := by decide +kernel
theorem dX5_doFit_25 : decode cX5_doFit 25 = .ok (.invokevirtual 32, 3) := by decide +kernel
theorem dX5_doFit_28 : decode cX5_doFit 28 = .ok (.ifCond .eq 27, 3) := by decide +kernel
theorem dX5_doFit_31 : decode cX5_doFit 31 = .ok (.aload_n 0, 1) := by decide +kernel
theorem dX5_doFit_32 : decode cX5_doFit 32 = .ok (.getfield 9, 3) := by decide +kernel
theorem dX5_doFit_35 : decode cX5_doFit 35 = .ok (.iload_n 3, 1) := by decide +kernel
theorem dX5_doFit_36 : decode cX5_doFit 36 = .ok (.iaload, 1) := by decide +kernel
theorem dX5_doFit_37 : decode cX5_doFit 37 = .ok (.aload_n 0, 1) := by decide +kernel
theorem dX5_doFit_38 : decode cX5_doFit 38 = .ok (.getfield 9, 3) := by decide +kernel
theorem dX5_doFit_41 : decode cX5_doFit 41 = .ok (.iload_n 2, 1) := by decide +kernel
theorem dX5_doFit_42 : decode cX5_doFit 42 = .ok (.iaload, 1) := by decide +kernel
theorem dX5_doFit_43 : decode cX5_doFit 43 = .ok (.isub, 1) := by decide +kernel
theorem dX5_doFit_44 : decode cX5_doFit 44 = .ok (.aload_n 1, 1) := by decide +kernel
theorem dX5_doFit_45 : decode cX5_doFit 45 = .ok (.iload_n 2, 1) := by decide +kernel
theorem dX5_doFit_46 : decode cX5_doFit 46 = .ok (.iload_n 3, 1) := by decide +kernel
theorem dX5_doFit_47 : decode cX5_doFit 47 = .ok (.invokestatic 36, 3) := by decide +kernel
theorem dX5_doFit_50 : decode cX5_doFit 50 = .ok (.if_icmp .eq 5, 3) := by decide +kernel
theorem dX5_doFit_53 : decode cX5_doFit 53 = .ok (.iconst 0, 1) := by decide +kernel
theorem dX5_doFit_54 : decode cX5_doFit 54 = .ok (.ireturn, 1) := by decide +kernel
theorem dX5_doFit_55 : decode cX5_doFit 55 = .ok (.iinc 3 1, 3) := by decide +kernel
theorem dX5_doFit_58 : decode cX5_doFit 58 = .ok (.goto (-44), 3) := by decide +kernel
theorem dX5_doFit_61 : decode cX5_doFit 61 = .ok (.iinc 2 1, 3) := by decide +kernel
theorem dX5_doFit_64 : decode cX5_doFit 64 = .ok (.goto (-62), 3) := by decide +kernel
theorem dX5_doFit_67 : decode cX5_doFit 67 = .ok (.iconst 1, 1) := by decide +kernel
theorem dX5_doFit_68 : decode cX5_doFit 68 = .ok (.ireturn, 1) := by decide +kernel
theorem dX5_mostOffPaper_0 : decode cX5_mostOffPaper 0 = .ok (.iconst (-1), 1) := by decide +kernel
theorem dX5_mostOffPaper_1 : decode cX5_mostOffPaper 1 = .ok (.istore_n 1, 1) := by decide +kernel
theorem dX5_mostOffPaper_2 : decode cX5_mostOffPaper 2 = .ok (.iconst 0, 1) := by decide +kernel
theorem dX5_mostOffPaper_3 : decode cX5_mostOffPaper 3 = .ok (.istore_n 2, 1) := by decide +kernel
theorem dX5_mostOffPaper_4 : decode cX5_mostOffPaper 4 = .ok (.iload_n 2, 1) := by decide +kernel
theorem dX5_mostOffPaper_5 : decode cX5_mostOffPaper 5 = .ok (.aload_n 0, 1) := by decide +kernel
theorem dX5_mostOffPaper_6 : decode cX5_mostOffPaper 6 = .ok (.getfield 22, 3) := by decide +kernel
theorem dX5_mostOffPaper_9 : decode cX5_mostOffPaper 9 = .ok (.if_icmp .ge 60, 3) := by decide +kernel
theorem dX5_mostOffPaper_12 : decode cX5_mostOffPaper 12 = .ok (.iconst 0, 1) := by decide +kernel
theorem dX5_mostOffPaper_13 : decode cX5_mostOffPaper 13 = .ok (.istore_n 3, 1) := by decide +kernel
theorem dX5_mostOffPaper_14 : decode cX5_mostOffPaper 14 = .ok (.iload_n 3, 1) := by decide +kernel
theorem dX5_mostOffPaper_15 : decode cX5_mostOffPaper 15 = .ok (.aload_n 0, 1) := by decide +kernel
theorem dX5_mostOffPaper_16 : decode cX5_mostOffPaper 16 = .ok (.getfield 22, 3) := by decide +kernel
theorem dX5_mostOffPaper_19 : decode cX5_mostOffPaper 19 = .ok (.if_icmp .ge 44, 3) := by decide +kernel
theorem dX5_mostOffPaper_22 : decode cX5_mostOffPaper 22 = .ok (.iload_n 2, 1) := by decide +kernel
theorem dX5_mostOffPaper_23 : decode cX5_mostOffPaper 23 = .ok (.iload_n 3, 1) := by decide +kernel
theorem dX5_mostOffPaper_24 : decode cX5_mostOffPaper 24 = .ok (.if_icmp .eq 33, 3) := by decide +kernel
theorem dX5_mostOffPaper_27 : decode cX5_mostOffPaper 27 = .ok (.aload_n 0, 1) := by decide +kernel
theorem dX5_mostOffPaper_28 : decode cX5_mostOffPaper 28 = .ok (.iload_n 2, 1) := by decide +kernel
theorem dX5_mostOffPaper_29 : decode cX5_mostOffPaper 29 = .ok (.iload_n 3, 1) := by decide +kernel
theorem dX5_mostOffPaper_30 : decode cX5_mostOffPaper 30 = .ok (.invokevirtual 32, 3) := by decide +kernel
theorem dX5_mostOffPaper_33 : decode cX5_mostOffPaper 33 = .ok (.ifCond .eq 24, 3) := by decide +kernel
theorem dX5_mostOffPaper_36 : decode cX5_mostOffPaper 36 = .ok (.iload_n 1, 1) := by decide +kernel
theorem dX5_mostOffPaper_37 : decode cX5_mostOffPaper 37 = .ok (.aload_n 0, 1) := by decide +kernel
theorem dX5_mostOffPaper_38 : decode cX5_mostOffPaper 38 = .ok (.iload_n 2, 1) := by decide +kernel
theorem dX5_mostOffPaper_39 : decode cX5_mostOffPaper 39 = .ok (.iload_n 3, 1) := by decide +kernel
theorem dX5_mostOffPaper_40 : decode cX5_mostOffPaper 40 = .ok (.invokevirtual 40, 3) := by decide +kernel
theorem dX5_mostOffPaper_43 : decode cX5_mostOffPaper 43 = .ok (.aload_n 0, 1) := by decide +kernel
theorem dX5_mostOffPaper_44 : decode cX5_mostOffPaper 44 = .ok (.iload_n 2, 1) := by decide +kernel
theorem dX5_mostOffPaper_45 : decode cX5_mostOffPaper 45 = .ok (.iload_n 3, 1) := by decide +kernel
theorem dX5_mostOffPaper_46 : decode cX5_mostOffPaper 46 = .ok (.invokestatic 44, 3) := by decide +kernel
theorem dX5_mostOffPaper_49 : decode cX5_mostOffPaper 49 = .ok (.isub, 1) := by decide +kernel
theorem dX5_mostOffPaper_50 : decode cX5_mostOffPaper 50 = .ok (.invokestatic 47, 3) := by decide +kernel
theorem dX5_mostOffPaper_53 : decode cX5_mostOffPaper 53 = .ok (.invokestatic 53, 3) := by decide +kernel
theorem dX5_mostOffPaper_56 : decode cX5_mostOffPaper 56 = .ok (.istore_n 1, 1) := by decide +kernel
theorem dX5_mostOffPaper_57 : decode cX5_mostOffPaper 57 = .ok (.iinc 3 1, 3) := by decide +kernel
theorem dX5_mostOffPaper_60 : decode cX5_mostOffPaper 60 = .ok (.goto (-46), 3) := by decide +kernel
theorem dX5_mostOffPaper_63 : decode cX5_mostOffPaper 63 = .ok (.iinc 2 1, 3) := by decide +kernel
theorem dX5_mostOffPaper_66 : decode cX5_mostOffPaper 66 = .ok (.goto (-62), 3) := by decide +kernel
theorem dX5_mostOffPaper_69 : decode cX5_mostOffPaper 69 = .ok (.iload_n 1, 1) := by decide +kernel
theorem dX5_mostOffPaper_70 : decode cX5_mostOffPaper 70 = .ok (.ireturn, 1) := by decide +kernel
theorem dX5_paperOf_0 : decode cX5_paperOf 0 = .ok (.aload_n 0, 1) := by decide +kernel
theorem dX5_paperOf_1 : decode cX5_paperOf 1 = .ok (.iload_n 1, 1) := by decide +kernel
theorem dX5_paperOf_2 : decode cX5_paperOf 2 = .ok (.iload_n 2, 1) := by decide +kernel
theorem dX5_paperOf_3 : decode cX5_paperOf 3 = .ok (.invokevirtual 40, 3) := by decide +kernel
theorem dX5_paperOf_6 : decode cX5_paperOf 6 = .ok (.aload_n 0, 1) := by decide +kernel
theorem dX5_paperOf_7 : decode cX5_paperOf 7 = .ok (.iload_n 2, 1) := by decide +kernel
theorem dX5_paperOf_8 : decode cX5_paperOf 8 = .ok (.iload_n 1, 1) := by decide +kernel
theorem dX5_paperOf_9 : decode cX5_paperOf 9 = .ok (.invokevirtual 40, 3) := by decide +kernel
theorem dX5_paperOf_12 : decode cX5_paperOf 12 = .ok (.iadd, 1) := by decide +kernel
theorem dX5_paperOf_13 : decode cX5_paperOf 13 = .ok (.iconst 2, 1) := by decide +kernel
theorem dX5_paperOf_14 : decode cX5_paperOf 14 = .ok (.idiv, 1) := by decide +kernel
theorem dX5_paperOf_15 : decode cX5_paperOf 15 = .ok (.ireturn, 1) := by decide +kernel
theorem dX5_riseOf_0 : decode cX5_riseOf 0 = .ok (.aload_n 0, 1) := by decide +kernel
theorem dX5_riseOf_1 : decode cX5_riseOf 1 = .ok (.iload_n 1, 1) := by decide +kernel
theorem dX5_riseOf_2 : decode cX5_riseOf 2 = .ok (.iload_n 2, 1) := by decide +kernel
theorem dX5_riseOf_3 : decode cX5_riseOf 3 = .ok (.invokevirtual 40, 3) := by decide +kernel
theorem dX5_riseOf_6 : decode cX5_riseOf 6 = .ok (.aload_n 0, 1) := by decide +kernel
theorem dX5_riseOf_7 : decode cX5_riseOf 7 = .ok (.iload_n 2, 1) := by decide +kernel
theorem dX5_riseOf_8 : decode cX5_riseOf 8 = .ok (.iload_n 1, 1) := by decide +kernel
theorem dX5_riseOf_9 : decode cX5_riseOf 9 = .ok (.invokevirtual 40, 3) := by decide +kernel
theorem dX5_riseOf_12 : decode cX5_riseOf 12 = .ok (.isub, 1) := by decide +kernel
theorem dX5_riseOf_13 : decode cX5_riseOf 13 = .ok (.ireturn, 1) := by decide +kernel
theorem dX6_bestSum_0 : decode cX6_bestSum 0 = .ok (.aload_n 1, 1) := by decide +kernel
theorem dX6_bestSum_1 : decode cX6_bestSum 1 = .ok (.getfield 44, 3) := by decide +kernel
theorem dX6_bestSum_4 : decode cX6_bestSum 4 = .ok (.iload_n 3, 1) := by decide +kernel
theorem dX6_bestSum_5 : decode cX6_bestSum 5 = .ok (.iaload, 1) := by decide +kernel
theorem dX6_bestSum_6 : decode cX6_bestSum 6 = .ok (.istore 5, 2) := by decide +kernel
theorem dX6_bestSum_8 : decode cX6_bestSum 8 = .ok (.aload_n 0, 1) := by decide +kernel
theorem dX6_bestSum_9 : decode cX6_bestSum 9 = .ok (.aload_n 1, 1) := by decide +kernel
theorem dX6_bestSum_10 : decode cX6_bestSum 10 = .ok (.aload_n 2, 1) := by decide +kernel
theorem dX6_bestSum_11 : decode cX6_bestSum 11 = .ok (.iload_n 3, 1) := by decide +kernel
theorem dX6_bestSum_12 : decode cX6_bestSum 12 = .ok (.invokevirtual 88, 3) := by decide +kernel
theorem dX6_bestSum_15 : decode cX6_bestSum 15 = .ok (.ldc 43, 2) := by decide +kernel
theorem dX6_bestSum_17 : decode cX6_bestSum 17 = .ok (.istore 6, 2) := by decide +kernel
theorem dX6_bestSum_19 : decode cX6_bestSum 19 = .ok (.iconst 0, 1) := by decide +kernel
theorem dX6_bestSum_20 : decode cX6_bestSum 20 = .ok (.istore 7, 2) := by decide +kernel
theorem dX6_bestSum_22 : decode cX6_bestSum 22 = .ok (.iload 7, 2) := by decide +kernel
theorem dX6_bestSum_24 : decode cX6_bestSum 24 = .ok (.iload 5, 2) := by decide +kernel
theorem dX6_bestSum_26 : decode cX6_bestSum 26 = .ok (.if_icmp .ge 66, 3) := by decide +kernel
theorem dX6_bestSum_29 : decode cX6_bestSum 29 = .ok (.aload_n 0, 1) := by decide +kernel
theorem dX6_bestSum_30 : decode cX6_bestSum 30 = .ok (.getfield 9, 3) := by decide +kernel
theorem dX6_bestSum_33 : decode cX6_bestSum 33 = .ok (.iconst 1, 1) := by decide +kernel
theorem dX6_bestSum_34 : decode cX6_bestSum 34 = .ok (.iload 5, 2) := by decide +kernel
theorem dX6_bestSum_36 : decode cX6_bestSum 36 = .ok (.ishl, 1) := by decide +kernel
theorem dX6_bestSum_37 : decode cX6_bestSum 37 = .ok (.iconst 1, 1) := by decide +kernel
theorem dX6_bestSum_38 : decode cX6_bestSum 38 = .ok (.isub, 1) := by decide +kernel
theorem dX6_bestSum_39 : decode cX6_bestSum 39 = .ok (.bipush 6, 2) := by decide +kernel
theorem dX6_bestSum_41 : decode cX6_bestSum 41 = .ok (.imul, 1) := by decide +kernel
theorem dX6_bestSum_42 : decode cX6_bestSum 42 = .ok (.iload 7, 2) := by decide +kernel
theorem dX6_bestSum_44 : decode cX6_bestSum 44 = .ok (.iadd, 1) := by decide +kernel
theorem dX6_bestSum_45 : decode cX6_bestSum 45 = .ok (.iaload, 1) := by decide +kernel
theorem dX6_bestSum_46 : decode cX6_bestSum 46 = .ok (.istore 8, 2) := by decide +kernel
theorem dX6_bestSum_48 : decode cX6_bestSum 48 = .ok (.iload 4, 2) := by decide +kernel
theorem dX6_bestSum_50 : decode cX6_bestSum 50 = .ok (.ifCond .eq 27, 3) := by decide +kernel
theorem dX6_bestSum_53 : decode cX6_bestSum 53 = .ok (.iload 8, 2) := by decide +kernel
theorem dX6_bestSum_55 : decode cX6_bestSum 55 = .ok (.aload_n 2, 1) := by decide +kernel
theorem dX6_bestSum_56 : decode cX6_bestSum 56 = .ok (.aload_n 1, 1) := by decide +kernel
theorem dX6_bestSum_57 : decode cX6_bestSum 57 = .ok (.iload_n 3, 1) := by decide +kernel
theorem dX6_bestSum_58 : decode cX6_bestSum 58 = .ok (.iload 7, 2) := by decide +kernel
theorem dX6_bestSum_60 : decode cX6_bestSum 60 = .ok (.invokevirtual 49, 3) := by decide +kernel
theorem dX6_bestSum_63 : decode cX6_bestSum 63 = .ok (.aload_n 1, 1) := by decide +kernel
theorem dX6_bestSum_64 : decode cX6_bestSum 64 = .ok (.iload_n 3, 1) := by decide +kernel
theorem dX6_bestSum_65 : decode cX6_bestSum 65 = .ok (.iconst 0, 1) := by decide +kernel
theorem dX6_bestSum_66 : decode cX6_bestSum 66 = .ok (.invokevirtual 49, 3) := by decide +kernel
theorem dX6_bestSum_69 : decode cX6_bestSum 69 = .ok (.invokevirtual 57, 3) := by decide +kernel
theorem dX6_bestSum_72 : decode cX6_bestSum 72 = .ok (.invokestatic 62, 3) := by decide +kernel
theorem dX6_bestSum_75 : decode cX6_bestSum 75 = .ok (.istore 8, 2) := by decide +kernel
theorem dX6_bestSum_77 : decode cX6_bestSum 77 = .ok (.iload 6, 2) := by decide +kernel
theorem dX6_bestSum_79 : decode cX6_bestSum 79 = .ok (.iload 8, 2) := by decide +kernel
theorem dX6_bestSum_81 : decode cX6_bestSum 81 = .ok (.invokestatic 92, 3) := by decide +kernel
theorem dX6_bestSum_84 : decode cX6_bestSum 84 = .ok (.istore 6, 2) := by decide +kernel
theorem dX6_bestSum_86 : decode cX6_bestSum 86 = .ok (.iinc 7 1, 3) := by decide +kernel
theorem dX6_bestSum_89 : decode cX6_bestSum 89 = .ok (.goto (-67), 3) := by decide +kernel
theorem dX6_bestSum_92 : decode cX6_bestSum 92 = .ok (.iload 6, 2) := by decide +kernel
theorem dX6_bestSum_94 : decode cX6_bestSum 94 = .ok (.ireturn, 1) := by decide +kernel
theorem dX6_goOnFrom_0 : decode cX6_goOnFrom 0 = .ok (.aload_n 0, 1) := by decide +kernel
theorem dX6_goOnFrom_1 : decode cX6_goOnFrom 1 = .ok (.getfield 9, 3) := by decide +kernel
theorem dX6_goOnFrom_4 : decode cX6_goOnFrom 4 = .ok (.iload 4, 2) := by decide +kernel
theorem dX6_goOnFrom_6 : decode cX6_goOnFrom 6 = .ok (.bipush 6, 2) := by decide +kernel
theorem dX6_goOnFrom_8 : decode cX6_goOnFrom 8 = .ok (.imul, 1) := by decide +kernel
theorem dX6_goOnFrom_9 : decode cX6_goOnFrom 9 = .ok (.iload 5, 2) := by decide +kernel
theorem dX6_goOnFrom_11 : decode cX6_goOnFrom 11 = .ok (.iadd, 1) := by decide +kernel
theorem dX6_goOnFrom_12 : decode cX6_goOnFrom 12 = .ok (.iaload, 1) := by decide +kernel
theorem dX6_goOnFrom_13 : decode cX6_goOnFrom 13 = .ok (.istore 6, 2) := by decide +kernel
theorem dX6_goOnFrom_15 : decode cX6_goOnFrom 15 = .ok (.iconst 0, 1) := by decide +kernel
theorem dX6_goOnFrom_16 : decode cX6_goOnFrom 16 = .ok (.istore 7, 2) := by decide +kernel
theorem dX6_goOnFrom_18 : decode cX6_goOnFrom 18 = .ok (.iload 7, 2) := by decide +kernel
theorem dX6_goOnFrom_20 : decode cX6_goOnFrom 20 = .ok (.aload_n 1, 1) := by decide +kernel
theorem dX6_goOnFrom_21 : decode cX6_goOnFrom 21 = .ok (.getfield 44, 3) := by decide +kernel
theorem dX6_goOnFrom_24 : decode cX6_goOnFrom 24 = .ok (.iload_n 3, 1) := by decide +kernel
theorem dX6_goOnFrom_25 : decode cX6_goOnFrom 25 = .ok (.iaload, 1) := by decide +kernel
theorem dX6_goOnFrom_26 : decode cX6_goOnFrom 26 = .ok (.if_icmp .ge 78, 3) := by decide +kernel
theorem dX6_goOnFrom_29 : decode cX6_goOnFrom 29 = .ok (.iload 4, 2) := by decide +kernel
theorem dX6_goOnFrom_31 : decode cX6_goOnFrom 31 = .ok (.iconst 1, 1) := by decide +kernel
theorem dX6_goOnFrom_32 : decode cX6_goOnFrom 32 = .ok (.iload 7, 2) := by decide +kernel
theorem dX6_goOnFrom_34 : decode cX6_goOnFrom 34 = .ok (.ishl, 1) := by decide +kernel
theorem dX6_goOnFrom_35 : decode cX6_goOnFrom 35 = .ok (.iand, 1) := by decide +kernel
theorem dX6_goOnFrom_36 : decode cX6_goOnFrom 36 = .ok (.ifCond .ne 62, 3) := by decide +kernel
theorem dX6_goOnFrom_39 : decode cX6_goOnFrom 39 = .ok (.iload 6, 2) := by decide +kernel
theorem dX6_goOnFrom_41 : decode cX6_goOnFrom 41 = .ok (.aload_n 2, 1) := by decide +kernel
theorem dX6_goOnFrom_42 : decode cX6_goOnFrom 42 = .ok (.aload_n 1, 1) := by decide +kernel
theorem dX6_goOnFrom_43 : decode cX6_goOnFrom 43 = .ok (.iload_n 3, 1) := by decide +kernel
theorem dX6_goOnFrom_44 : decode cX6_goOnFrom 44 = .ok (.iload 5, 2) := by decide +kernel
theorem dX6_goOnFrom_46 : decode cX6_goOnFrom 46 = .ok (.invokevirtual 49, 3) := by decide +kernel
theorem dX6_goOnFrom_49 : decode cX6_goOnFrom 49 = .ok (.aload_n 1, 1) := by decide +kernel
theorem dX6_goOnFrom_50 : decode cX6_goOnFrom 50 = .ok (.iload_n 3, 1) := by decide +kernel
theorem dX6_goOnFrom_51 : decode cX6_goOnFrom 51 = .ok (.iload 7, 2) := by decide +kernel
theorem dX6_goOnFrom_53 : decode cX6_goOnFrom 53 = .ok (.invokevirtual 49, 3) := by decide +kernel
theorem dX6_goOnFrom_56 : decode cX6_goOnFrom 56 = .ok (.invokevirtual 57, 3) := by decide +kernel
theorem dX6_goOnFrom_59 : decode cX6_goOnFrom 59 = .ok (.invokestatic 62, 3) := by decide +kernel
theorem dX6_goOnFrom_62 : decode cX6_goOnFrom 62 = .ok (.istore 8, 2) := by decide +kernel
theorem dX6_goOnFrom_64 : decode cX6_goOnFrom 64 = .ok (.iload 4, 2) := by decide +kernel
theorem dX6_goOnFrom_66 : decode cX6_goOnFrom 66 = .ok (.iconst 1, 1) := by decide +kernel
theorem dX6_goOnFrom_67 : decode cX6_goOnFrom 67 = .ok (.iload 7, 2) := by decide +kernel
theorem dX6_goOnFrom_69 : decode cX6_goOnFrom 69 = .ok (.ishl, 1) := by decide +kernel
theorem dX6_goOnFrom_70 : decode cX6_goOnFrom 70 = .ok (.ior, 1) := by decide +kernel
theorem dX6_goOnFrom_71 : decode cX6_goOnFrom 71 = .ok (.bipush 6, 2) := by decide +kernel
theorem dX6_goOnFrom_73 : decode cX6_goOnFrom 73 = .ok (.imul, 1) := by decide +kernel
theorem dX6_goOnFrom_74 : decode cX6_goOnFrom 74 = .ok (.iload 7, 2) := by decide +kernel
theorem dX6_goOnFrom_76 : decode cX6_goOnFrom 76 = .ok (.iadd, 1) := by decide +kernel
theorem dX6_goOnFrom_77 : decode cX6_goOnFrom 77 = .ok (.istore 9, 2) := by decide +kernel
theorem dX6_goOnFrom_79 : decode cX6_goOnFrom 79 = .ok (.aload_n 0, 1) := by decide +kernel
theorem dX6_goOnFrom_80 : decode cX6_goOnFrom 80 = .ok (.getfield 9, 3) := by decide +kernel
theorem dX6_goOnFrom_83 : decode cX6_goOnFrom 83 = .ok (.iload 9, 2) := by decide +kernel
theorem dX6_goOnFrom_85 : decode cX6_goOnFrom 85 = .ok (.aload_n 0, 1) := by decide +kernel
theorem dX6_goOnFrom_86 : decode cX6_goOnFrom 86 = .ok (.getfield 9, 3) := by decide +kernel
theorem dX6_goOnFrom_89 : decode cX6_goOnFrom 89 = .ok (.iload 9, 2) := by decide +kernel
theorem dX6_goOnFrom_91 : decode cX6_goOnFrom 91 = .ok (.iaload, 1) := by decide +kernel
theorem dX6_goOnFrom_92 : decode cX6_goOnFrom 92 = .ok (.iload 8, 2) := by decide +kernel
theorem dX6_goOnFrom_94 : decode cX6_goOnFrom 94 = .ok (.invokestatic 92, 3) := by decide +kernel
theorem dX6_goOnFrom_97 : decode cX6_goOnFrom 97 = .ok (.iastore, 1) := by decide +kernel
theorem dX6_goOnFrom_98 : decode cX6_goOnFrom 98 = .ok (.iinc 7 1, 3) := by decide +kernel
theorem dX6_goOnFrom_101 : decode cX6_goOnFrom 101 = .ok (.goto (-83), 3) := by decide +kernel
theorem dX6_goOnFrom_104 : decode cX6_goOnFrom 104 = .ok (.return_, 1) := by decide +kernel
theorem dX6_meetSum_0 : decode cX6_meetSum 0 = .ok (.aload_n 0, 1) := by decide +kernel
theorem dX6_meetSum_1 : decode cX6_meetSum 1 = .ok (.getfield 20, 3) := by decide +kernel
theorem dX6_meetSum_4 : decode cX6_meetSum 4 = .ok (.iload_n 2, 1) := by decide +kernel
theorem dX6_meetSum_5 : decode cX6_meetSum 5 = .ok (.iconst 0, 1) := by decide +kernel
theorem dX6_meetSum_6 : decode cX6_meetSum 6 = .ok (.invokevirtual 49, 3) := by decide +kernel
theorem dX6_meetSum_9 : decode cX6_meetSum 9 = .ok (.istore_n 3, 1) := by decide +kernel
theorem dX6_meetSum_10 : decode cX6_meetSum 10 = .ok (.aload_n 0, 1) := by decide +kernel
theorem dX6_meetSum_11 : decode cX6_meetSum 11 = .ok (.getfield 20, 3) := by decide +kernel
theorem dX6_meetSum_14 : decode cX6_meetSum 14 = .ok (.iload_n 2, 1) := by decide +kernel
theorem dX6_meetSum_15 : decode cX6_meetSum 15 = .ok (.invokevirtual 76, 3) := by decide +kernel
theorem dX6_meetSum_18 : decode cX6_meetSum 18 = .ok (.istore 4, 2) := by decide +kernel
theorem dX6_meetSum_20 : decode cX6_meetSum 20 = .ok (.aload_n 1, 1) := by decide +kernel
theorem dX6_meetSum_21 : decode cX6_meetSum 21 = .ok (.iload_n 3, 1) := by decide +kernel
theorem dX6_meetSum_22 : decode cX6_meetSum 22 = .ok (.iload 4, 2) := by decide +kernel
theorem dX6_meetSum_24 : decode cX6_meetSum 24 = .ok (.iconst 1, 1) := by decide +kernel
theorem dX6_meetSum_25 : decode cX6_meetSum 25 = .ok (.invokevirtual 80, 3) := by decide +kernel
theorem dX6_meetSum_28 : decode cX6_meetSum 28 = .ok (.istore 5, 2) := by decide +kernel
theorem dX6_meetSum_30 : decode cX6_meetSum 30 = .ok (.iload 5, 2) := by decide +kernel
theorem dX6_meetSum_32 : decode cX6_meetSum 32 = .ok (.ifCond .ge 8, 3) := by decide +kernel
theorem dX6_meetSum_35 : decode cX6_meetSum 35 = .ok (.ldc 43, 2) := by decide +kernel
theorem dX6_meetSum_37 : decode cX6_meetSum 37 = .ok (.goto 13, 3) := by decide +kernel
theorem dX6_meetSum_40 : decode cX6_meetSum 40 = .ok (.aload_n 1, 1) := by decide +kernel
theorem dX6_meetSum_41 : decode cX6_meetSum 41 = .ok (.iload_n 3, 1) := by decide +kernel
theorem dX6_meetSum_42 : decode cX6_meetSum 42 = .ok (.iload 4, 2) := by decide +kernel
theorem dX6_meetSum_44 : decode cX6_meetSum 44 = .ok (.iload 5, 2) := by decide +kernel
theorem dX6_meetSum_46 : decode cX6_meetSum 46 = .ok (.iconst 1, 1) := by decide +kernel
theorem dX6_meetSum_47 : decode cX6_meetSum 47 = .ok (.invokevirtual 84, 3) := by decide +kernel
theorem dX6_meetSum_50 : decode cX6_meetSum 50 = .ok (.ireturn, 1) := by decide +kernel
theorem dX6_orderStops_0 : decode cX6_orderStops 0 = .ok (.iconst 1, 1) := by decide +kernel
theorem dX6_orderStops_1 : decode cX6_orderStops 1 = .ok (.aload_n 1, 1) := by decide +kernel
theorem dX6_orderStops_2 : decode cX6_orderStops 2 = .ok (.getfield 44, 3) := by decide +kernel
theorem dX6_orderStops_5 : decode cX6_orderStops 5 = .ok (.iload_n 3, 1) := by decide +kernel
theorem dX6_orderStops_6 : decode cX6_orderStops 6 = .ok (.iaload, 1) := by decide +kernel
theorem dX6_orderStops_7 : decode cX6_orderStops 7 = .ok (.ishl, 1) := by decide +kernel
theorem dX6_orderStops_8 : decode cX6_orderStops 8 = .ok (.istore 4, 2) := by decide +kernel
theorem dX6_orderStops_10 : decode cX6_orderStops 10 = .ok (.iconst 0, 1) := by decide +kernel
theorem dX6_orderStops_11 : decode cX6_orderStops 11 = .ok (.istore 5, 2) := by decide +kernel
theorem dX6_orderStops_13 : decode cX6_orderStops 13 = .ok (.iload 5, 2) := by decide +kernel
theorem dX6_orderStops_15 : decode cX6_orderStops 15 = .ok (.iload 4, 2) := by decide +kernel
theorem dX6_orderStops_17 : decode cX6_orderStops 17 = .ok (.bipush 6, 2) := by decide +kernel
theorem dX6_orderStops_19 : decode cX6_orderStops 19 = .ok (.imul, 1) := by decide +kernel
theorem dX6_orderStops_20 : decode cX6_orderStops 20 = .ok (.if_icmp .ge 18, 3) := by decide +kernel
theorem dX6_orderStops_23 : decode cX6_orderStops 23 = .ok (.aload_n 0, 1) := by decide +kernel
theorem dX6_orderStops_24 : decode cX6_orderStops 24 = .ok (.getfield 9, 3) := by decide +kernel
theorem dX6_orderStops_27 : decode cX6_orderStops 27 = .ok (.iload 5, 2) := by decide +kernel
theorem dX6_orderStops_29 : decode cX6_orderStops 29 = .ok (.ldc 43, 2) := by decide +kernel
theorem dX6_orderStops_31 : decode cX6_orderStops 31 = .ok (.iastore, 1) := by decide +kernel
theorem dX6_orderStops_32 : decode cX6_orderStops 32 = .ok (.iinc 5 1, 3) := by decide +kernel
theorem dX6_orderStops_35 : decode cX6_orderStops 35 = .ok (.goto (-22), 3) := by decide +kernel
theorem dX6_orderStops_38 : decode cX6_orderStops 38 = .ok (.aload_n 0, 1) := by decide +kernel
theorem dX6_orderStops_39 : decode cX6_orderStops 39 = .ok (.getfield 9, 3) := by decide +kernel
theorem dX6_orderStops_42 : decode cX6_orderStops 42 = .ok (.bipush 6, 2) := by decide +kernel
theorem dX6_orderStops_44 : decode cX6_orderStops 44 = .ok (.iconst 0, 1) := by decide +kernel
theorem dX6_orderStops_45 : decode cX6_orderStops 45 = .ok (.iastore, 1) := by decide +kernel
theorem dX6_orderStops_46 : decode cX6_orderStops 46 = .ok (.iconst 1, 1) := by decide +kernel
theorem dX6_orderStops_47 : decode cX6_orderStops 47 = .ok (.istore 5, 2) := by decide +kernel
theorem dX6_orderStops_49 : decode cX6_orderStops 49 = .ok (.iload 5, 2) := by decide +kernel
theorem dX6_orderStops_51 : decode cX6_orderStops 51 = .ok (.iload 4, 2) := by decide +kernel
theorem dX6_orderStops_53 : decode cX6_orderStops 53 = .ok (.if_icmp .ge 58, 3) := by decide +kernel
theorem dX6_orderStops_56 : decode cX6_orderStops 56 = .ok (.iconst 0, 1) := by decide +kernel
theorem dX6_orderStops_57 : decode cX6_orderStops 57 = .ok (.istore 6, 2) := by decide +kernel
theorem dX6_orderStops_59 : decode cX6_orderStops 59 = .ok (.iload 6, 2) := by decide +kernel
theorem dX6_orderStops_61 : decode cX6_orderStops 61 = .ok (.aload_n 1, 1) := by decide +kernel
theorem dX6_orderStops_62 : decode cX6_orderStops 62 = .ok (.getfield 44, 3) := by decide +kernel
theorem dX6_orderStops_65 : decode cX6_orderStops 65 = .ok (.iload_n 3, 1) := by decide +kernel
theorem dX6_orderStops_66 : decode cX6_orderStops 66 = .ok (.iaload, 1) := by decide +kernel
theorem dX6_orderStops_67 : decode cX6_orderStops 67 = .ok (.if_icmp .ge 38, 3) := by decide +kernel
theorem dX6_orderStops_70 : decode cX6_orderStops 70 = .ok (.aload_n 0, 1) := by decide +kernel
theorem dX6_orderStops_71 : decode cX6_orderStops 71 = .ok (.getfield 9, 3) := by decide +kernel
theorem dX6_orderStops_74 : decode cX6_orderStops 74 = .ok (.iload 5, 2) := by decide +kernel
theorem dX6_orderStops_76 : decode cX6_orderStops 76 = .ok (.bipush 6, 2) := by decide +kernel
theorem dX6_orderStops_78 : decode cX6_orderStops 78 = .ok (.imul, 1) := by decide +kernel
theorem dX6_orderStops_79 : decode cX6_orderStops 79 = .ok (.iload 6, 2) := by decide +kernel
theorem dX6_orderStops_81 : decode cX6_orderStops 81 = .ok (.iadd, 1) := by decide +kernel
theorem dX6_orderStops_82 : decode cX6_orderStops 82 = .ok (.iaload, 1) := by decide +kernel
theorem dX6_orderStops_83 : decode cX6_orderStops 83 = .ok (.ldc 43, 2) := by decide +kernel
theorem dX6_orderStops_85 : decode cX6_orderStops 85 = .ok (.if_icmp .eq 14, 3) := by decide +kernel
theorem dX6_orderStops_88 : decode cX6_orderStops 88 = .ok (.aload_n 0, 1) := by decide +kernel
theorem dX6_orderStops_89 : decode cX6_orderStops 89 = .ok (.aload_n 1, 1) := by decide +kernel
theorem dX6_orderStops_90 : decode cX6_orderStops 90 = .ok (.aload_n 2, 1) := by decide +kernel
theorem dX6_orderStops_91 : decode cX6_orderStops 91 = .ok (.iload_n 3, 1) := by decide +kernel
theorem dX6_orderStops_92 : decode cX6_orderStops 92 = .ok (.iload 5, 2) := by decide +kernel
theorem dX6_orderStops_94 : decode cX6_orderStops 94 = .ok (.iload 6, 2) := by decide +kernel
theorem dX6_orderStops_96 : decode cX6_orderStops 96 = .ok (.invokevirtual 97, 3) := by decide +kernel
theorem dX6_orderStops_99 : decode cX6_orderStops 99 = .ok (.iinc 6 1, 3) := by decide +kernel
theorem dX6_orderStops_102 : decode cX6_orderStops 102 = .ok (.goto (-43), 3) := by decide +kernel
theorem dX6_orderStops_105 : decode cX6_orderStops 105 = .ok (.iinc 5 1, 3) := by decide +kernel
theorem dX6_orderStops_108 : decode cX6_orderStops 108 = .ok (.goto (-59), 3) := by decide +kernel
theorem dX6_orderStops_111 : decode cX6_orderStops 111 = .ok (.return_, 1) := by decide +kernel
theorem dX6_pairsSum_0 : decode cX6_pairsSum 0 = .ok (.iconst 0, 1) := by decide +kernel
theorem dX6_pairsSum_1 : decode cX6_pairsSum 1 = .ok (.istore_n 3, 1) := by decide +kernel
theorem dX6_pairsSum_2 : decode cX6_pairsSum 2 = .ok (.iconst 0, 1) := by decide +kernel
theorem dX6_pairsSum_3 : decode cX6_pairsSum 3 = .ok (.istore 4, 2) := by decide +kernel
theorem dX6_pairsSum_5 : decode cX6_pairsSum 5 = .ok (.iload 4, 2) := by decide +kernel
theorem dX6_pairsSum_7 : decode cX6_pairsSum 7 = .ok (.iconst 1, 1) := by decide +kernel
theorem dX6_pairsSum_8 : decode cX6_pairsSum 8 = .ok (.iadd, 1) := by decide +kernel
theorem dX6_pairsSum_9 : decode cX6_pairsSum 9 = .ok (.aload_n 0, 1) := by decide +kernel
theorem dX6_pairsSum_10 : decode cX6_pairsSum 10 = .ok (.getfield 44, 3) := by decide +kernel
theorem dX6_pairsSum_13 : decode cX6_pairsSum 13 = .ok (.iload_n 2, 1) := by decide +kernel
theorem dX6_pairsSum_14 : decode cX6_pairsSum 14 = .ok (.iaload, 1) := by decide +kernel
theorem dX6_pairsSum_15 : decode cX6_pairsSum 15 = .ok (.if_icmp .ge 53, 3) := by decide +kernel
theorem dX6_pairsSum_18 : decode cX6_pairsSum 18 = .ok (.aload_n 0, 1) := by decide +kernel
theorem dX6_pairsSum_19 : decode cX6_pairsSum 19 = .ok (.iload_n 2, 1) := by decide +kernel
theorem dX6_pairsSum_20 : decode cX6_pairsSum 20 = .ok (.iload 4, 2) := by decide +kernel
theorem dX6_pairsSum_22 : decode cX6_pairsSum 22 = .ok (.invokevirtual 49, 3) := by decide +kernel
theorem dX6_pairsSum_25 : decode cX6_pairsSum 25 = .ok (.istore 5, 2) := by decide +kernel
theorem dX6_pairsSum_27 : decode cX6_pairsSum 27 = .ok (.aload_n 0, 1) := by decide +kernel
theorem dX6_pairsSum_28 : decode cX6_pairsSum 28 = .ok (.iload_n 2, 1) := by decide +kernel
theorem dX6_pairsSum_29 : decode cX6_pairsSum 29 = .ok (.iload 4, 2) := by decide +kernel
theorem dX6_pairsSum_31 : decode cX6_pairsSum 31 = .ok (.iconst 1, 1) := by decide +kernel
theorem dX6_pairsSum_32 : decode cX6_pairsSum 32 = .ok (.iadd, 1) := by decide +kernel
theorem dX6_pairsSum_33 : decode cX6_pairsSum 33 = .ok (.invokevirtual 49, 3) := by decide +kernel
theorem dX6_pairsSum_36 : decode cX6_pairsSum 36 = .ok (.istore 6, 2) := by decide +kernel
theorem dX6_pairsSum_38 : decode cX6_pairsSum 38 = .ok (.iload_n 3, 1) := by decide +kernel
theorem dX6_pairsSum_39 : decode cX6_pairsSum 39 = .ok (.aload_n 1, 1) := by decide +kernel
theorem dX6_pairsSum_40 : decode cX6_pairsSum 40 = .ok (.iload 5, 2) := by decide +kernel
theorem dX6_pairsSum_42 : decode cX6_pairsSum 42 = .ok (.iload 6, 2) := by decide +kernel
theorem dX6_pairsSum_44 : decode cX6_pairsSum 44 = .ok (.invokevirtual 57, 3) := by decide +kernel
theorem dX6_pairsSum_47 : decode cX6_pairsSum 47 = .ok (.aload_n 1, 1) := by decide +kernel
theorem dX6_pairsSum_48 : decode cX6_pairsSum 48 = .ok (.iload 6, 2) := by decide +kernel
theorem dX6_pairsSum_50 : decode cX6_pairsSum 50 = .ok (.iload 5, 2) := by decide +kernel
theorem dX6_pairsSum_52 : decode cX6_pairsSum 52 = .ok (.invokevirtual 57, 3) := by decide +kernel
theorem dX6_pairsSum_55 : decode cX6_pairsSum 55 = .ok (.invokestatic 62, 3) := by decide +kernel
theorem dX6_pairsSum_58 : decode cX6_pairsSum 58 = .ok (.invokestatic 62, 3) := by decide +kernel
theorem dX6_pairsSum_61 : decode cX6_pairsSum 61 = .ok (.istore_n 3, 1) := by decide +kernel
theorem dX6_pairsSum_62 : decode cX6_pairsSum 62 = .ok (.iinc 4 1, 3) := by decide +kernel
theorem dX6_pairsSum_65 : decode cX6_pairsSum 65 = .ok (.goto (-60), 3) := by decide +kernel
theorem dX6_pairsSum_68 : decode cX6_pairsSum 68 = .ok (.iload_n 3, 1) := by decide +kernel
theorem dX6_pairsSum_69 : decode cX6_pairsSum 69 = .ok (.ireturn, 1) := by decide +kernel
theorem dX6_roundSum_0 : decode cX6_roundSum 0 = .ok (.iconst 0, 1) := by decide +kernel
theorem dX6_roundSum_1 : decode cX6_roundSum 1 = .ok (.istore_n 3, 1) := by decide +kernel
theorem dX6_roundSum_2 : decode cX6_roundSum 2 = .ok (.iconst 0, 1) := by decide +kernel
theorem dX6_roundSum_3 : decode cX6_roundSum 3 = .ok (.istore 4, 2) := by decide +kernel
theorem dX6_roundSum_5 : decode cX6_roundSum 5 = .ok (.iload 4, 2) := by decide +kernel
theorem dX6_roundSum_7 : decode cX6_roundSum 7 = .ok (.aload_n 0, 1) := by decide +kernel
theorem dX6_roundSum_8 : decode cX6_roundSum 8 = .ok (.getfield 44, 3) := by decide +kernel
theorem dX6_roundSum_11 : decode cX6_roundSum 11 = .ok (.iload_n 2, 1) := by decide +kernel
theorem dX6_roundSum_12 : decode cX6_roundSum 12 = .ok (.iaload, 1) := by decide +kernel
theorem dX6_roundSum_13 : decode cX6_roundSum 13 = .ok (.if_icmp .ge 32, 3) := by decide +kernel
theorem dX6_roundSum_16 : decode cX6_roundSum 16 = .ok (.iload_n 3, 1) := by decide +kernel
theorem dX6_roundSum_17 : decode cX6_roundSum 17 = .ok (.aload_n 1, 1) := by decide +kernel
theorem dX6_roundSum_18 : decode cX6_roundSum 18 = .ok (.aload_n 0, 1) := by decide +kernel
theorem dX6_roundSum_19 : decode cX6_roundSum 19 = .ok (.iload_n 2, 1) := by decide +kernel
theorem dX6_roundSum_20 : decode cX6_roundSum 20 = .ok (.iload 4, 2) := by decide +kernel
theorem dX6_roundSum_22 : decode cX6_roundSum 22 = .ok (.invokevirtual 49, 3) := by decide +kernel
theorem dX6_roundSum_25 : decode cX6_roundSum 25 = .ok (.aload_n 0, 1) := by decide +kernel
theorem dX6_roundSum_26 : decode cX6_roundSum 26 = .ok (.iload_n 2, 1) := by decide +kernel
theorem dX6_roundSum_27 : decode cX6_roundSum 27 = .ok (.iload 4, 2) := by decide +kernel
theorem dX6_roundSum_29 : decode cX6_roundSum 29 = .ok (.invokestatic 53, 3) := by decide +kernel
theorem dX6_roundSum_32 : decode cX6_roundSum 32 = .ok (.invokevirtual 57, 3) := by decide +kernel
theorem dX6_roundSum_35 : decode cX6_roundSum 35 = .ok (.invokestatic 62, 3) := by decide +kernel
theorem dX6_roundSum_38 : decode cX6_roundSum 38 = .ok (.istore_n 3, 1) := by decide +kernel
theorem dX6_roundSum_39 : decode cX6_roundSum 39 = .ok (.iinc 4 1, 3) := by decide +kernel
theorem dX6_roundSum_42 : decode cX6_roundSum 42 = .ok (.goto (-37), 3) := by decide +kernel
theorem dX6_roundSum_45 : decode cX6_roundSum 45 = .ok (.iload_n 3, 1) := by decide +kernel
theorem dX6_roundSum_46 : decode cX6_roundSum 46 = .ok (.ireturn, 1) := by decide +kernel
theorem dX6_stopBehind_0 : decode cX6_stopBehind 0 = .ok (.aload_n 0, 1) := by decide +kernel
theorem dX6_stopBehind_1 : decode cX6_stopBehind 1 = .ok (.iload_n 1, 1) := by decide +kernel
theorem dX6_stopBehind_2 : decode cX6_stopBehind 2 = .ok (.iload_n 2, 1) := by decide +kernel
theorem dX6_stopBehind_3 : decode cX6_stopBehind 3 = .ok (.iconst 1, 1) := by decide +kernel
theorem dX6_stopBehind_4 : decode cX6_stopBehind 4 = .ok (.iadd, 1) := by decide +kernel
theorem dX6_stopBehind_5 : decode cX6_stopBehind 5 = .ok (.aload_n 0, 1) := by decide +kernel
theorem dX6_stopBehind_6 : decode cX6_stopBehind 6 = .ok (.getfield 44, 3) := by decide +kernel
theorem dX6_stopBehind_9 : decode cX6_stopBehind 9 = .ok (.iload_n 1, 1) := by decide +kernel
theorem dX6_stopBehind_10 : decode cX6_stopBehind 10 = .ok (.iaload, 1) := by decide +kernel
theorem dX6_stopBehind_11 : decode cX6_stopBehind 11 = .ok (.if_icmp .ge 9, 3) := by decide +kernel
theorem dX6_stopBehind_14 : decode cX6_stopBehind 14 = .ok (.iload_n 2, 1) := by decide +kernel
theorem dX6_stopBehind_15 : decode cX6_stopBehind 15 = .ok (.iconst 1, 1) := by decide +kernel
theorem dX6_stopBehind_16 : decode cX6_stopBehind 16 = .ok (.iadd, 1) := by decide +kernel
theorem dX6_stopBehind_17 : decode cX6_stopBehind 17 = .ok (.goto 4, 3) := by decide +kernel
theorem dX6_stopBehind_20 : decode cX6_stopBehind 20 = .ok (.iconst 0, 1) := by decide +kernel
theorem dX6_stopBehind_21 : decode cX6_stopBehind 21 = .ok (.invokevirtual 49, 3) := by decide +kernel
theorem dX6_stopBehind_24 : decode cX6_stopBehind 24 = .ok (.ireturn, 1) := by decide +kernel
theorem dX6_sumOf_0 : decode cX6_sumOf 0 = .ok (.aload_n 1, 1) := by decide +kernel
theorem dX6_sumOf_1 : decode cX6_sumOf 1 = .ok (.getfield 15, 3) := by decide +kernel
theorem dX6_sumOf_4 : decode cX6_sumOf 4 = .ok (.iload_n 3, 1) := by decide +kernel
theorem dX6_sumOf_5 : decode cX6_sumOf 5 = .ok (.iaload, 1) := by decide +kernel
theorem dX6_sumOf_6 : decode cX6_sumOf 6 = .ok (.tableswitch 107 0 6 #[42, 52, 66, 90, 59, 97, 78], 42) := by decide +kernel
theorem dX6_sumOf_48 : decode cX6_sumOf 48 = .ok (.aload_n 1, 1) := by decide +kernel
theorem dX6_sumOf_49 : decode cX6_sumOf 49 = .ok (.getfield 20, 3) := by decide +kernel
theorem dX6_sumOf_52 : decode cX6_sumOf 52 = .ok (.aload_n 2, 1) := by decide +kernel
theorem dX6_sumOf_53 : decode cX6_sumOf 53 = .ok (.iload_n 3, 1) := by decide +kernel
theorem dX6_sumOf_54 : decode cX6_sumOf 54 = .ok (.invokestatic 24, 3) := by decide +kernel
theorem dX6_sumOf_57 : decode cX6_sumOf 57 = .ok (.ireturn, 1) := by decide +kernel
theorem dX6_sumOf_58 : decode cX6_sumOf 58 = .ok (.aload_n 1, 1) := by decide +kernel
theorem dX6_sumOf_59 : decode cX6_sumOf 59 = .ok (.iload_n 3, 1) := by decide +kernel
theorem dX6_sumOf_60 : decode cX6_sumOf 60 = .ok (.iconst 0, 1) := by decide +kernel
theorem dX6_sumOf_61 : decode cX6_sumOf 61 = .ok (.invokestatic 28, 3) := by decide +kernel
theorem dX6_sumOf_64 : decode cX6_sumOf 64 = .ok (.ireturn, 1) := by decide +kernel
theorem dX6_sumOf_65 : decode cX6_sumOf 65 = .ok (.aload_n 1, 1) := by decide +kernel
theorem dX6_sumOf_66 : decode cX6_sumOf 66 = .ok (.iload_n 3, 1) := by decide +kernel
theorem dX6_sumOf_67 : decode cX6_sumOf 67 = .ok (.iconst 1, 1) := by decide +kernel
theorem dX6_sumOf_68 : decode cX6_sumOf 68 = .ok (.invokestatic 28, 3) := by decide +kernel
theorem dX6_sumOf_71 : decode cX6_sumOf 71 = .ok (.ireturn, 1) := by decide +kernel
theorem dX6_sumOf_72 : decode cX6_sumOf 72 = .ok (.aload_n 0, 1) := by decide +kernel
theorem dX6_sumOf_73 : decode cX6_sumOf 73 = .ok (.aload_n 1, 1) := by decide +kernel
theorem dX6_sumOf_74 : decode cX6_sumOf 74 = .ok (.getfield 20, 3) := by decide +kernel
theorem dX6_sumOf_77 : decode cX6_sumOf 77 = .ok (.aload_n 2, 1) := by decide +kernel
theorem dX6_sumOf_78 : decode cX6_sumOf 78 = .ok (.iload_n 3, 1) := by decide +kernel
theorem dX6_sumOf_79 : decode cX6_sumOf 79 = .ok (.iconst 1, 1) := by decide +kernel
theorem dX6_sumOf_80 : decode cX6_sumOf 80 = .ok (.invokevirtual 32, 3) := by decide +kernel
theorem dX6_sumOf_83 : decode cX6_sumOf 83 = .ok (.ireturn, 1) := by decide +kernel
theorem dX6_sumOf_84 : decode cX6_sumOf 84 = .ok (.aload_n 0, 1) := by decide +kernel
theorem dX6_sumOf_85 : decode cX6_sumOf 85 = .ok (.aload_n 1, 1) := by decide +kernel
theorem dX6_sumOf_86 : decode cX6_sumOf 86 = .ok (.getfield 20, 3) := by decide +kernel
theorem dX6_sumOf_89 : decode cX6_sumOf 89 = .ok (.aload_n 2, 1) := by decide +kernel
theorem dX6_sumOf_90 : decode cX6_sumOf 90 = .ok (.iload_n 3, 1) := by decide +kernel
theorem dX6_sumOf_91 : decode cX6_sumOf 91 = .ok (.iconst 0, 1) := by decide +kernel
theorem dX6_sumOf_92 : decode cX6_sumOf 92 = .ok (.invokevirtual 32, 3) := by decide +kernel
theorem dX6_sumOf_95 : decode cX6_sumOf 95 = .ok (.ireturn, 1) := by decide +kernel
theorem dX6_sumOf_96 : decode cX6_sumOf 96 = .ok (.aload_n 1, 1) := by decide +kernel
theorem dX6_sumOf_97 : decode cX6_sumOf 97 = .ok (.aload_n 2, 1) := by decide +kernel
theorem dX6_sumOf_98 : decode cX6_sumOf 98 = .ok (.iload_n 3, 1) := by decide +kernel
theorem dX6_sumOf_99 : decode cX6_sumOf 99 = .ok (.invokestatic 36, 3) := by decide +kernel
theorem dX6_sumOf_102 : decode cX6_sumOf 102 = .ok (.ireturn, 1) := by decide +kernel
theorem dX6_sumOf_103 : decode cX6_sumOf 103 = .ok (.aload_n 1, 1) := by decide +kernel
theorem dX6_sumOf_104 : decode cX6_sumOf 104 = .ok (.getfield 20, 3) := by decide +kernel
theorem dX6_sumOf_107 : decode cX6_sumOf 107 = .ok (.aload_n 2, 1) := by decide +kernel
theorem dX6_sumOf_108 : decode cX6_sumOf 108 = .ok (.iload_n 3, 1) := by decide +kernel
theorem dX6_sumOf_109 : decode cX6_sumOf 109 = .ok (.invokestatic 40, 3) := by decide +kernel
theorem dX6_sumOf_112 : decode cX6_sumOf 112 = .ok (.ireturn, 1) := by decide +kernel
theorem dX6_sumOf_113 : decode cX6_sumOf 113 = .ok (.ldc 43, 2) := by decide +kernel
theorem dX6_sumOf_115 : decode cX6_sumOf 115 = .ok (.ireturn, 1) := by decide +kernel
theorem dX6_toldSum_0 : decode cX6_toldSum 0 = .ok (.iconst 0, 1) := by decide +kernel
theorem dX6_toldSum_1 : decode cX6_toldSum 1 = .ok (.istore_n 3, 1) := by decide +kernel
theorem dX6_toldSum_2 : decode cX6_toldSum 2 = .ok (.iconst 0, 1) := by decide +kernel
theorem dX6_toldSum_3 : decode cX6_toldSum 3 = .ok (.istore 4, 2) := by decide +kernel
theorem dX6_toldSum_5 : decode cX6_toldSum 5 = .ok (.iload 4, 2) := by decide +kernel
theorem dX6_toldSum_7 : decode cX6_toldSum 7 = .ok (.aload_n 0, 1) := by decide +kernel
theorem dX6_toldSum_8 : decode cX6_toldSum 8 = .ok (.getfield 20, 3) := by decide +kernel
theorem dX6_toldSum_11 : decode cX6_toldSum 11 = .ok (.getfield 44, 3) := by decide +kernel
theorem dX6_toldSum_14 : decode cX6_toldSum 14 = .ok (.iload_n 1, 1) := by decide +kernel
theorem dX6_toldSum_15 : decode cX6_toldSum 15 = .ok (.iaload, 1) := by decide +kernel
theorem dX6_toldSum_16 : decode cX6_toldSum 16 = .ok (.if_icmp .ge 61, 3) := by decide +kernel
theorem dX6_toldSum_19 : decode cX6_toldSum 19 = .ok (.aload_n 0, 1) := by decide +kernel
theorem dX6_toldSum_20 : decode cX6_toldSum 20 = .ok (.getfield 20, 3) := by decide +kernel
theorem dX6_toldSum_23 : decode cX6_toldSum 23 = .ok (.iload_n 1, 1) := by decide +kernel
theorem dX6_toldSum_24 : decode cX6_toldSum 24 = .ok (.iload 4, 2) := by decide +kernel
theorem dX6_toldSum_26 : decode cX6_toldSum 26 = .ok (.invokevirtual 49, 3) := by decide +kernel
theorem dX6_toldSum_29 : decode cX6_toldSum 29 = .ok (.istore 5, 2) := by decide +kernel
theorem dX6_toldSum_31 : decode cX6_toldSum 31 = .ok (.aload_n 0, 1) := by decide +kernel
theorem dX6_toldSum_32 : decode cX6_toldSum 32 = .ok (.getfield 20, 3) := by decide +kernel
theorem dX6_toldSum_35 : decode cX6_toldSum 35 = .ok (.iload_n 1, 1) := by decide +kernel
theorem dX6_toldSum_36 : decode cX6_toldSum 36 = .ok (.iload 4, 2) := by decide +kernel
theorem dX6_toldSum_38 : decode cX6_toldSum 38 = .ok (.invokestatic 53, 3) := by decide +kernel
theorem dX6_toldSum_41 : decode cX6_toldSum 41 = .ok (.istore 6, 2) := by decide +kernel
theorem dX6_toldSum_43 : decode cX6_toldSum 43 = .ok (.iload_n 3, 1) := by decide +kernel
theorem dX6_toldSum_44 : decode cX6_toldSum 44 = .ok (.iload_n 2, 1) := by decide +kernel
theorem dX6_toldSum_45 : decode cX6_toldSum 45 = .ok (.ifCond .eq 14, 3) := by decide +kernel
theorem dX6_toldSum_48 : decode cX6_toldSum 48 = .ok (.aload_n 0, 1) := by decide +kernel
theorem dX6_toldSum_49 : decode cX6_toldSum 49 = .ok (.iload 6, 2) := by decide +kernel
theorem dX6_toldSum_51 : decode cX6_toldSum 51 = .ok (.iload 5, 2) := by decide +kernel
theorem dX6_toldSum_53 : decode cX6_toldSum 53 = .ok (.invokestatic 65, 3) := by decide +kernel
theorem dX6_toldSum_56 : decode cX6_toldSum 56 = .ok (.goto 11, 3) := by decide +kernel
theorem dX6_toldSum_59 : decode cX6_toldSum 59 = .ok (.aload_n 0, 1) := by decide +kernel
theorem dX6_toldSum_60 : decode cX6_toldSum 60 = .ok (.iload 5, 2) := by decide +kernel
theorem dX6_toldSum_62 : decode cX6_toldSum 62 = .ok (.iload 6, 2) := by decide +kernel
theorem dX6_toldSum_64 : decode cX6_toldSum 64 = .ok (.invokestatic 65, 3) := by decide +kernel
theorem dX6_toldSum_67 : decode cX6_toldSum 67 = .ok (.invokestatic 62, 3) := by decide +kernel
theorem dX6_toldSum_70 : decode cX6_toldSum 70 = .ok (.istore_n 3, 1) := by decide +kernel
theorem dX6_toldSum_71 : decode cX6_toldSum 71 = .ok (.iinc 4 1, 3) := by decide +kernel
theorem dX6_toldSum_74 : decode cX6_toldSum 74 = .ok (.goto (-69), 3) := by decide +kernel
theorem dX6_toldSum_77 : decode cX6_toldSum 77 = .ok (.iload_n 3, 1) := by decide +kernel
theorem dX6_toldSum_78 : decode cX6_toldSum 78 = .ok (.ireturn, 1) := by decide +kernel
theorem dX6_toldWay_0 : decode cX6_toldWay 0 = .ok (.iload_n 1, 1) := by decide +kernel
theorem dX6_toldWay_1 : decode cX6_toldWay 1 = .ok (.iload_n 2, 1) := by decide +kernel
theorem dX6_toldWay_2 : decode cX6_toldWay 2 = .ok (.if_icmp .ne 5, 3) := by decide +kernel
theorem dX6_toldWay_5 : decode cX6_toldWay 5 = .ok (.iconst 0, 1) := by decide +kernel
theorem dX6_toldWay_6 : decode cX6_toldWay 6 = .ok (.ireturn, 1) := by decide +kernel
theorem dX6_toldWay_7 : decode cX6_toldWay 7 = .ok (.aload_n 0, 1) := by decide +kernel
theorem dX6_toldWay_8 : decode cX6_toldWay 8 = .ok (.iload_n 1, 1) := by decide +kernel
theorem dX6_toldWay_9 : decode cX6_toldWay 9 = .ok (.iload_n 2, 1) := by decide +kernel
theorem dX6_toldWay_10 : decode cX6_toldWay 10 = .ok (.invokevirtual 69, 3) := by decide +kernel
theorem dX6_toldWay_13 : decode cX6_toldWay 13 = .ok (.ifCond .eq 12, 3) := by decide +kernel
theorem dX6_toldWay_16 : decode cX6_toldWay 16 = .ok (.aload_n 0, 1) := by decide +kernel
theorem dX6_toldWay_17 : decode cX6_toldWay 17 = .ok (.iload_n 1, 1) := by decide +kernel
theorem dX6_toldWay_18 : decode cX6_toldWay 18 = .ok (.iload_n 2, 1) := by decide +kernel
theorem dX6_toldWay_19 : decode cX6_toldWay 19 = .ok (.invokevirtual 73, 3) := by decide +kernel
theorem dX6_toldWay_22 : decode cX6_toldWay 22 = .ok (.goto 5, 3) := by decide +kernel
theorem dX6_toldWay_25 : decode cX6_toldWay 25 = .ok (.ldc 43, 2) := by decide +kernel
theorem dX6_toldWay_27 : decode cX6_toldWay 27 = .ok (.ireturn, 1) := by decide +kernel
theorem dX7_addByte_0 : decode cX7_addByte 0 = .ok (.aload_n 0, 1) := by decide +kernel
theorem dX7_addByte_1 : decode cX7_addByte 1 = .ok (.getfield 9, 3) := by decide +kernel
theorem dX7_addByte_4 : decode cX7_addByte 4 = .ok (.bipush 120, 2) := by decide +kernel
theorem dX7_addByte_6 : decode cX7_addByte 6 = .ok (.if_icmp .ge 23, 3) := by decide +kernel
theorem dX7_addByte_9 : decode cX7_addByte 9 = .ok (.aload_n 0, 1) := by decide +kernel
theorem dX7_addByte_10 : decode cX7_addByte 10 = .ok (.getfield 15, 3) := by decide +kernel
theorem dX7_addByte_13 : decode cX7_addByte 13 = .ok (.aload_n 0, 1) := by decide +kernel
theorem dX7_addByte_14 : decode cX7_addByte 14 = .ok (.getfield 9, 3) := by decide +kernel
theorem dX7_addByte_17 : decode cX7_addByte 17 = .ok (.iload_n 1, 1) := by decide +kernel
theorem dX7_addByte_18 : decode cX7_addByte 18 = .ok (.iastore, 1) := by decide +kernel
theorem dX7_addByte_19 : decode cX7_addByte 19 = .ok (.aload_n 0, 1) := by decide +kernel
theorem dX7_addByte_20 : decode cX7_addByte 20 = .ok (.dup, 1) := by decide +kernel
theorem dX7_addByte_21 : decode cX7_addByte 21 = .ok (.getfield 9, 3) := by decide +kernel
theorem dX7_addByte_24 : decode cX7_addByte 24 = .ok (.iconst 1, 1) := by decide +kernel
theorem dX7_addByte_25 : decode cX7_addByte 25 = .ok (.iadd, 1) := by decide +kernel
theorem dX7_addByte_26 : decode cX7_addByte 26 = .ok (.putfield 9, 3) := by decide +kernel
theorem dX7_addByte_29 : decode cX7_addByte 29 = .ok (.return_, 1) := by decide +kernel
theorem dX7_isWord_0 : decode cX7_isWord 0 = .ok (.aload_n 0, 1) := by decide +kernel
theorem dX7_isWord_1 : decode cX7_isWord 1 = .ok (.getfield 19, 3) := by decide +kernel
theorem dX7_isWord_4 : decode cX7_isWord 4 = .ok (.iconst 1, 1) := by decide +kernel
theorem dX7_isWord_5 : decode cX7_isWord 5 = .ok (.if_icmp .ne 19, 3) := by decide +kernel
theorem dX7_isWord_8 : decode cX7_isWord 8 = .ok (.aload_n 0, 1) := by decide +kernel
theorem dX7_isWord_9 : decode cX7_isWord 9 = .ok (.getfield 25, 3) := by decide +kernel
theorem dX7_isWord_12 : decode cX7_isWord 12 = .ok (.aload_n 0, 1) := by decide +kernel
theorem dX7_isWord_13 : decode cX7_isWord 13 = .ok (.getfield 22, 3) := by decide +kernel
theorem dX7_isWord_16 : decode cX7_isWord 16 = .ok (.isub, 1) := by decide +kernel
theorem dX7_isWord_17 : decode cX7_isWord 17 = .ok (.aload_n 1, 1) := by decide +kernel
theorem dX7_isWord_18 : decode cX7_isWord 18 = .ok (.invokevirtual 132, 3) := by decide +kernel
theorem dX7_isWord_21 : decode cX7_isWord 21 = .ok (.if_icmp .eq 5, 3) := by decide +kernel
theorem dX7_isWord_24 : decode cX7_isWord 24 = .ok (.iconst 0, 1) := by decide +kernel
theorem dX7_isWord_25 : decode cX7_isWord 25 = .ok (.ireturn, 1) := by decide +kernel
theorem dX7_isWord_26 : decode cX7_isWord 26 = .ok (.iconst 0, 1) := by decide +kernel
theorem dX7_isWord_27 : decode cX7_isWord 27 = .ok (.istore_n 2, 1) := by decide +kernel
theorem dX7_isWord_28 : decode cX7_isWord 28 = .ok (.iload_n 2, 1) := by decide +kernel
theorem dX7_isWord_29 : decode cX7_isWord 29 = .ok (.aload_n 1, 1) := by decide +kernel
theorem dX7_isWord_30 : decode cX7_isWord 30 = .ok (.invokevirtual 132, 3) := by decide +kernel
theorem dX7_isWord_33 : decode cX7_isWord 33 = .ok (.if_icmp .ge 30, 3) := by decide +kernel
theorem dX7_isWord_36 : decode cX7_isWord 36 = .ok (.aload_n 0, 1) := by decide +kernel
theorem dX7_isWord_37 : decode cX7_isWord 37 = .ok (.getfield 15, 3) := by decide +kernel
theorem dX7_isWord_40 : decode cX7_isWord 40 = .ok (.aload_n 0, 1) := by decide +kernel
theorem dX7_isWord_41 : decode cX7_isWord 41 = .ok (.getfield 22, 3) := by decide +kernel
theorem dX7_isWord_44 : decode cX7_isWord 44 = .ok (.iload_n 2, 1) := by decide +kernel
theorem dX7_isWord_45 : decode cX7_isWord 45 = .ok (.iadd, 1) := by decide +kernel
theorem dX7_isWord_46 : decode cX7_isWord 46 = .ok (.iaload, 1) := by decide +kernel
theorem dX7_isWord_47 : decode cX7_isWord 47 = .ok (.aload_n 1, 1) := by decide +kernel
theorem dX7_isWord_48 : decode cX7_isWord 48 = .ok (.iload_n 2, 1) := by decide +kernel
theorem dX7_isWord_49 : decode cX7_isWord 49 = .ok (.invokevirtual 138, 3) := by decide +kernel
theorem dX7_isWord_52 : decode cX7_isWord 52 = .ok (.if_icmp .eq 5, 3) := by decide +kernel
theorem dX7_isWord_55 : decode cX7_isWord 55 = .ok (.iconst 0, 1) := by decide +kernel
theorem dX7_isWord_56 : decode cX7_isWord 56 = .ok (.ireturn, 1) := by decide +kernel
theorem dX7_isWord_57 : decode cX7_isWord 57 = .ok (.iinc 2 1, 3) := by decide +kernel
theorem dX7_isWord_60 : decode cX7_isWord 60 = .ok (.goto (-32), 3) := by decide +kernel
theorem dX7_isWord_63 : decode cX7_isWord 63 = .ok (.iconst 1, 1) := by decide +kernel
theorem dX7_isWord_64 : decode cX7_isWord 64 = .ok (.ireturn, 1) := by decide +kernel
theorem dX7_kindAt_0 : decode cX7_kindAt 0 = .ok (.iload_n 1, 1) := by decide +kernel
theorem dX7_kindAt_1 : decode cX7_kindAt 1 = .ok (.aload_n 0, 1) := by decide +kernel
theorem dX7_kindAt_2 : decode cX7_kindAt 2 = .ok (.getfield 9, 3) := by decide +kernel
theorem dX7_kindAt_5 : decode cX7_kindAt 5 = .ok (.if_icmp .lt 5, 3) := by decide +kernel
theorem dX7_kindAt_8 : decode cX7_kindAt 8 = .ok (.iconst 0, 1) := by decide +kernel
theorem dX7_kindAt_9 : decode cX7_kindAt 9 = .ok (.ireturn, 1) := by decide +kernel
theorem dX7_kindAt_10 : decode cX7_kindAt 10 = .ok (.aload_n 0, 1) := by decide +kernel
theorem dX7_kindAt_11 : decode cX7_kindAt 11 = .ok (.getfield 15, 3) := by decide +kernel
theorem dX7_kindAt_14 : decode cX7_kindAt 14 = .ok (.iload_n 1, 1) := by decide +kernel
theorem dX7_kindAt_15 : decode cX7_kindAt 15 = .ok (.iaload, 1) := by decide +kernel
theorem dX7_kindAt_16 : decode cX7_kindAt 16 = .ok (.istore_n 2, 1) := by decide +kernel
theorem dX7_kindAt_17 : decode cX7_kindAt 17 = .ok (.iload_n 2, 1) := by decide +kernel
theorem dX7_kindAt_18 : decode cX7_kindAt 18 = .ok (.bipush 97, 2) := by decide +kernel
theorem dX7_kindAt_20 : decode cX7_kindAt 20 = .ok (.if_icmp .lt 11, 3) := by decide +kernel
theorem dX7_kindAt_23 : decode cX7_kindAt 23 = .ok (.iload_n 2, 1) := by decide +kernel
theorem dX7_kindAt_24 : decode cX7_kindAt 24 = .ok (.bipush 122, 2) := by decide +kernel
theorem dX7_kindAt_26 : decode cX7_kindAt 26 = .ok (.if_icmp .gt 5, 3) := by decide +kernel
theorem dX7_kindAt_29 : decode cX7_kindAt 29 = .ok (.iconst 1, 1) := by decide +kernel
theorem dX7_kindAt_30 : decode cX7_kindAt 30 = .ok (.ireturn, 1) := by decide +kernel
theorem dX7_kindAt_31 : decode cX7_kindAt 31 = .ok (.iload_n 2, 1) := by decide +kernel
theorem dX7_kindAt_32 : decode cX7_kindAt 32 = .ok (.bipush 48, 2) := by decide +kernel
theorem dX7_kindAt_34 : decode cX7_kindAt 34 = .ok (.if_icmp .lt 11, 3) := by decide +kernel
theorem dX7_kindAt_37 : decode cX7_kindAt 37 = .ok (.iload_n 2, 1) := by decide +kernel
theorem dX7_kindAt_38 : decode cX7_kindAt 38 = .ok (.bipush 57, 2) := by decide +kernel
theorem dX7_kindAt_40 : decode cX7_kindAt 40 = .ok (.if_icmp .gt 5, 3) := by decide +kernel
theorem dX7_kindAt_43 : decode cX7_kindAt 43 = .ok (.iconst 2, 1) := by decide +kernel
theorem dX7_kindAt_44 : decode cX7_kindAt 44 = .ok (.ireturn, 1) := by decide +kernel
theorem dX7_kindAt_45 : decode cX7_kindAt 45 = .ok (.iload_n 2, 1) := by decide +kernel
theorem dX7_kindAt_46 : decode cX7_kindAt 46 = .ok (.bipush 59, 2) := by decide +kernel
theorem dX7_kindAt_48 : decode cX7_kindAt 48 = .ok (.if_icmp .ne 5, 3) := by decide +kernel
theorem dX7_kindAt_51 : decode cX7_kindAt 51 = .ok (.iconst 3, 1) := by decide +kernel
theorem dX7_kindAt_52 : decode cX7_kindAt 52 = .ok (.ireturn, 1) := by decide +kernel
theorem dX7_kindAt_53 : decode cX7_kindAt 53 = .ok (.iload_n 2, 1) := by decide +kernel
theorem dX7_kindAt_54 : decode cX7_kindAt 54 = .ok (.bipush 45, 2) := by decide +kernel
theorem dX7_kindAt_56 : decode cX7_kindAt 56 = .ok (.if_icmp .ne 7, 3) := by decide +kernel
theorem dX7_kindAt_59 : decode cX7_kindAt 59 = .ok (.iconst 4, 1) := by decide +kernel
theorem dX7_kindAt_60 : decode cX7_kindAt 60 = .ok (.goto 4, 3) := by decide +kernel
theorem dX7_kindAt_63 : decode cX7_kindAt 63 = .ok (.iconst 5, 1) := by decide +kernel
theorem dX7_kindAt_64 : decode cX7_kindAt 64 = .ok (.ireturn, 1) := by decide +kernel
theorem dX7_step_0 : decode cX7_step 0 = .ok (.aload_n 0, 1) := by decide +kernel
theorem dX7_step_1 : decode cX7_step 1 = .ok (.getfield 25, 3) := by decide +kernel
theorem dX7_step_4 : decode cX7_step 4 = .ok (.istore_n 1, 1) := by decide +kernel
theorem dX7_step_5 : decode cX7_step 5 = .ok (.iload_n 1, 1) := by decide +kernel
theorem dX7_step_6 : decode cX7_step 6 = .ok (.aload_n 0, 1) := by decide +kernel
theorem dX7_step_7 : decode cX7_step 7 = .ok (.getfield 9, 3) := by decide +kernel
theorem dX7_step_10 : decode cX7_step 10 = .ok (.if_icmp .ge 20, 3) := by decide +kernel
theorem dX7_step_13 : decode cX7_step 13 = .ok (.aload_n 0, 1) := by decide +kernel
theorem dX7_step_14 : decode cX7_step 14 = .ok (.getfield 15, 3) := by decide +kernel
theorem dX7_step_17 : decode cX7_step 17 = .ok (.iload_n 1, 1) := by decide +kernel
theorem dX7_step_18 : decode cX7_step 18 = .ok (.iaload, 1) := by decide +kernel
theorem dX7_step_19 : decode cX7_step 19 = .ok (.bipush 32, 2) := by decide +kernel
theorem dX7_step_21 : decode cX7_step 21 = .ok (.if_icmp .ne 9, 3) := by decide +kernel
theorem dX7_step_24 : decode cX7_step 24 = .ok (.iinc 1 1, 3) := by decide +kernel
theorem dX7_step_27 : decode cX7_step 27 = .ok (.goto (-22), 3) := by decide +kernel
theorem dX7_step_30 : decode cX7_step 30 = .ok (.aload_n 0, 1) := by decide +kernel
theorem dX7_step_31 : decode cX7_step 31 = .ok (.iload_n 1, 1) := by decide +kernel
theorem dX7_step_32 : decode cX7_step 32 = .ok (.putfield 22, 3) := by decide +kernel
theorem dX7_step_35 : decode cX7_step 35 = .ok (.aload_n 0, 1) := by decide +kernel
theorem dX7_step_36 : decode cX7_step 36 = .ok (.aload_n 0, 1) := by decide +kernel
theorem dX7_step_37 : decode cX7_step 37 = .ok (.iload_n 1, 1) := by decide +kernel
theorem dX7_step_38 : decode cX7_step 38 = .ok (.invokevirtual 142, 3) := by decide +kernel
theorem dX7_step_41 : decode cX7_step 41 = .ok (.putfield 19, 3) := by decide +kernel
theorem dX7_step_44 : decode cX7_step 44 = .ok (.aload_n 0, 1) := by decide +kernel
theorem dX7_step_45 : decode cX7_step 45 = .ok (.iconst 0, 1) := by decide +kernel
theorem dX7_step_46 : decode cX7_step 46 = .ok (.putfield 28, 3) := by decide +kernel
theorem dX7_step_49 : decode cX7_step 49 = .ok (.aload_n 0, 1) := by decide +kernel
theorem dX7_step_50 : decode cX7_step 50 = .ok (.getfield 19, 3) := by decide +kernel
theorem dX7_step_53 : decode cX7_step 53 = .ok (.iconst 1, 1) := by decide +kernel
theorem dX7_step_54 : decode cX7_step 54 = .ok (.if_icmp .eq 11, 3) := by decide +kernel
theorem dX7_step_57 : decode cX7_step 57 = .ok (.aload_n 0, 1) := by decide +kernel
theorem dX7_step_58 : decode cX7_step 58 = .ok (.getfield 19, 3) := by decide +kernel
theorem dX7_step_61 : decode cX7_step 61 = .ok (.iconst 2, 1) := by decide +kernel
theorem dX7_step_62 : decode cX7_step 62 = .ok (.if_icmp .ne 7, 3) := by decide +kernel
theorem dX7_step_65 : decode cX7_step 65 = .ok (.iconst 1, 1) := by decide +kernel
theorem dX7_step_66 : decode cX7_step 66 = .ok (.goto 4, 3) := by decide +kernel
theorem dX7_step_69 : decode cX7_step 69 = .ok (.iconst 0, 1) := by decide +kernel
theorem dX7_step_70 : decode cX7_step 70 = .ok (.istore_n 2, 1) := by decide +kernel
theorem dX7_step_71 : decode cX7_step 71 = .ok (.iload_n 1, 1) := by decide +kernel
theorem dX7_step_72 : decode cX7_step 72 = .ok (.aload_n 0, 1) := by decide +kernel
theorem dX7_step_73 : decode cX7_step 73 = .ok (.getfield 9, 3) := by decide +kernel
theorem dX7_step_76 : decode cX7_step 76 = .ok (.if_icmp .ge 68, 3) := by decide +kernel
theorem dX7_step_79 : decode cX7_step 79 = .ok (.aload_n 0, 1) := by decide +kernel
theorem dX7_step_80 : decode cX7_step 80 = .ok (.iload_n 1, 1) := by decide +kernel
theorem dX7_step_81 : decode cX7_step 81 = .ok (.invokevirtual 142, 3) := by decide +kernel
theorem dX7_step_84 : decode cX7_step 84 = .ok (.aload_n 0, 1) := by decide +kernel
theorem dX7_step_85 : decode cX7_step 85 = .ok (.getfield 19, 3) := by decide +kernel
theorem dX7_step_88 : decode cX7_step 88 = .ok (.if_icmp .ne 56, 3) := by decide +kernel
theorem dX7_step_91 : decode cX7_step 91 = .ok (.iload_n 1, 1) := by decide +kernel
theorem dX7_step_92 : decode cX7_step 92 = .ok (.aload_n 0, 1) := by decide +kernel
theorem dX7_step_93 : decode cX7_step 93 = .ok (.getfield 22, 3) := by decide +kernel
theorem dX7_step_96 : decode cX7_step 96 = .ok (.if_icmp .eq 7, 3) := by decide +kernel
theorem dX7_step_99 : decode cX7_step 99 = .ok (.iload_n 2, 1) := by decide +kernel
theorem dX7_step_100 : decode cX7_step 100 = .ok (.ifCond .eq 44, 3) := by decide +kernel
theorem dX7_step_103 : decode cX7_step 103 = .ok (.aload_n 0, 1) := by decide +kernel
theorem dX7_step_104 : decode cX7_step 104 = .ok (.getfield 19, 3) := by decide +kernel
theorem dX7_step_107 : decode cX7_step 107 = .ok (.iconst 2, 1) := by decide +kernel
theorem dX7_step_108 : decode cX7_step 108 = .ok (.if_icmp .ne 30, 3) := by decide +kernel
theorem dX7_step_111 : decode cX7_step 111 = .ok (.aload_n 0, 1) := by decide +kernel
theorem dX7_step_112 : decode cX7_step 112 = .ok (.bipush 10, 2) := by decide +kernel
theorem dX7_step_114 : decode cX7_step 114 = .ok (.aload_n 0, 1) := by decide +kernel
theorem dX7_step_115 : decode cX7_step 115 = .ok (.getfield 28, 3) := by decide +kernel
theorem dX7_step_118 : decode cX7_step 118 = .ok (.imul, 1) := by decide +kernel
theorem dX7_step_119 : decode cX7_step 119 = .ok (.aload_n 0, 1) := by decide +kernel
theorem dX7_step_120 : decode cX7_step 120 = .ok (.getfield 15, 3) := by decide +kernel
theorem dX7_step_123 : decode cX7_step 123 = .ok (.iload_n 1, 1) := by decide +kernel
theorem dX7_step_124 : decode cX7_step 124 = .ok (.iaload, 1) := by decide +kernel
theorem dX7_step_125 : decode cX7_step 125 = .ok (.iadd, 1) := by decide +kernel
theorem dX7_step_126 : decode cX7_step 126 = .ok (.bipush 48, 2) := by decide +kernel
theorem dX7_step_128 : decode cX7_step 128 = .ok (.isub, 1) := by decide +kernel
theorem dX7_step_129 : decode cX7_step 129 = .ok (.sipush 10000, 3) := by decide +kernel
theorem dX7_step_132 : decode cX7_step 132 = .ok (.invokestatic 145, 3) := by decide +kernel
theorem dX7_step_135 : decode cX7_step 135 = .ok (.putfield 28, 3) := by decide +kernel
theorem dX7_step_138 : decode cX7_step 138 = .ok (.iinc 1 1, 3) := by decide +kernel
theorem dX7_step_141 : decode cX7_step 141 = .ok (.goto (-70), 3) := by decide +kernel
theorem dX7_step_144 : decode cX7_step 144 = .ok (.aload_n 0, 1) := by decide +kernel
theorem dX7_step_145 : decode cX7_step 145 = .ok (.iload_n 1, 1) := by decide +kernel
theorem dX7_step_146 : decode cX7_step 146 = .ok (.putfield 25, 3) := by decide +kernel
theorem dX7_step_149 : decode cX7_step 149 = .ok (.return_, 1) := by decide +kernel
theorem dX7_takeItem_0 : decode cX7_takeItem 0 = .ok (.aload_n 0, 1) := by decide +kernel
theorem dX7_takeItem_1 : decode cX7_takeItem 1 = .ok (.ldc 41, 2) := by decide +kernel
theorem dX7_takeItem_3 : decode cX7_takeItem 3 = .ok (.invokevirtual 43, 3) := by decide +kernel
theorem dX7_takeItem_6 : decode cX7_takeItem 6 = .ok (.ifCond .eq 9, 3) := by decide +kernel
theorem dX7_takeItem_9 : decode cX7_takeItem 9 = .ok (.aload_n 0, 1) := by decide +kernel
theorem dX7_takeItem_10 : decode cX7_takeItem 10 = .ok (.aload_n 1, 1) := by decide +kernel
theorem dX7_takeItem_11 : decode cX7_takeItem 11 = .ok (.invokevirtual 47, 3) := by decide +kernel
theorem dX7_takeItem_14 : decode cX7_takeItem 14 = .ok (.ireturn, 1) := by decide +kernel
theorem dX7_takeItem_15 : decode cX7_takeItem 15 = .ok (.aload_n 0, 1) := by decide +kernel
theorem dX7_takeItem_16 : decode cX7_takeItem 16 = .ok (.ldc 50, 2) := by decide +kernel
theorem dX7_takeItem_18 : decode cX7_takeItem 18 = .ok (.invokevirtual 43, 3) := by decide +kernel
theorem dX7_takeItem_21 : decode cX7_takeItem 21 = .ok (.ifCond .eq 9, 3) := by decide +kernel
theorem dX7_takeItem_24 : decode cX7_takeItem 24 = .ok (.aload_n 0, 1) := by decide +kernel
theorem dX7_takeItem_25 : decode cX7_takeItem 25 = .ok (.aload_n 1, 1) := by decide +kernel
theorem dX7_takeItem_26 : decode cX7_takeItem 26 = .ok (.invokevirtual 52, 3) := by decide +kernel
theorem dX7_takeItem_29 : decode cX7_takeItem 29 = .ok (.ireturn, 1) := by decide +kernel
theorem dX7_takeItem_30 : decode cX7_takeItem 30 = .ok (.aload_n 0, 1) := by decide +kernel
theorem dX7_takeItem_31 : decode cX7_takeItem 31 = .ok (.ldc 55, 2) := by decide +kernel
theorem dX7_takeItem_33 : decode cX7_takeItem 33 = .ok (.invokevirtual 43, 3) := by decide +kernel
theorem dX7_takeItem_36 : decode cX7_takeItem 36 = .ok (.ifCond .eq 15, 3) := by decide +kernel
theorem dX7_takeItem_39 : decode cX7_takeItem 39 = .ok (.aload_n 0, 1) := by decide +kernel
theorem dX7_takeItem_40 : decode cX7_takeItem 40 = .ok (.aload_n 1, 1) := by decide +kernel
theorem dX7_takeItem_41 : decode cX7_takeItem 41 = .ok (.invokevirtual 57, 3) := by decide +kernel
theorem dX7_takeItem_44 : decode cX7_takeItem 44 = .ok (.ifCond .eq 7, 3) := by decide +kernel
theorem dX7_takeItem_47 : decode cX7_takeItem 47 = .ok (.iconst 1, 1) := by decide +kernel
theorem dX7_takeItem_48 : decode cX7_takeItem 48 = .ok (.goto 4, 3) := by decide +kernel
theorem dX7_takeItem_51 : decode cX7_takeItem 51 = .ok (.iconst 0, 1) := by decide +kernel
theorem dX7_takeItem_52 : decode cX7_takeItem 52 = .ok (.ireturn, 1) := by decide +kernel
theorem dX7_takeMile_0 : decode cX7_takeMile 0 = .ok (.aload_n 0, 1) := by decide +kernel
theorem dX7_takeMile_1 : decode cX7_takeMile 1 = .ok (.getfield 19, 3) := by decide +kernel
theorem dX7_takeMile_4 : decode cX7_takeMile 4 = .ok (.iconst 4, 1) := by decide +kernel
theorem dX7_takeMile_5 : decode cX7_takeMile 5 = .ok (.if_icmp .ne 7, 3) := by decide +kernel
theorem dX7_takeMile_8 : decode cX7_takeMile 8 = .ok (.iconst 1, 1) := by decide +kernel
theorem dX7_takeMile_9 : decode cX7_takeMile 9 = .ok (.goto 4, 3) := by decide +kernel
theorem dX7_takeMile_12 : decode cX7_takeMile 12 = .ok (.iconst 0, 1) := by decide +kernel
theorem dX7_takeMile_13 : decode cX7_takeMile 13 = .ok (.istore_n 3, 1) := by decide +kernel
theorem dX7_takeMile_14 : decode cX7_takeMile 14 = .ok (.iload_n 3, 1) := by decide +kernel
theorem dX7_takeMile_15 : decode cX7_takeMile 15 = .ok (.ifCond .eq 7, 3) := by decide +kernel
theorem dX7_takeMile_18 : decode cX7_takeMile 18 = .ok (.aload_n 0, 1) := by decide +kernel
theorem dX7_takeMile_19 : decode cX7_takeMile 19 = .ok (.invokevirtual 34, 3) := by decide +kernel
theorem dX7_takeMile_22 : decode cX7_takeMile 22 = .ok (.iload_n 3, 1) := by decide +kernel
theorem dX7_takeMile_23 : decode cX7_takeMile 23 = .ok (.ifCond .eq 11, 3) := by decide +kernel
theorem dX7_takeMile_26 : decode cX7_takeMile 26 = .ok (.aload_n 0, 1) := by decide +kernel
theorem dX7_takeMile_27 : decode cX7_takeMile 27 = .ok (.getfield 28, 3) := by decide +kernel
theorem dX7_takeMile_30 : decode cX7_takeMile 30 = .ok (.ineg, 1) := by decide +kernel
theorem dX7_takeMile_31 : decode cX7_takeMile 31 = .ok (.goto 7, 3) := by decide +kernel
theorem dX7_takeMile_34 : decode cX7_takeMile 34 = .ok (.aload_n 0, 1) := by decide +kernel
theorem dX7_takeMile_35 : decode cX7_takeMile 35 = .ok (.getfield 28, 3) := by decide +kernel
theorem dX7_takeMile_38 : decode cX7_takeMile 38 = .ok (.istore 4, 2) := by decide +kernel
theorem dX7_takeMile_40 : decode cX7_takeMile 40 = .ok (.aload_n 0, 1) := by decide +kernel
theorem dX7_takeMile_41 : decode cX7_takeMile 41 = .ok (.getfield 19, 3) := by decide +kernel
theorem dX7_takeMile_44 : decode cX7_takeMile 44 = .ok (.iconst 2, 1) := by decide +kernel
theorem dX7_takeMile_45 : decode cX7_takeMile 45 = .ok (.if_icmp .ne 15, 3) := by decide +kernel
theorem dX7_takeMile_48 : decode cX7_takeMile 48 = .ok (.iload 4, 2) := by decide +kernel
theorem dX7_takeMile_50 : decode cX7_takeMile 50 = .ok (.iload_n 1, 1) := by decide +kernel
theorem dX7_takeMile_51 : decode cX7_takeMile 51 = .ok (.if_icmp .lt 9, 3) := by decide +kernel
theorem dX7_takeMile_54 : decode cX7_takeMile 54 = .ok (.iload 4, 2) := by decide +kernel
theorem dX7_takeMile_56 : decode cX7_takeMile 56 = .ok (.iload_n 2, 1) := by decide +kernel
theorem dX7_takeMile_57 : decode cX7_takeMile 57 = .ok (.if_icmp .le 5, 3) := by decide +kernel
theorem dX7_takeMile_60 : decode cX7_takeMile 60 = .ok (.iconst 0, 1) := by decide +kernel
theorem dX7_takeMile_61 : decode cX7_takeMile 61 = .ok (.ireturn, 1) := by decide +kernel
theorem dX7_takeMile_62 : decode cX7_takeMile 62 = .ok (.aload_n 0, 1) := by decide +kernel
theorem dX7_takeMile_63 : decode cX7_takeMile 63 = .ok (.iload 4, 2) := by decide +kernel
theorem dX7_takeMile_65 : decode cX7_takeMile 65 = .ok (.putfield 31, 3) := by decide +kernel
theorem dX7_takeMile_68 : decode cX7_takeMile 68 = .ok (.aload_n 0, 1) := by decide +kernel
theorem dX7_takeMile_69 : decode cX7_takeMile 69 = .ok (.invokevirtual 34, 3) := by decide +kernel
theorem dX7_takeMile_72 : decode cX7_takeMile 72 = .ok (.iconst 1, 1) := by decide +kernel
theorem dX7_takeMile_73 : decode cX7_takeMile 73 = .ok (.ireturn, 1) := by decide +kernel
theorem dX7_takeNumber_0 : decode cX7_takeNumber 0 = .ok (.aload_n 0, 1) := by decide +kernel
theorem dX7_takeNumber_1 : decode cX7_takeNumber 1 = .ok (.getfield 19, 3) := by decide +kernel
theorem dX7_takeNumber_4 : decode cX7_takeNumber 4 = .ok (.iconst 2, 1) := by decide +kernel
theorem dX7_takeNumber_5 : decode cX7_takeNumber 5 = .ok (.if_icmp .ne 11, 3) := by decide +kernel
theorem dX7_takeNumber_8 : decode cX7_takeNumber 8 = .ok (.aload_n 0, 1) := by decide +kernel
theorem dX7_takeNumber_9 : decode cX7_takeNumber 9 = .ok (.getfield 28, 3) := by decide +kernel
theorem dX7_takeNumber_12 : decode cX7_takeNumber 12 = .ok (.iload_n 1, 1) := by decide +kernel
theorem dX7_takeNumber_13 : decode cX7_takeNumber 13 = .ok (.if_icmp .le 5, 3) := by decide +kernel
theorem dX7_takeNumber_16 : decode cX7_takeNumber 16 = .ok (.iconst 0, 1) := by decide +kernel
theorem dX7_takeNumber_17 : decode cX7_takeNumber 17 = .ok (.ireturn, 1) := by decide +kernel
theorem dX7_takeNumber_18 : decode cX7_takeNumber 18 = .ok (.aload_n 0, 1) := by decide +kernel
theorem dX7_takeNumber_19 : decode cX7_takeNumber 19 = .ok (.aload_n 0, 1) := by decide +kernel
theorem dX7_takeNumber_20 : decode cX7_takeNumber 20 = .ok (.getfield 28, 3) := by decide +kernel
theorem dX7_takeNumber_23 : decode cX7_takeNumber 23 = .ok (.putfield 31, 3) := by decide +kernel
theorem dX7_takeNumber_26 : decode cX7_takeNumber 26 = .ok (.aload_n 0, 1) := by decide +kernel
theorem dX7_takeNumber_27 : decode cX7_takeNumber 27 = .ok (.invokevirtual 34, 3) := by decide +kernel
theorem dX7_takeNumber_30 : decode cX7_takeNumber 30 = .ok (.iconst 1, 1) := by decide +kernel
theorem dX7_takeNumber_31 : decode cX7_takeNumber 31 = .ok (.ireturn, 1) := by decide +kernel
theorem dX7_takePlace_0 : decode cX7_takePlace 0 = .ok (.aload_n 1, 1) := by decide +kernel
theorem dX7_takePlace_1 : decode cX7_takePlace 1 = .ok (.getfield 60, 3) := by decide +kernel
theorem dX7_takePlace_4 : decode cX7_takePlace 4 = .ok (.bipush 10, 2) := by decide +kernel
theorem dX7_takePlace_6 : decode cX7_takePlace 6 = .ok (.if_icmp .lt 5, 3) := by decide +kernel
theorem dX7_takePlace_9 : decode cX7_takePlace 9 = .ok (.iconst 0, 1) := by decide +kernel
theorem dX7_takePlace_10 : decode cX7_takePlace 10 = .ok (.ireturn, 1) := by decide +kernel
theorem dX7_takePlace_11 : decode cX7_takePlace 11 = .ok (.aload_n 0, 1) := by decide +kernel
theorem dX7_takePlace_12 : decode cX7_takePlace 12 = .ok (.invokevirtual 34, 3) := by decide +kernel
theorem dX7_takePlace_15 : decode cX7_takePlace 15 = .ok (.iconst 0, 1) := by decide +kernel
theorem dX7_takePlace_16 : decode cX7_takePlace 16 = .ok (.istore_n 2, 1) := by decide +kernel
theorem dX7_takePlace_17 : decode cX7_takePlace 17 = .ok (.aload_n 0, 1) := by decide +kernel
theorem dX7_takePlace_18 : decode cX7_takePlace 18 = .ok (.ldc 65, 2) := by decide +kernel
theorem dX7_takePlace_20 : decode cX7_takePlace 20 = .ok (.invokevirtual 67, 3) := by decide +kernel
theorem dX7_takePlace_23 : decode cX7_takePlace 23 = .ok (.ifCond .eq 19, 3) := by decide +kernel
theorem dX7_takePlace_26 : decode cX7_takePlace 26 = .ok (.aload_n 0, 1) := by decide +kernel
theorem dX7_takePlace_27 : decode cX7_takePlace 27 = .ok (.bipush 99, 2) := by decide +kernel
theorem dX7_takePlace_29 : decode cX7_takePlace 29 = .ok (.invokevirtual 70, 3) := by decide +kernel
theorem dX7_takePlace_32 : decode cX7_takePlace 32 = .ok (.ifCond .ne 5, 3) := by decide +kernel
theorem dX7_takePlace_35 : decode cX7_takePlace 35 = .ok (.iconst 0, 1) := by decide +kernel
theorem dX7_takePlace_36 : decode cX7_takePlace 36 = .ok (.ireturn, 1) := by decide +kernel
theorem dX7_takePlace_37 : decode cX7_takePlace 37 = .ok (.aload_n 0, 1) := by decide +kernel
theorem dX7_takePlace_38 : decode cX7_takePlace 38 = .ok (.getfield 31, 3) := by decide +kernel
theorem dX7_takePlace_41 : decode cX7_takePlace 41 = .ok (.istore_n 2, 1) := by decide +kernel
theorem dX7_takePlace_42 : decode cX7_takePlace 42 = .ok (.aload_n 1, 1) := by decide +kernel
theorem dX7_takePlace_43 : decode cX7_takePlace 43 = .ok (.iload_n 2, 1) := by decide +kernel
theorem dX7_takePlace_44 : decode cX7_takePlace 44 = .ok (.invokevirtual 74, 3) := by decide +kernel
theorem dX7_takePlace_47 : decode cX7_takePlace 47 = .ok (.pop, 1) := by decide +kernel
theorem dX7_takePlace_48 : decode cX7_takePlace 48 = .ok (.iconst 1, 1) := by decide +kernel
theorem dX7_takePlace_49 : decode cX7_takePlace 49 = .ok (.ireturn, 1) := by decide +kernel
theorem dX7_takeSlack_0 : decode cX7_takeSlack 0 = .ok (.aload_n 0, 1) := by decide +kernel
theorem dX7_takeSlack_1 : decode cX7_takeSlack 1 = .ok (.bipush 99, 2) := by decide +kernel
theorem dX7_takeSlack_3 : decode cX7_takeSlack 3 = .ok (.invokevirtual 70, 3) := by decide +kernel
theorem dX7_takeSlack_6 : decode cX7_takeSlack 6 = .ok (.ifCond .ne 5, 3) := by decide +kernel
theorem dX7_takeSlack_9 : decode cX7_takeSlack 9 = .ok (.iconst 0, 1) := by decide +kernel
theorem dX7_takeSlack_10 : decode cX7_takeSlack 10 = .ok (.ireturn, 1) := by decide +kernel
theorem dX7_takeSlack_11 : decode cX7_takeSlack 11 = .ok (.aload_n 1, 1) := by decide +kernel
theorem dX7_takeSlack_12 : decode cX7_takeSlack 12 = .ok (.getfield 129, 3) := by decide +kernel
theorem dX7_takeSlack_15 : decode cX7_takeSlack 15 = .ok (.iload_n 2, 1) := by decide +kernel
theorem dX7_takeSlack_16 : decode cX7_takeSlack 16 = .ok (.aload_n 0, 1) := by decide +kernel
theorem dX7_takeSlack_17 : decode cX7_takeSlack 17 = .ok (.getfield 31, 3) := by decide +kernel
theorem dX7_takeSlack_20 : decode cX7_takeSlack 20 = .ok (.iastore, 1) := by decide +kernel
theorem dX7_takeSlack_21 : decode cX7_takeSlack 21 = .ok (.iconst 1, 1) := by decide +kernel
theorem dX7_takeSlack_22 : decode cX7_takeSlack 22 = .ok (.ireturn, 1) := by decide +kernel
theorem dX7_takeWalk_0 : decode cX7_takeWalk 0 = .ok (.aload_n 1, 1) := by decide +kernel
theorem dX7_takeWalk_1 : decode cX7_takeWalk 1 = .ok (.getfield 94, 3) := by decide +kernel
theorem dX7_takeWalk_4 : decode cX7_takeWalk 4 = .ok (.invokevirtual 98, 3) := by decide +kernel
theorem dX7_takeWalk_7 : decode cX7_takeWalk 7 = .ok (.ifCond .eq 5, 3) := by decide +kernel
theorem dX7_takeWalk_10 : decode cX7_takeWalk 10 = .ok (.iconst 0, 1) := by decide +kernel
theorem dX7_takeWalk_11 : decode cX7_takeWalk 11 = .ok (.ireturn, 1) := by decide +kernel
theorem dX7_takeWalk_12 : decode cX7_takeWalk 12 = .ok (.aload_n 0, 1) := by decide +kernel
theorem dX7_takeWalk_13 : decode cX7_takeWalk 13 = .ok (.invokevirtual 34, 3) := by decide +kernel
theorem dX7_takeWalk_16 : decode cX7_takeWalk 16 = .ok (.aload_n 0, 1) := by decide +kernel
theorem dX7_takeWalk_17 : decode cX7_takeWalk 17 = .ok (.aload_n 1, 1) := by decide +kernel
theorem dX7_takeWalk_18 : decode cX7_takeWalk 18 = .ok (.getfield 60, 3) := by decide +kernel
theorem dX7_takeWalk_21 : decode cX7_takeWalk 21 = .ok (.iconst 1, 1) := by decide +kernel
theorem dX7_takeWalk_22 : decode cX7_takeWalk 22 = .ok (.isub, 1) := by decide +kernel
theorem dX7_takeWalk_23 : decode cX7_takeWalk 23 = .ok (.invokevirtual 70, 3) := by decide +kernel
theorem dX7_takeWalk_26 : decode cX7_takeWalk 26 = .ok (.ifCond .ne 5, 3) := by decide +kernel
theorem dX7_takeWalk_29 : decode cX7_takeWalk 29 = .ok (.iconst 0, 1) := by decide +kernel
theorem dX7_takeWalk_30 : decode cX7_takeWalk 30 = .ok (.ireturn, 1) := by decide +kernel
theorem dX7_takeWalk_31 : decode cX7_takeWalk 31 = .ok (.aload_n 1, 1) := by decide +kernel
theorem dX7_takeWalk_32 : decode cX7_takeWalk 32 = .ok (.aload_n 0, 1) := by decide +kernel
theorem dX7_takeWalk_33 : decode cX7_takeWalk 33 = .ok (.getfield 31, 3) := by decide +kernel
theorem dX7_takeWalk_36 : decode cX7_takeWalk 36 = .ok (.iconst 0, 1) := by decide +kernel
theorem dX7_takeWalk_37 : decode cX7_takeWalk 37 = .ok (.iconst 0, 1) := by decide +kernel
theorem dX7_takeWalk_38 : decode cX7_takeWalk 38 = .ok (.invokevirtual 104, 3) := by decide +kernel
theorem dX7_takeWalk_41 : decode cX7_takeWalk 41 = .ok (.istore_n 2, 1) := by decide +kernel
theorem dX7_takeWalk_42 : decode cX7_takeWalk 42 = .ok (.iconst 1, 1) := by decide +kernel
theorem dX7_takeWalk_43 : decode cX7_takeWalk 43 = .ok (.istore_n 3, 1) := by decide +kernel
theorem dX7_takeWalk_44 : decode cX7_takeWalk 44 = .ok (.iload_n 3, 1) := by decide +kernel
theorem dX7_takeWalk_45 : decode cX7_takeWalk 45 = .ok (.bipush 6, 2) := by decide +kernel
theorem dX7_takeWalk_47 : decode cX7_takeWalk 47 = .ok (.if_icmp .ge 60, 3) := by decide +kernel
theorem dX7_takeWalk_50 : decode cX7_takeWalk 50 = .ok (.aload_n 0, 1) := by decide +kernel
theorem dX7_takeWalk_51 : decode cX7_takeWalk 51 = .ok (.getfield 19, 3) := by decide +kernel
theorem dX7_takeWalk_54 : decode cX7_takeWalk 54 = .ok (.iconst 2, 1) := by decide +kernel
theorem dX7_takeWalk_55 : decode cX7_takeWalk 55 = .ok (.if_icmp .ne 52, 3) := by decide +kernel
theorem dX7_takeWalk_58 : decode cX7_takeWalk 58 = .ok (.aload_n 0, 1) := by decide +kernel
theorem dX7_takeWalk_59 : decode cX7_takeWalk 59 = .ok (.getfield 28, 3) := by decide +kernel
theorem dX7_takeWalk_62 : decode cX7_takeWalk 62 = .ok (.aload_n 1, 1) := by decide +kernel
theorem dX7_takeWalk_63 : decode cX7_takeWalk 63 = .ok (.getfield 94, 3) := by decide +kernel
theorem dX7_takeWalk_66 : decode cX7_takeWalk 66 = .ok (.iload_n 2, 1) := by decide +kernel
theorem dX7_takeWalk_67 : decode cX7_takeWalk 67 = .ok (.invokevirtual 108, 3) := by decide +kernel
theorem dX7_takeWalk_70 : decode cX7_takeWalk 70 = .ok (.if_icmp .eq 16, 3) := by decide +kernel
theorem dX7_takeWalk_73 : decode cX7_takeWalk 73 = .ok (.aload_n 0, 1) := by decide +kernel
theorem dX7_takeWalk_74 : decode cX7_takeWalk 74 = .ok (.aload_n 1, 1) := by decide +kernel
theorem dX7_takeWalk_75 : decode cX7_takeWalk 75 = .ok (.getfield 60, 3) := by decide +kernel
theorem dX7_takeWalk_78 : decode cX7_takeWalk 78 = .ok (.iconst 1, 1) := by decide +kernel
theorem dX7_takeWalk_79 : decode cX7_takeWalk 79 = .ok (.isub, 1) := by decide +kernel
theorem dX7_takeWalk_80 : decode cX7_takeWalk 80 = .ok (.invokevirtual 70, 3) := by decide +kernel
theorem dX7_takeWalk_83 : decode cX7_takeWalk 83 = .ok (.ifCond .ne 5, 3) := by decide +kernel
theorem dX7_takeWalk_86 : decode cX7_takeWalk 86 = .ok (.iconst 0, 1) := by decide +kernel
theorem dX7_takeWalk_87 : decode cX7_takeWalk 87 = .ok (.ireturn, 1) := by decide +kernel
theorem dX7_takeWalk_88 : decode cX7_takeWalk 88 = .ok (.aload_n 1, 1) := by decide +kernel
theorem dX7_takeWalk_89 : decode cX7_takeWalk 89 = .ok (.getfield 94, 3) := by decide +kernel
theorem dX7_takeWalk_92 : decode cX7_takeWalk 92 = .ok (.iload_n 2, 1) := by decide +kernel
theorem dX7_takeWalk_93 : decode cX7_takeWalk 93 = .ok (.aload_n 0, 1) := by decide +kernel
theorem dX7_takeWalk_94 : decode cX7_takeWalk 94 = .ok (.getfield 31, 3) := by decide +kernel
theorem dX7_takeWalk_97 : decode cX7_takeWalk 97 = .ok (.invokevirtual 111, 3) := by decide +kernel
theorem dX7_takeWalk_100 : decode cX7_takeWalk 100 = .ok (.pop, 1) := by decide +kernel
theorem dX7_takeWalk_101 : decode cX7_takeWalk 101 = .ok (.iinc 3 1, 3) := by decide +kernel
theorem dX7_takeWalk_104 : decode cX7_takeWalk 104 = .ok (.goto (-60), 3) := by decide +kernel
theorem dX7_takeWalk_107 : decode cX7_takeWalk 107 = .ok (.aload_n 1, 1) := by decide +kernel
theorem dX7_takeWalk_108 : decode cX7_takeWalk 108 = .ok (.getfield 94, 3) := by decide +kernel
theorem dX7_takeWalk_111 : decode cX7_takeWalk 111 = .ok (.getfield 115, 3) := by decide +kernel
theorem dX7_takeWalk_114 : decode cX7_takeWalk 114 = .ok (.iload_n 2, 1) := by decide +kernel
theorem dX7_takeWalk_115 : decode cX7_takeWalk 115 = .ok (.iaload, 1) := by decide +kernel
theorem dX7_takeWalk_116 : decode cX7_takeWalk 116 = .ok (.iconst 2, 1) := by decide +kernel
theorem dX7_takeWalk_117 : decode cX7_takeWalk 117 = .ok (.if_icmp .lt 25, 3) := by decide +kernel
theorem dX7_takeWalk_120 : decode cX7_takeWalk 120 = .ok (.aload_n 0, 1) := by decide +kernel
theorem dX7_takeWalk_121 : decode cX7_takeWalk 121 = .ok (.ldc 118, 2) := by decide +kernel
theorem dX7_takeWalk_123 : decode cX7_takeWalk 123 = .ok (.invokevirtual 67, 3) := by decide +kernel
theorem dX7_takeWalk_126 : decode cX7_takeWalk 126 = .ok (.ifCond .eq 16, 3) := by decide +kernel
theorem dX7_takeWalk_129 : decode cX7_takeWalk 129 = .ok (.aload_n 0, 1) := by decide +kernel
theorem dX7_takeWalk_130 : decode cX7_takeWalk 130 = .ok (.sipush (-9999), 3) := by decide +kernel
theorem dX7_takeWalk_133 : decode cX7_takeWalk 133 = .ok (.sipush 9999, 3) := by decide +kernel
theorem dX7_takeWalk_136 : decode cX7_takeWalk 136 = .ok (.invokevirtual 78, 3) := by decide +kernel
theorem dX7_takeWalk_139 : decode cX7_takeWalk 139 = .ok (.ifCond .ne 5, 3) := by decide +kernel
theorem dX7_takeWalk_142 : decode cX7_takeWalk 142 = .ok (.iconst 0, 1) := by decide +kernel
theorem dX7_takeWalk_143 : decode cX7_takeWalk 143 = .ok (.ireturn, 1) := by decide +kernel
theorem dX7_takeWalk_144 : decode cX7_takeWalk 144 = .ok (.aload_n 1, 1) := by decide +kernel
theorem dX7_takeWalk_145 : decode cX7_takeWalk 145 = .ok (.getfield 120, 3) := by decide +kernel
theorem dX7_takeWalk_148 : decode cX7_takeWalk 148 = .ok (.iload_n 2, 1) := by decide +kernel
theorem dX7_takeWalk_149 : decode cX7_takeWalk 149 = .ok (.aload_n 0, 1) := by decide +kernel
theorem dX7_takeWalk_150 : decode cX7_takeWalk 150 = .ok (.getfield 31, 3) := by decide +kernel
theorem dX7_takeWalk_153 : decode cX7_takeWalk 153 = .ok (.iastore, 1) := by decide +kernel
theorem dX7_takeWalk_154 : decode cX7_takeWalk 154 = .ok (.aload_n 0, 1) := by decide +kernel
theorem dX7_takeWalk_155 : decode cX7_takeWalk 155 = .ok (.ldc 123, 2) := by decide +kernel
theorem dX7_takeWalk_157 : decode cX7_takeWalk 157 = .ok (.invokevirtual 67, 3) := by decide +kernel
theorem dX7_takeWalk_160 : decode cX7_takeWalk 160 = .ok (.ifCond .eq 12, 3) := by decide +kernel
theorem dX7_takeWalk_163 : decode cX7_takeWalk 163 = .ok (.aload_n 0, 1) := by decide +kernel
theorem dX7_takeWalk_164 : decode cX7_takeWalk 164 = .ok (.aload_n 1, 1) := by decide +kernel
theorem dX7_takeWalk_165 : decode cX7_takeWalk 165 = .ok (.iload_n 2, 1) := by decide +kernel
theorem dX7_takeWalk_166 : decode cX7_takeWalk 166 = .ok (.invokevirtual 125, 3) := by decide +kernel
theorem dX7_takeWalk_169 : decode cX7_takeWalk 169 = .ok (.ifCond .eq 7, 3) := by decide +kernel
theorem dX7_takeWalk_172 : decode cX7_takeWalk 172 = .ok (.iconst 1, 1) := by decide +kernel
theorem dX7_takeWalk_173 : decode cX7_takeWalk 173 = .ok (.goto 4, 3) := by decide +kernel
theorem dX7_takeWalk_176 : decode cX7_takeWalk 176 = .ok (.iconst 0, 1) := by decide +kernel
theorem dX7_takeWalk_177 : decode cX7_takeWalk 177 = .ok (.ireturn, 1) := by decide +kernel
theorem dX7_takeWay_0 : decode cX7_takeWay 0 = .ok (.aload_n 0, 1) := by decide +kernel
theorem dX7_takeWay_1 : decode cX7_takeWay 1 = .ok (.invokevirtual 34, 3) := by decide +kernel
theorem dX7_takeWay_4 : decode cX7_takeWay 4 = .ok (.aload_n 0, 1) := by decide +kernel
theorem dX7_takeWay_5 : decode cX7_takeWay 5 = .ok (.aload_n 1, 1) := by decide +kernel
theorem dX7_takeWay_6 : decode cX7_takeWay 6 = .ok (.getfield 60, 3) := by decide +kernel
theorem dX7_takeWay_9 : decode cX7_takeWay 9 = .ok (.iconst 1, 1) := by decide +kernel
theorem dX7_takeWay_10 : decode cX7_takeWay 10 = .ok (.isub, 1) := by decide +kernel
theorem dX7_takeWay_11 : decode cX7_takeWay 11 = .ok (.invokevirtual 70, 3) := by decide +kernel
theorem dX7_takeWay_14 : decode cX7_takeWay 14 = .ok (.ifCond .ne 5, 3) := by decide +kernel
theorem dX7_takeWay_17 : decode cX7_takeWay 17 = .ok (.iconst 0, 1) := by decide +kernel
theorem dX7_takeWay_18 : decode cX7_takeWay 18 = .ok (.ireturn, 1) := by decide +kernel
theorem dX7_takeWay_19 : decode cX7_takeWay 19 = .ok (.aload_n 0, 1) := by decide +kernel
theorem dX7_takeWay_20 : decode cX7_takeWay 20 = .ok (.getfield 31, 3) := by decide +kernel
theorem dX7_takeWay_23 : decode cX7_takeWay 23 = .ok (.istore_n 2, 1) := by decide +kernel
theorem dX7_takeWay_24 : decode cX7_takeWay 24 = .ok (.aload_n 0, 1) := by decide +kernel
theorem dX7_takeWay_25 : decode cX7_takeWay 25 = .ok (.getfield 19, 3) := by decide +kernel
theorem dX7_takeWay_28 : decode cX7_takeWay 28 = .ok (.iconst 2, 1) := by decide +kernel
theorem dX7_takeWay_29 : decode cX7_takeWay 29 = .ok (.if_icmp .ne 15, 3) := by decide +kernel
theorem dX7_takeWay_32 : decode cX7_takeWay 32 = .ok (.aload_n 0, 1) := by decide +kernel
theorem dX7_takeWay_33 : decode cX7_takeWay 33 = .ok (.getfield 28, 3) := by decide +kernel
theorem dX7_takeWay_36 : decode cX7_takeWay 36 = .ok (.iload_n 2, 1) := by decide +kernel
theorem dX7_takeWay_37 : decode cX7_takeWay 37 = .ok (.if_icmp .ne 7, 3) := by decide +kernel
theorem dX7_takeWay_40 : decode cX7_takeWay 40 = .ok (.iconst 1, 1) := by decide +kernel
theorem dX7_takeWay_41 : decode cX7_takeWay 41 = .ok (.goto 4, 3) := by decide +kernel
theorem dX7_takeWay_44 : decode cX7_takeWay 44 = .ok (.iconst 0, 1) := by decide +kernel
theorem dX7_takeWay_45 : decode cX7_takeWay 45 = .ok (.istore_n 3, 1) := by decide +kernel
theorem dX7_takeWay_46 : decode cX7_takeWay 46 = .ok (.iload_n 3, 1) := by decide +kernel
theorem dX7_takeWay_47 : decode cX7_takeWay 47 = .ok (.ifCond .ne 16, 3) := by decide +kernel
theorem dX7_takeWay_50 : decode cX7_takeWay 50 = .ok (.aload_n 0, 1) := by decide +kernel
theorem dX7_takeWay_51 : decode cX7_takeWay 51 = .ok (.aload_n 1, 1) := by decide +kernel
theorem dX7_takeWay_52 : decode cX7_takeWay 52 = .ok (.getfield 60, 3) := by decide +kernel
theorem dX7_takeWay_55 : decode cX7_takeWay 55 = .ok (.iconst 1, 1) := by decide +kernel
theorem dX7_takeWay_56 : decode cX7_takeWay 56 = .ok (.isub, 1) := by decide +kernel
theorem dX7_takeWay_57 : decode cX7_takeWay 57 = .ok (.invokevirtual 70, 3) := by decide +kernel
theorem dX7_takeWay_60 : decode cX7_takeWay 60 = .ok (.ifCond .ne 5, 3) := by decide +kernel
theorem dX7_takeWay_63 : decode cX7_takeWay 63 = .ok (.iconst 0, 1) := by decide +kernel
theorem dX7_takeWay_64 : decode cX7_takeWay 64 = .ok (.ireturn, 1) := by decide +kernel
theorem dX7_takeWay_65 : decode cX7_takeWay 65 = .ok (.aload_n 0, 1) := by decide +kernel
theorem dX7_takeWay_66 : decode cX7_takeWay 66 = .ok (.getfield 31, 3) := by decide +kernel
theorem dX7_takeWay_69 : decode cX7_takeWay 69 = .ok (.istore 4, 2) := by decide +kernel
theorem dX7_takeWay_71 : decode cX7_takeWay 71 = .ok (.aload_n 0, 1) := by decide +kernel
theorem dX7_takeWay_72 : decode cX7_takeWay 72 = .ok (.bipush (-99), 2) := by decide +kernel
theorem dX7_takeWay_74 : decode cX7_takeWay 74 = .ok (.sipush 999, 3) := by decide +kernel
theorem dX7_takeWay_77 : decode cX7_takeWay 77 = .ok (.invokevirtual 78, 3) := by decide +kernel
theorem dX7_takeWay_80 : decode cX7_takeWay 80 = .ok (.ifCond .ne 5, 3) := by decide +kernel
theorem dX7_takeWay_83 : decode cX7_takeWay 83 = .ok (.iconst 0, 1) := by decide +kernel
theorem dX7_takeWay_84 : decode cX7_takeWay 84 = .ok (.ireturn, 1) := by decide +kernel
theorem dX7_takeWay_85 : decode cX7_takeWay 85 = .ok (.aload_n 0, 1) := by decide +kernel
theorem dX7_takeWay_86 : decode cX7_takeWay 86 = .ok (.getfield 31, 3) := by decide +kernel
theorem dX7_takeWay_89 : decode cX7_takeWay 89 = .ok (.istore 5, 2) := by decide +kernel
theorem dX7_takeWay_91 : decode cX7_takeWay 91 = .ok (.aload_n 0, 1) := by decide +kernel
theorem dX7_takeWay_92 : decode cX7_takeWay 92 = .ok (.ldc 82, 2) := by decide +kernel
theorem dX7_takeWay_94 : decode cX7_takeWay 94 = .ok (.invokevirtual 67, 3) := by decide +kernel
theorem dX7_takeWay_97 : decode cX7_takeWay 97 = .ok (.ifCond .eq 17, 3) := by decide +kernel
theorem dX7_takeWay_100 : decode cX7_takeWay 100 = .ok (.aload_n 0, 1) := by decide +kernel
theorem dX7_takeWay_101 : decode cX7_takeWay 101 = .ok (.iload 5, 2) := by decide +kernel
theorem dX7_takeWay_103 : decode cX7_takeWay 103 = .ok (.sipush 999, 3) := by decide +kernel
theorem dX7_takeWay_106 : decode cX7_takeWay 106 = .ok (.invokevirtual 78, 3) := by decide +kernel
theorem dX7_takeWay_109 : decode cX7_takeWay 109 = .ok (.ifCond .ne 5, 3) := by decide +kernel
theorem dX7_takeWay_112 : decode cX7_takeWay 112 = .ok (.iconst 0, 1) := by decide +kernel
theorem dX7_takeWay_113 : decode cX7_takeWay 113 = .ok (.ireturn, 1) := by decide +kernel
theorem dX7_takeWay_114 : decode cX7_takeWay 114 = .ok (.aload_n 1, 1) := by decide +kernel
theorem dX7_takeWay_115 : decode cX7_takeWay 115 = .ok (.iload_n 2, 1) := by decide +kernel
theorem dX7_takeWay_116 : decode cX7_takeWay 116 = .ok (.iload 4, 2) := by decide +kernel
theorem dX7_takeWay_118 : decode cX7_takeWay 118 = .ok (.iload 5, 2) := by decide +kernel
theorem dX7_takeWay_120 : decode cX7_takeWay 120 = .ok (.aload_n 0, 1) := by decide +kernel
theorem dX7_takeWay_121 : decode cX7_takeWay 121 = .ok (.getfield 31, 3) := by decide +kernel
theorem dX7_takeWay_124 : decode cX7_takeWay 124 = .ok (.invokevirtual 84, 3) := by decide +kernel
theorem dX7_takeWay_127 : decode cX7_takeWay 127 = .ok (.aload_n 0, 1) := by decide +kernel
theorem dX7_takeWay_128 : decode cX7_takeWay 128 = .ok (.ldc 88, 2) := by decide +kernel
theorem dX7_takeWay_130 : decode cX7_takeWay 130 = .ok (.invokevirtual 67, 3) := by decide +kernel
theorem dX7_takeWay_133 : decode cX7_takeWay 133 = .ok (.ifCond .eq 14, 3) := by decide +kernel
theorem dX7_takeWay_136 : decode cX7_takeWay 136 = .ok (.aload_n 0, 1) := by decide +kernel
theorem dX7_takeWay_137 : decode cX7_takeWay 137 = .ok (.aload_n 1, 1) := by decide +kernel
theorem dX7_takeWay_138 : decode cX7_takeWay 138 = .ok (.iload 4, 2) := by decide +kernel
theorem dX7_takeWay_140 : decode cX7_takeWay 140 = .ok (.iload_n 2, 1) := by decide +kernel
theorem dX7_takeWay_141 : decode cX7_takeWay 141 = .ok (.invokevirtual 90, 3) := by decide +kernel
theorem dX7_takeWay_144 : decode cX7_takeWay 144 = .ok (.ifCond .eq 7, 3) := by decide +kernel
theorem dX7_takeWay_147 : decode cX7_takeWay 147 = .ok (.iconst 1, 1) := by decide +kernel
theorem dX7_takeWay_148 : decode cX7_takeWay 148 = .ok (.goto 4, 3) := by decide +kernel
theorem dX7_takeWay_151 : decode cX7_takeWay 151 = .ok (.iconst 0, 1) := by decide +kernel
theorem dX7_takeWay_152 : decode cX7_takeWay 152 = .ok (.ireturn, 1) := by decide +kernel
theorem dX7_takeWayBack_0 : decode cX7_takeWayBack 0 = .ok (.aload_n 0, 1) := by decide +kernel
theorem dX7_takeWayBack_1 : decode cX7_takeWayBack 1 = .ok (.bipush (-99), 2) := by decide +kernel
theorem dX7_takeWayBack_3 : decode cX7_takeWayBack 3 = .ok (.sipush 999, 3) := by decide +kernel
theorem dX7_takeWayBack_6 : decode cX7_takeWayBack 6 = .ok (.invokevirtual 78, 3) := by decide +kernel
theorem dX7_takeWayBack_9 : decode cX7_takeWayBack 9 = .ok (.ifCond .ne 5, 3) := by decide +kernel
theorem dX7_takeWayBack_12 : decode cX7_takeWayBack 12 = .ok (.iconst 0, 1) := by decide +kernel
theorem dX7_takeWayBack_13 : decode cX7_takeWayBack 13 = .ok (.ireturn, 1) := by decide +kernel
theorem dX7_takeWayBack_14 : decode cX7_takeWayBack 14 = .ok (.aload_n 1, 1) := by decide +kernel
theorem dX7_takeWayBack_15 : decode cX7_takeWayBack 15 = .ok (.iload_n 2, 1) := by decide +kernel
theorem dX7_takeWayBack_16 : decode cX7_takeWayBack 16 = .ok (.iload_n 3, 1) := by decide +kernel
theorem dX7_takeWayBack_17 : decode cX7_takeWayBack 17 = .ok (.aload_n 0, 1) := by decide +kernel
theorem dX7_takeWayBack_18 : decode cX7_takeWayBack 18 = .ok (.getfield 31, 3) := by decide +kernel
theorem dX7_takeWayBack_21 : decode cX7_takeWayBack 21 = .ok (.aload_n 0, 1) := by decide +kernel
theorem dX7_takeWayBack_22 : decode cX7_takeWayBack 22 = .ok (.getfield 31, 3) := by decide +kernel
theorem dX7_takeWayBack_25 : decode cX7_takeWayBack 25 = .ok (.invokevirtual 84, 3) := by decide +kernel
theorem dX7_takeWayBack_28 : decode cX7_takeWayBack 28 = .ok (.iconst 1, 1) := by decide +kernel
theorem dX7_takeWayBack_29 : decode cX7_takeWayBack 29 = .ok (.ireturn, 1) := by decide +kernel
theorem dX7_takeWord_0 : decode cX7_takeWord 0 = .ok (.aload_n 0, 1) := by decide +kernel
theorem dX7_takeWord_1 : decode cX7_takeWord 1 = .ok (.aload_n 1, 1) := by decide +kernel
theorem dX7_takeWord_2 : decode cX7_takeWord 2 = .ok (.invokevirtual 43, 3) := by decide +kernel
theorem dX7_takeWord_5 : decode cX7_takeWord 5 = .ok (.ifCond .ne 5, 3) := by decide +kernel
theorem dX7_takeWord_8 : decode cX7_takeWord 8 = .ok (.iconst 0, 1) := by decide +kernel
theorem dX7_takeWord_9 : decode cX7_takeWord 9 = .ok (.ireturn, 1) := by decide +kernel
theorem dX7_takeWord_10 : decode cX7_takeWord 10 = .ok (.aload_n 0, 1) := by decide +kernel
theorem dX7_takeWord_11 : decode cX7_takeWord 11 = .ok (.invokevirtual 34, 3) := by decide +kernel
theorem dX7_takeWord_14 : decode cX7_takeWord 14 = .ok (.iconst 1, 1) := by decide +kernel
theorem dX7_takeWord_15 : decode cX7_takeWord 15 = .ok (.ireturn, 1) := by decide +kernel
theorem dX7_tellTo_0 : decode cX7_tellTo 0 = .ok (.aload_n 0, 1) := by decide +kernel
theorem dX7_tellTo_1 : decode cX7_tellTo 1 = .ok (.iconst 0, 1) := by decide +kernel
theorem dX7_tellTo_2 : decode cX7_tellTo 2 = .ok (.putfield 25, 3) := by decide +kernel
theorem dX7_tellTo_5 : decode cX7_tellTo 5 = .ok (.aload_n 0, 1) := by decide +kernel
theorem dX7_tellTo_6 : decode cX7_tellTo 6 = .ok (.invokevirtual 34, 3) := by decide +kernel
theorem dX7_tellTo_9 : decode cX7_tellTo 9 = .ok (.iconst 1, 1) := by decide +kernel
theorem dX7_tellTo_10 : decode cX7_tellTo 10 = .ok (.istore_n 2, 1) := by decide +kernel
theorem dX7_tellTo_11 : decode cX7_tellTo 11 = .ok (.iload_n 2, 1) := by decide +kernel
theorem dX7_tellTo_12 : decode cX7_tellTo 12 = .ok (.bipush 120, 2) := by decide +kernel
theorem dX7_tellTo_14 : decode cX7_tellTo 14 = .ok (.if_icmp .gt 52, 3) := by decide +kernel
theorem dX7_tellTo_17 : decode cX7_tellTo 17 = .ok (.aload_n 0, 1) := by decide +kernel
theorem dX7_tellTo_18 : decode cX7_tellTo 18 = .ok (.aload_n 1, 1) := by decide +kernel
theorem dX7_tellTo_19 : decode cX7_tellTo 19 = .ok (.invokevirtual 37, 3) := by decide +kernel
theorem dX7_tellTo_22 : decode cX7_tellTo 22 = .ok (.ifCond .ne 10, 3) := by decide +kernel
theorem dX7_tellTo_25 : decode cX7_tellTo 25 = .ok (.iconst (-1), 1) := by decide +kernel
theorem dX7_tellTo_26 : decode cX7_tellTo 26 = .ok (.aload_n 0, 1) := by decide +kernel
theorem dX7_tellTo_27 : decode cX7_tellTo 27 = .ok (.getfield 22, 3) := by decide +kernel
theorem dX7_tellTo_30 : decode cX7_tellTo 30 = .ok (.isub, 1) := by decide +kernel
theorem dX7_tellTo_31 : decode cX7_tellTo 31 = .ok (.ireturn, 1) := by decide +kernel
theorem dX7_tellTo_32 : decode cX7_tellTo 32 = .ok (.aload_n 0, 1) := by decide +kernel
theorem dX7_tellTo_33 : decode cX7_tellTo 33 = .ok (.getfield 19, 3) := by decide +kernel
theorem dX7_tellTo_36 : decode cX7_tellTo 36 = .ok (.ifCond .ne 5, 3) := by decide +kernel
theorem dX7_tellTo_39 : decode cX7_tellTo 39 = .ok (.iload_n 2, 1) := by decide +kernel
theorem dX7_tellTo_40 : decode cX7_tellTo 40 = .ok (.ireturn, 1) := by decide +kernel
theorem dX7_tellTo_41 : decode cX7_tellTo 41 = .ok (.aload_n 0, 1) := by decide +kernel
theorem dX7_tellTo_42 : decode cX7_tellTo 42 = .ok (.getfield 19, 3) := by decide +kernel
theorem dX7_tellTo_45 : decode cX7_tellTo 45 = .ok (.iconst 3, 1) := by decide +kernel
theorem dX7_tellTo_46 : decode cX7_tellTo 46 = .ok (.if_icmp .eq 10, 3) := by decide +kernel
theorem dX7_tellTo_49 : decode cX7_tellTo 49 = .ok (.iconst (-1), 1) := by decide +kernel
theorem dX7_tellTo_50 : decode cX7_tellTo 50 = .ok (.aload_n 0, 1) := by decide +kernel
theorem dX7_tellTo_51 : decode cX7_tellTo 51 = .ok (.getfield 22, 3) := by decide +kernel
theorem dX7_tellTo_54 : decode cX7_tellTo 54 = .ok (.isub, 1) := by decide +kernel
theorem dX7_tellTo_55 : decode cX7_tellTo 55 = .ok (.ireturn, 1) := by decide +kernel
theorem dX7_tellTo_56 : decode cX7_tellTo 56 = .ok (.aload_n 0, 1) := by decide +kernel
theorem dX7_tellTo_57 : decode cX7_tellTo 57 = .ok (.invokevirtual 34, 3) := by decide +kernel
theorem dX7_tellTo_60 : decode cX7_tellTo 60 = .ok (.iinc 2 1, 3) := by decide +kernel
theorem dX7_tellTo_63 : decode cX7_tellTo 63 = .ok (.goto (-52), 3) := by decide +kernel
theorem dX7_tellTo_66 : decode cX7_tellTo 66 = .ok (.iconst (-1), 1) := by decide +kernel
theorem dX7_tellTo_67 : decode cX7_tellTo 67 = .ok (.aload_n 0, 1) := by decide +kernel
theorem dX7_tellTo_68 : decode cX7_tellTo 68 = .ok (.getfield 22, 3) := by decide +kernel
theorem dX7_tellTo_71 : decode cX7_tellTo 71 = .ok (.isub, 1) := by decide +kernel
theorem dX7_tellTo_72 : decode cX7_tellTo 72 = .ok (.ireturn, 1) := by decide +kernel
theorem dX8_areEnds_0 : decode cX8_areEnds 0 = .ok (.iload_n 0, 1) := by decide +kernel
theorem dX8_areEnds_1 : decode cX8_areEnds 1 = .ok (.bipush (-99), 2) := by decide +kernel
theorem dX8_areEnds_3 : decode cX8_areEnds 3 = .ok (.if_icmp .lt 19, 3) := by decide +kernel
theorem dX8_areEnds_6 : decode cX8_areEnds 6 = .ok (.iload_n 0, 1) := by decide +kernel
theorem dX8_areEnds_7 : decode cX8_areEnds 7 = .ok (.iload_n 1, 1) := by decide +kernel
theorem dX8_areEnds_8 : decode cX8_areEnds 8 = .ok (.if_icmp .gt 14, 3) := by decide +kernel
theorem dX8_areEnds_11 : decode cX8_areEnds 11 = .ok (.iload_n 1, 1) := by decide +kernel
theorem dX8_areEnds_12 : decode cX8_areEnds 12 = .ok (.sipush 999, 3) := by decide +kernel
theorem dX8_areEnds_15 : decode cX8_areEnds 15 = .ok (.if_icmp .gt 7, 3) := by decide +kernel
theorem dX8_areEnds_18 : decode cX8_areEnds 18 = .ok (.iconst 1, 1) := by decide +kernel
theorem dX8_areEnds_19 : decode cX8_areEnds 19 = .ok (.goto 4, 3) := by decide +kernel
theorem dX8_areEnds_22 : decode cX8_areEnds 22 = .ok (.iconst 0, 1) := by decide +kernel
theorem dX8_areEnds_23 : decode cX8_areEnds 23 = .ok (.ireturn, 1) := by decide +kernel
theorem dX8_as_0 : decode cX8_as 0 = .ok (.aload_n 0, 1) := by decide +kernel
theorem dX8_as_1 : decode cX8_as 1 = .ok (.getfield 12, 3) := by decide +kernel
theorem dX8_as_4 : decode cX8_as 4 = .ok (.getfield 159, 3) := by decide +kernel
theorem dX8_as_7 : decode cX8_as 7 = .ok (.iload_n 1, 1) := by decide +kernel
theorem dX8_as_8 : decode cX8_as 8 = .ok (.invokevirtual 171, 3) := by decide +kernel
theorem dX8_as_11 : decode cX8_as 11 = .ok (.ifCond .eq 10, 3) := by decide +kernel
theorem dX8_as_14 : decode cX8_as 14 = .ok (.iload_n 2, 1) := by decide +kernel
theorem dX8_as_15 : decode cX8_as 15 = .ok (.invokestatic 155, 3) := by decide +kernel
theorem dX8_as_18 : decode cX8_as 18 = .ok (.ifCond .ne 10, 3) := by decide +kernel
theorem dX8_as_21 : decode cX8_as 21 = .ok (.aload_n 0, 1) := by decide +kernel
theorem dX8_as_22 : decode cX8_as 22 = .ok (.ldc 95, 2) := by decide +kernel
theorem dX8_as_24 : decode cX8_as 24 = .ok (.invokevirtual 80, 3) := by decide +kernel
theorem dX8_as_27 : decode cX8_as 27 = .ok (.ireturn, 1) := by decide +kernel
theorem dX8_as_28 : decode cX8_as 28 = .ok (.aload_n 0, 1) := by decide +kernel
theorem dX8_as_29 : decode cX8_as 29 = .ok (.getfield 12, 3) := by decide +kernel
theorem dX8_as_32 : decode cX8_as 32 = .ok (.getfield 184, 3) := by decide +kernel
theorem dX8_as_35 : decode cX8_as 35 = .ok (.iload_n 1, 1) := by decide +kernel
theorem dX8_as_36 : decode cX8_as 36 = .ok (.iaload, 1) := by decide +kernel
theorem dX8_as_37 : decode cX8_as 37 = .ok (.iload_n 2, 1) := by decide +kernel
theorem dX8_as_38 : decode cX8_as 38 = .ok (.invokestatic 193, 3) := by decide +kernel
theorem dX8_as_41 : decode cX8_as 41 = .ok (.ifCond .ne 10, 3) := by decide +kernel
theorem dX8_as_44 : decode cX8_as 44 = .ok (.aload_n 0, 1) := by decide +kernel
theorem dX8_as_45 : decode cX8_as 45 = .ok (.ldc 196, 2) := by decide +kernel
theorem dX8_as_47 : decode cX8_as 47 = .ok (.invokevirtual 80, 3) := by decide +kernel
theorem dX8_as_50 : decode cX8_as 50 = .ok (.ireturn, 1) := by decide +kernel
theorem dX8_as_51 : decode cX8_as 51 = .ok (.aload_n 0, 1) := by decide +kernel
theorem dX8_as_52 : decode cX8_as 52 = .ok (.getfield 12, 3) := by decide +kernel
theorem dX8_as_55 : decode cX8_as 55 = .ok (.getfield 159, 3) := by decide +kernel
theorem dX8_as_58 : decode cX8_as 58 = .ok (.getfield 187, 3) := by decide +kernel
theorem dX8_as_61 : decode cX8_as 61 = .ok (.iload_n 1, 1) := by decide +kernel
theorem dX8_as_62 : decode cX8_as 62 = .ok (.iaload, 1) := by decide +kernel
theorem dX8_as_63 : decode cX8_as 63 = .ok (.ireturn, 1) := by decide +kernel
theorem dX8_ask_0 : decode cX8_ask 0 = .ok (.aload_n 0, 1) := by decide +kernel
theorem dX8_ask_1 : decode cX8_ask 1 = .ok (.getfield 12, 3) := by decide +kernel
theorem dX8_ask_4 : decode cX8_ask 4 = .ok (.invokevirtual 256, 3) := by decide +kernel
theorem dX8_ask_7 : decode cX8_ask 7 = .ok (.istore_n 1, 1) := by decide +kernel
theorem dX8_ask_8 : decode cX8_ask 8 = .ok (.iload_n 1, 1) := by decide +kernel
theorem dX8_ask_9 : decode cX8_ask 9 = .ok (.ifCond .ge 12, 3) := by decide +kernel
theorem dX8_ask_12 : decode cX8_ask 12 = .ok (.aload_n 0, 1) := by decide +kernel
theorem dX8_ask_13 : decode cX8_ask 13 = .ok (.ldc 113, 2) := by decide +kernel
theorem dX8_ask_15 : decode cX8_ask 15 = .ok (.invokevirtual 80, 3) := by decide +kernel
theorem dX8_ask_18 : decode cX8_ask 18 = .ok (.goto 4, 3) := by decide +kernel
theorem dX8_ask_21 : decode cX8_ask 21 = .ok (.iload_n 1, 1) := by decide +kernel
theorem dX8_ask_22 : decode cX8_ask 22 = .ok (.ireturn, 1) := by decide +kernel
theorem dX8_bestToMend_0 : decode cX8_bestToMend 0 = .ok (.iconst (-1), 1) := by decide +kernel
theorem dX8_bestToMend_1 : decode cX8_bestToMend 1 = .ok (.istore_n 2, 1) := by decide +kernel
theorem dX8_bestToMend_2 : decode cX8_bestToMend 2 = .ok (.iconst 0, 1) := by decide +kernel
theorem dX8_bestToMend_3 : decode cX8_bestToMend 3 = .ok (.istore_n 3, 1) := by decide +kernel
theorem dX8_bestToMend_4 : decode cX8_bestToMend 4 = .ok (.iconst 0, 1) := by decide +kernel
theorem dX8_bestToMend_5 : decode cX8_bestToMend 5 = .ok (.istore 4, 2) := by decide +kernel
theorem dX8_bestToMend_7 : decode cX8_bestToMend 7 = .ok (.iload 4, 2) := by decide +kernel
theorem dX8_bestToMend_9 : decode cX8_bestToMend 9 = .ok (.aload_n 0, 1) := by decide +kernel
theorem dX8_bestToMend_10 : decode cX8_bestToMend 10 = .ok (.getfield 12, 3) := by decide +kernel
theorem dX8_bestToMend_13 : decode cX8_bestToMend 13 = .ok (.getfield 75, 3) := by decide +kernel
theorem dX8_bestToMend_16 : decode cX8_bestToMend 16 = .ok (.if_icmp .ge 106, 3) := by decide +kernel
theorem dX8_bestToMend_19 : decode cX8_bestToMend 19 = .ok (.iload 4, 2) := by decide +kernel
theorem dX8_bestToMend_21 : decode cX8_bestToMend 21 = .ok (.iconst 1, 1) := by decide +kernel
theorem dX8_bestToMend_22 : decode cX8_bestToMend 22 = .ok (.iadd, 1) := by decide +kernel
theorem dX8_bestToMend_23 : decode cX8_bestToMend 23 = .ok (.istore 5, 2) := by decide +kernel
theorem dX8_bestToMend_25 : decode cX8_bestToMend 25 = .ok (.iload 5, 2) := by decide +kernel
theorem dX8_bestToMend_27 : decode cX8_bestToMend 27 = .ok (.aload_n 0, 1) := by decide +kernel
theorem dX8_bestToMend_28 : decode cX8_bestToMend 28 = .ok (.getfield 12, 3) := by decide +kernel
theorem dX8_bestToMend_31 : decode cX8_bestToMend 31 = .ok (.getfield 75, 3) := by decide +kernel
theorem dX8_bestToMend_34 : decode cX8_bestToMend 34 = .ok (.if_icmp .ge 82, 3) := by decide +kernel
theorem dX8_bestToMend_37 : decode cX8_bestToMend 37 = .ok (.aload_n 0, 1) := by decide +kernel
theorem dX8_bestToMend_38 : decode cX8_bestToMend 38 = .ok (.getfield 12, 3) := by decide +kernel
theorem dX8_bestToMend_41 : decode cX8_bestToMend 41 = .ok (.iload 4, 2) := by decide +kernel
theorem dX8_bestToMend_43 : decode cX8_bestToMend 43 = .ok (.iload 5, 2) := by decide +kernel
theorem dX8_bestToMend_45 : decode cX8_bestToMend 45 = .ok (.invokevirtual 219, 3) := by decide +kernel
theorem dX8_bestToMend_48 : decode cX8_bestToMend 48 = .ok (.ifCond .eq 62, 3) := by decide +kernel
theorem dX8_bestToMend_51 : decode cX8_bestToMend 51 = .ok (.aload_n 0, 1) := by decide +kernel
theorem dX8_bestToMend_52 : decode cX8_bestToMend 52 = .ok (.getfield 33, 3) := by decide +kernel
theorem dX8_bestToMend_55 : decode cX8_bestToMend 55 = .ok (.aload_n 0, 1) := by decide +kernel
theorem dX8_bestToMend_56 : decode cX8_bestToMend 56 = .ok (.getfield 29, 3) := by decide +kernel
theorem dX8_bestToMend_59 : decode cX8_bestToMend 59 = .ok (.aload_n 0, 1) := by decide +kernel
theorem dX8_bestToMend_60 : decode cX8_bestToMend 60 = .ok (.getfield 12, 3) := by decide +kernel
theorem dX8_bestToMend_63 : decode cX8_bestToMend 63 = .ok (.iload 4, 2) := by decide +kernel
theorem dX8_bestToMend_65 : decode cX8_bestToMend 65 = .ok (.iload 5, 2) := by decide +kernel
theorem dX8_bestToMend_67 : decode cX8_bestToMend 67 = .ok (.invokevirtual 259, 3) := by decide +kernel
theorem dX8_bestToMend_70 : decode cX8_bestToMend 70 = .ok (.ifCond .eq 40, 3) := by decide +kernel
theorem dX8_bestToMend_73 : decode cX8_bestToMend 73 = .ok (.iload_n 1, 1) := by decide +kernel
theorem dX8_bestToMend_74 : decode cX8_bestToMend 74 = .ok (.aload_n 0, 1) := by decide +kernel
theorem dX8_bestToMend_75 : decode cX8_bestToMend 75 = .ok (.getfield 33, 3) := by decide +kernel
theorem dX8_bestToMend_78 : decode cX8_bestToMend 78 = .ok (.aload_n 0, 1) := by decide +kernel
theorem dX8_bestToMend_79 : decode cX8_bestToMend 79 = .ok (.getfield 12, 3) := by decide +kernel
theorem dX8_bestToMend_82 : decode cX8_bestToMend 82 = .ok (.invokevirtual 263, 3) := by decide +kernel
theorem dX8_bestToMend_85 : decode cX8_bestToMend 85 = .ok (.isub, 1) := by decide +kernel
theorem dX8_bestToMend_86 : decode cX8_bestToMend 86 = .ok (.istore 6, 2) := by decide +kernel
theorem dX8_bestToMend_88 : decode cX8_bestToMend 88 = .ok (.iload_n 2, 1) := by decide +kernel
theorem dX8_bestToMend_89 : decode cX8_bestToMend 89 = .ok (.ifCond .lt 9, 3) := by decide +kernel
theorem dX8_bestToMend_92 : decode cX8_bestToMend 92 = .ok (.iload 6, 2) := by decide +kernel
theorem dX8_bestToMend_94 : decode cX8_bestToMend 94 = .ok (.iload_n 3, 1) := by decide +kernel
theorem dX8_bestToMend_95 : decode cX8_bestToMend 95 = .ok (.if_icmp .le 15, 3) := by decide +kernel
theorem dX8_bestToMend_98 : decode cX8_bestToMend 98 = .ok (.bipush 10, 2) := by decide +kernel
theorem dX8_bestToMend_100 : decode cX8_bestToMend 100 = .ok (.iload 4, 2) := by decide +kernel
theorem dX8_bestToMend_102 : decode cX8_bestToMend 102 = .ok (.imul, 1) := by decide +kernel
theorem dX8_bestToMend_103 : decode cX8_bestToMend 103 = .ok (.iload 5, 2) := by decide +kernel
theorem dX8_bestToMend_105 : decode cX8_bestToMend 105 = .ok (.iadd, 1) := by decide +kernel
theorem dX8_bestToMend_106 : decode cX8_bestToMend 106 = .ok (.istore_n 2, 1) := by decide +kernel
theorem dX8_bestToMend_107 : decode cX8_bestToMend 107 = .ok (.iload 6, 2) := by decide +kernel
theorem dX8_bestToMend_109 : decode cX8_bestToMend 109 = .ok (.istore_n 3, 1) := by decide +kernel
theorem dX8_bestToMend_110 : decode cX8_bestToMend 110 = .ok (.iinc 5 1, 3) := by decide +kernel
theorem dX8_bestToMend_113 : decode cX8_bestToMend 113 = .ok (.goto (-88), 3) := by decide +kernel
theorem dX8_bestToMend_116 : decode cX8_bestToMend 116 = .ok (.iinc 4 1, 3) := by decide +kernel
theorem dX8_bestToMend_119 : decode cX8_bestToMend 119 = .ok (.goto (-112), 3) := by decide +kernel
theorem dX8_bestToMend_122 : decode cX8_bestToMend 122 = .ok (.iload_n 2, 1) := by decide +kernel
theorem dX8_bestToMend_123 : decode cX8_bestToMend 123 = .ok (.ireturn, 1) := by decide +kernel
theorem dX8_by_0 : decode cX8_by 0 = .ok (.aload_n 0, 1) := by decide +kernel
theorem dX8_by_1 : decode cX8_by 1 = .ok (.getfield 12, 3) := by decide +kernel
theorem dX8_by_4 : decode cX8_by 4 = .ok (.iload_n 1, 1) := by decide +kernel
theorem dX8_by_5 : decode cX8_by 5 = .ok (.i2l, 1) := by decide +kernel
theorem dX8_by_6 : decode cX8_by 6 = .ok (.invokevirtual 87, 3) := by decide +kernel
theorem dX8_by_9 : decode cX8_by 9 = .ok (.ifCond .eq 25, 3) := by decide +kernel
theorem dX8_by_12 : decode cX8_by 12 = .ok (.aload_n 0, 1) := by decide +kernel
theorem dX8_by_13 : decode cX8_by 13 = .ok (.getfield 12, 3) := by decide +kernel
theorem dX8_by_16 : decode cX8_by 16 = .ok (.iload_n 2, 1) := by decide +kernel
theorem dX8_by_17 : decode cX8_by 17 = .ok (.i2l, 1) := by decide +kernel
theorem dX8_by_18 : decode cX8_by 18 = .ok (.invokevirtual 87, 3) := by decide +kernel
theorem dX8_by_21 : decode cX8_by 21 = .ok (.ifCond .eq 13, 3) := by decide +kernel
theorem dX8_by_24 : decode cX8_by 24 = .ok (.iload_n 3, 1) := by decide +kernel
theorem dX8_by_25 : decode cX8_by 25 = .ok (.iconst (-1), 1) := by decide +kernel
theorem dX8_by_26 : decode cX8_by 26 = .ok (.bipush 9, 2) := by decide +kernel
theorem dX8_by_28 : decode cX8_by 28 = .ok (.invokestatic 91, 3) := by decide +kernel
theorem dX8_by_31 : decode cX8_by 31 = .ok (.ifCond .ne 10, 3) := by decide +kernel
theorem dX8_by_34 : decode cX8_by 34 = .ok (.aload_n 0, 1) := by decide +kernel
theorem dX8_by_35 : decode cX8_by 35 = .ok (.ldc 95, 2) := by decide +kernel
theorem dX8_by_37 : decode cX8_by 37 = .ok (.invokevirtual 80, 3) := by decide +kernel
theorem dX8_by_40 : decode cX8_by 40 = .ok (.ireturn, 1) := by decide +kernel
theorem dX8_by_41 : decode cX8_by 41 = .ok (.aload_n 0, 1) := by decide +kernel
theorem dX8_by_42 : decode cX8_by 42 = .ok (.invokevirtual 128, 3) := by decide +kernel
theorem dX8_by_45 : decode cX8_by 45 = .ok (.ifCond .eq 10, 3) := by decide +kernel
theorem dX8_by_48 : decode cX8_by 48 = .ok (.aload_n 0, 1) := by decide +kernel
theorem dX8_by_49 : decode cX8_by 49 = .ok (.ldc 132, 2) := by decide +kernel
theorem dX8_by_51 : decode cX8_by 51 = .ok (.invokevirtual 80, 3) := by decide +kernel
theorem dX8_by_54 : decode cX8_by 54 = .ok (.ireturn, 1) := by decide +kernel
theorem dX8_by_55 : decode cX8_by 55 = .ok (.aload_n 0, 1) := by decide +kernel
theorem dX8_by_56 : decode cX8_by 56 = .ok (.getfield 29, 3) := by decide +kernel
theorem dX8_by_59 : decode cX8_by 59 = .ok (.iload_n 1, 1) := by decide +kernel
theorem dX8_by_60 : decode cX8_by 60 = .ok (.iload_n 2, 1) := by decide +kernel
theorem dX8_by_61 : decode cX8_by 61 = .ok (.invokevirtual 139, 3) := by decide +kernel
theorem dX8_by_64 : decode cX8_by 64 = .ok (.istore 4, 2) := by decide +kernel
theorem dX8_by_66 : decode cX8_by 66 = .ok (.iload 4, 2) := by decide +kernel
theorem dX8_by_68 : decode cX8_by 68 = .ok (.ifCond .lt 9, 3) := by decide +kernel
theorem dX8_by_71 : decode cX8_by 71 = .ok (.iload_n 3, 1) := by decide +kernel
theorem dX8_by_72 : decode cX8_by 72 = .ok (.iload 4, 2) := by decide +kernel
theorem dX8_by_74 : decode cX8_by 74 = .ok (.if_icmp .le 10, 3) := by decide +kernel
theorem dX8_by_77 : decode cX8_by 77 = .ok (.aload_n 0, 1) := by decide +kernel
theorem dX8_by_78 : decode cX8_by 78 = .ok (.ldc 113, 2) := by decide +kernel
theorem dX8_by_80 : decode cX8_by 80 = .ok (.invokevirtual 80, 3) := by decide +kernel
theorem dX8_by_83 : decode cX8_by 83 = .ok (.ireturn, 1) := by decide +kernel
theorem dX8_by_84 : decode cX8_by 84 = .ok (.iload_n 3, 1) := by decide +kernel
theorem dX8_by_85 : decode cX8_by 85 = .ok (.ifCond .ge 8, 3) := by decide +kernel
theorem dX8_by_88 : decode cX8_by 88 = .ok (.iload 4, 2) := by decide +kernel
theorem dX8_by_90 : decode cX8_by 90 = .ok (.goto 17, 3) := by decide +kernel
theorem dX8_by_93 : decode cX8_by 93 = .ok (.aload_n 0, 1) := by decide +kernel
theorem dX8_by_94 : decode cX8_by 94 = .ok (.getfield 29, 3) := by decide +kernel
theorem dX8_by_97 : decode cX8_by 97 = .ok (.aload_n 0, 1) := by decide +kernel
theorem dX8_by_98 : decode cX8_by 98 = .ok (.getfield 12, 3) := by decide +kernel
theorem dX8_by_101 : decode cX8_by 101 = .ok (.iload_n 1, 1) := by decide +kernel
theorem dX8_by_102 : decode cX8_by 102 = .ok (.iload_n 2, 1) := by decide +kernel
theorem dX8_by_103 : decode cX8_by 103 = .ok (.iload_n 3, 1) := by decide +kernel
theorem dX8_by_104 : decode cX8_by 104 = .ok (.invokevirtual 142, 3) := by decide +kernel
theorem dX8_by_107 : decode cX8_by 107 = .ok (.ireturn, 1) := by decide +kernel
theorem dX8_count_0 : decode cX8_count 0 = .ok (.iload_n 1, 1) := by decide +kernel
theorem dX8_count_1 : decode cX8_count 1 = .ok (.tableswitch 93 0 5 #[39, 47, 55, 66, 77, 85], 39) := by decide +kernel
theorem dX8_count_40 : decode cX8_count 40 = .ok (.aload_n 0, 1) := by decide +kernel
theorem dX8_count_41 : decode cX8_count 41 = .ok (.getfield 12, 3) := by decide +kernel
theorem dX8_count_44 : decode cX8_count 44 = .ok (.getfield 75, 3) := by decide +kernel
theorem dX8_count_47 : decode cX8_count 47 = .ok (.ireturn, 1) := by decide +kernel
theorem dX8_count_48 : decode cX8_count 48 = .ok (.aload_n 0, 1) := by decide +kernel
theorem dX8_count_49 : decode cX8_count 49 = .ok (.getfield 12, 3) := by decide +kernel
theorem dX8_count_52 : decode cX8_count 52 = .ok (.invokevirtual 247, 3) := by decide +kernel
theorem dX8_count_55 : decode cX8_count 55 = .ok (.ireturn, 1) := by decide +kernel
theorem dX8_count_56 : decode cX8_count 56 = .ok (.aload_n 0, 1) := by decide +kernel
theorem dX8_count_57 : decode cX8_count 57 = .ok (.getfield 12, 3) := by decide +kernel
theorem dX8_count_60 : decode cX8_count 60 = .ok (.getfield 159, 3) := by decide +kernel
theorem dX8_count_63 : decode cX8_count 63 = .ok (.getfield 326, 3) := by decide +kernel
theorem dX8_count_66 : decode cX8_count 66 = .ok (.ireturn, 1) := by decide +kernel
theorem dX8_count_67 : decode cX8_count 67 = .ok (.aload_n 0, 1) := by decide +kernel
theorem dX8_count_68 : decode cX8_count 68 = .ok (.getfield 12, 3) := by decide +kernel
theorem dX8_count_71 : decode cX8_count 71 = .ok (.getfield 229, 3) := by decide +kernel
theorem dX8_count_74 : decode cX8_count 74 = .ok (.getfield 326, 3) := by decide +kernel
theorem dX8_count_77 : decode cX8_count 77 = .ok (.ireturn, 1) := by decide +kernel
theorem dX8_count_78 : decode cX8_count 78 = .ok (.aload_n 0, 1) := by decide +kernel
theorem dX8_count_79 : decode cX8_count 79 = .ok (.getfield 60, 3) := by decide +kernel
theorem dX8_count_82 : decode cX8_count 82 = .ok (.getfield 275, 3) := by decide +kernel
theorem dX8_count_85 : decode cX8_count 85 = .ok (.ireturn, 1) := by decide +kernel
theorem dX8_count_86 : decode cX8_count 86 = .ok (.aload_n 0, 1) := by decide +kernel
theorem dX8_count_87 : decode cX8_count 87 = .ok (.getfield 12, 3) := by decide +kernel
theorem dX8_count_90 : decode cX8_count 90 = .ok (.invokevirtual 329, 3) := by decide +kernel
theorem dX8_count_93 : decode cX8_count 93 = .ok (.ireturn, 1) := by decide +kernel
theorem dX8_count_94 : decode cX8_count 94 = .ok (.aload_n 0, 1) := by decide +kernel
theorem dX8_count_95 : decode cX8_count 95 = .ok (.ldc 95, 2) := by decide +kernel
theorem dX8_count_97 : decode cX8_count 97 = .ok (.invokevirtual 80, 3) := by decide +kernel
theorem dX8_count_100 : decode cX8_count 100 = .ok (.ireturn, 1) := by decide +kernel
theorem dX8_errands_0 : decode cX8_errands 0 = .ok (.aload_n 0, 1) := by decide +kernel
theorem dX8_errands_1 : decode cX8_errands 1 = .ok (.getfield 12, 3) := by decide +kernel
theorem dX8_errands_4 : decode cX8_errands 4 = .ok (.iload_n 1, 1) := by decide +kernel
theorem dX8_errands_5 : decode cX8_errands 5 = .ok (.i2l, 1) := by decide +kernel
theorem dX8_errands_6 : decode cX8_errands 6 = .ok (.invokevirtual 87, 3) := by decide +kernel
theorem dX8_errands_9 : decode cX8_errands 9 = .ok (.ifCond .eq 13, 3) := by decide +kernel
theorem dX8_errands_12 : decode cX8_errands 12 = .ok (.iload_n 2, 1) := by decide +kernel
theorem dX8_errands_13 : decode cX8_errands 13 = .ok (.iconst 0, 1) := by decide +kernel
theorem dX8_errands_14 : decode cX8_errands 14 = .ok (.bipush 99, 2) := by decide +kernel
theorem dX8_errands_16 : decode cX8_errands 16 = .ok (.invokestatic 91, 3) := by decide +kernel
theorem dX8_errands_19 : decode cX8_errands 19 = .ok (.ifCond .ne 10, 3) := by decide +kernel
theorem dX8_errands_22 : decode cX8_errands 22 = .ok (.aload_n 0, 1) := by decide +kernel
theorem dX8_errands_23 : decode cX8_errands 23 = .ok (.ldc 95, 2) := by decide +kernel
theorem dX8_errands_25 : decode cX8_errands 25 = .ok (.invokevirtual 80, 3) := by decide +kernel
theorem dX8_errands_28 : decode cX8_errands 28 = .ok (.ireturn, 1) := by decide +kernel
theorem dX8_errands_29 : decode cX8_errands 29 = .ok (.aload_n 0, 1) := by decide +kernel
theorem dX8_errands_30 : decode cX8_errands 30 = .ok (.getfield 12, 3) := by decide +kernel
theorem dX8_errands_33 : decode cX8_errands 33 = .ok (.getfield 96, 3) := by decide +kernel
theorem dX8_errands_36 : decode cX8_errands 36 = .ok (.iload_n 1, 1) := by decide +kernel
theorem dX8_errands_37 : decode cX8_errands 37 = .ok (.iaload, 1) := by decide +kernel
theorem dX8_errands_38 : decode cX8_errands 38 = .ok (.istore_n 3, 1) := by decide +kernel
theorem dX8_errands_39 : decode cX8_errands 39 = .ok (.aload_n 0, 1) := by decide +kernel
theorem dX8_errands_40 : decode cX8_errands 40 = .ok (.getfield 12, 3) := by decide +kernel
theorem dX8_errands_43 : decode cX8_errands 43 = .ok (.getfield 96, 3) := by decide +kernel
theorem dX8_errands_46 : decode cX8_errands 46 = .ok (.iload_n 1, 1) := by decide +kernel
theorem dX8_errands_47 : decode cX8_errands 47 = .ok (.iload_n 2, 1) := by decide +kernel
theorem dX8_errands_48 : decode cX8_errands 48 = .ok (.iastore, 1) := by decide +kernel
theorem dX8_errands_49 : decode cX8_errands 49 = .ok (.iload_n 3, 1) := by decide +kernel
theorem dX8_errands_50 : decode cX8_errands 50 = .ok (.ireturn, 1) := by decide +kernel
theorem dX8_far_0 : decode cX8_far 0 = .ok (.aload_n 0, 1) := by decide +kernel
theorem dX8_far_1 : decode cX8_far 1 = .ok (.getfield 12, 3) := by decide +kernel
theorem dX8_far_4 : decode cX8_far 4 = .ok (.iload_n 1, 1) := by decide +kernel
theorem dX8_far_5 : decode cX8_far 5 = .ok (.i2l, 1) := by decide +kernel
theorem dX8_far_6 : decode cX8_far 6 = .ok (.invokevirtual 87, 3) := by decide +kernel
theorem dX8_far_9 : decode cX8_far 9 = .ok (.ifCond .eq 15, 3) := by decide +kernel
theorem dX8_far_12 : decode cX8_far 12 = .ok (.aload_n 0, 1) := by decide +kernel
theorem dX8_far_13 : decode cX8_far 13 = .ok (.getfield 12, 3) := by decide +kernel
theorem dX8_far_16 : decode cX8_far 16 = .ok (.iload_n 2, 1) := by decide +kernel
theorem dX8_far_17 : decode cX8_far 17 = .ok (.i2l, 1) := by decide +kernel
theorem dX8_far_18 : decode cX8_far 18 = .ok (.invokevirtual 87, 3) := by decide +kernel
theorem dX8_far_21 : decode cX8_far 21 = .ok (.ifCond .ne 10, 3) := by decide +kernel
theorem dX8_far_24 : decode cX8_far 24 = .ok (.aload_n 0, 1) := by decide +kernel
theorem dX8_far_25 : decode cX8_far 25 = .ok (.ldc 95, 2) := by decide +kernel
theorem dX8_far_27 : decode cX8_far 27 = .ok (.invokevirtual 80, 3) := by decide +kernel
theorem dX8_far_30 : decode cX8_far 30 = .ok (.ireturn, 1) := by decide +kernel
theorem dX8_far_31 : decode cX8_far 31 = .ok (.aload_n 0, 1) := by decide +kernel
theorem dX8_far_32 : decode cX8_far 32 = .ok (.invokevirtual 128, 3) := by decide +kernel
theorem dX8_far_35 : decode cX8_far 35 = .ok (.ifCond .eq 10, 3) := by decide +kernel
theorem dX8_far_38 : decode cX8_far 38 = .ok (.aload_n 0, 1) := by decide +kernel
theorem dX8_far_39 : decode cX8_far 39 = .ok (.ldc 132, 2) := by decide +kernel
theorem dX8_far_41 : decode cX8_far 41 = .ok (.invokevirtual 80, 3) := by decide +kernel
theorem dX8_far_44 : decode cX8_far 44 = .ok (.ireturn, 1) := by decide +kernel
theorem dX8_far_45 : decode cX8_far 45 = .ok (.aload_n 0, 1) := by decide +kernel
theorem dX8_far_46 : decode cX8_far 46 = .ok (.aload_n 0, 1) := by decide +kernel
theorem dX8_far_47 : decode cX8_far 47 = .ok (.getfield 29, 3) := by decide +kernel
theorem dX8_far_50 : decode cX8_far 50 = .ok (.iload_n 1, 1) := by decide +kernel
theorem dX8_far_51 : decode cX8_far 51 = .ok (.iload_n 2, 1) := by decide +kernel
theorem dX8_far_52 : decode cX8_far 52 = .ok (.invokevirtual 133, 3) := by decide +kernel
theorem dX8_far_55 : decode cX8_far 55 = .ok (.invokevirtual 136, 3) := by decide +kernel
theorem dX8_far_58 : decode cX8_far 58 = .ok (.ireturn, 1) := by decide +kernel
theorem dX8_feed_0 : decode cX8_feed 0 = .ok (.iload_n 2, 1) := by decide +kernel
theorem dX8_feed_1 : decode cX8_feed 1 = .ok (.iconst 1, 1) := by decide +kernel
theorem dX8_feed_2 : decode cX8_feed 2 = .ok (.iconst 4, 1) := by decide +kernel
theorem dX8_feed_3 : decode cX8_feed 3 = .ok (.invokestatic 91, 3) := by decide +kernel
theorem dX8_feed_6 : decode cX8_feed 6 = .ok (.ifCond .ne 10, 3) := by decide +kernel
theorem dX8_feed_9 : decode cX8_feed 9 = .ok (.aload_n 0, 1) := by decide +kernel
theorem dX8_feed_10 : decode cX8_feed 10 = .ok (.ldc 95, 2) := by decide +kernel
theorem dX8_feed_12 : decode cX8_feed 12 = .ok (.invokevirtual 80, 3) := by decide +kernel
theorem dX8_feed_15 : decode cX8_feed 15 = .ok (.ireturn, 1) := by decide +kernel
theorem dX8_feed_16 : decode cX8_feed 16 = .ok (.aload_n 0, 1) := by decide +kernel
theorem dX8_feed_17 : decode cX8_feed 17 = .ok (.getfield 60, 3) := by decide +kernel
theorem dX8_feed_20 : decode cX8_feed 20 = .ok (.getfield 275, 3) := by decide +kernel
theorem dX8_feed_23 : decode cX8_feed 23 = .ok (.iload_n 2, 1) := by decide +kernel
theorem dX8_feed_24 : decode cX8_feed 24 = .ok (.iadd, 1) := by decide +kernel
theorem dX8_feed_25 : decode cX8_feed 25 = .ok (.bipush 120, 2) := by decide +kernel
theorem dX8_feed_27 : decode cX8_feed 27 = .ok (.if_icmp .le 10, 3) := by decide +kernel
theorem dX8_feed_30 : decode cX8_feed 30 = .ok (.aload_n 0, 1) := by decide +kernel
theorem dX8_feed_31 : decode cX8_feed 31 = .ok (.ldc 79, 2) := by decide +kernel
theorem dX8_feed_33 : decode cX8_feed 33 = .ok (.invokevirtual 80, 3) := by decide +kernel
theorem dX8_feed_36 : decode cX8_feed 36 = .ok (.ireturn, 1) := by decide +kernel
theorem dX8_feed_37 : decode cX8_feed 37 = .ok (.iload_n 2, 1) := by decide +kernel
theorem dX8_feed_38 : decode cX8_feed 38 = .ok (.iconst 1, 1) := by decide +kernel
theorem dX8_feed_39 : decode cX8_feed 39 = .ok (.isub, 1) := by decide +kernel
theorem dX8_feed_40 : decode cX8_feed 40 = .ok (.istore_n 3, 1) := by decide +kernel
theorem dX8_feed_41 : decode cX8_feed 41 = .ok (.iload_n 3, 1) := by decide +kernel
theorem dX8_feed_42 : decode cX8_feed 42 = .ok (.ifCond .lt 26, 3) := by decide +kernel
theorem dX8_feed_45 : decode cX8_feed 45 = .ok (.aload_n 0, 1) := by decide +kernel
theorem dX8_feed_46 : decode cX8_feed 46 = .ok (.getfield 60, 3) := by decide +kernel
theorem dX8_feed_49 : decode cX8_feed 49 = .ok (.iload_n 1, 1) := by decide +kernel
theorem dX8_feed_50 : decode cX8_feed 50 = .ok (.bipush 8, 2) := by decide +kernel
theorem dX8_feed_52 : decode cX8_feed 52 = .ok (.iload_n 3, 1) := by decide +kernel
theorem dX8_feed_53 : decode cX8_feed 53 = .ok (.imul, 1) := by decide +kernel
theorem dX8_feed_54 : decode cX8_feed 54 = .ok (.iushr, 1) := by decide +kernel
theorem dX8_feed_55 : decode cX8_feed 55 = .ok (.sipush 255, 3) := by decide +kernel
theorem dX8_feed_58 : decode cX8_feed 58 = .ok (.iand, 1) := by decide +kernel
theorem dX8_feed_59 : decode cX8_feed 59 = .ok (.invokevirtual 278, 3) := by decide +kernel
theorem dX8_feed_62 : decode cX8_feed 62 = .ok (.iinc 3 (-1), 3) := by decide +kernel
theorem dX8_feed_65 : decode cX8_feed 65 = .ok (.goto (-24), 3) := by decide +kernel
theorem dX8_feed_68 : decode cX8_feed 68 = .ok (.aload_n 0, 1) := by decide +kernel
theorem dX8_feed_69 : decode cX8_feed 69 = .ok (.getfield 60, 3) := by decide +kernel
theorem dX8_feed_72 : decode cX8_feed 72 = .ok (.getfield 275, 3) := by decide +kernel
theorem dX8_feed_75 : decode cX8_feed 75 = .ok (.ireturn, 1) := by decide +kernel
theorem dX8_finding_0 : decode cX8_finding 0 = .ok (.ldc 95, 2) := by decide +kernel
theorem dX8_finding_2 : decode cX8_finding 2 = .ok (.iload_n 1, 1) := by decide +kernel
theorem dX8_finding_3 : decode cX8_finding 3 = .ok (.isub, 1) := by decide +kernel
theorem dX8_finding_4 : decode cX8_finding 4 = .ok (.istore_n 2, 1) := by decide +kernel
theorem dX8_finding_5 : decode cX8_finding 5 = .ok (.iload_n 2, 1) := by decide +kernel
theorem dX8_finding_6 : decode cX8_finding 6 = .ok (.ifCond .lt 19, 3) := by decide +kernel
theorem dX8_finding_9 : decode cX8_finding 9 = .ok (.iload_n 2, 1) := by decide +kernel
theorem dX8_finding_10 : decode cX8_finding 10 = .ok (.bipush 7, 2) := by decide +kernel
theorem dX8_finding_12 : decode cX8_finding 12 = .ok (.if_icmp .ge 13, 3) := by decide +kernel
theorem dX8_finding_15 : decode cX8_finding 15 = .ok (.aload_n 0, 1) := by decide +kernel
theorem dX8_finding_16 : decode cX8_finding 16 = .ok (.getfield 70, 3) := by decide +kernel
theorem dX8_finding_19 : decode cX8_finding 19 = .ok (.iload_n 2, 1) := by decide +kernel
theorem dX8_finding_20 : decode cX8_finding 20 = .ok (.dup2, 1) := by decide +kernel
theorem dX8_finding_21 : decode cX8_finding 21 = .ok (.iaload, 1) := by decide +kernel
theorem dX8_finding_22 : decode cX8_finding 22 = .ok (.iconst 1, 1) := by decide +kernel
theorem dX8_finding_23 : decode cX8_finding 23 = .ok (.iadd, 1) := by decide +kernel
theorem dX8_finding_24 : decode cX8_finding 24 = .ok (.iastore, 1) := by decide +kernel
theorem dX8_finding_25 : decode cX8_finding 25 = .ok (.iload_n 1, 1) := by decide +kernel
theorem dX8_finding_26 : decode cX8_finding 26 = .ok (.ireturn, 1) := by decide +kernel
theorem dX8_fit_0 : decode cX8_fit 0 = .ok (.aload_n 0, 1) := by decide +kernel
theorem dX8_fit_1 : decode cX8_fit 1 = .ok (.getfield 46, 3) := by decide +kernel
theorem dX8_fit_4 : decode cX8_fit 4 = .ok (.aload_n 0, 1) := by decide +kernel
theorem dX8_fit_5 : decode cX8_fit 5 = .ok (.getfield 12, 3) := by decide +kernel
theorem dX8_fit_8 : decode cX8_fit 8 = .ok (.invokevirtual 209, 3) := by decide +kernel
theorem dX8_fit_11 : decode cX8_fit 11 = .ok (.aload_n 0, 1) := by decide +kernel
theorem dX8_fit_12 : decode cX8_fit 12 = .ok (.getfield 46, 3) := by decide +kernel
theorem dX8_fit_15 : decode cX8_fit 15 = .ok (.aload_n 0, 1) := by decide +kernel
theorem dX8_fit_16 : decode cX8_fit 16 = .ok (.getfield 12, 3) := by decide +kernel
theorem dX8_fit_19 : decode cX8_fit 19 = .ok (.invokevirtual 212, 3) := by decide +kernel
theorem dX8_fit_22 : decode cX8_fit 22 = .ok (.ifCond .eq 7, 3) := by decide +kernel
theorem dX8_fit_25 : decode cX8_fit 25 = .ok (.iconst 1, 1) := by decide +kernel
theorem dX8_fit_26 : decode cX8_fit 26 = .ok (.goto 4, 3) := by decide +kernel
theorem dX8_fit_29 : decode cX8_fit 29 = .ok (.iconst 0, 1) := by decide +kernel
theorem dX8_fit_30 : decode cX8_fit 30 = .ok (.ireturn, 1) := by decide +kernel
theorem dX8_goes_0 : decode cX8_goes 0 = .ok (.aload_n 0, 1) := by decide +kernel
theorem dX8_goes_1 : decode cX8_goes 1 = .ok (.getfield 12, 3) := by decide +kernel
theorem dX8_goes_4 : decode cX8_goes 4 = .ok (.iload_n 1, 1) := by decide +kernel
theorem dX8_goes_5 : decode cX8_goes 5 = .ok (.i2l, 1) := by decide +kernel
theorem dX8_goes_6 : decode cX8_goes 6 = .ok (.invokevirtual 87, 3) := by decide +kernel
theorem dX8_goes_9 : decode cX8_goes 9 = .ok (.ifCond .eq 14, 3) := by decide +kernel
theorem dX8_goes_12 : decode cX8_goes 12 = .ok (.iload_n 2, 1) := by decide +kernel
theorem dX8_goes_13 : decode cX8_goes 13 = .ok (.iconst 0, 1) := by decide +kernel
theorem dX8_goes_14 : decode cX8_goes 14 = .ok (.sipush 1000, 3) := by decide +kernel
theorem dX8_goes_17 : decode cX8_goes 17 = .ok (.invokestatic 91, 3) := by decide +kernel
theorem dX8_goes_20 : decode cX8_goes 20 = .ok (.ifCond .ne 10, 3) := by decide +kernel
theorem dX8_goes_23 : decode cX8_goes 23 = .ok (.aload_n 0, 1) := by decide +kernel
theorem dX8_goes_24 : decode cX8_goes 24 = .ok (.ldc 95, 2) := by decide +kernel
theorem dX8_goes_26 : decode cX8_goes 26 = .ok (.invokevirtual 80, 3) := by decide +kernel
theorem dX8_goes_29 : decode cX8_goes 29 = .ok (.ireturn, 1) := by decide +kernel
theorem dX8_goes_30 : decode cX8_goes 30 = .ok (.aload_n 0, 1) := by decide +kernel
theorem dX8_goes_31 : decode cX8_goes 31 = .ok (.getfield 12, 3) := by decide +kernel
theorem dX8_goes_34 : decode cX8_goes 34 = .ok (.iload_n 1, 1) := by decide +kernel
theorem dX8_goes_35 : decode cX8_goes 35 = .ok (.iload_n 2, 1) := by decide +kernel
theorem dX8_goes_36 : decode cX8_goes 36 = .ok (.invokevirtual 269, 3) := by decide +kernel
theorem dX8_goes_39 : decode cX8_goes 39 = .ok (.istore_n 3, 1) := by decide +kernel
theorem dX8_goes_40 : decode cX8_goes 40 = .ok (.iload_n 3, 1) := by decide +kernel
theorem dX8_goes_41 : decode cX8_goes 41 = .ok (.ifCond .ge 12, 3) := by decide +kernel
theorem dX8_goes_44 : decode cX8_goes 44 = .ok (.aload_n 0, 1) := by decide +kernel
theorem dX8_goes_45 : decode cX8_goes 45 = .ok (.ldc 113, 2) := by decide +kernel
theorem dX8_goes_47 : decode cX8_goes 47 = .ok (.invokevirtual 80, 3) := by decide +kernel
theorem dX8_goes_50 : decode cX8_goes 50 = .ok (.goto 4, 3) := by decide +kernel
theorem dX8_goes_53 : decode cX8_goes 53 = .ok (.iload_n 3, 1) := by decide +kernel
theorem dX8_goes_54 : decode cX8_goes 54 = .ok (.ireturn, 1) := by decide +kernel
theorem dX8_height_0 : decode cX8_height 0 = .ok (.aload_n 0, 1) := by decide +kernel
theorem dX8_height_1 : decode cX8_height 1 = .ok (.getfield 12, 3) := by decide +kernel
theorem dX8_height_4 : decode cX8_height 4 = .ok (.iload_n 1, 1) := by decide +kernel
theorem dX8_height_5 : decode cX8_height 5 = .ok (.i2l, 1) := by decide +kernel
theorem dX8_height_6 : decode cX8_height 6 = .ok (.invokevirtual 87, 3) := by decide +kernel
theorem dX8_height_9 : decode cX8_height 9 = .ok (.ifCond .ne 10, 3) := by decide +kernel
theorem dX8_height_12 : decode cX8_height 12 = .ok (.aload_n 0, 1) := by decide +kernel
theorem dX8_height_13 : decode cX8_height 13 = .ok (.ldc 95, 2) := by decide +kernel
theorem dX8_height_15 : decode cX8_height 15 = .ok (.invokevirtual 80, 3) := by decide +kernel
theorem dX8_height_18 : decode cX8_height 18 = .ok (.ireturn, 1) := by decide +kernel
theorem dX8_height_19 : decode cX8_height 19 = .ok (.aload_n 0, 1) := by decide +kernel
theorem dX8_height_20 : decode cX8_height 20 = .ok (.getfield 46, 3) := by decide +kernel
theorem dX8_height_23 : decode cX8_height 23 = .ok (.aload_n 0, 1) := by decide +kernel
theorem dX8_height_24 : decode cX8_height 24 = .ok (.getfield 12, 3) := by decide +kernel
theorem dX8_height_27 : decode cX8_height 27 = .ok (.invokevirtual 209, 3) := by decide +kernel
theorem dX8_height_30 : decode cX8_height 30 = .ok (.aload_n 0, 1) := by decide +kernel
theorem dX8_height_31 : decode cX8_height 31 = .ok (.getfield 46, 3) := by decide +kernel
theorem dX8_height_34 : decode cX8_height 34 = .ok (.aload_n 0, 1) := by decide +kernel
theorem dX8_height_35 : decode cX8_height 35 = .ok (.getfield 12, 3) := by decide +kernel
theorem dX8_height_38 : decode cX8_height 38 = .ok (.invokevirtual 212, 3) := by decide +kernel
theorem dX8_height_41 : decode cX8_height 41 = .ok (.ifCond .ne 10, 3) := by decide +kernel
theorem dX8_height_44 : decode cX8_height 44 = .ok (.aload_n 0, 1) := by decide +kernel
theorem dX8_height_45 : decode cX8_height 45 = .ok (.ldc 132, 2) := by decide +kernel
theorem dX8_height_47 : decode cX8_height 47 = .ok (.invokevirtual 80, 3) := by decide +kernel
theorem dX8_height_50 : decode cX8_height 50 = .ok (.ireturn, 1) := by decide +kernel
theorem dX8_height_51 : decode cX8_height 51 = .ok (.aload_n 0, 1) := by decide +kernel
theorem dX8_height_52 : decode cX8_height 52 = .ok (.getfield 46, 3) := by decide +kernel
theorem dX8_height_55 : decode cX8_height 55 = .ok (.getfield 216, 3) := by decide +kernel
theorem dX8_height_58 : decode cX8_height 58 = .ok (.iload_n 1, 1) := by decide +kernel
theorem dX8_height_59 : decode cX8_height 59 = .ok (.iaload, 1) := by decide +kernel
theorem dX8_height_60 : decode cX8_height 60 = .ok (.ireturn, 1) := by decide +kernel
theorem dX8_hollow_0 : decode cX8_hollow 0 = .ok (.aload_n 0, 1) := by decide +kernel
theorem dX8_hollow_1 : decode cX8_hollow 1 = .ok (.getfield 12, 3) := by decide +kernel
theorem dX8_hollow_4 : decode cX8_hollow 4 = .ok (.invokevirtual 272, 3) := by decide +kernel
theorem dX8_hollow_7 : decode cX8_hollow 7 = .ok (.ireturn, 1) := by decide +kernel
theorem dX8_image_0 : decode cX8_image 0 = .ok (.aload_n 0, 1) := by decide +kernel
theorem dX8_image_1 : decode cX8_image 1 = .ok (.getfield 16, 3) := by decide +kernel
theorem dX8_image_4 : decode cX8_image 4 = .ok (.aload_n 0, 1) := by decide +kernel
theorem dX8_image_5 : decode cX8_image 5 = .ok (.getfield 12, 3) := by decide +kernel
theorem dX8_image_8 : decode cX8_image 8 = .ok (.invokevirtual 241, 3) := by decide +kernel
theorem dX8_image_11 : decode cX8_image 11 = .ok (.aload_n 0, 1) := by decide +kernel
theorem dX8_image_12 : decode cX8_image 12 = .ok (.iconst 1, 1) := by decide +kernel
theorem dX8_image_13 : decode cX8_image 13 = .ok (.putfield 22, 3) := by decide +kernel
theorem dX8_image_16 : decode cX8_image 16 = .ok (.iconst 1, 1) := by decide +kernel
theorem dX8_image_17 : decode cX8_image 17 = .ok (.ireturn, 1) := by decide +kernel
theorem dX8_isKind_0 : decode cX8_isKind 0 = .ok (.iload_n 0, 1) := by decide +kernel
theorem dX8_isKind_1 : decode cX8_isKind 1 = .ok (.iconst 0, 1) := by decide +kernel
theorem dX8_isKind_2 : decode cX8_isKind 2 = .ok (.bipush 6, 2) := by decide +kernel
theorem dX8_isKind_4 : decode cX8_isKind 4 = .ok (.invokestatic 91, 3) := by decide +kernel
theorem dX8_isKind_7 : decode cX8_isKind 7 = .ok (.ireturn, 1) := by decide +kernel
theorem dX8_isLooped_0 : decode cX8_isLooped 0 = .ok (.aload_n 0, 1) := by decide +kernel
theorem dX8_isLooped_1 : decode cX8_isLooped 1 = .ok (.getfield 29, 3) := by decide +kernel
theorem dX8_isLooped_4 : decode cX8_isLooped 4 = .ok (.aload_n 0, 1) := by decide +kernel
theorem dX8_isLooped_5 : decode cX8_isLooped 5 = .ok (.getfield 12, 3) := by decide +kernel
theorem dX8_isLooped_8 : decode cX8_isLooped 8 = .ok (.invokevirtual 146, 3) := by decide +kernel
theorem dX8_isLooped_11 : decode cX8_isLooped 11 = .ok (.aload_n 0, 1) := by decide +kernel
theorem dX8_isLooped_12 : decode cX8_isLooped 12 = .ok (.getfield 29, 3) := by decide +kernel
theorem dX8_isLooped_15 : decode cX8_isLooped 15 = .ok (.invokevirtual 332, 3) := by decide +kernel
theorem dX8_isLooped_18 : decode cX8_isLooped 18 = .ok (.ireturn, 1) := by decide +kernel
theorem dX8_isSheet_0 : decode cX8_isSheet 0 = .ok (.iload_n 0, 1) := by decide +kernel
theorem dX8_isSheet_1 : decode cX8_isSheet 1 = .ok (.iconst 0, 1) := by decide +kernel
theorem dX8_isSheet_2 : decode cX8_isSheet 2 = .ok (.iconst 3, 1) := by decide +kernel
theorem dX8_isSheet_3 : decode cX8_isSheet 3 = .ok (.invokestatic 91, 3) := by decide +kernel
theorem dX8_isSheet_6 : decode cX8_isSheet 6 = .ok (.ireturn, 1) := by decide +kernel
theorem dX8_isUnder_0 : decode cX8_isUnder 0 = .ok (.iload_n 0, 1) := by decide +kernel
theorem dX8_isUnder_1 : decode cX8_isUnder 1 = .ok (.istore_n 2, 1) := by decide +kernel
theorem dX8_isUnder_2 : decode cX8_isUnder 2 = .ok (.iconst 0, 1) := by decide +kernel
theorem dX8_isUnder_3 : decode cX8_isUnder 3 = .ok (.istore_n 3, 1) := by decide +kernel
theorem dX8_isUnder_4 : decode cX8_isUnder 4 = .ok (.iload_n 3, 1) := by decide +kernel
theorem dX8_isUnder_5 : decode cX8_isUnder 5 = .ok (.bipush 7, 2) := by decide +kernel
theorem dX8_isUnder_7 : decode cX8_isUnder 7 = .ok (.if_icmp .ge 29, 3) := by decide +kernel
theorem dX8_isUnder_10 : decode cX8_isUnder 10 = .ok (.iload_n 2, 1) := by decide +kernel
theorem dX8_isUnder_11 : decode cX8_isUnder 11 = .ok (.invokestatic 155, 3) := by decide +kernel
theorem dX8_isUnder_14 : decode cX8_isUnder 14 = .ok (.ifCond .eq 22, 3) := by decide +kernel
theorem dX8_isUnder_17 : decode cX8_isUnder 17 = .ok (.iload_n 2, 1) := by decide +kernel
theorem dX8_isUnder_18 : decode cX8_isUnder 18 = .ok (.iload_n 1, 1) := by decide +kernel
theorem dX8_isUnder_19 : decode cX8_isUnder 19 = .ok (.if_icmp .ne 5, 3) := by decide +kernel
theorem dX8_isUnder_22 : decode cX8_isUnder 22 = .ok (.iconst 1, 1) := by decide +kernel
theorem dX8_isUnder_23 : decode cX8_isUnder 23 = .ok (.ireturn, 1) := by decide +kernel
theorem dX8_isUnder_24 : decode cX8_isUnder 24 = .ok (.getstatic 339, 3) := by decide +kernel
theorem dX8_isUnder_27 : decode cX8_isUnder 27 = .ok (.iload_n 2, 1) := by decide +kernel
theorem dX8_isUnder_28 : decode cX8_isUnder 28 = .ok (.iaload, 1) := by decide +kernel
theorem dX8_isUnder_29 : decode cX8_isUnder 29 = .ok (.istore_n 2, 1) := by decide +kernel
theorem dX8_isUnder_30 : decode cX8_isUnder 30 = .ok (.iinc 3 1, 3) := by decide +kernel
theorem dX8_isUnder_33 : decode cX8_isUnder 33 = .ok (.goto (-29), 3) := by decide +kernel
theorem dX8_isUnder_36 : decode cX8_isUnder 36 = .ok (.iconst 0, 1) := by decide +kernel
theorem dX8_isUnder_37 : decode cX8_isUnder 37 = .ok (.ireturn, 1) := by decide +kernel
theorem dX8_isWithin_0 : decode cX8_isWithin 0 = .ok (.iload_n 0, 1) := by decide +kernel
theorem dX8_isWithin_1 : decode cX8_isWithin 1 = .ok (.iload_n 1, 1) := by decide +kernel
theorem dX8_isWithin_2 : decode cX8_isWithin 2 = .ok (.if_icmp .lt 12, 3) := by decide +kernel
theorem dX8_isWithin_5 : decode cX8_isWithin 5 = .ok (.iload_n 0, 1) := by decide +kernel
theorem dX8_isWithin_6 : decode cX8_isWithin 6 = .ok (.iload_n 2, 1) := by decide +kernel
theorem dX8_isWithin_7 : decode cX8_isWithin 7 = .ok (.if_icmp .gt 7, 3) := by decide +kernel
theorem dX8_isWithin_10 : decode cX8_isWithin 10 = .ok (.iconst 1, 1) := by decide +kernel
theorem dX8_isWithin_11 : decode cX8_isWithin 11 = .ok (.goto 4, 3) := by decide +kernel
theorem dX8_isWithin_14 : decode cX8_isWithin 14 = .ok (.iconst 0, 1) := by decide +kernel
theorem dX8_isWithin_15 : decode cX8_isWithin 15 = .ok (.ireturn, 1) := by decide +kernel
theorem dX8_known_0 : decode cX8_known 0 = .ok (.iload_n 1, 1) := by decide +kernel
theorem dX8_known_1 : decode cX8_known 1 = .ok (.ifCond .ne 11, 3) := by decide +kernel
theorem dX8_known_4 : decode cX8_known 4 = .ok (.aload_n 0, 1) := by decide +kernel
theorem dX8_known_5 : decode cX8_known 5 = .ok (.getfield 12, 3) := by decide +kernel
theorem dX8_known_8 : decode cX8_known 8 = .ok (.invokevirtual 247, 3) := by decide +kernel
theorem dX8_known_11 : decode cX8_known 11 = .ok (.ireturn, 1) := by decide +kernel
theorem dX8_known_12 : decode cX8_known 12 = .ok (.iload_n 1, 1) := by decide +kernel
theorem dX8_known_13 : decode cX8_known 13 = .ok (.iconst 1, 1) := by decide +kernel
theorem dX8_known_14 : decode cX8_known 14 = .ok (.if_icmp .ne 11, 3) := by decide +kernel
theorem dX8_known_17 : decode cX8_known 17 = .ok (.aload_n 0, 1) := by decide +kernel
theorem dX8_known_18 : decode cX8_known 18 = .ok (.getfield 12, 3) := by decide +kernel
theorem dX8_known_21 : decode cX8_known 21 = .ok (.invokevirtual 250, 3) := by decide +kernel
theorem dX8_known_24 : decode cX8_known 24 = .ok (.ireturn, 1) := by decide +kernel
theorem dX8_known_25 : decode cX8_known 25 = .ok (.iload_n 1, 1) := by decide +kernel
theorem dX8_known_26 : decode cX8_known 26 = .ok (.iconst 2, 1) := by decide +kernel
theorem dX8_known_27 : decode cX8_known 27 = .ok (.if_icmp .ne 11, 3) := by decide +kernel
theorem dX8_known_30 : decode cX8_known 30 = .ok (.aload_n 0, 1) := by decide +kernel
theorem dX8_known_31 : decode cX8_known 31 = .ok (.getfield 12, 3) := by decide +kernel
theorem dX8_known_34 : decode cX8_known 34 = .ok (.invokevirtual 253, 3) := by decide +kernel
theorem dX8_known_37 : decode cX8_known 37 = .ok (.ireturn, 1) := by decide +kernel
theorem dX8_known_38 : decode cX8_known 38 = .ok (.aload_n 0, 1) := by decide +kernel
theorem dX8_known_39 : decode cX8_known 39 = .ok (.ldc 95, 2) := by decide +kernel
theorem dX8_known_41 : decode cX8_known 41 = .ok (.invokevirtual 80, 3) := by decide +kernel
theorem dX8_known_44 : decode cX8_known 44 = .ok (.ireturn, 1) := by decide +kernel
theorem dX8_land_0 : decode cX8_land 0 = .ok (.aload_n 0, 1) := by decide +kernel
theorem dX8_land_1 : decode cX8_land 1 = .ok (.getfield 19, 3) := by decide +kernel
theorem dX8_land_4 : decode cX8_land 4 = .ok (.aload_n 0, 1) := by decide +kernel
theorem dX8_land_5 : decode cX8_land 5 = .ok (.getfield 12, 3) := by decide +kernel
theorem dX8_land_8 : decode cX8_land 8 = .ok (.invokevirtual 241, 3) := by decide +kernel
theorem dX8_land_11 : decode cX8_land 11 = .ok (.aload_n 0, 1) := by decide +kernel
theorem dX8_land_12 : decode cX8_land 12 = .ok (.getfield 60, 3) := by decide +kernel
theorem dX8_land_15 : decode cX8_land 15 = .ok (.aload_n 0, 1) := by decide +kernel
theorem dX8_land_16 : decode cX8_land 16 = .ok (.getfield 19, 3) := by decide +kernel
theorem dX8_land_19 : decode cX8_land 19 = .ok (.invokevirtual 282, 3) := by decide +kernel
theorem dX8_land_22 : decode cX8_land 22 = .ok (.istore_n 1, 1) := by decide +kernel
theorem dX8_land_23 : decode cX8_land 23 = .ok (.iload_n 1, 1) := by decide +kernel
theorem dX8_land_24 : decode cX8_land 24 = .ok (.ifCond .lt 14, 3) := by decide +kernel
theorem dX8_land_27 : decode cX8_land 27 = .ok (.aload_n 0, 1) := by decide +kernel
theorem dX8_land_28 : decode cX8_land 28 = .ok (.getfield 12, 3) := by decide +kernel
theorem dX8_land_31 : decode cX8_land 31 = .ok (.aload_n 0, 1) := by decide +kernel
theorem dX8_land_32 : decode cX8_land 32 = .ok (.getfield 19, 3) := by decide +kernel
theorem dX8_land_35 : decode cX8_land 35 = .ok (.invokevirtual 241, 3) := by decide +kernel
theorem dX8_land_38 : decode cX8_land 38 = .ok (.aload_n 0, 1) := by decide +kernel
theorem dX8_land_39 : decode cX8_land 39 = .ok (.getfield 60, 3) := by decide +kernel
theorem dX8_land_42 : decode cX8_land 42 = .ok (.iconst 0, 1) := by decide +kernel
theorem dX8_land_43 : decode cX8_land 43 = .ok (.putfield 275, 3) := by decide +kernel
theorem dX8_land_46 : decode cX8_land 46 = .ok (.iload_n 1, 1) := by decide +kernel
theorem dX8_land_47 : decode cX8_land 47 = .ok (.ireturn, 1) := by decide +kernel
theorem dX8_learn_0 : decode cX8_learn 0 = .ok (.aload_n 0, 1) := by decide +kernel
theorem dX8_learn_1 : decode cX8_learn 1 = .ok (.getfield 53, 3) := by decide +kernel
theorem dX8_learn_4 : decode cX8_learn 4 = .ok (.aload_n 0, 1) := by decide +kernel
theorem dX8_learn_5 : decode cX8_learn 5 = .ok (.getfield 12, 3) := by decide +kernel
theorem dX8_learn_8 : decode cX8_learn 8 = .ok (.invokevirtual 238, 3) := by decide +kernel
theorem dX8_learn_11 : decode cX8_learn 11 = .ok (.ireturn, 1) := by decide +kernel
theorem dX8_lengthOrNone_0 : decode cX8_lengthOrNone 0 = .ok (.iload_n 1, 1) := by decide +kernel
theorem dX8_lengthOrNone_1 : decode cX8_lengthOrNone 1 = .ok (.ldc 154, 2) := by decide +kernel
theorem dX8_lengthOrNone_3 : decode cX8_lengthOrNone 3 = .ok (.if_icmp .ne 12, 3) := by decide +kernel
theorem dX8_lengthOrNone_6 : decode cX8_lengthOrNone 6 = .ok (.aload_n 0, 1) := by decide +kernel
theorem dX8_lengthOrNone_7 : decode cX8_lengthOrNone 7 = .ok (.ldc 113, 2) := by decide +kernel
theorem dX8_lengthOrNone_9 : decode cX8_lengthOrNone 9 = .ok (.invokevirtual 80, 3) := by decide +kernel
theorem dX8_lengthOrNone_12 : decode cX8_lengthOrNone 12 = .ok (.goto 4, 3) := by decide +kernel
theorem dX8_lengthOrNone_15 : decode cX8_lengthOrNone 15 = .ok (.iload_n 1, 1) := by decide +kernel
theorem dX8_lengthOrNone_16 : decode cX8_lengthOrNone 16 = .ok (.ireturn, 1) := by decide +kernel
theorem dX8_lies_0 : decode cX8_lies 0 = .ok (.aload_n 0, 1) := by decide +kernel
theorem dX8_lies_1 : decode cX8_lies 1 = .ok (.getfield 19, 3) := by decide +kernel
theorem dX8_lies_4 : decode cX8_lies 4 = .ok (.aload_n 0, 1) := by decide +kernel
theorem dX8_lies_5 : decode cX8_lies 5 = .ok (.getfield 12, 3) := by decide +kernel
theorem dX8_lies_8 : decode cX8_lies 8 = .ok (.invokevirtual 241, 3) := by decide +kernel
theorem dX8_lies_11 : decode cX8_lies 11 = .ok (.aload_n 0, 1) := by decide +kernel
theorem dX8_lies_12 : decode cX8_lies 12 = .ok (.getfield 53, 3) := by decide +kernel
theorem dX8_lies_15 : decode cX8_lies 15 = .ok (.aload_n 0, 1) := by decide +kernel
theorem dX8_lies_16 : decode cX8_lies 16 = .ok (.getfield 19, 3) := by decide +kernel
theorem dX8_lies_19 : decode cX8_lies 19 = .ok (.invokevirtual 238, 3) := by decide +kernel
theorem dX8_lies_22 : decode cX8_lies 22 = .ok (.pop, 1) := by decide +kernel
theorem dX8_lies_23 : decode cX8_lies 23 = .ok (.aload_n 0, 1) := by decide +kernel
theorem dX8_lies_24 : decode cX8_lies 24 = .ok (.getfield 53, 3) := by decide +kernel
theorem dX8_lies_27 : decode cX8_lies 27 = .ok (.getfield 244, 3) := by decide +kernel
theorem dX8_lies_30 : decode cX8_lies 30 = .ok (.ireturn, 1) := by decide +kernel
theorem dX8_live_0 : decode cX8_live 0 = .ok (.aload_n 0, 1) := by decide +kernel
theorem dX8_live_1 : decode cX8_live 1 = .ok (.invokevirtual 128, 3) := by decide +kernel
theorem dX8_live_4 : decode cX8_live 4 = .ok (.ifCond .eq 10, 3) := by decide +kernel
theorem dX8_live_7 : decode cX8_live 7 = .ok (.aload_n 0, 1) := by decide +kernel
theorem dX8_live_8 : decode cX8_live 8 = .ok (.ldc 132, 2) := by decide +kernel
theorem dX8_live_10 : decode cX8_live 10 = .ok (.invokevirtual 80, 3) := by decide +kernel
theorem dX8_live_13 : decode cX8_live 13 = .ok (.ireturn, 1) := by decide +kernel
theorem dX8_live_14 : decode cX8_live 14 = .ok (.aload_n 0, 1) := by decide +kernel
theorem dX8_live_15 : decode cX8_live 15 = .ok (.getfield 29, 3) := by decide +kernel
theorem dX8_live_18 : decode cX8_live 18 = .ok (.aload_n 0, 1) := by decide +kernel
theorem dX8_live_19 : decode cX8_live 19 = .ok (.getfield 12, 3) := by decide +kernel
theorem dX8_live_22 : decode cX8_live 22 = .ok (.invokevirtual 197, 3) := by decide +kernel
theorem dX8_live_25 : decode cX8_live 25 = .ok (.istore_n 1, 1) := by decide +kernel
theorem dX8_live_26 : decode cX8_live 26 = .ok (.iload_n 1, 1) := by decide +kernel
theorem dX8_live_27 : decode cX8_live 27 = .ok (.ifCond .ge 12, 3) := by decide +kernel
theorem dX8_live_30 : decode cX8_live 30 = .ok (.aload_n 0, 1) := by decide +kernel
theorem dX8_live_31 : decode cX8_live 31 = .ok (.ldc 113, 2) := by decide +kernel
theorem dX8_live_33 : decode cX8_live 33 = .ok (.invokevirtual 80, 3) := by decide +kernel
theorem dX8_live_36 : decode cX8_live 36 = .ok (.goto 4, 3) := by decide +kernel
theorem dX8_live_39 : decode cX8_live 39 = .ok (.iload_n 1, 1) := by decide +kernel
theorem dX8_live_40 : decode cX8_live 40 = .ok (.ireturn, 1) := by decide +kernel
theorem dX8_longer_0 : decode cX8_longer 0 = .ok (.aload_n 0, 1) := by decide +kernel
theorem dX8_longer_1 : decode cX8_longer 1 = .ok (.getfield 12, 3) := by decide +kernel
theorem dX8_longer_4 : decode cX8_longer 4 = .ok (.iload_n 1, 1) := by decide +kernel
theorem dX8_longer_5 : decode cX8_longer 5 = .ok (.i2l, 1) := by decide +kernel
theorem dX8_longer_6 : decode cX8_longer 6 = .ok (.invokevirtual 87, 3) := by decide +kernel
theorem dX8_longer_9 : decode cX8_longer 9 = .ok (.ifCond .eq 15, 3) := by decide +kernel
theorem dX8_longer_12 : decode cX8_longer 12 = .ok (.aload_n 0, 1) := by decide +kernel
theorem dX8_longer_13 : decode cX8_longer 13 = .ok (.getfield 12, 3) := by decide +kernel
theorem dX8_longer_16 : decode cX8_longer 16 = .ok (.iload_n 2, 1) := by decide +kernel
theorem dX8_longer_17 : decode cX8_longer 17 = .ok (.i2l, 1) := by decide +kernel
theorem dX8_longer_18 : decode cX8_longer 18 = .ok (.invokevirtual 87, 3) := by decide +kernel
theorem dX8_longer_21 : decode cX8_longer 21 = .ok (.ifCond .ne 10, 3) := by decide +kernel
theorem dX8_longer_24 : decode cX8_longer 24 = .ok (.aload_n 0, 1) := by decide +kernel
theorem dX8_longer_25 : decode cX8_longer 25 = .ok (.ldc 95, 2) := by decide +kernel
theorem dX8_longer_27 : decode cX8_longer 27 = .ok (.invokevirtual 80, 3) := by decide +kernel
theorem dX8_longer_30 : decode cX8_longer 30 = .ok (.ireturn, 1) := by decide +kernel
theorem dX8_longer_31 : decode cX8_longer 31 = .ok (.aload_n 0, 1) := by decide +kernel
theorem dX8_longer_32 : decode cX8_longer 32 = .ok (.invokevirtual 128, 3) := by decide +kernel
theorem dX8_longer_35 : decode cX8_longer 35 = .ok (.ifCond .eq 10, 3) := by decide +kernel
theorem dX8_longer_38 : decode cX8_longer 38 = .ok (.aload_n 0, 1) := by decide +kernel
theorem dX8_longer_39 : decode cX8_longer 39 = .ok (.ldc 132, 2) := by decide +kernel
theorem dX8_longer_41 : decode cX8_longer 41 = .ok (.invokevirtual 80, 3) := by decide +kernel
theorem dX8_longer_44 : decode cX8_longer 44 = .ok (.ireturn, 1) := by decide +kernel
theorem dX8_longer_45 : decode cX8_longer 45 = .ok (.aload_n 0, 1) := by decide +kernel
theorem dX8_longer_46 : decode cX8_longer 46 = .ok (.getfield 29, 3) := by decide +kernel
theorem dX8_longer_49 : decode cX8_longer 49 = .ok (.iload_n 1, 1) := by decide +kernel
theorem dX8_longer_50 : decode cX8_longer 50 = .ok (.iload_n 2, 1) := by decide +kernel
theorem dX8_longer_51 : decode cX8_longer 51 = .ok (.invokevirtual 133, 3) := by decide +kernel
theorem dX8_longer_54 : decode cX8_longer 54 = .ok (.istore_n 3, 1) := by decide +kernel
theorem dX8_longer_55 : decode cX8_longer 55 = .ok (.aload_n 0, 1) := by decide +kernel
theorem dX8_longer_56 : decode cX8_longer 56 = .ok (.getfield 29, 3) := by decide +kernel
theorem dX8_longer_59 : decode cX8_longer 59 = .ok (.iload_n 2, 1) := by decide +kernel
theorem dX8_longer_60 : decode cX8_longer 60 = .ok (.iload_n 1, 1) := by decide +kernel
theorem dX8_longer_61 : decode cX8_longer 61 = .ok (.invokevirtual 133, 3) := by decide +kernel
theorem dX8_longer_64 : decode cX8_longer 64 = .ok (.istore 4, 2) := by decide +kernel
theorem dX8_longer_66 : decode cX8_longer 66 = .ok (.iload_n 3, 1) := by decide +kernel
theorem dX8_longer_67 : decode cX8_longer 67 = .ok (.ldc 154, 2) := by decide +kernel
theorem dX8_longer_69 : decode cX8_longer 69 = .ok (.if_icmp .eq 10, 3) := by decide +kernel
theorem dX8_longer_72 : decode cX8_longer 72 = .ok (.iload 4, 2) := by decide +kernel
theorem dX8_longer_74 : decode cX8_longer 74 = .ok (.ldc 154, 2) := by decide +kernel
theorem dX8_longer_76 : decode cX8_longer 76 = .ok (.if_icmp .ne 10, 3) := by decide +kernel
theorem dX8_longer_79 : decode cX8_longer 79 = .ok (.aload_n 0, 1) := by decide +kernel
theorem dX8_longer_80 : decode cX8_longer 80 = .ok (.ldc 113, 2) := by decide +kernel
theorem dX8_longer_82 : decode cX8_longer 82 = .ok (.invokevirtual 80, 3) := by decide +kernel
theorem dX8_longer_85 : decode cX8_longer 85 = .ok (.ireturn, 1) := by decide +kernel
theorem dX8_longer_86 : decode cX8_longer 86 = .ok (.iload_n 3, 1) := by decide +kernel
theorem dX8_longer_87 : decode cX8_longer 87 = .ok (.iload 4, 2) := by decide +kernel
theorem dX8_longer_89 : decode cX8_longer 89 = .ok (.isub, 1) := by decide +kernel
theorem dX8_longer_90 : decode cX8_longer 90 = .ok (.ireturn, 1) := by decide +kernel
theorem dX8_loops_0 : decode cX8_loops 0 = .ok (.aload_n 0, 1) := by decide +kernel
theorem dX8_loops_1 : decode cX8_loops 1 = .ok (.getfield 29, 3) := by decide +kernel
theorem dX8_loops_4 : decode cX8_loops 4 = .ok (.aload_n 0, 1) := by decide +kernel
theorem dX8_loops_5 : decode cX8_loops 5 = .ok (.getfield 12, 3) := by decide +kernel
theorem dX8_loops_8 : decode cX8_loops 8 = .ok (.invokevirtual 146, 3) := by decide +kernel
theorem dX8_loops_11 : decode cX8_loops 11 = .ok (.aload_n 0, 1) := by decide +kernel
theorem dX8_loops_12 : decode cX8_loops 12 = .ok (.getfield 29, 3) := by decide +kernel
theorem dX8_loops_15 : decode cX8_loops 15 = .ok (.invokevirtual 150, 3) := by decide +kernel
theorem dX8_loops_18 : decode cX8_loops 18 = .ok (.ireturn, 1) := by decide +kernel
theorem dX8_meet_0 : decode cX8_meet 0 = .ok (.aload_n 0, 1) := by decide +kernel
theorem dX8_meet_1 : decode cX8_meet 1 = .ok (.getfield 12, 3) := by decide +kernel
theorem dX8_meet_4 : decode cX8_meet 4 = .ok (.iload_n 1, 1) := by decide +kernel
theorem dX8_meet_5 : decode cX8_meet 5 = .ok (.i2l, 1) := by decide +kernel
theorem dX8_meet_6 : decode cX8_meet 6 = .ok (.invokevirtual 87, 3) := by decide +kernel
theorem dX8_meet_9 : decode cX8_meet 9 = .ok (.ifCond .eq 24, 3) := by decide +kernel
theorem dX8_meet_12 : decode cX8_meet 12 = .ok (.aload_n 0, 1) := by decide +kernel
theorem dX8_meet_13 : decode cX8_meet 13 = .ok (.getfield 12, 3) := by decide +kernel
theorem dX8_meet_16 : decode cX8_meet 16 = .ok (.iload_n 2, 1) := by decide +kernel
theorem dX8_meet_17 : decode cX8_meet 17 = .ok (.i2l, 1) := by decide +kernel
theorem dX8_meet_18 : decode cX8_meet 18 = .ok (.invokevirtual 87, 3) := by decide +kernel
theorem dX8_meet_21 : decode cX8_meet 21 = .ok (.ifCond .eq 12, 3) := by decide +kernel
theorem dX8_meet_24 : decode cX8_meet 24 = .ok (.iload_n 3, 1) := by decide +kernel
theorem dX8_meet_25 : decode cX8_meet 25 = .ok (.iconst 0, 1) := by decide +kernel
theorem dX8_meet_26 : decode cX8_meet 26 = .ok (.iconst 2, 1) := by decide +kernel
theorem dX8_meet_27 : decode cX8_meet 27 = .ok (.invokestatic 91, 3) := by decide +kernel
theorem dX8_meet_30 : decode cX8_meet 30 = .ok (.ifCond .ne 10, 3) := by decide +kernel
theorem dX8_meet_33 : decode cX8_meet 33 = .ok (.aload_n 0, 1) := by decide +kernel
theorem dX8_meet_34 : decode cX8_meet 34 = .ok (.ldc 95, 2) := by decide +kernel
theorem dX8_meet_36 : decode cX8_meet 36 = .ok (.invokevirtual 80, 3) := by decide +kernel
theorem dX8_meet_39 : decode cX8_meet 39 = .ok (.ireturn, 1) := by decide +kernel
theorem dX8_meet_40 : decode cX8_meet 40 = .ok (.aload_n 0, 1) := by decide +kernel
theorem dX8_meet_41 : decode cX8_meet 41 = .ok (.invokevirtual 128, 3) := by decide +kernel
theorem dX8_meet_44 : decode cX8_meet 44 = .ok (.ifCond .eq 10, 3) := by decide +kernel
theorem dX8_meet_47 : decode cX8_meet 47 = .ok (.aload_n 0, 1) := by decide +kernel
theorem dX8_meet_48 : decode cX8_meet 48 = .ok (.ldc 132, 2) := by decide +kernel
theorem dX8_meet_50 : decode cX8_meet 50 = .ok (.invokevirtual 80, 3) := by decide +kernel
theorem dX8_meet_53 : decode cX8_meet 53 = .ok (.ireturn, 1) := by decide +kernel
theorem dX8_meet_54 : decode cX8_meet 54 = .ok (.aload_n 0, 1) := by decide +kernel
theorem dX8_meet_55 : decode cX8_meet 55 = .ok (.getfield 29, 3) := by decide +kernel
theorem dX8_meet_58 : decode cX8_meet 58 = .ok (.iload_n 1, 1) := by decide +kernel
theorem dX8_meet_59 : decode cX8_meet 59 = .ok (.iload_n 2, 1) := by decide +kernel
theorem dX8_meet_60 : decode cX8_meet 60 = .ok (.iload_n 3, 1) := by decide +kernel
theorem dX8_meet_61 : decode cX8_meet 61 = .ok (.invokevirtual 205, 3) := by decide +kernel
theorem dX8_meet_64 : decode cX8_meet 64 = .ok (.istore 4, 2) := by decide +kernel
theorem dX8_meet_66 : decode cX8_meet 66 = .ok (.iload 4, 2) := by decide +kernel
theorem dX8_meet_68 : decode cX8_meet 68 = .ok (.ifCond .ge 12, 3) := by decide +kernel
theorem dX8_meet_71 : decode cX8_meet 71 = .ok (.aload_n 0, 1) := by decide +kernel
theorem dX8_meet_72 : decode cX8_meet 72 = .ok (.ldc 113, 2) := by decide +kernel
theorem dX8_meet_74 : decode cX8_meet 74 = .ok (.invokevirtual 80, 3) := by decide +kernel
theorem dX8_meet_77 : decode cX8_meet 77 = .ok (.goto 5, 3) := by decide +kernel
theorem dX8_meet_80 : decode cX8_meet 80 = .ok (.iload 4, 2) := by decide +kernel
theorem dX8_meet_82 : decode cX8_meet 82 = .ok (.ireturn, 1) := by decide +kernel
theorem dX8_mend_0 : decode cX8_mend 0 = .ok (.aload_n 0, 1) := by decide +kernel
theorem dX8_mend_1 : decode cX8_mend 1 = .ok (.invokevirtual 128, 3) := by decide +kernel
theorem dX8_mend_4 : decode cX8_mend 4 = .ok (.ifCond .eq 10, 3) := by decide +kernel
theorem dX8_mend_7 : decode cX8_mend 7 = .ok (.aload_n 0, 1) := by decide +kernel
theorem dX8_mend_8 : decode cX8_mend 8 = .ok (.ldc 132, 2) := by decide +kernel
theorem dX8_mend_10 : decode cX8_mend 10 = .ok (.invokevirtual 80, 3) := by decide +kernel
theorem dX8_mend_13 : decode cX8_mend 13 = .ok (.ireturn, 1) := by decide +kernel
theorem dX8_mend_14 : decode cX8_mend 14 = .ok (.aload_n 0, 1) := by decide +kernel
theorem dX8_mend_15 : decode cX8_mend 15 = .ok (.getfield 29, 3) := by decide +kernel
theorem dX8_mend_18 : decode cX8_mend 18 = .ok (.aload_n 0, 1) := by decide +kernel
theorem dX8_mend_19 : decode cX8_mend 19 = .ok (.getfield 12, 3) := by decide +kernel
theorem dX8_mend_22 : decode cX8_mend 22 = .ok (.invokevirtual 263, 3) := by decide +kernel
theorem dX8_mend_25 : decode cX8_mend 25 = .ok (.istore_n 1, 1) := by decide +kernel
theorem dX8_mend_26 : decode cX8_mend 26 = .ok (.iload_n 1, 1) := by decide +kernel
theorem dX8_mend_27 : decode cX8_mend 27 = .ok (.ldc 154, 2) := by decide +kernel
theorem dX8_mend_29 : decode cX8_mend 29 = .ok (.if_icmp .ne 7, 3) := by decide +kernel
theorem dX8_mend_32 : decode cX8_mend 32 = .ok (.iconst (-1), 1) := by decide +kernel
theorem dX8_mend_33 : decode cX8_mend 33 = .ok (.goto 8, 3) := by decide +kernel
theorem dX8_mend_36 : decode cX8_mend 36 = .ok (.aload_n 0, 1) := by decide +kernel
theorem dX8_mend_37 : decode cX8_mend 37 = .ok (.iload_n 1, 1) := by decide +kernel
theorem dX8_mend_38 : decode cX8_mend 38 = .ok (.invokevirtual 266, 3) := by decide +kernel
theorem dX8_mend_41 : decode cX8_mend 41 = .ok (.istore_n 2, 1) := by decide +kernel
theorem dX8_mend_42 : decode cX8_mend 42 = .ok (.iload_n 2, 1) := by decide +kernel
theorem dX8_mend_43 : decode cX8_mend 43 = .ok (.ifCond .ge 12, 3) := by decide +kernel
theorem dX8_mend_46 : decode cX8_mend 46 = .ok (.aload_n 0, 1) := by decide +kernel
theorem dX8_mend_47 : decode cX8_mend 47 = .ok (.ldc 113, 2) := by decide +kernel
theorem dX8_mend_49 : decode cX8_mend 49 = .ok (.invokevirtual 80, 3) := by decide +kernel
theorem dX8_mend_52 : decode cX8_mend 52 = .ok (.goto 4, 3) := by decide +kernel
theorem dX8_mend_55 : decode cX8_mend 55 = .ok (.iload_n 2, 1) := by decide +kernel
theorem dX8_mend_56 : decode cX8_mend 56 = .ok (.ireturn, 1) := by decide +kernel
theorem dX8_on_0 : decode cX8_on 0 = .ok (.aload_n 0, 1) := by decide +kernel
theorem dX8_on_1 : decode cX8_on 1 = .ok (.getfield 12, 3) := by decide +kernel
theorem dX8_on_4 : decode cX8_on 4 = .ok (.getfield 229, 3) := by decide +kernel
theorem dX8_on_7 : decode cX8_on 7 = .ok (.iload_n 1, 1) := by decide +kernel
theorem dX8_on_8 : decode cX8_on 8 = .ok (.invokevirtual 171, 3) := by decide +kernel
theorem dX8_on_11 : decode cX8_on 11 = .ok (.ifCond .eq 30, 3) := by decide +kernel
theorem dX8_on_14 : decode cX8_on 14 = .ok (.aload_n 0, 1) := by decide +kernel
theorem dX8_on_15 : decode cX8_on 15 = .ok (.getfield 12, 3) := by decide +kernel
theorem dX8_on_18 : decode cX8_on 18 = .ok (.iload_n 2, 1) := by decide +kernel
theorem dX8_on_19 : decode cX8_on 19 = .ok (.i2l, 1) := by decide +kernel
theorem dX8_on_20 : decode cX8_on 20 = .ok (.invokevirtual 87, 3) := by decide +kernel
theorem dX8_on_23 : decode cX8_on 23 = .ok (.ifCond .eq 18, 3) := by decide +kernel
theorem dX8_on_26 : decode cX8_on 26 = .ok (.aload_n 0, 1) := by decide +kernel
theorem dX8_on_27 : decode cX8_on 27 = .ok (.getfield 12, 3) := by decide +kernel
theorem dX8_on_30 : decode cX8_on 30 = .ok (.getfield 229, 3) := by decide +kernel
theorem dX8_on_33 : decode cX8_on 33 = .ok (.iload_n 1, 1) := by decide +kernel
theorem dX8_on_34 : decode cX8_on 34 = .ok (.invokevirtual 235, 3) := by decide +kernel
theorem dX8_on_37 : decode cX8_on 37 = .ok (.iload_n 2, 1) := by decide +kernel
theorem dX8_on_38 : decode cX8_on 38 = .ok (.if_icmp .ne 10, 3) := by decide +kernel
theorem dX8_on_41 : decode cX8_on 41 = .ok (.aload_n 0, 1) := by decide +kernel
theorem dX8_on_42 : decode cX8_on 42 = .ok (.ldc 95, 2) := by decide +kernel
theorem dX8_on_44 : decode cX8_on 44 = .ok (.invokevirtual 80, 3) := by decide +kernel
theorem dX8_on_47 : decode cX8_on 47 = .ok (.ireturn, 1) := by decide +kernel
theorem dX8_on_48 : decode cX8_on 48 = .ok (.aload_n 0, 1) := by decide +kernel
theorem dX8_on_49 : decode cX8_on 49 = .ok (.getfield 12, 3) := by decide +kernel
theorem dX8_on_52 : decode cX8_on 52 = .ok (.getfield 229, 3) := by decide +kernel
theorem dX8_on_55 : decode cX8_on 55 = .ok (.iload_n 1, 1) := by decide +kernel
theorem dX8_on_56 : decode cX8_on 56 = .ok (.invokevirtual 174, 3) := by decide +kernel
theorem dX8_on_59 : decode cX8_on 59 = .ok (.ifCond .eq 10, 3) := by decide +kernel
theorem dX8_on_62 : decode cX8_on 62 = .ok (.aload_n 0, 1) := by decide +kernel
theorem dX8_on_63 : decode cX8_on 63 = .ok (.ldc 79, 2) := by decide +kernel
theorem dX8_on_65 : decode cX8_on 65 = .ok (.invokevirtual 80, 3) := by decide +kernel
theorem dX8_on_68 : decode cX8_on 68 = .ok (.ireturn, 1) := by decide +kernel
theorem dX8_on_69 : decode cX8_on 69 = .ok (.aload_n 0, 1) := by decide +kernel
theorem dX8_on_70 : decode cX8_on 70 = .ok (.getfield 12, 3) := by decide +kernel
theorem dX8_on_73 : decode cX8_on 73 = .ok (.getfield 229, 3) := by decide +kernel
theorem dX8_on_76 : decode cX8_on 76 = .ok (.iload_n 1, 1) := by decide +kernel
theorem dX8_on_77 : decode cX8_on 77 = .ok (.iload_n 2, 1) := by decide +kernel
theorem dX8_on_78 : decode cX8_on 78 = .ok (.invokevirtual 177, 3) := by decide +kernel
theorem dX8_on_81 : decode cX8_on 81 = .ok (.ireturn, 1) := by decide +kernel
theorem dX8_over_0 : decode cX8_over 0 = .ok (.aload_n 0, 1) := by decide +kernel
theorem dX8_over_1 : decode cX8_over 1 = .ok (.getfield 12, 3) := by decide +kernel
theorem dX8_over_4 : decode cX8_over 4 = .ok (.getfield 159, 3) := by decide +kernel
theorem dX8_over_7 : decode cX8_over 7 = .ok (.iload_n 1, 1) := by decide +kernel
theorem dX8_over_8 : decode cX8_over 8 = .ok (.invokevirtual 171, 3) := by decide +kernel
theorem dX8_over_11 : decode cX8_over 11 = .ok (.ifCond .eq 15, 3) := by decide +kernel
theorem dX8_over_14 : decode cX8_over 14 = .ok (.aload_n 0, 1) := by decide +kernel
theorem dX8_over_15 : decode cX8_over 15 = .ok (.getfield 12, 3) := by decide +kernel
theorem dX8_over_18 : decode cX8_over 18 = .ok (.iload_n 2, 1) := by decide +kernel
theorem dX8_over_19 : decode cX8_over 19 = .ok (.i2l, 1) := by decide +kernel
theorem dX8_over_20 : decode cX8_over 20 = .ok (.invokevirtual 87, 3) := by decide +kernel
theorem dX8_over_23 : decode cX8_over 23 = .ok (.ifCond .ne 10, 3) := by decide +kernel
theorem dX8_over_26 : decode cX8_over 26 = .ok (.aload_n 0, 1) := by decide +kernel
theorem dX8_over_27 : decode cX8_over 27 = .ok (.ldc 95, 2) := by decide +kernel
theorem dX8_over_29 : decode cX8_over 29 = .ok (.invokevirtual 80, 3) := by decide +kernel
theorem dX8_over_32 : decode cX8_over 32 = .ok (.ireturn, 1) := by decide +kernel
theorem dX8_over_33 : decode cX8_over 33 = .ok (.aload_n 0, 1) := by decide +kernel
theorem dX8_over_34 : decode cX8_over 34 = .ok (.getfield 12, 3) := by decide +kernel
theorem dX8_over_37 : decode cX8_over 37 = .ok (.getfield 159, 3) := by decide +kernel
theorem dX8_over_40 : decode cX8_over 40 = .ok (.iload_n 1, 1) := by decide +kernel
theorem dX8_over_41 : decode cX8_over 41 = .ok (.invokevirtual 174, 3) := by decide +kernel
theorem dX8_over_44 : decode cX8_over 44 = .ok (.ifCond .eq 10, 3) := by decide +kernel
theorem dX8_over_47 : decode cX8_over 47 = .ok (.aload_n 0, 1) := by decide +kernel
theorem dX8_over_48 : decode cX8_over 48 = .ok (.ldc 79, 2) := by decide +kernel
theorem dX8_over_50 : decode cX8_over 50 = .ok (.invokevirtual 80, 3) := by decide +kernel
theorem dX8_over_53 : decode cX8_over 53 = .ok (.ireturn, 1) := by decide +kernel
theorem dX8_over_54 : decode cX8_over 54 = .ok (.aload_n 0, 1) := by decide +kernel
theorem dX8_over_55 : decode cX8_over 55 = .ok (.getfield 12, 3) := by decide +kernel
theorem dX8_over_58 : decode cX8_over 58 = .ok (.getfield 159, 3) := by decide +kernel
theorem dX8_over_61 : decode cX8_over 61 = .ok (.iload_n 1, 1) := by decide +kernel
theorem dX8_over_62 : decode cX8_over 62 = .ok (.iload_n 2, 1) := by decide +kernel
theorem dX8_over_63 : decode cX8_over 63 = .ok (.invokevirtual 177, 3) := by decide +kernel
theorem dX8_over_66 : decode cX8_over 66 = .ok (.ireturn, 1) := by decide +kernel
theorem dX8_paper_0 : decode cX8_paper 0 = .ok (.aload_n 0, 1) := by decide +kernel
theorem dX8_paper_1 : decode cX8_paper 1 = .ok (.getfield 12, 3) := by decide +kernel
theorem dX8_paper_4 : decode cX8_paper 4 = .ok (.iload_n 1, 1) := by decide +kernel
theorem dX8_paper_5 : decode cX8_paper 5 = .ok (.iload_n 2, 1) := by decide +kernel
theorem dX8_paper_6 : decode cX8_paper 6 = .ok (.invokevirtual 99, 3) := by decide +kernel
theorem dX8_paper_9 : decode cX8_paper 9 = .ok (.ifCond .ne 10, 3) := by decide +kernel
theorem dX8_paper_12 : decode cX8_paper 12 = .ok (.aload_n 0, 1) := by decide +kernel
theorem dX8_paper_13 : decode cX8_paper 13 = .ok (.ldc 95, 2) := by decide +kernel
theorem dX8_paper_15 : decode cX8_paper 15 = .ok (.invokevirtual 80, 3) := by decide +kernel
theorem dX8_paper_18 : decode cX8_paper 18 = .ok (.ireturn, 1) := by decide +kernel
theorem dX8_paper_19 : decode cX8_paper 19 = .ok (.aload_n 0, 1) := by decide +kernel
theorem dX8_paper_20 : decode cX8_paper 20 = .ok (.getfield 12, 3) := by decide +kernel
theorem dX8_paper_23 : decode cX8_paper 23 = .ok (.iload_n 1, 1) := by decide +kernel
theorem dX8_paper_24 : decode cX8_paper 24 = .ok (.iload_n 2, 1) := by decide +kernel
theorem dX8_paper_25 : decode cX8_paper 25 = .ok (.invokevirtual 219, 3) := by decide +kernel
theorem dX8_paper_28 : decode cX8_paper 28 = .ok (.ifCond .ne 10, 3) := by decide +kernel
theorem dX8_paper_31 : decode cX8_paper 31 = .ok (.aload_n 0, 1) := by decide +kernel
theorem dX8_paper_32 : decode cX8_paper 32 = .ok (.ldc 113, 2) := by decide +kernel
theorem dX8_paper_34 : decode cX8_paper 34 = .ok (.invokevirtual 80, 3) := by decide +kernel
theorem dX8_paper_37 : decode cX8_paper 37 = .ok (.ireturn, 1) := by decide +kernel
theorem dX8_paper_38 : decode cX8_paper 38 = .ok (.aload_n 0, 1) := by decide +kernel
theorem dX8_paper_39 : decode cX8_paper 39 = .ok (.getfield 12, 3) := by decide +kernel
theorem dX8_paper_42 : decode cX8_paper 42 = .ok (.iload_n 1, 1) := by decide +kernel
theorem dX8_paper_43 : decode cX8_paper 43 = .ok (.iload_n 2, 1) := by decide +kernel
theorem dX8_paper_44 : decode cX8_paper 44 = .ok (.invokestatic 222, 3) := by decide +kernel
theorem dX8_paper_47 : decode cX8_paper 47 = .ok (.ireturn, 1) := by decide +kernel
theorem dX8_place_0 : decode cX8_place 0 = .ok (.aload_n 0, 1) := by decide +kernel
theorem dX8_place_1 : decode cX8_place 1 = .ok (.getfield 12, 3) := by decide +kernel
theorem dX8_place_4 : decode cX8_place 4 = .ok (.getfield 75, 3) := by decide +kernel
theorem dX8_place_7 : decode cX8_place 7 = .ok (.bipush 10, 2) := by decide +kernel
theorem dX8_place_9 : decode cX8_place 9 = .ok (.if_icmp .lt 10, 3) := by decide +kernel
theorem dX8_place_12 : decode cX8_place 12 = .ok (.aload_n 0, 1) := by decide +kernel
theorem dX8_place_13 : decode cX8_place 13 = .ok (.ldc 79, 2) := by decide +kernel
theorem dX8_place_15 : decode cX8_place 15 = .ok (.invokevirtual 80, 3) := by decide +kernel
theorem dX8_place_18 : decode cX8_place 18 = .ok (.ireturn, 1) := by decide +kernel
theorem dX8_place_19 : decode cX8_place 19 = .ok (.aload_n 0, 1) := by decide +kernel
theorem dX8_place_20 : decode cX8_place 20 = .ok (.getfield 12, 3) := by decide +kernel
theorem dX8_place_23 : decode cX8_place 23 = .ok (.iconst 0, 1) := by decide +kernel
theorem dX8_place_24 : decode cX8_place 24 = .ok (.invokevirtual 84, 3) := by decide +kernel
theorem dX8_place_27 : decode cX8_place 27 = .ok (.ireturn, 1) := by decide +kernel
theorem dX8_round_0 : decode cX8_round 0 = .ok (.iload_n 1, 1) := by decide +kernel
theorem dX8_round_1 : decode cX8_round 1 = .ok (.invokestatic 155, 3) := by decide +kernel
theorem dX8_round_4 : decode cX8_round 4 = .ok (.ifCond .eq 15, 3) := by decide +kernel
theorem dX8_round_7 : decode cX8_round 7 = .ok (.aload_n 0, 1) := by decide +kernel
theorem dX8_round_8 : decode cX8_round 8 = .ok (.getfield 12, 3) := by decide +kernel
theorem dX8_round_11 : decode cX8_round 11 = .ok (.iload_n 2, 1) := by decide +kernel
theorem dX8_round_12 : decode cX8_round 12 = .ok (.i2l, 1) := by decide +kernel
theorem dX8_round_13 : decode cX8_round 13 = .ok (.invokevirtual 87, 3) := by decide +kernel
theorem dX8_round_16 : decode cX8_round 16 = .ok (.ifCond .ne 10, 3) := by decide +kernel
theorem dX8_round_19 : decode cX8_round 19 = .ok (.aload_n 0, 1) := by decide +kernel
theorem dX8_round_20 : decode cX8_round 20 = .ok (.ldc 95, 2) := by decide +kernel
theorem dX8_round_22 : decode cX8_round 22 = .ok (.invokevirtual 80, 3) := by decide +kernel
theorem dX8_round_25 : decode cX8_round 25 = .ok (.ireturn, 1) := by decide +kernel
theorem dX8_round_26 : decode cX8_round 26 = .ok (.aload_n 0, 1) := by decide +kernel
theorem dX8_round_27 : decode cX8_round 27 = .ok (.getfield 12, 3) := by decide +kernel
theorem dX8_round_30 : decode cX8_round 30 = .ok (.getfield 159, 3) := by decide +kernel
theorem dX8_round_33 : decode cX8_round 33 = .ok (.invokevirtual 163, 3) := by decide +kernel
theorem dX8_round_36 : decode cX8_round 36 = .ok (.ifCond .eq 10, 3) := by decide +kernel
theorem dX8_round_39 : decode cX8_round 39 = .ok (.aload_n 0, 1) := by decide +kernel
theorem dX8_round_40 : decode cX8_round 40 = .ok (.ldc 79, 2) := by decide +kernel
theorem dX8_round_42 : decode cX8_round 42 = .ok (.invokevirtual 80, 3) := by decide +kernel
theorem dX8_round_45 : decode cX8_round 45 = .ok (.ireturn, 1) := by decide +kernel
theorem dX8_round_46 : decode cX8_round 46 = .ok (.aload_n 0, 1) := by decide +kernel
theorem dX8_round_47 : decode cX8_round 47 = .ok (.getfield 12, 3) := by decide +kernel
theorem dX8_round_50 : decode cX8_round 50 = .ok (.iload_n 1, 1) := by decide +kernel
theorem dX8_round_51 : decode cX8_round 51 = .ok (.iload_n 2, 1) := by decide +kernel
theorem dX8_round_52 : decode cX8_round 52 = .ok (.invokevirtual 168, 3) := by decide +kernel
theorem dX8_round_55 : decode cX8_round 55 = .ok (.ireturn, 1) := by decide +kernel
theorem dX8_roundOf_0 : decode cX8_roundOf 0 = .ok (.aload_n 0, 1) := by decide +kernel
theorem dX8_roundOf_1 : decode cX8_roundOf 1 = .ok (.getfield 12, 3) := by decide +kernel
theorem dX8_roundOf_4 : decode cX8_roundOf 4 = .ok (.getfield 159, 3) := by decide +kernel
theorem dX8_roundOf_7 : decode cX8_roundOf 7 = .ok (.iload_n 1, 1) := by decide +kernel
theorem dX8_roundOf_8 : decode cX8_roundOf 8 = .ok (.invokevirtual 171, 3) := by decide +kernel
theorem dX8_roundOf_11 : decode cX8_roundOf 11 = .ok (.ifCond .eq 13, 3) := by decide +kernel
theorem dX8_roundOf_14 : decode cX8_roundOf 14 = .ok (.iload_n 2, 1) := by decide +kernel
theorem dX8_roundOf_15 : decode cX8_roundOf 15 = .ok (.bipush (-2), 2) := by decide +kernel
theorem dX8_roundOf_17 : decode cX8_roundOf 17 = .ok (.iconst 5, 1) := by decide +kernel
theorem dX8_roundOf_18 : decode cX8_roundOf 18 = .ok (.invokestatic 91, 3) := by decide +kernel
theorem dX8_roundOf_21 : decode cX8_roundOf 21 = .ok (.ifCond .ne 10, 3) := by decide +kernel
theorem dX8_roundOf_24 : decode cX8_roundOf 24 = .ok (.aload_n 0, 1) := by decide +kernel
theorem dX8_roundOf_25 : decode cX8_roundOf 25 = .ok (.ldc 95, 2) := by decide +kernel
theorem dX8_roundOf_27 : decode cX8_roundOf 27 = .ok (.invokevirtual 80, 3) := by decide +kernel
theorem dX8_roundOf_30 : decode cX8_roundOf 30 = .ok (.ireturn, 1) := by decide +kernel
theorem dX8_roundOf_31 : decode cX8_roundOf 31 = .ok (.iload_n 2, 1) := by decide +kernel
theorem dX8_roundOf_32 : decode cX8_roundOf 32 = .ok (.iconst (-1), 1) := by decide +kernel
theorem dX8_roundOf_33 : decode cX8_roundOf 33 = .ok (.if_icmp .ne 13, 3) := by decide +kernel
theorem dX8_roundOf_36 : decode cX8_roundOf 36 = .ok (.aload_n 0, 1) := by decide +kernel
theorem dX8_roundOf_37 : decode cX8_roundOf 37 = .ok (.getfield 12, 3) := by decide +kernel
theorem dX8_roundOf_40 : decode cX8_roundOf 40 = .ok (.getfield 184, 3) := by decide +kernel
theorem dX8_roundOf_43 : decode cX8_roundOf 43 = .ok (.iload_n 1, 1) := by decide +kernel
theorem dX8_roundOf_44 : decode cX8_roundOf 44 = .ok (.iaload, 1) := by decide +kernel
theorem dX8_roundOf_45 : decode cX8_roundOf 45 = .ok (.ireturn, 1) := by decide +kernel
theorem dX8_roundOf_46 : decode cX8_roundOf 46 = .ok (.aload_n 0, 1) := by decide +kernel
theorem dX8_roundOf_47 : decode cX8_roundOf 47 = .ok (.getfield 12, 3) := by decide +kernel
theorem dX8_roundOf_50 : decode cX8_roundOf 50 = .ok (.getfield 159, 3) := by decide +kernel
theorem dX8_roundOf_53 : decode cX8_roundOf 53 = .ok (.getfield 187, 3) := by decide +kernel
theorem dX8_roundOf_56 : decode cX8_roundOf 56 = .ok (.iload_n 1, 1) := by decide +kernel
theorem dX8_roundOf_57 : decode cX8_roundOf 57 = .ok (.iaload, 1) := by decide +kernel
theorem dX8_roundOf_58 : decode cX8_roundOf 58 = .ok (.istore_n 3, 1) := by decide +kernel
theorem dX8_roundOf_59 : decode cX8_roundOf 59 = .ok (.iload_n 2, 1) := by decide +kernel
theorem dX8_roundOf_60 : decode cX8_roundOf 60 = .ok (.bipush (-2), 2) := by decide +kernel
theorem dX8_roundOf_62 : decode cX8_roundOf 62 = .ok (.if_icmp .ne 5, 3) := by decide +kernel
theorem dX8_roundOf_65 : decode cX8_roundOf 65 = .ok (.iload_n 3, 1) := by decide +kernel
theorem dX8_roundOf_66 : decode cX8_roundOf 66 = .ok (.ireturn, 1) := by decide +kernel
theorem dX8_roundOf_67 : decode cX8_roundOf 67 = .ok (.iload_n 2, 1) := by decide +kernel
theorem dX8_roundOf_68 : decode cX8_roundOf 68 = .ok (.iload_n 3, 1) := by decide +kernel
theorem dX8_roundOf_69 : decode cX8_roundOf 69 = .ok (.if_icmp .ge 18, 3) := by decide +kernel
theorem dX8_roundOf_72 : decode cX8_roundOf 72 = .ok (.aload_n 0, 1) := by decide +kernel
theorem dX8_roundOf_73 : decode cX8_roundOf 73 = .ok (.getfield 12, 3) := by decide +kernel
theorem dX8_roundOf_76 : decode cX8_roundOf 76 = .ok (.getfield 159, 3) := by decide +kernel
theorem dX8_roundOf_79 : decode cX8_roundOf 79 = .ok (.iload_n 1, 1) := by decide +kernel
theorem dX8_roundOf_80 : decode cX8_roundOf 80 = .ok (.iload_n 2, 1) := by decide +kernel
theorem dX8_roundOf_81 : decode cX8_roundOf 81 = .ok (.invokevirtual 190, 3) := by decide +kernel
theorem dX8_roundOf_84 : decode cX8_roundOf 84 = .ok (.goto 9, 3) := by decide +kernel
theorem dX8_roundOf_87 : decode cX8_roundOf 87 = .ok (.aload_n 0, 1) := by decide +kernel
theorem dX8_roundOf_88 : decode cX8_roundOf 88 = .ok (.ldc 113, 2) := by decide +kernel
theorem dX8_roundOf_90 : decode cX8_roundOf 90 = .ok (.invokevirtual 80, 3) := by decide +kernel
theorem dX8_roundOf_93 : decode cX8_roundOf 93 = .ok (.ireturn, 1) := by decide +kernel
theorem dX8_saves_0 : decode cX8_saves 0 = .ok (.aload_n 0, 1) := by decide +kernel
theorem dX8_saves_1 : decode cX8_saves 1 = .ok (.getfield 12, 3) := by decide +kernel
theorem dX8_saves_4 : decode cX8_saves 4 = .ok (.iload_n 1, 1) := by decide +kernel
theorem dX8_saves_5 : decode cX8_saves 5 = .ok (.iload_n 2, 1) := by decide +kernel
theorem dX8_saves_6 : decode cX8_saves 6 = .ok (.invokevirtual 99, 3) := by decide +kernel
theorem dX8_saves_9 : decode cX8_saves 9 = .ok (.ifCond .ne 10, 3) := by decide +kernel
theorem dX8_saves_12 : decode cX8_saves 12 = .ok (.aload_n 0, 1) := by decide +kernel
theorem dX8_saves_13 : decode cX8_saves 13 = .ok (.ldc 95, 2) := by decide +kernel
theorem dX8_saves_15 : decode cX8_saves 15 = .ok (.invokevirtual 80, 3) := by decide +kernel
theorem dX8_saves_18 : decode cX8_saves 18 = .ok (.ireturn, 1) := by decide +kernel
theorem dX8_saves_19 : decode cX8_saves 19 = .ok (.aload_n 0, 1) := by decide +kernel
theorem dX8_saves_20 : decode cX8_saves 20 = .ok (.getfield 12, 3) := by decide +kernel
theorem dX8_saves_23 : decode cX8_saves 23 = .ok (.iload_n 1, 1) := by decide +kernel
theorem dX8_saves_24 : decode cX8_saves 24 = .ok (.iload_n 2, 1) := by decide +kernel
theorem dX8_saves_25 : decode cX8_saves 25 = .ok (.invokevirtual 219, 3) := by decide +kernel
theorem dX8_saves_28 : decode cX8_saves 28 = .ok (.ifCond .ne 10, 3) := by decide +kernel
theorem dX8_saves_31 : decode cX8_saves 31 = .ok (.aload_n 0, 1) := by decide +kernel
theorem dX8_saves_32 : decode cX8_saves 32 = .ok (.ldc 113, 2) := by decide +kernel
theorem dX8_saves_34 : decode cX8_saves 34 = .ok (.invokevirtual 80, 3) := by decide +kernel
theorem dX8_saves_37 : decode cX8_saves 37 = .ok (.ireturn, 1) := by decide +kernel
theorem dX8_saves_38 : decode cX8_saves 38 = .ok (.aload_n 0, 1) := by decide +kernel
theorem dX8_saves_39 : decode cX8_saves 39 = .ok (.invokevirtual 128, 3) := by decide +kernel
theorem dX8_saves_42 : decode cX8_saves 42 = .ok (.ifCond .ne 23, 3) := by decide +kernel
theorem dX8_saves_45 : decode cX8_saves 45 = .ok (.aload_n 0, 1) := by decide +kernel
theorem dX8_saves_46 : decode cX8_saves 46 = .ok (.getfield 33, 3) := by decide +kernel
theorem dX8_saves_49 : decode cX8_saves 49 = .ok (.aload_n 0, 1) := by decide +kernel
theorem dX8_saves_50 : decode cX8_saves 50 = .ok (.getfield 29, 3) := by decide +kernel
theorem dX8_saves_53 : decode cX8_saves 53 = .ok (.aload_n 0, 1) := by decide +kernel
theorem dX8_saves_54 : decode cX8_saves 54 = .ok (.getfield 12, 3) := by decide +kernel
theorem dX8_saves_57 : decode cX8_saves 57 = .ok (.iload_n 1, 1) := by decide +kernel
theorem dX8_saves_58 : decode cX8_saves 58 = .ok (.iload_n 2, 1) := by decide +kernel
theorem dX8_saves_59 : decode cX8_saves 59 = .ok (.invokevirtual 259, 3) := by decide +kernel
theorem dX8_saves_62 : decode cX8_saves 62 = .ok (.ifCond .ne 10, 3) := by decide +kernel
theorem dX8_saves_65 : decode cX8_saves 65 = .ok (.aload_n 0, 1) := by decide +kernel
theorem dX8_saves_66 : decode cX8_saves 66 = .ok (.ldc 132, 2) := by decide +kernel
theorem dX8_saves_68 : decode cX8_saves 68 = .ok (.invokevirtual 80, 3) := by decide +kernel
theorem dX8_saves_71 : decode cX8_saves 71 = .ok (.ireturn, 1) := by decide +kernel
theorem dX8_saves_72 : decode cX8_saves 72 = .ok (.aload_n 0, 1) := by decide +kernel
theorem dX8_saves_73 : decode cX8_saves 73 = .ok (.getfield 29, 3) := by decide +kernel
theorem dX8_saves_76 : decode cX8_saves 76 = .ok (.aload_n 0, 1) := by decide +kernel
theorem dX8_saves_77 : decode cX8_saves 77 = .ok (.getfield 12, 3) := by decide +kernel
theorem dX8_saves_80 : decode cX8_saves 80 = .ok (.invokevirtual 263, 3) := by decide +kernel
theorem dX8_saves_83 : decode cX8_saves 83 = .ok (.istore_n 3, 1) := by decide +kernel
theorem dX8_saves_84 : decode cX8_saves 84 = .ok (.iload_n 3, 1) := by decide +kernel
theorem dX8_saves_85 : decode cX8_saves 85 = .ok (.ldc 154, 2) := by decide +kernel
theorem dX8_saves_87 : decode cX8_saves 87 = .ok (.if_icmp .ne 10, 3) := by decide +kernel
theorem dX8_saves_90 : decode cX8_saves 90 = .ok (.aload_n 0, 1) := by decide +kernel
theorem dX8_saves_91 : decode cX8_saves 91 = .ok (.ldc 113, 2) := by decide +kernel
theorem dX8_saves_93 : decode cX8_saves 93 = .ok (.invokevirtual 80, 3) := by decide +kernel
theorem dX8_saves_96 : decode cX8_saves 96 = .ok (.ireturn, 1) := by decide +kernel
theorem dX8_saves_97 : decode cX8_saves 97 = .ok (.iload_n 3, 1) := by decide +kernel
theorem dX8_saves_98 : decode cX8_saves 98 = .ok (.aload_n 0, 1) := by decide +kernel
theorem dX8_saves_99 : decode cX8_saves 99 = .ok (.getfield 33, 3) := by decide +kernel
theorem dX8_saves_102 : decode cX8_saves 102 = .ok (.aload_n 0, 1) := by decide +kernel
theorem dX8_saves_103 : decode cX8_saves 103 = .ok (.getfield 12, 3) := by decide +kernel
theorem dX8_saves_106 : decode cX8_saves 106 = .ok (.invokevirtual 263, 3) := by decide +kernel
theorem dX8_saves_109 : decode cX8_saves 109 = .ok (.isub, 1) := by decide +kernel
theorem dX8_saves_110 : decode cX8_saves 110 = .ok (.ireturn, 1) := by decide +kernel
theorem dX8_shut_0 : decode cX8_shut 0 = .ok (.aload_n 0, 1) := by decide +kernel
theorem dX8_shut_1 : decode cX8_shut 1 = .ok (.getfield 12, 3) := by decide +kernel
theorem dX8_shut_4 : decode cX8_shut 4 = .ok (.iload_n 1, 1) := by decide +kernel
theorem dX8_shut_5 : decode cX8_shut 5 = .ok (.iload_n 2, 1) := by decide +kernel
theorem dX8_shut_6 : decode cX8_shut 6 = .ok (.invokevirtual 99, 3) := by decide +kernel
theorem dX8_shut_9 : decode cX8_shut 9 = .ok (.ifCond .ne 10, 3) := by decide +kernel
theorem dX8_shut_12 : decode cX8_shut 12 = .ok (.aload_n 0, 1) := by decide +kernel
theorem dX8_shut_13 : decode cX8_shut 13 = .ok (.ldc 95, 2) := by decide +kernel
theorem dX8_shut_15 : decode cX8_shut 15 = .ok (.invokevirtual 80, 3) := by decide +kernel
theorem dX8_shut_18 : decode cX8_shut 18 = .ok (.ireturn, 1) := by decide +kernel
theorem dX8_shut_19 : decode cX8_shut 19 = .ok (.aload_n 0, 1) := by decide +kernel
theorem dX8_shut_20 : decode cX8_shut 20 = .ok (.getfield 12, 3) := by decide +kernel
theorem dX8_shut_23 : decode cX8_shut 23 = .ok (.iload_n 1, 1) := by decide +kernel
theorem dX8_shut_24 : decode cX8_shut 24 = .ok (.iload_n 2, 1) := by decide +kernel
theorem dX8_shut_25 : decode cX8_shut 25 = .ok (.invokevirtual 106, 3) := by decide +kernel
theorem dX8_shut_28 : decode cX8_shut 28 = .ok (.ifCond .ne 10, 3) := by decide +kernel
theorem dX8_shut_31 : decode cX8_shut 31 = .ok (.aload_n 0, 1) := by decide +kernel
theorem dX8_shut_32 : decode cX8_shut 32 = .ok (.ldc 113, 2) := by decide +kernel
theorem dX8_shut_34 : decode cX8_shut 34 = .ok (.invokevirtual 80, 3) := by decide +kernel
theorem dX8_shut_37 : decode cX8_shut 37 = .ok (.ireturn, 1) := by decide +kernel
theorem dX8_shut_38 : decode cX8_shut 38 = .ok (.aload_n 0, 1) := by decide +kernel
theorem dX8_shut_39 : decode cX8_shut 39 = .ok (.getfield 12, 3) := by decide +kernel
theorem dX8_shut_42 : decode cX8_shut 42 = .ok (.iload_n 1, 1) := by decide +kernel
theorem dX8_shut_43 : decode cX8_shut 43 = .ok (.iload_n 2, 1) := by decide +kernel
theorem dX8_shut_44 : decode cX8_shut 44 = .ok (.invokevirtual 121, 3) := by decide +kernel
theorem dX8_shut_47 : decode cX8_shut 47 = .ok (.ifCond .ne 7, 3) := by decide +kernel
theorem dX8_shut_50 : decode cX8_shut 50 = .ok (.iconst 1, 1) := by decide +kernel
theorem dX8_shut_51 : decode cX8_shut 51 = .ok (.goto 4, 3) := by decide +kernel
theorem dX8_shut_54 : decode cX8_shut 54 = .ok (.iconst 0, 1) := by decide +kernel
theorem dX8_shut_55 : decode cX8_shut 55 = .ok (.istore 4, 2) := by decide +kernel
theorem dX8_shut_57 : decode cX8_shut 57 = .ok (.aload_n 0, 1) := by decide +kernel
theorem dX8_shut_58 : decode cX8_shut 58 = .ok (.getfield 12, 3) := by decide +kernel
theorem dX8_shut_61 : decode cX8_shut 61 = .ok (.iload_n 1, 1) := by decide +kernel
theorem dX8_shut_62 : decode cX8_shut 62 = .ok (.iload_n 2, 1) := by decide +kernel
theorem dX8_shut_63 : decode cX8_shut 63 = .ok (.iload_n 3, 1) := by decide +kernel
theorem dX8_shut_64 : decode cX8_shut 64 = .ok (.invokevirtual 124, 3) := by decide +kernel
theorem dX8_shut_67 : decode cX8_shut 67 = .ok (.iload 4, 2) := by decide +kernel
theorem dX8_shut_69 : decode cX8_shut 69 = .ok (.iload_n 3, 1) := by decide +kernel
theorem dX8_shut_70 : decode cX8_shut 70 = .ok (.if_icmp .ne 7, 3) := by decide +kernel
theorem dX8_shut_73 : decode cX8_shut 73 = .ok (.iconst 0, 1) := by decide +kernel
theorem dX8_shut_74 : decode cX8_shut 74 = .ok (.goto 4, 3) := by decide +kernel
theorem dX8_shut_77 : decode cX8_shut 77 = .ok (.iconst 1, 1) := by decide +kernel
theorem dX8_shut_78 : decode cX8_shut 78 = .ok (.ireturn, 1) := by decide +kernel
theorem dX8_status_0 : decode cX8_status 0 = .ok (.iload_n 1, 1) := by decide +kernel
theorem dX8_status_1 : decode cX8_status 1 = .ok (.iconst (-1), 1) := by decide +kernel
theorem dX8_status_2 : decode cX8_status 2 = .ok (.bipush 6, 2) := by decide +kernel
theorem dX8_status_4 : decode cX8_status 4 = .ok (.invokestatic 91, 3) := by decide +kernel
theorem dX8_status_7 : decode cX8_status 7 = .ok (.ifCond .ne 10, 3) := by decide +kernel
theorem dX8_status_10 : decode cX8_status 10 = .ok (.aload_n 0, 1) := by decide +kernel
theorem dX8_status_11 : decode cX8_status 11 = .ok (.ldc 95, 2) := by decide +kernel
theorem dX8_status_13 : decode cX8_status 13 = .ok (.invokevirtual 80, 3) := by decide +kernel
theorem dX8_status_16 : decode cX8_status 16 = .ok (.ireturn, 1) := by decide +kernel
theorem dX8_status_17 : decode cX8_status 17 = .ok (.iload_n 1, 1) := by decide +kernel
theorem dX8_status_18 : decode cX8_status 18 = .ok (.ifCond .lt 10, 3) := by decide +kernel
theorem dX8_status_21 : decode cX8_status 21 = .ok (.aload_n 0, 1) := by decide +kernel
theorem dX8_status_22 : decode cX8_status 22 = .ok (.getfield 70, 3) := by decide +kernel
theorem dX8_status_25 : decode cX8_status 25 = .ok (.iload_n 1, 1) := by decide +kernel
theorem dX8_status_26 : decode cX8_status 26 = .ok (.iaload, 1) := by decide +kernel
theorem dX8_status_27 : decode cX8_status 27 = .ok (.ireturn, 1) := by decide +kernel
theorem dX8_status_28 : decode cX8_status 28 = .ok (.iconst 0, 1) := by decide +kernel
theorem dX8_status_29 : decode cX8_status 29 = .ok (.istore_n 2, 1) := by decide +kernel
theorem dX8_status_30 : decode cX8_status 30 = .ok (.iconst 0, 1) := by decide +kernel
theorem dX8_status_31 : decode cX8_status 31 = .ok (.istore_n 3, 1) := by decide +kernel
theorem dX8_status_32 : decode cX8_status 32 = .ok (.iload_n 3, 1) := by decide +kernel
theorem dX8_status_33 : decode cX8_status 33 = .ok (.bipush 7, 2) := by decide +kernel
theorem dX8_status_35 : decode cX8_status 35 = .ok (.if_icmp .ge 18, 3) := by decide +kernel
theorem dX8_status_38 : decode cX8_status 38 = .ok (.iload_n 2, 1) := by decide +kernel
theorem dX8_status_39 : decode cX8_status 39 = .ok (.aload_n 0, 1) := by decide +kernel
theorem dX8_status_40 : decode cX8_status 40 = .ok (.getfield 70, 3) := by decide +kernel
theorem dX8_status_43 : decode cX8_status 43 = .ok (.iload_n 3, 1) := by decide +kernel
theorem dX8_status_44 : decode cX8_status 44 = .ok (.iaload, 1) := by decide +kernel
theorem dX8_status_45 : decode cX8_status 45 = .ok (.iadd, 1) := by decide +kernel
theorem dX8_status_46 : decode cX8_status 46 = .ok (.istore_n 2, 1) := by decide +kernel
theorem dX8_status_47 : decode cX8_status 47 = .ok (.iinc 3 1, 3) := by decide +kernel
theorem dX8_status_50 : decode cX8_status 50 = .ok (.goto (-18), 3) := by decide +kernel
theorem dX8_status_53 : decode cX8_status 53 = .ok (.iload_n 2, 1) := by decide +kernel
theorem dX8_status_54 : decode cX8_status 54 = .ok (.ireturn, 1) := by decide +kernel
theorem dX8_sum_0 : decode cX8_sum 0 = .ok (.aload_n 0, 1) := by decide +kernel
theorem dX8_sum_1 : decode cX8_sum 1 = .ok (.getfield 12, 3) := by decide +kernel
theorem dX8_sum_4 : decode cX8_sum 4 = .ok (.getfield 159, 3) := by decide +kernel
theorem dX8_sum_7 : decode cX8_sum 7 = .ok (.iload_n 1, 1) := by decide +kernel
theorem dX8_sum_8 : decode cX8_sum 8 = .ok (.invokevirtual 171, 3) := by decide +kernel
theorem dX8_sum_11 : decode cX8_sum 11 = .ok (.ifCond .ne 10, 3) := by decide +kernel
theorem dX8_sum_14 : decode cX8_sum 14 = .ok (.aload_n 0, 1) := by decide +kernel
theorem dX8_sum_15 : decode cX8_sum 15 = .ok (.ldc 95, 2) := by decide +kernel
theorem dX8_sum_17 : decode cX8_sum 17 = .ok (.invokevirtual 80, 3) := by decide +kernel
theorem dX8_sum_20 : decode cX8_sum 20 = .ok (.ireturn, 1) := by decide +kernel
theorem dX8_sum_21 : decode cX8_sum 21 = .ok (.aload_n 0, 1) := by decide +kernel
theorem dX8_sum_22 : decode cX8_sum 22 = .ok (.invokevirtual 128, 3) := by decide +kernel
theorem dX8_sum_25 : decode cX8_sum 25 = .ok (.ifCond .eq 10, 3) := by decide +kernel
theorem dX8_sum_28 : decode cX8_sum 28 = .ok (.aload_n 0, 1) := by decide +kernel
theorem dX8_sum_29 : decode cX8_sum 29 = .ok (.ldc 132, 2) := by decide +kernel
theorem dX8_sum_31 : decode cX8_sum 31 = .ok (.invokevirtual 80, 3) := by decide +kernel
theorem dX8_sum_34 : decode cX8_sum 34 = .ok (.ireturn, 1) := by decide +kernel
theorem dX8_sum_35 : decode cX8_sum 35 = .ok (.aload_n 0, 1) := by decide +kernel
theorem dX8_sum_36 : decode cX8_sum 36 = .ok (.aload_n 0, 1) := by decide +kernel
theorem dX8_sum_37 : decode cX8_sum 37 = .ok (.getfield 39, 3) := by decide +kernel
theorem dX8_sum_40 : decode cX8_sum 40 = .ok (.aload_n 0, 1) := by decide +kernel
theorem dX8_sum_41 : decode cX8_sum 41 = .ok (.getfield 12, 3) := by decide +kernel
theorem dX8_sum_44 : decode cX8_sum 44 = .ok (.aload_n 0, 1) := by decide +kernel
theorem dX8_sum_45 : decode cX8_sum 45 = .ok (.getfield 29, 3) := by decide +kernel
theorem dX8_sum_48 : decode cX8_sum 48 = .ok (.iload_n 1, 1) := by decide +kernel
theorem dX8_sum_49 : decode cX8_sum 49 = .ok (.invokevirtual 180, 3) := by decide +kernel
theorem dX8_sum_52 : decode cX8_sum 52 = .ok (.invokevirtual 136, 3) := by decide +kernel
theorem dX8_sum_55 : decode cX8_sum 55 = .ok (.ireturn, 1) := by decide +kernel
theorem dX8_tear_0 : decode cX8_tear 0 = .ok (.aload_n 0, 1) := by decide +kernel
theorem dX8_tear_1 : decode cX8_tear 1 = .ok (.getfield 22, 3) := by decide +kernel
theorem dX8_tear_4 : decode cX8_tear 4 = .ok (.ifCond .eq 7, 3) := by decide +kernel
theorem dX8_tear_7 : decode cX8_tear 7 = .ok (.iconst 1, 1) := by decide +kernel
theorem dX8_tear_8 : decode cX8_tear 8 = .ok (.goto 4, 3) := by decide +kernel
theorem dX8_tear_11 : decode cX8_tear 11 = .ok (.iconst 0, 1) := by decide +kernel
theorem dX8_tear_12 : decode cX8_tear 12 = .ok (.istore_n 1, 1) := by decide +kernel
theorem dX8_tear_13 : decode cX8_tear 13 = .ok (.aload_n 0, 1) := by decide +kernel
theorem dX8_tear_14 : decode cX8_tear 14 = .ok (.iconst 0, 1) := by decide +kernel
theorem dX8_tear_15 : decode cX8_tear 15 = .ok (.putfield 22, 3) := by decide +kernel
theorem dX8_tear_18 : decode cX8_tear 18 = .ok (.iload_n 1, 1) := by decide +kernel
theorem dX8_tear_19 : decode cX8_tear 19 = .ok (.ireturn, 1) := by decide +kernel
theorem dX8_together_0 : decode cX8_together 0 = .ok (.iload_n 0, 1) := by decide +kernel
theorem dX8_together_1 : decode cX8_together 1 = .ok (.ldc 154, 2) := by decide +kernel
theorem dX8_together_3 : decode cX8_together 3 = .ok (.if_icmp .eq 9, 3) := by decide +kernel
theorem dX8_together_6 : decode cX8_together 6 = .ok (.iload_n 1, 1) := by decide +kernel
theorem dX8_together_7 : decode cX8_together 7 = .ok (.ldc 154, 2) := by decide +kernel
theorem dX8_together_9 : decode cX8_together 9 = .ok (.if_icmp .ne 8, 3) := by decide +kernel
theorem dX8_together_12 : decode cX8_together 12 = .ok (.ldc 154, 2) := by decide +kernel
theorem dX8_together_14 : decode cX8_together 14 = .ok (.goto 6, 3) := by decide +kernel
theorem dX8_together_17 : decode cX8_together 17 = .ok (.iload_n 0, 1) := by decide +kernel
theorem dX8_together_18 : decode cX8_together 18 = .ok (.iload_n 1, 1) := by decide +kernel
theorem dX8_together_19 : decode cX8_together 19 = .ok (.iadd, 1) := by decide +kernel
theorem dX8_together_20 : decode cX8_together 20 = .ok (.ireturn, 1) := by decide +kernel
theorem dX8_trip_0 : decode cX8_trip 0 = .ok (.aload_n 0, 1) := by decide +kernel
theorem dX8_trip_1 : decode cX8_trip 1 = .ok (.getfield 12, 3) := by decide +kernel
theorem dX8_trip_4 : decode cX8_trip 4 = .ok (.iload_n 1, 1) := by decide +kernel
theorem dX8_trip_5 : decode cX8_trip 5 = .ok (.i2l, 1) := by decide +kernel
theorem dX8_trip_6 : decode cX8_trip 6 = .ok (.invokevirtual 87, 3) := by decide +kernel
theorem dX8_trip_9 : decode cX8_trip 9 = .ok (.ifCond .ne 10, 3) := by decide +kernel
theorem dX8_trip_12 : decode cX8_trip 12 = .ok (.aload_n 0, 1) := by decide +kernel
theorem dX8_trip_13 : decode cX8_trip 13 = .ok (.ldc 95, 2) := by decide +kernel
theorem dX8_trip_15 : decode cX8_trip 15 = .ok (.invokevirtual 80, 3) := by decide +kernel
theorem dX8_trip_18 : decode cX8_trip 18 = .ok (.ireturn, 1) := by decide +kernel
theorem dX8_trip_19 : decode cX8_trip 19 = .ok (.aload_n 0, 1) := by decide +kernel
theorem dX8_trip_20 : decode cX8_trip 20 = .ok (.invokevirtual 128, 3) := by decide +kernel
theorem dX8_trip_23 : decode cX8_trip 23 = .ok (.ifCond .eq 10, 3) := by decide +kernel
theorem dX8_trip_26 : decode cX8_trip 26 = .ok (.aload_n 0, 1) := by decide +kernel
theorem dX8_trip_27 : decode cX8_trip 27 = .ok (.ldc 132, 2) := by decide +kernel
theorem dX8_trip_29 : decode cX8_trip 29 = .ok (.invokevirtual 80, 3) := by decide +kernel
theorem dX8_trip_32 : decode cX8_trip 32 = .ok (.ireturn, 1) := by decide +kernel
theorem dX8_trip_33 : decode cX8_trip 33 = .ok (.aload_n 0, 1) := by decide +kernel
theorem dX8_trip_34 : decode cX8_trip 34 = .ok (.aload_n 0, 1) := by decide +kernel
theorem dX8_trip_35 : decode cX8_trip 35 = .ok (.getfield 29, 3) := by decide +kernel
theorem dX8_trip_38 : decode cX8_trip 38 = .ok (.aload_n 0, 1) := by decide +kernel
theorem dX8_trip_39 : decode cX8_trip 39 = .ok (.getfield 12, 3) := by decide +kernel
theorem dX8_trip_42 : decode cX8_trip 42 = .ok (.iload_n 1, 1) := by decide +kernel
theorem dX8_trip_43 : decode cX8_trip 43 = .ok (.invokevirtual 201, 3) := by decide +kernel
theorem dX8_trip_46 : decode cX8_trip 46 = .ok (.invokevirtual 136, 3) := by decide +kernel
theorem dX8_trip_49 : decode cX8_trip 49 = .ok (.ireturn, 1) := by decide +kernel
theorem dX8_undo_0 : decode cX8_undo 0 = .ok (.aload_n 0, 1) := by decide +kernel
theorem dX8_undo_1 : decode cX8_undo 1 = .ok (.getfield 22, 3) := by decide +kernel
theorem dX8_undo_4 : decode cX8_undo 4 = .ok (.ifCond .ne 10, 3) := by decide +kernel
theorem dX8_undo_7 : decode cX8_undo 7 = .ok (.aload_n 0, 1) := by decide +kernel
theorem dX8_undo_8 : decode cX8_undo 8 = .ok (.ldc 113, 2) := by decide +kernel
theorem dX8_undo_10 : decode cX8_undo 10 = .ok (.invokevirtual 80, 3) := by decide +kernel
theorem dX8_undo_13 : decode cX8_undo 13 = .ok (.ireturn, 1) := by decide +kernel
theorem dX8_undo_14 : decode cX8_undo 14 = .ok (.aload_n 0, 1) := by decide +kernel
theorem dX8_undo_15 : decode cX8_undo 15 = .ok (.getfield 12, 3) := by decide +kernel
theorem dX8_undo_18 : decode cX8_undo 18 = .ok (.aload_n 0, 1) := by decide +kernel
theorem dX8_undo_19 : decode cX8_undo 19 = .ok (.getfield 16, 3) := by decide +kernel
theorem dX8_undo_22 : decode cX8_undo 22 = .ok (.invokevirtual 241, 3) := by decide +kernel
theorem dX8_undo_25 : decode cX8_undo 25 = .ok (.aload_n 0, 1) := by decide +kernel
theorem dX8_undo_26 : decode cX8_undo 26 = .ok (.getfield 12, 3) := by decide +kernel
theorem dX8_undo_29 : decode cX8_undo 29 = .ok (.getfield 75, 3) := by decide +kernel
theorem dX8_undo_32 : decode cX8_undo 32 = .ok (.ireturn, 1) := by decide +kernel
theorem dX8_walk_0 : decode cX8_walk 0 = .ok (.aload_n 0, 1) := by decide +kernel
theorem dX8_walk_1 : decode cX8_walk 1 = .ok (.getfield 12, 3) := by decide +kernel
theorem dX8_walk_4 : decode cX8_walk 4 = .ok (.iload_n 1, 1) := by decide +kernel
theorem dX8_walk_5 : decode cX8_walk 5 = .ok (.iload_n 2, 1) := by decide +kernel
theorem dX8_walk_6 : decode cX8_walk 6 = .ok (.invokevirtual 99, 3) := by decide +kernel
theorem dX8_walk_9 : decode cX8_walk 9 = .ok (.ifCond .eq 27, 3) := by decide +kernel
theorem dX8_walk_12 : decode cX8_walk 12 = .ok (.iload_n 3, 1) := by decide +kernel
theorem dX8_walk_13 : decode cX8_walk 13 = .ok (.sipush (-9999), 3) := by decide +kernel
theorem dX8_walk_16 : decode cX8_walk 16 = .ok (.sipush 9999, 3) := by decide +kernel
theorem dX8_walk_19 : decode cX8_walk 19 = .ok (.invokestatic 91, 3) := by decide +kernel
theorem dX8_walk_22 : decode cX8_walk 22 = .ok (.ifCond .eq 14, 3) := by decide +kernel
theorem dX8_walk_25 : decode cX8_walk 25 = .ok (.iload 4, 2) := by decide +kernel
theorem dX8_walk_27 : decode cX8_walk 27 = .ok (.iconst 0, 1) := by decide +kernel
theorem dX8_walk_28 : decode cX8_walk 28 = .ok (.bipush 99, 2) := by decide +kernel
theorem dX8_walk_30 : decode cX8_walk 30 = .ok (.invokestatic 91, 3) := by decide +kernel
theorem dX8_walk_33 : decode cX8_walk 33 = .ok (.ifCond .ne 10, 3) := by decide +kernel
theorem dX8_walk_36 : decode cX8_walk 36 = .ok (.aload_n 0, 1) := by decide +kernel
theorem dX8_walk_37 : decode cX8_walk 37 = .ok (.ldc 95, 2) := by decide +kernel
theorem dX8_walk_39 : decode cX8_walk 39 = .ok (.invokevirtual 80, 3) := by decide +kernel
theorem dX8_walk_42 : decode cX8_walk 42 = .ok (.ireturn, 1) := by decide +kernel
theorem dX8_walk_43 : decode cX8_walk 43 = .ok (.aload_n 0, 1) := by decide +kernel
theorem dX8_walk_44 : decode cX8_walk 44 = .ok (.getfield 12, 3) := by decide +kernel
theorem dX8_walk_47 : decode cX8_walk 47 = .ok (.getfield 229, 3) := by decide +kernel
theorem dX8_walk_50 : decode cX8_walk 50 = .ok (.invokevirtual 163, 3) := by decide +kernel
theorem dX8_walk_53 : decode cX8_walk 53 = .ok (.ifCond .eq 10, 3) := by decide +kernel
theorem dX8_walk_56 : decode cX8_walk 56 = .ok (.aload_n 0, 1) := by decide +kernel
theorem dX8_walk_57 : decode cX8_walk 57 = .ok (.ldc 79, 2) := by decide +kernel
theorem dX8_walk_59 : decode cX8_walk 59 = .ok (.invokevirtual 80, 3) := by decide +kernel
theorem dX8_walk_62 : decode cX8_walk 62 = .ok (.ireturn, 1) := by decide +kernel
theorem dX8_walk_63 : decode cX8_walk 63 = .ok (.aload_n 0, 1) := by decide +kernel
theorem dX8_walk_64 : decode cX8_walk 64 = .ok (.getfield 12, 3) := by decide +kernel
theorem dX8_walk_67 : decode cX8_walk 67 = .ok (.iload_n 1, 1) := by decide +kernel
theorem dX8_walk_68 : decode cX8_walk 68 = .ok (.iload_n 3, 1) := by decide +kernel
theorem dX8_walk_69 : decode cX8_walk 69 = .ok (.iload 4, 2) := by decide +kernel
theorem dX8_walk_71 : decode cX8_walk 71 = .ok (.invokevirtual 232, 3) := by decide +kernel
theorem dX8_walk_74 : decode cX8_walk 74 = .ok (.istore 5, 2) := by decide +kernel
theorem dX8_walk_76 : decode cX8_walk 76 = .ok (.aload_n 0, 1) := by decide +kernel
theorem dX8_walk_77 : decode cX8_walk 77 = .ok (.getfield 12, 3) := by decide +kernel
theorem dX8_walk_80 : decode cX8_walk 80 = .ok (.getfield 229, 3) := by decide +kernel
theorem dX8_walk_83 : decode cX8_walk 83 = .ok (.iload 5, 2) := by decide +kernel
theorem dX8_walk_85 : decode cX8_walk 85 = .ok (.iload_n 2, 1) := by decide +kernel
theorem dX8_walk_86 : decode cX8_walk 86 = .ok (.invokevirtual 177, 3) := by decide +kernel
theorem dX8_walk_89 : decode cX8_walk 89 = .ok (.pop, 1) := by decide +kernel
theorem dX8_walk_90 : decode cX8_walk 90 = .ok (.iload 5, 2) := by decide +kernel
theorem dX8_walk_92 : decode cX8_walk 92 = .ok (.ireturn, 1) := by decide +kernel
theorem dX8_way_0 : decode cX8_way 0 = .ok (.aload_n 0, 1) := by decide +kernel
theorem dX8_way_1 : decode cX8_way 1 = .ok (.getfield 12, 3) := by decide +kernel
theorem dX8_way_4 : decode cX8_way 4 = .ok (.iload_n 1, 1) := by decide +kernel
theorem dX8_way_5 : decode cX8_way 5 = .ok (.iload_n 2, 1) := by decide +kernel
theorem dX8_way_6 : decode cX8_way 6 = .ok (.invokevirtual 99, 3) := by decide +kernel
theorem dX8_way_9 : decode cX8_way 9 = .ok (.ifCond .eq 12, 3) := by decide +kernel
theorem dX8_way_12 : decode cX8_way 12 = .ok (.iload_n 3, 1) := by decide +kernel
theorem dX8_way_13 : decode cX8_way 13 = .ok (.iload 4, 2) := by decide +kernel
theorem dX8_way_15 : decode cX8_way 15 = .ok (.invokestatic 103, 3) := by decide +kernel
theorem dX8_way_18 : decode cX8_way 18 = .ok (.ifCond .ne 10, 3) := by decide +kernel
theorem dX8_way_21 : decode cX8_way 21 = .ok (.aload_n 0, 1) := by decide +kernel
theorem dX8_way_22 : decode cX8_way 22 = .ok (.ldc 95, 2) := by decide +kernel
theorem dX8_way_24 : decode cX8_way 24 = .ok (.invokevirtual 80, 3) := by decide +kernel
theorem dX8_way_27 : decode cX8_way 27 = .ok (.ireturn, 1) := by decide +kernel
theorem dX8_way_28 : decode cX8_way 28 = .ok (.aload_n 0, 1) := by decide +kernel
theorem dX8_way_29 : decode cX8_way 29 = .ok (.getfield 12, 3) := by decide +kernel
theorem dX8_way_32 : decode cX8_way 32 = .ok (.iload_n 1, 1) := by decide +kernel
theorem dX8_way_33 : decode cX8_way 33 = .ok (.iload_n 2, 1) := by decide +kernel
theorem dX8_way_34 : decode cX8_way 34 = .ok (.invokevirtual 106, 3) := by decide +kernel
theorem dX8_way_37 : decode cX8_way 37 = .ok (.istore 5, 2) := by decide +kernel
theorem dX8_way_39 : decode cX8_way 39 = .ok (.aload_n 0, 1) := by decide +kernel
theorem dX8_way_40 : decode cX8_way 40 = .ok (.getfield 12, 3) := by decide +kernel
theorem dX8_way_43 : decode cX8_way 43 = .ok (.iload_n 1, 1) := by decide +kernel
theorem dX8_way_44 : decode cX8_way 44 = .ok (.iload_n 2, 1) := by decide +kernel
theorem dX8_way_45 : decode cX8_way 45 = .ok (.iload_n 3, 1) := by decide +kernel
theorem dX8_way_46 : decode cX8_way 46 = .ok (.iload 4, 2) := by decide +kernel
theorem dX8_way_48 : decode cX8_way 48 = .ok (.invokevirtual 109, 3) := by decide +kernel
theorem dX8_way_51 : decode cX8_way 51 = .ok (.iload 5, 2) := by decide +kernel
theorem dX8_way_53 : decode cX8_way 53 = .ok (.ifCond .eq 7, 3) := by decide +kernel
theorem dX8_way_56 : decode cX8_way 56 = .ok (.iconst 0, 1) := by decide +kernel
theorem dX8_way_57 : decode cX8_way 57 = .ok (.goto 4, 3) := by decide +kernel
theorem dX8_way_60 : decode cX8_way 60 = .ok (.iconst 1, 1) := by decide +kernel
theorem dX8_way_61 : decode cX8_way 61 = .ok (.ireturn, 1) := by decide +kernel
theorem dX8_wayOf_0 : decode cX8_wayOf 0 = .ok (.aload_n 0, 1) := by decide +kernel
theorem dX8_wayOf_1 : decode cX8_wayOf 1 = .ok (.getfield 12, 3) := by decide +kernel
theorem dX8_wayOf_4 : decode cX8_wayOf 4 = .ok (.iload_n 1, 1) := by decide +kernel
theorem dX8_wayOf_5 : decode cX8_wayOf 5 = .ok (.iload_n 2, 1) := by decide +kernel
theorem dX8_wayOf_6 : decode cX8_wayOf 6 = .ok (.invokevirtual 99, 3) := by decide +kernel
theorem dX8_wayOf_9 : decode cX8_wayOf 9 = .ok (.ifCond .eq 12, 3) := by decide +kernel
theorem dX8_wayOf_12 : decode cX8_wayOf 12 = .ok (.iload_n 3, 1) := by decide +kernel
theorem dX8_wayOf_13 : decode cX8_wayOf 13 = .ok (.iconst 0, 1) := by decide +kernel
theorem dX8_wayOf_14 : decode cX8_wayOf 14 = .ok (.iconst 2, 1) := by decide +kernel
theorem dX8_wayOf_15 : decode cX8_wayOf 15 = .ok (.invokestatic 91, 3) := by decide +kernel
theorem dX8_wayOf_18 : decode cX8_wayOf 18 = .ok (.ifCond .ne 10, 3) := by decide +kernel
theorem dX8_wayOf_21 : decode cX8_wayOf 21 = .ok (.aload_n 0, 1) := by decide +kernel
theorem dX8_wayOf_22 : decode cX8_wayOf 22 = .ok (.ldc 95, 2) := by decide +kernel
theorem dX8_wayOf_24 : decode cX8_wayOf 24 = .ok (.invokevirtual 80, 3) := by decide +kernel
theorem dX8_wayOf_27 : decode cX8_wayOf 27 = .ok (.ireturn, 1) := by decide +kernel
theorem dX8_wayOf_28 : decode cX8_wayOf 28 = .ok (.aload_n 0, 1) := by decide +kernel
theorem dX8_wayOf_29 : decode cX8_wayOf 29 = .ok (.getfield 12, 3) := by decide +kernel
theorem dX8_wayOf_32 : decode cX8_wayOf 32 = .ok (.iload_n 1, 1) := by decide +kernel
theorem dX8_wayOf_33 : decode cX8_wayOf 33 = .ok (.iload_n 2, 1) := by decide +kernel
theorem dX8_wayOf_34 : decode cX8_wayOf 34 = .ok (.invokevirtual 106, 3) := by decide +kernel
theorem dX8_wayOf_37 : decode cX8_wayOf 37 = .ok (.ifCond .ne 10, 3) := by decide +kernel
theorem dX8_wayOf_40 : decode cX8_wayOf 40 = .ok (.aload_n 0, 1) := by decide +kernel
theorem dX8_wayOf_41 : decode cX8_wayOf 41 = .ok (.ldc 113, 2) := by decide +kernel
theorem dX8_wayOf_43 : decode cX8_wayOf 43 = .ok (.invokevirtual 80, 3) := by decide +kernel
theorem dX8_wayOf_46 : decode cX8_wayOf 46 = .ok (.ireturn, 1) := by decide +kernel
theorem dX8_wayOf_47 : decode cX8_wayOf 47 = .ok (.iload_n 3, 1) := by decide +kernel
theorem dX8_wayOf_48 : decode cX8_wayOf 48 = .ok (.ifCond .ne 13, 3) := by decide +kernel
theorem dX8_wayOf_51 : decode cX8_wayOf 51 = .ok (.aload_n 0, 1) := by decide +kernel
theorem dX8_wayOf_52 : decode cX8_wayOf 52 = .ok (.getfield 12, 3) := by decide +kernel
theorem dX8_wayOf_55 : decode cX8_wayOf 55 = .ok (.iload_n 1, 1) := by decide +kernel
theorem dX8_wayOf_56 : decode cX8_wayOf 56 = .ok (.iload_n 2, 1) := by decide +kernel
theorem dX8_wayOf_57 : decode cX8_wayOf 57 = .ok (.invokevirtual 114, 3) := by decide +kernel
theorem dX8_wayOf_60 : decode cX8_wayOf 60 = .ok (.ireturn, 1) := by decide +kernel
theorem dX8_wayOf_61 : decode cX8_wayOf 61 = .ok (.iload_n 3, 1) := by decide +kernel
theorem dX8_wayOf_62 : decode cX8_wayOf 62 = .ok (.iconst 1, 1) := by decide +kernel
theorem dX8_wayOf_63 : decode cX8_wayOf 63 = .ok (.if_icmp .ne 13, 3) := by decide +kernel
theorem dX8_wayOf_66 : decode cX8_wayOf 66 = .ok (.aload_n 0, 1) := by decide +kernel
theorem dX8_wayOf_67 : decode cX8_wayOf 67 = .ok (.getfield 12, 3) := by decide +kernel
theorem dX8_wayOf_70 : decode cX8_wayOf 70 = .ok (.iload_n 1, 1) := by decide +kernel
theorem dX8_wayOf_71 : decode cX8_wayOf 71 = .ok (.iload_n 2, 1) := by decide +kernel
theorem dX8_wayOf_72 : decode cX8_wayOf 72 = .ok (.invokevirtual 118, 3) := by decide +kernel
theorem dX8_wayOf_75 : decode cX8_wayOf 75 = .ok (.ireturn, 1) := by decide +kernel
theorem dX8_wayOf_76 : decode cX8_wayOf 76 = .ok (.aload_n 0, 1) := by decide +kernel
theorem dX8_wayOf_77 : decode cX8_wayOf 77 = .ok (.getfield 12, 3) := by decide +kernel
theorem dX8_wayOf_80 : decode cX8_wayOf 80 = .ok (.iload_n 1, 1) := by decide +kernel
theorem dX8_wayOf_81 : decode cX8_wayOf 81 = .ok (.iload_n 2, 1) := by decide +kernel
theorem dX8_wayOf_82 : decode cX8_wayOf 82 = .ok (.invokevirtual 121, 3) := by decide +kernel
theorem dX8_wayOf_85 : decode cX8_wayOf 85 = .ok (.ifCond .eq 7, 3) := by decide +kernel
theorem dX8_wayOf_88 : decode cX8_wayOf 88 = .ok (.iconst 0, 1) := by decide +kernel
theorem dX8_wayOf_89 : decode cX8_wayOf 89 = .ok (.goto 4, 3) := by decide +kernel
theorem dX8_wayOf_92 : decode cX8_wayOf 92 = .ok (.iconst 1, 1) := by decide +kernel
theorem dX8_wayOf_93 : decode cX8_wayOf 93 = .ok (.ireturn, 1) := by decide +kernel
theorem dX8_wipe_0 : decode cX8_wipe 0 = .ok (.aload_n 0, 1) := by decide +kernel
theorem dX8_wipe_1 : decode cX8_wipe 1 = .ok (.getfield 60, 3) := by decide +kernel
theorem dX8_wipe_4 : decode cX8_wipe 4 = .ok (.getfield 275, 3) := by decide +kernel
theorem dX8_wipe_7 : decode cX8_wipe 7 = .ok (.istore_n 1, 1) := by decide +kernel
theorem dX8_wipe_8 : decode cX8_wipe 8 = .ok (.aload_n 0, 1) := by decide +kernel
theorem dX8_wipe_9 : decode cX8_wipe 9 = .ok (.getfield 60, 3) := by decide +kernel
theorem dX8_wipe_12 : decode cX8_wipe 12 = .ok (.iconst 0, 1) := by decide +kernel
theorem dX8_wipe_13 : decode cX8_wipe 13 = .ok (.putfield 275, 3) := by decide +kernel
theorem dX8_wipe_16 : decode cX8_wipe 16 = .ok (.iload_n 1, 1) := by decide +kernel
theorem dX8_wipe_17 : decode cX8_wipe 17 = .ok (.ireturn, 1) := by decide +kernel
theorem dX8_worst_0 : decode cX8_worst 0 = .ok (.aload_n 0, 1) := by decide +kernel
theorem dX8_worst_1 : decode cX8_worst 1 = .ok (.getfield 12, 3) := by decide +kernel
theorem dX8_worst_4 : decode cX8_worst 4 = .ok (.invokestatic 226, 3) := by decide +kernel
theorem dX8_worst_7 : decode cX8_worst 7 = .ok (.istore_n 1, 1) := by decide +kernel
theorem dX8_worst_8 : decode cX8_worst 8 = .ok (.iload_n 1, 1) := by decide +kernel
theorem dX8_worst_9 : decode cX8_worst 9 = .ok (.ifCond .ge 12, 3) := by decide +kernel
theorem dX8_worst_12 : decode cX8_worst 12 = .ok (.aload_n 0, 1) := by decide +kernel
theorem dX8_worst_13 : decode cX8_worst 13 = .ok (.ldc 113, 2) := by decide +kernel
theorem dX8_worst_15 : decode cX8_worst 15 = .ok (.invokevirtual 80, 3) := by decide +kernel
theorem dX8_worst_18 : decode cX8_worst 18 = .ok (.goto 4, 3) := by decide +kernel
theorem dX8_worst_21 : decode cX8_worst 21 = .ok (.iload_n 1, 1) := by decide +kernel
theorem dX8_worst_22 : decode cX8_worst 22 = .ok (.ireturn, 1) := by decide +kernel
