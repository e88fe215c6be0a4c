theorem dJ0_coder_7d493_0 : decode cJ0_coder_7d493 0 = .ok (.getstatic 38, 3) := dk_178_ (show cJ0_coder_7d493.data.toList[0]? = some 0xb2 from by decide +kernel) (show cJ0_coder_7d493.data.toList[1]? = some 0x00 from by decide +kernel) (show cJ0_coder_7d493.data.toList[2]? = some 0x26 from by decide +kernel) (by decide)
theorem dJ0_coder_7d493_3 : decode cJ0_coder_7d493 3 = .ok (.ifCond .eq 10, 3) := dk_153_ (show cJ0_coder_7d493.data.toList[3]? = some 0x99 from by decide +kernel) (show cJ0_coder_7d493.data.toList[4]? = some 0x00 from by decide +kernel) (show cJ0_coder_7d493.data.toList[5]? = some 0x0a from by decide +kernel) (by decide)
theorem dJ0_coder_7d493_6 : decode cJ0_coder_7d493 6 = .ok (.aload_n 0, 1) := dk_42_ (show cJ0_coder_7d493.data.toList[6]? = some 0x2a from by decide +kernel)
theorem dJ0_coder_7d493_7 : decode cJ0_coder_7d493 7 = .ok (.getfield 15, 3) := dk_180_ (show cJ0_coder_7d493.data.toList[7]? = some 0xb4 from by decide +kernel) (show cJ0_coder_7d493.data.toList[8]? = some 0x00 from by decide +kernel) (show cJ0_coder_7d493.data.toList[9]? = some 0x0f from by decide +kernel) (by decide)
theorem dJ0_coder_7d493_10 : decode cJ0_coder_7d493 10 = .ok (.goto 4, 3) := dk_167_ (show cJ0_coder_7d493.data.toList[10]? = some 0xa7 from by decide +kernel) (show cJ0_coder_7d493.data.toList[11]? = some 0x00 from by decide +kernel) (show cJ0_coder_7d493.data.toList[12]? = some 0x04 from by decide +kernel) (by decide)
theorem dJ0_coder_7d493_14 : decode cJ0_coder_7d493 14 = .ok (.ireturn, 1) := dk_172_ (show cJ0_coder_7d493.data.toList[14]? = some 0xac from by decide +kernel)
def LRJ0_isLatin1_aae02_2 : List UInt8 := []
def LBJ0_isLatin1_aae02_1 : List UInt8 := [0x04, 0x03, 0xac]
def LRJ0_isLatin1_aae02_1 : List UInt8 := LBJ0_isLatin1_aae02_1 ++ LRJ0_isLatin1_aae02_2
def LBJ0_isLatin1_aae02_0 : List UInt8 := [0xb2, 0x00, 0x26, 0x99, 0x00, 0x0e, 0x2a, 0xb4, 0x00, 0x0f, 0x9a, 0x00, 0x07, 0x04, 0xa7, 0x00]
def LRJ0_isLatin1_aae02_0 : List UInt8 := LBJ0_isLatin1_aae02_0 ++ LRJ0_isLatin1_aae02_1
set_option maxRecDepth 100000 in
theorem LBJ0_isLatin1_aae02_eq : cJ0_isLatin1_aae02.data.toList = LRJ0_isLatin1_aae02_0 := by decide +kernel
theorem LBJ0_isLatin1_aae02r_0 (k : Nat) : cJ0_isLatin1_aae02.data.toList[0 + k]? = LRJ0_isLatin1_aae02_0[k]? := by rw [LBJ0_isLatin1_aae02_eq, Nat.zero_add]
theorem LBJ0_isLatin1_aae02r_1 (k : Nat) : cJ0_isLatin1_aae02.data.toList[16 + k]? = LRJ0_isLatin1_aae02_1[k]? := by
  have h := LBJ0_isLatin1_aae02r_0 (16 + k)
  rw [show 0 + (16 + k) = 16 + k by omega] at h
  rw [h]
  exact (List.getElem?_append_right (l₁ := LBJ0_isLatin1_aae02_0) (l₂ := LRJ0_isLatin1_aae02_1) (show 16 ≤ 16 + k by omega)).trans (congrArg (fun i => LRJ0_isLatin1_aae02_1[i]?) (show 16 + k - 16 = k by omega))
theorem dJ0_isLatin1_aae02_0 : decode cJ0_isLatin1_aae02 0 = .ok (.getstatic 38, 3) := dk_178_ (show cJ0_isLatin1_aae02.data.toList[0]? = some 0xb2 from (LBJ0_isLatin1_aae02r_0 0).trans (by decide +kernel)) (show cJ0_isLatin1_aae02.data.toList[1]? = some 0x00 from (LBJ0_isLatin1_aae02r_0 1).trans (by decide +kernel)) (show cJ0_isLatin1_aae02.data.toList[2]? = some 0x26 from (LBJ0_isLatin1_aae02r_0 2).trans (by decide +kernel)) (by decide)
theorem dJ0_isLatin1_aae02_3 : decode cJ0_isLatin1_aae02 3 = .ok (.ifCond .eq 14, 3) := dk_153_ (show cJ0_isLatin1_aae02.data.toList[3]? = some 0x99 from (LBJ0_isLatin1_aae02r_0 3).trans (by decide +kernel)) (show cJ0_isLatin1_aae02.data.toList[4]? = some 0x00 from (LBJ0_isLatin1_aae02r_0 4).trans (by decide +kernel)) (show cJ0_isLatin1_aae02.data.toList[5]? = some 0x0e from (LBJ0_isLatin1_aae02r_0 5).trans (by decide +kernel)) (by decide)
theorem dJ0_isLatin1_aae02_6 : decode cJ0_isLatin1_aae02 6 = .ok (.aload_n 0, 1) := dk_42_ (show cJ0_isLatin1_aae02.data.toList[6]? = some 0x2a from (LBJ0_isLatin1_aae02r_0 6).trans (by decide +kernel))
theorem dJ0_isLatin1_aae02_7 : decode cJ0_isLatin1_aae02 7 = .ok (.getfield 15, 3) := dk_180_ (show cJ0_isLatin1_aae02.data.toList[7]? = some 0xb4 from (LBJ0_isLatin1_aae02r_0 7).trans (by decide +kernel)) (show cJ0_isLatin1_aae02.data.toList[8]? = some 0x00 from (LBJ0_isLatin1_aae02r_0 8).trans (by decide +kernel)) (show cJ0_isLatin1_aae02.data.toList[9]? = some 0x0f from (LBJ0_isLatin1_aae02r_0 9).trans (by decide +kernel)) (by decide)
theorem dJ0_isLatin1_aae02_10 : decode cJ0_isLatin1_aae02 10 = .ok (.ifCond .ne 7, 3) := dk_154_ (show cJ0_isLatin1_aae02.data.toList[10]? = some 0x9a from (LBJ0_isLatin1_aae02r_0 10).trans (by decide +kernel)) (show cJ0_isLatin1_aae02.data.toList[11]? = some 0x00 from (LBJ0_isLatin1_aae02r_0 11).trans (by decide +kernel)) (show cJ0_isLatin1_aae02.data.toList[12]? = some 0x07 from (LBJ0_isLatin1_aae02r_0 12).trans (by decide +kernel)) (by decide)
theorem dJ0_isLatin1_aae02_13 : decode cJ0_isLatin1_aae02 13 = .ok (.iconst 1, 1) := dk_4_ (show cJ0_isLatin1_aae02.data.toList[13]? = some 0x04 from (LBJ0_isLatin1_aae02r_0 13).trans (by decide +kernel))
theorem dJ0_isLatin1_aae02_14 : decode cJ0_isLatin1_aae02 14 = .ok (.goto 4, 3) := dk_167_ (show cJ0_isLatin1_aae02.data.toList[14]? = some 0xa7 from (LBJ0_isLatin1_aae02r_0 14).trans (by decide +kernel)) (show cJ0_isLatin1_aae02.data.toList[15]? = some 0x00 from (LBJ0_isLatin1_aae02r_0 15).trans (by decide +kernel)) (show cJ0_isLatin1_aae02.data.toList[16]? = some 0x04 from (LBJ0_isLatin1_aae02r_1 0).trans (by decide +kernel)) (by decide)
theorem dJ0_isLatin1_aae02_18 : decode cJ0_isLatin1_aae02 18 = .ok (.ireturn, 1) := dk_172_ (show cJ0_isLatin1_aae02.data.toList[18]? = some 0xac from (LBJ0_isLatin1_aae02r_1 2).trans (by decide +kernel))
theorem dJ0_length_8abf5_0 : decode cJ0_length_8abf5 0 = .ok (.aload_n 0, 1) := dk_42_ (show cJ0_length_8abf5.data.toList[0]? = some 0x2a from by decide +kernel)
theorem dJ0_length_8abf5_1 : decode cJ0_length_8abf5 1 = .ok (.getfield 9, 3) := dk_180_ (show cJ0_length_8abf5.data.toList[1]? = some 0xb4 from by decide +kernel) (show cJ0_length_8abf5.data.toList[2]? = some 0x00 from by decide +kernel) (show cJ0_length_8abf5.data.toList[3]? = some 0x09 from by decide +kernel) (by decide)
theorem dJ0_length_8abf5_4 : decode cJ0_length_8abf5 4 = .ok (.arraylength, 1) := dk_190_ (show cJ0_length_8abf5.data.toList[4]? = some 0xbe from by decide +kernel)
theorem dJ0_length_8abf5_5 : decode cJ0_length_8abf5 5 = .ok (.aload_n 0, 1) := dk_42_ (show cJ0_length_8abf5.data.toList[5]? = some 0x2a from by decide +kernel)
theorem dJ0_length_8abf5_6 : decode cJ0_length_8abf5 6 = .ok (.invokevirtual 335, 3) := dk_182_ (show cJ0_length_8abf5.data.toList[6]? = some 0xb6 from by decide +kernel) (show cJ0_length_8abf5.data.toList[7]? = some 0x01 from by decide +kernel) (show cJ0_length_8abf5.data.toList[8]? = some 0x4f from by decide +kernel) (by decide)
theorem dJ0_length_8abf5_9 : decode cJ0_length_8abf5 9 = .ok (.ishr, 1) := dk_122_ (show cJ0_length_8abf5.data.toList[9]? = some 0x7a from by decide +kernel)
theorem dJ0_length_8abf5_10 : decode cJ0_length_8abf5 10 = .ok (.ireturn, 1) := dk_172_ (show cJ0_length_8abf5.data.toList[10]? = some 0xac from by decide +kernel)
def LRJ3_checkIndex_8e157_2 : List UInt8 := []
def LBJ3_checkIndex_8e157_1 : List UInt8 := [0x1a, 0xac]
def LRJ3_checkIndex_8e157_1 : List UInt8 := LBJ3_checkIndex_8e157_1 ++ LRJ3_checkIndex_8e157_2
def LBJ3_checkIndex_8e157_0 : List UInt8 := [0x1a, 0x9b, 0x00, 0x08, 0x1a, 0x1b, 0xa1, 0x00, 0x0a, 0x2c, 0x1a, 0x1b, 0xb8, 0x00, 0x5f, 0xbf]
def LRJ3_checkIndex_8e157_0 : List UInt8 := LBJ3_checkIndex_8e157_0 ++ LRJ3_checkIndex_8e157_1
set_option maxRecDepth 100000 in
theorem LBJ3_checkIndex_8e157_eq : cJ3_checkIndex_8e157.data.toList = LRJ3_checkIndex_8e157_0 := by decide +kernel
theorem LBJ3_checkIndex_8e157r_0 (k : Nat) : cJ3_checkIndex_8e157.data.toList[0 + k]? = LRJ3_checkIndex_8e157_0[k]? := by rw [LBJ3_checkIndex_8e157_eq, Nat.zero_add]
theorem LBJ3_checkIndex_8e157r_1 (k : Nat) : cJ3_checkIndex_8e157.data.toList[16 + k]? = LRJ3_checkIndex_8e157_1[k]? := by
  have h := LBJ3_checkIndex_8e157r_0 (16 + k)
  rw [show 0 + (16 + k) = 16 + k by omega] at h
  rw [h]
  exact (List.getElem?_append_right (l₁ := LBJ3_checkIndex_8e157_0) (l₂ := LRJ3_checkIndex_8e157_1) (show 16 ≤ 16 + k by omega)).trans (congrArg (fun i => LRJ3_checkIndex_8e157_1[i]?) (show 16 + k - 16 = k by omega))
theorem dJ3_checkIndex_8e157_0 : decode cJ3_checkIndex_8e157 0 = .ok (.iload_n 0, 1) := dk_26_ (show cJ3_checkIndex_8e157.data.toList[0]? = some 0x1a from (LBJ3_checkIndex_8e157r_0 0).trans (by decide +kernel))
theorem dJ3_checkIndex_8e157_1 : decode cJ3_checkIndex_8e157 1 = .ok (.ifCond .lt 8, 3) := dk_155_ (show cJ3_checkIndex_8e157.data.toList[1]? = some 0x9b from (LBJ3_checkIndex_8e157r_0 1).trans (by decide +kernel)) (show cJ3_checkIndex_8e157.data.toList[2]? = some 0x00 from (LBJ3_checkIndex_8e157r_0 2).trans (by decide +kernel)) (show cJ3_checkIndex_8e157.data.toList[3]? = some 0x08 from (LBJ3_checkIndex_8e157r_0 3).trans (by decide +kernel)) (by decide)
theorem dJ3_checkIndex_8e157_4 : decode cJ3_checkIndex_8e157 4 = .ok (.iload_n 0, 1) := dk_26_ (show cJ3_checkIndex_8e157.data.toList[4]? = some 0x1a from (LBJ3_checkIndex_8e157r_0 4).trans (by decide +kernel))
theorem dJ3_checkIndex_8e157_5 : decode cJ3_checkIndex_8e157 5 = .ok (.iload_n 1, 1) := dk_27_ (show cJ3_checkIndex_8e157.data.toList[5]? = some 0x1b from (LBJ3_checkIndex_8e157r_0 5).trans (by decide +kernel))
theorem dJ3_checkIndex_8e157_6 : decode cJ3_checkIndex_8e157 6 = .ok (.if_icmp .lt 10, 3) := dk_161_ (show cJ3_checkIndex_8e157.data.toList[6]? = some 0xa1 from (LBJ3_checkIndex_8e157r_0 6).trans (by decide +kernel)) (show cJ3_checkIndex_8e157.data.toList[7]? = some 0x00 from (LBJ3_checkIndex_8e157r_0 7).trans (by decide +kernel)) (show cJ3_checkIndex_8e157.data.toList[8]? = some 0x0a from (LBJ3_checkIndex_8e157r_0 8).trans (by decide +kernel)) (by decide)
theorem dJ3_checkIndex_8e157_16 : decode cJ3_checkIndex_8e157 16 = .ok (.iload_n 0, 1) := dk_26_ (show cJ3_checkIndex_8e157.data.toList[16]? = some 0x1a from (LBJ3_checkIndex_8e157r_1 0).trans (by decide +kernel))
theorem dJ3_checkIndex_8e157_17 : decode cJ3_checkIndex_8e157 17 = .ok (.ireturn, 1) := dk_172_ (show cJ3_checkIndex_8e157.data.toList[17]? = some 0xac from (LBJ3_checkIndex_8e157r_1 1).trans (by decide +kernel))
theorem dJ0_checkIndex_df160_0 : decode cJ0_checkIndex_df160 0 = .ok (.iload_n 0, 1) := dk_26_ (show cJ0_checkIndex_df160.data.toList[0]? = some 0x1a from by decide +kernel)
theorem dJ0_checkIndex_df160_1 : decode cJ0_checkIndex_df160 1 = .ok (.iload_n 1, 1) := dk_27_ (show cJ0_checkIndex_df160.data.toList[1]? = some 0x1b from by decide +kernel)
theorem dJ0_checkIndex_df160_2 : decode cJ0_checkIndex_df160 2 = .ok (.getstatic 1053, 3) := dk_178_ (show cJ0_checkIndex_df160.data.toList[2]? = some 0xb2 from by decide +kernel) (show cJ0_checkIndex_df160.data.toList[3]? = some 0x04 from by decide +kernel) (show cJ0_checkIndex_df160.data.toList[4]? = some 0x1d from by decide +kernel) (by decide)
theorem dJ0_checkIndex_df160_5 : decode cJ0_checkIndex_df160 5 = .ok (.invokestatic 1059, 3) := dk_184_ (show cJ0_checkIndex_df160.data.toList[5]? = some 0xb8 from by decide +kernel) (show cJ0_checkIndex_df160.data.toList[6]? = some 0x04 from by decide +kernel) (show cJ0_checkIndex_df160.data.toList[7]? = some 0x23 from by decide +kernel) (by decide)
theorem dJ0_checkIndex_df160_8 : decode cJ0_checkIndex_df160 8 = .ok (.pop, 1) := dk_87_ (show cJ0_checkIndex_df160.data.toList[8]? = some 0x57 from by decide +kernel)
theorem dJ0_checkIndex_df160_9 : decode cJ0_checkIndex_df160 9 = .ok (.return_, 1) := dk_177_ (show cJ0_checkIndex_df160.data.toList[9]? = some 0xb1 from by decide +kernel)
theorem dJ1_charAt_3b067_0 : decode cJ1_charAt_3b067 0 = .ok (.iload_n 1, 1) := dk_27_ (show cJ1_charAt_3b067.data.toList[0]? = some 0x1b from by decide +kernel)
theorem dJ1_charAt_3b067_1 : decode cJ1_charAt_3b067 1 = .ok (.aload_n 0, 1) := dk_42_ (show cJ1_charAt_3b067.data.toList[1]? = some 0x2a from by decide +kernel)
theorem dJ1_charAt_3b067_2 : decode cJ1_charAt_3b067 2 = .ok (.arraylength, 1) := dk_190_ (show cJ1_charAt_3b067.data.toList[2]? = some 0xbe from by decide +kernel)
theorem dJ1_charAt_3b067_3 : decode cJ1_charAt_3b067 3 = .ok (.invokestatic 9, 3) := dk_184_ (show cJ1_charAt_3b067.data.toList[3]? = some 0xb8 from by decide +kernel) (show cJ1_charAt_3b067.data.toList[4]? = some 0x00 from by decide +kernel) (show cJ1_charAt_3b067.data.toList[5]? = some 0x09 from by decide +kernel) (by decide)
theorem dJ1_charAt_3b067_6 : decode cJ1_charAt_3b067 6 = .ok (.aload_n 0, 1) := dk_42_ (show cJ1_charAt_3b067.data.toList[6]? = some 0x2a from by decide +kernel)
theorem dJ1_charAt_3b067_7 : decode cJ1_charAt_3b067 7 = .ok (.iload_n 1, 1) := dk_27_ (show cJ1_charAt_3b067.data.toList[7]? = some 0x1b from by decide +kernel)
theorem dJ1_charAt_3b067_8 : decode cJ1_charAt_3b067 8 = .ok (.baload, 1) := dk_51_ (show cJ1_charAt_3b067.data.toList[8]? = some 0x33 from by decide +kernel)
theorem dJ1_charAt_3b067_9 : decode cJ1_charAt_3b067 9 = .ok (.sipush 255, 3) := dk_17_ (show cJ1_charAt_3b067.data.toList[9]? = some 0x11 from by decide +kernel) (show cJ1_charAt_3b067.data.toList[10]? = some 0x00 from by decide +kernel) (show cJ1_charAt_3b067.data.toList[11]? = some 0xff from by decide +kernel) (by decide)
theorem dJ1_charAt_3b067_12 : decode cJ1_charAt_3b067 12 = .ok (.iand, 1) := dk_126_ (show cJ1_charAt_3b067.data.toList[12]? = some 0x7e from by decide +kernel)
theorem dJ1_charAt_3b067_13 : decode cJ1_charAt_3b067 13 = .ok (.i2c, 1) := dk_146_ (show cJ1_charAt_3b067.data.toList[13]? = some 0x92 from by decide +kernel)
theorem dJ1_charAt_3b067_14 : decode cJ1_charAt_3b067 14 = .ok (.ireturn, 1) := dk_172_ (show cJ1_charAt_3b067.data.toList[14]? = some 0xac from by decide +kernel)
def LRJ0_charAt_5068e_2 : List UInt8 := []
def LBJ0_charAt_5068e_1 : List UInt8 := [0x2a, 0xb4, 0x00, 0x09, 0x1b, 0xb8, 0x01, 0xf2, 0xac]
def LRJ0_charAt_5068e_1 : List UInt8 := LBJ0_charAt_5068e_1 ++ LRJ0_charAt_5068e_2
def LBJ0_charAt_5068e_0 : List UInt8 := [0x2a, 0xb6, 0x01, 0xec, 0x99, 0x00, 0x0c, 0x2a, 0xb4, 0x00, 0x09, 0x1b, 0xb8, 0x01, 0xef, 0xac]
def LRJ0_charAt_5068e_0 : List UInt8 := LBJ0_charAt_5068e_0 ++ LRJ0_charAt_5068e_1
set_option maxRecDepth 100000 in
theorem LBJ0_charAt_5068e_eq : cJ0_charAt_5068e.data.toList = LRJ0_charAt_5068e_0 := by decide +kernel
theorem LBJ0_charAt_5068er_0 (k : Nat) : cJ0_charAt_5068e.data.toList[0 + k]? = LRJ0_charAt_5068e_0[k]? := by rw [LBJ0_charAt_5068e_eq, Nat.zero_add]
theorem LBJ0_charAt_5068er_1 (k : Nat) : cJ0_charAt_5068e.data.toList[16 + k]? = LRJ0_charAt_5068e_1[k]? := by
  have h := LBJ0_charAt_5068er_0 (16 + k)
  rw [show 0 + (16 + k) = 16 + k by omega] at h
  rw [h]
  exact (List.getElem?_append_right (l₁ := LBJ0_charAt_5068e_0) (l₂ := LRJ0_charAt_5068e_1) (show 16 ≤ 16 + k by omega)).trans (congrArg (fun i => LRJ0_charAt_5068e_1[i]?) (show 16 + k - 16 = k by omega))
theorem dJ0_charAt_5068e_0 : decode cJ0_charAt_5068e 0 = .ok (.aload_n 0, 1) := dk_42_ (show cJ0_charAt_5068e.data.toList[0]? = some 0x2a from (LBJ0_charAt_5068er_0 0).trans (by decide +kernel))
theorem dJ0_charAt_5068e_1 : decode cJ0_charAt_5068e 1 = .ok (.invokevirtual 492, 3) := dk_182_ (show cJ0_charAt_5068e.data.toList[1]? = some 0xb6 from (LBJ0_charAt_5068er_0 1).trans (by decide +kernel)) (show cJ0_charAt_5068e.data.toList[2]? = some 0x01 from (LBJ0_charAt_5068er_0 2).trans (by decide +kernel)) (show cJ0_charAt_5068e.data.toList[3]? = some 0xec from (LBJ0_charAt_5068er_0 3).trans (by decide +kernel)) (by decide)
theorem dJ0_charAt_5068e_4 : decode cJ0_charAt_5068e 4 = .ok (.ifCond .eq 12, 3) := dk_153_ (show cJ0_charAt_5068e.data.toList[4]? = some 0x99 from (LBJ0_charAt_5068er_0 4).trans (by decide +kernel)) (show cJ0_charAt_5068e.data.toList[5]? = some 0x00 from (LBJ0_charAt_5068er_0 5).trans (by decide +kernel)) (show cJ0_charAt_5068e.data.toList[6]? = some 0x0c from (LBJ0_charAt_5068er_0 6).trans (by decide +kernel)) (by decide)
theorem dJ0_charAt_5068e_7 : decode cJ0_charAt_5068e 7 = .ok (.aload_n 0, 1) := dk_42_ (show cJ0_charAt_5068e.data.toList[7]? = some 0x2a from (LBJ0_charAt_5068er_0 7).trans (by decide +kernel))
theorem dJ0_charAt_5068e_8 : decode cJ0_charAt_5068e 8 = .ok (.getfield 9, 3) := dk_180_ (show cJ0_charAt_5068e.data.toList[8]? = some 0xb4 from (LBJ0_charAt_5068er_0 8).trans (by decide +kernel)) (show cJ0_charAt_5068e.data.toList[9]? = some 0x00 from (LBJ0_charAt_5068er_0 9).trans (by decide +kernel)) (show cJ0_charAt_5068e.data.toList[10]? = some 0x09 from (LBJ0_charAt_5068er_0 10).trans (by decide +kernel)) (by decide)
theorem dJ0_charAt_5068e_11 : decode cJ0_charAt_5068e 11 = .ok (.iload_n 1, 1) := dk_27_ (show cJ0_charAt_5068e.data.toList[11]? = some 0x1b from (LBJ0_charAt_5068er_0 11).trans (by decide +kernel))
theorem dJ0_charAt_5068e_12 : decode cJ0_charAt_5068e 12 = .ok (.invokestatic 495, 3) := dk_184_ (show cJ0_charAt_5068e.data.toList[12]? = some 0xb8 from (LBJ0_charAt_5068er_0 12).trans (by decide +kernel)) (show cJ0_charAt_5068e.data.toList[13]? = some 0x01 from (LBJ0_charAt_5068er_0 13).trans (by decide +kernel)) (show cJ0_charAt_5068e.data.toList[14]? = some 0xef from (LBJ0_charAt_5068er_0 14).trans (by decide +kernel)) (by decide)
theorem dJ0_charAt_5068e_15 : decode cJ0_charAt_5068e 15 = .ok (.ireturn, 1) := dk_172_ (show cJ0_charAt_5068e.data.toList[15]? = some 0xac from (LBJ0_charAt_5068er_0 15).trans (by decide +kernel))
theorem uw260 : Cond.fieldLink RJ0 38 "java/lang/String" "COMPACT_STRINGS" "Z" ∈ wsU := ut4 (List.mem_of_getElem? (i := 40) rfl) rfl
theorem uw261 : Cond.fieldLink RJ0 15 "java/lang/String" "coder" "B" ∈ wsU := ut6 (List.mem_of_getElem? (i := 232) rfl) rfl
theorem uw262 : Cond.fieldLink RJ0 9 "java/lang/String" "value" "[B" ∈ wsU := ut6 (List.mem_of_getElem? (i := 231) rfl) rfl
theorem uw263 : Cond.methodLink RJ0 335 yJ0_coder_7d493 ∈ wsU := ut4 (List.mem_of_getElem? (i := 36) rfl) rfl
theorem uw264 : Cond.instanceMethod yJ0_coder_7d493 ∈ wsU := ut4 (List.mem_of_getElem? (i := 37) rfl) rfl
theorem uw265 : Cond.selects RJ0 yJ0_coder_7d493 yJ0_coder_7d493 ∈ wsU := ut4 (List.mem_of_getElem? (i := 38) rfl) rfl
theorem uw266 : Cond.initialized RJ0 ∈ wsU := ut1 (List.mem_of_getElem? (i := 13) rfl) rfl
theorem uw267 : Cond.code yJ0_coder_7d493 cJ0_coder_7d493 1 (some .byte) ∈ wsU := ut4 (List.mem_of_getElem? (i := 39) rfl) rfl
theorem uw268 : Cond.fieldLink RJ0 1053 "jdk/internal/util/Preconditions" "SIOOBE_FORMATTER" "Ljava/util/function/BiFunction;" ∈ wsU := ut4 (List.mem_of_getElem? (i := 56) rfl) rfl
theorem uw269 : Cond.methodLink RJ0 1059 yJ3_checkIndex_8e157 ∈ wsU := ut4 (List.mem_of_getElem? (i := 58) rfl) rfl
theorem uw270 : Cond.static yJ3_checkIndex_8e157 ∈ wsU := ut4 (List.mem_of_getElem? (i := 59) rfl) rfl
theorem uw271 : Cond.initialized yJ3_checkIndex_8e157.cls ∈ wsU := ut1 (List.mem_of_getElem? (i := 15) rfl) rfl
theorem uw272 : Cond.code yJ3_checkIndex_8e157 cJ3_checkIndex_8e157 3 (some .int) ∈ wsU := ut4 (List.mem_of_getElem? (i := 60) rfl) rfl
theorem uw273 : Cond.methodLink RJ1 9 yJ0_checkIndex_df160 ∈ wsU := ut4 (List.mem_of_getElem? (i := 53) rfl) rfl
theorem uw274 : Cond.static yJ0_checkIndex_df160 ∈ wsU := ut4 (List.mem_of_getElem? (i := 54) rfl) rfl
theorem uw275 : Cond.initialized yJ0_checkIndex_df160.cls ∈ wsU := ut1 (List.mem_of_getElem? (i := 13) rfl) rfl
theorem uw276 : Cond.code yJ0_checkIndex_df160 cJ0_checkIndex_df160 2 none ∈ wsU := ut4 (List.mem_of_getElem? (i := 55) rfl) rfl
theorem uw277 : Cond.methodLink RJ0 492 yJ0_isLatin1_aae02 ∈ wsU := ut4 (List.mem_of_getElem? (i := 46) rfl) rfl
theorem uw278 : Cond.instanceMethod yJ0_isLatin1_aae02 ∈ wsU := ut4 (List.mem_of_getElem? (i := 47) rfl) rfl
theorem uw279 : Cond.selects RJ0 yJ0_isLatin1_aae02 yJ0_isLatin1_aae02 ∈ wsU := ut4 (List.mem_of_getElem? (i := 48) rfl) rfl
theorem uw280 : Cond.code yJ0_isLatin1_aae02 cJ0_isLatin1_aae02 1 (some .boolean) ∈ wsU := ut4 (List.mem_of_getElem? (i := 49) rfl) rfl
theorem uw281 : Cond.methodLink RJ0 495 yJ1_charAt_3b067 ∈ wsU := ut4 (List.mem_of_getElem? (i := 50) rfl) rfl
theorem uw282 : Cond.static yJ1_charAt_3b067 ∈ wsU := ut4 (List.mem_of_getElem? (i := 51) rfl) rfl
theorem uw283 : Cond.initialized yJ1_charAt_3b067.cls ∈ wsU := ut1 (List.mem_of_getElem? (i := 14) rfl) rfl
theorem uw284 : Cond.code yJ1_charAt_3b067 cJ1_charAt_3b067 2 (some .char) ∈ wsU := ut4 (List.mem_of_getElem? (i := 52) rfl) rfl
theorem kv_J0_335 : xWV RJ0 335 RJ0 yJ0_coder_7d493 cJ0_coder_7d493 1 (some .byte) 0 := ⟨⟨uw263, uw264, uw265, uw266, uw267⟩, by decide +kernel⟩
theorem ks_J0_1059 : xWS RJ0 1059 yJ3_checkIndex_8e157 cJ3_checkIndex_8e157 3 (some .int) 3 := ⟨⟨uw269, uw270, uw271, uw272⟩, by decide +kernel⟩
theorem ks_J1_9 : xWS RJ1 9 yJ0_checkIndex_df160 cJ0_checkIndex_df160 2 none 2 := ⟨⟨uw273, uw274, uw275, uw276⟩, by decide +kernel⟩
theorem kv_J0_492 : xWV RJ0 492 RJ0 yJ0_isLatin1_aae02 cJ0_isLatin1_aae02 1 (some .boolean) 0 := ⟨⟨uw277, uw278, uw279, uw266, uw280⟩, by decide +kernel⟩
theorem ks_J0_495 : xWS RJ0 495 yJ1_charAt_3b067 cJ1_charAt_3b067 2 (some .char) 2 := ⟨⟨uw281, uw282, uw283, uw284⟩, by decide +kernel⟩
set_option maxHeartbeats 4000000 in
set_option maxRecDepth 100000 in
theorem c_J0_coder_7d493 (l : Launch) (D : va_G) (cI cJ cZ cS : ClassId) (ta : Nat) (sa sv : Nat → Nat) (sz : Nat) (i : Nat) (hi8 : i < 8) : Met l yJ0_coder_7d493 (Cond.code yJ0_coder_7d493 cJ0_coder_7d493 1 (some .byte) :: wsU) ({ frames := 0, cells := 0, slots := 0, locals := 0 }) (va_Pc [.ref (sa i)] (XW D (xT cI cJ cZ cS) ta sa sv [] sz)) (vp_Si (fun r : Int32 => (r = 0))) 0 0 (fun _ => False) := by
  refine xh (QA := fun _ => vp_Si (fun r : Int32 => (r = 0))) (fr := fun _ _ => False) (by decide +kernel) (Nat.le_of_ble_eq_true rfl) ?_
  intro p e s m below meth c ls A hF hr hlk hin hsz hP hK hD hN hZ hA hS hl
  have hF : CallFix p m c cJ0_coder_7d493 1 s _ _ RJ0 := hF
  have hx := hF.1
  have hb := hF.2.1
  have hml := hF.2.2.1
  have hown := hF.2.2.2.1
  have hu : ∀ w ∈ wsU, w.before _ s = true := fun w h => hF.2.2.2.2 w (List.mem_cons_of_mem _ h)
  have hl : lv_has ls 1 [(0, .ref (sa i))] := hl
  refine va_gets (C := "java/lang/String") (n := "COMPACT_STRINGS") (d := "Z") (v := .int 1) hx hb hZ.2.1 hS hown (hu _ uw260) (fun _ h => h) dJ0_coder_7d493_0 ?_
  refine lv_if_eq (tgt := 13) hx hb dJ0_coder_7d493_3 (by decide) (fun c_1 => absurd c_1 (by decide)) (fun c_1 => ?_)
  refine lv_aload_n hx hb dJ0_coder_7d493_6 rfl (lv_at hl 0 rfl) ?_
  refine vk_getf hx hb ((hZ.2.2.2.1 i hi8).2.1) hS hown (hu _ uw261) (fun _ h => h) dJ0_coder_7d493_7 ?_
  refine lv_goto (tgt := 14) hx hb dJ0_coder_7d493_10 (by decide) ?_
  exact W.zret (v := 0) hx hb hr rfl (fun t ht hW => ⟨0, rfl, (by first | exact rfl), ht⟩) (fun q h => by cases h) dJ0_coder_7d493_14 hlk
set_option maxHeartbeats 4000000 in
set_option maxRecDepth 100000 in
theorem c_J0_isLatin1_aae02 (l : Launch) (D : va_G) (cI cJ cZ cS : ClassId) (ta : Nat) (sa sv : Nat → Nat) (sz : Nat) (i : Nat) (hi8 : i < 8) : Met l yJ0_isLatin1_aae02 (Cond.code yJ0_isLatin1_aae02 cJ0_isLatin1_aae02 1 (some .boolean) :: wsU) ({ frames := 0, cells := 0, slots := 0, locals := 0 }) (va_Pc [.ref (sa i)] (XW D (xT cI cJ cZ cS) ta sa sv [] sz)) (vp_Si (fun r : Int32 => (r = 1))) 0 0 (fun _ => False) := by
  refine xh (QA := fun _ => vp_Si (fun r : Int32 => (r = 1))) (fr := fun _ _ => False) (by decide +kernel) (Nat.le_of_ble_eq_true rfl) ?_
  intro p e s m below meth c ls A hF hr hlk hin hsz hP hK hD hN hZ hA hS hl
  have hF : CallFix p m c cJ0_isLatin1_aae02 1 s _ _ RJ0 := hF
  have hx := hF.1
  have hb := hF.2.1
  have hml := hF.2.2.1
  have hown := hF.2.2.2.1
  have hu : ∀ w ∈ wsU, w.before _ s = true := fun w h => hF.2.2.2.2 w (List.mem_cons_of_mem _ h)
  have hl : lv_has ls 1 [(0, .ref (sa i))] := hl
  refine va_gets (C := "java/lang/String") (n := "COMPACT_STRINGS") (d := "Z") (v := .int 1) hx hb hZ.2.1 hS hown (hu _ uw260) (fun _ h => h) dJ0_isLatin1_aae02_0 ?_
  refine lv_if_eq (tgt := 17) hx hb dJ0_isLatin1_aae02_3 (by decide) (fun c_1 => absurd c_1 (by decide)) (fun c_1 => ?_)
  refine lv_aload_n hx hb dJ0_isLatin1_aae02_6 rfl (lv_at hl 0 rfl) ?_
  refine vk_getf hx hb ((hZ.2.2.2.1 i hi8).2.1) hS hown (hu _ uw261) (fun _ h => h) dJ0_isLatin1_aae02_7 ?_
  refine lv_if_ne (tgt := 17) hx hb dJ0_isLatin1_aae02_10 (by decide) (fun c_2 => absurd (by decide) c_2) (fun c_2 => ?_)
  refine lv_iconst (v := 1) hx hb dJ0_isLatin1_aae02_13 (by decide) ?_
  refine lv_goto (tgt := 18) hx hb dJ0_isLatin1_aae02_14 (by decide) ?_
  exact W.zret (v := 1) hx hb hr rfl (fun t ht hW => ⟨1, rfl, (by first | exact rfl), ht⟩) (fun q h => by cases h) dJ0_isLatin1_aae02_18 hlk
set_option maxHeartbeats 4000000 in
set_option maxRecDepth 100000 in
theorem c_J0_length_8abf5 (l : Launch) (D : va_G) (cI cJ cZ cS : ClassId) (ta : Nat) (sa sv : Nat → Nat) (sz : Nat) (i : Nat) (hi8 : i < 8) : Met l yJ0_length_8abf5 (Cond.code yJ0_length_8abf5 cJ0_length_8abf5 1 (some .int) :: wsU) ({ frames := 1, cells := 0, slots := 0, locals := 20 }) (va_Pc [.ref (sa i)] (XW D (xT cI cJ cZ cS) ta sa sv [] sz)) (vp_Si (fun r : Int32 => (r = nI (xLen.getD i 0)))) 0 0 (fun _ => False) := by
  refine xh (QA := fun _ => vp_Si (fun r : Int32 => (r = nI (xLen.getD i 0)))) (fr := fun _ _ => False) (by decide +kernel) (Nat.le_of_ble_eq_true rfl) ?_
  intro p e s m below meth c ls A hF hr hlk hin hsz hP hK hD hN hZ hA hS hl
  have hF : CallFix p m c cJ0_length_8abf5 1 s _ _ RJ0 := hF
  have hx := hF.1
  have hb := hF.2.1
  have hml := hF.2.2.1
  have hown := hF.2.2.2.1
  have hu : ∀ w ∈ wsU, w.before _ s = true := fun w h => hF.2.2.2.2 w (List.mem_cons_of_mem _ h)
  have hl : lv_has ls 1 [(0, .ref (sa i))] := hl
  have hx9 := xLen_lt i hi8
  refine lv_aload_n hx hb dJ0_length_8abf5_0 rfl (lv_at hl 0 rfl) ?_
  refine vk_getf hx hb ((hZ.2.2.2.1 i hi8).2.2.1) hS hown (hu _ uw262) (fun _ h => h) dJ0_length_8abf5_1 ?_
  refine va_tlen hx hb ((hZ.2.2.2.1 i hi8).2.2.2) hS (v := nI (xLen.getD i 0)) rfl dJ0_length_8abf5_4 ?_
  refine lv_aload_n hx hb dJ0_length_8abf5_5 rfl (lv_at hl 0 rfl) ?_
  refine xc_Kr hF (c_J0_coder_7d493 l D cI cJ cZ cS ta sa sv s.heap.size i (by omega)) kv_J0_335 ⟨rfl, rfl, Nat.le_of_ble_eq_true rfl, Nat.le_of_ble_eq_true rfl⟩ ⟨Nat.le_of_ble_eq_true rfl, Nat.le_of_ble_eq_true rfl⟩ hK hN hZ hP hD hS hA [] rfl rfl hi8 rfl rfl hl.1 rfl (Nat.le_of_ble_eq_true rfl) dJ0_length_8abf5_6 (fun r_1 hw_r_1 => ?_)
  subst hw_r_1
  refine lv_ishr hx hb dJ0_length_8abf5_9 ?_
  obtain ⟨z_2, ez_2, hz_20⟩ := (⟨xLen.getD i 0, xshr0 (by omega), rfl⟩ : ∃ z : Nat, nI (xLen.getD i 0) >>> ((0 : Int32) &&& 31) = nI z ∧ z = xLen.getD i 0)
  refine xl_i (y := nI (z_2)) ez_2 ?_
  exact W.iret (v := nI (z_2)) hx hb hr (fun t ht hW => ⟨nI (z_2), rfl, (congrArg nI hz_20), ht⟩) (fun q h => by cases h) dJ0_length_8abf5_10 hlk
set_option maxHeartbeats 4000000 in
set_option maxRecDepth 100000 in
theorem c_J3_check_n (l : Launch) (D : va_G) (cI cJ cZ cS : ClassId) (ta : Nat) (sa sv : Nat → Nat) (sz : Nat) (j : Nat) (k : Nat) (hj : j < k) (hk9 : k < 2 ^ 31) : Met l yJ3_checkIndex_8e157 (Cond.code yJ3_checkIndex_8e157 cJ3_checkIndex_8e157 3 (some .int) :: wsU) ({ frames := 0, cells := 0, slots := 0, locals := 0 }) (va_Pc [.int (nI (j)), .int (nI (k)), .null] (XW D (xT cI cJ cZ cS) ta sa sv [] sz)) (vp_Si (fun r : Int32 => True)) 0 0 (fun _ => False) := by
  refine xh (QA := fun _ => vp_Si (fun r : Int32 => True)) (fr := fun _ _ => False) (by decide +kernel) (Nat.le_of_ble_eq_true rfl) ?_
  intro p e s m below meth c ls A hF hr hlk hin hsz hP hK hD hN hZ hA hS hl
  have hF : CallFix p m c cJ3_checkIndex_8e157 3 s _ _ RJ3 := hF
  have hx := hF.1
  have hb := hF.2.1
  have hml := hF.2.2.1
  have hown := hF.2.2.2.1
  have hu : ∀ w ∈ wsU, w.before _ s = true := fun w h => hF.2.2.2.2 w (List.mem_cons_of_mem _ h)
  have hl : lv_has ls 3 [(0, .int (nI (j))), (1, .int (nI (k))), (2, .null)] := hl
  refine lv_iload_n hx hb dJ3_checkIndex_8e157_0 rfl (lv_at hl 0 rfl) ?_
  refine lv_if_lt (tgt := 9) hx hb dJ3_checkIndex_8e157_1 (by decide) (fun c_1 => by have nc_1 : j < 0 := xn_lt (a := j) (b := 0) (by omega) (by omega) c_1; omega) (fun c_1 => ?_)
  have nc_1 : 0 ≤ j := xn_nlt (a := j) (b := 0) (by omega) (by omega) c_1
  refine lv_iload_n hx hb dJ3_checkIndex_8e157_4 rfl (lv_at hl 0 rfl) ?_
  refine lv_iload_n hx hb dJ3_checkIndex_8e157_5 rfl (lv_at hl 1 rfl) ?_
  refine lv_icmp_lt (tgt := 16) hx hb dJ3_checkIndex_8e157_6 (by decide) (fun c_2 => ?_) (fun c_2 => by have nc_2 : k ≤ j := xn_nlt (a := j) (b := k) (by omega) (by omega) c_2; omega)
  have nc_2 : j < k := xn_lt (a := j) (b := k) (by omega) (by omega) c_2
  refine lv_iload_n hx hb dJ3_checkIndex_8e157_16 rfl (lv_at hl 0 rfl) ?_
  exact W.iret (v := nI (j)) hx hb hr (fun t ht hW => ⟨nI (j), rfl, trivial, ht⟩) (fun q h => by cases h) dJ3_checkIndex_8e157_17 hlk
set_option maxHeartbeats 4000000 in
set_option maxRecDepth 100000 in
theorem c_J3_check_r (l : Launch) (D : va_G) (cI cJ cZ cS : ClassId) (ta : Nat) (sa sv : Nat → Nat) (sz : Nat) (j : Nat) (k : Nat) (q9 : Nat) (hj : j < k) (hk9 : k < 2 ^ 31) : Met l yJ3_checkIndex_8e157 (Cond.code yJ3_checkIndex_8e157 cJ3_checkIndex_8e157 3 (some .int) :: wsU) ({ frames := 0, cells := 0, slots := 0, locals := 0 }) (va_Pc [.int (nI (j)), .int (nI (k)), .ref q9] (XW D (xT cI cJ cZ cS) ta sa sv [] sz)) (vp_Si (fun r : Int32 => True)) 0 0 (fun _ => False) := by
  refine xh (QA := fun _ => vp_Si (fun r : Int32 => True)) (fr := fun _ _ => False) (by decide +kernel) (Nat.le_of_ble_eq_true rfl) ?_
  intro p e s m below meth c ls A hF hr hlk hin hsz hP hK hD hN hZ hA hS hl
  have hF : CallFix p m c cJ3_checkIndex_8e157 3 s _ _ RJ3 := hF
  have hx := hF.1
  have hb := hF.2.1
  have hml := hF.2.2.1
  have hown := hF.2.2.2.1
  have hu : ∀ w ∈ wsU, w.before _ s = true := fun w h => hF.2.2.2.2 w (List.mem_cons_of_mem _ h)
  have hl : lv_has ls 3 [(0, .int (nI (j))), (1, .int (nI (k))), (2, .ref q9)] := hl
  refine lv_iload_n hx hb dJ3_checkIndex_8e157_0 rfl (lv_at hl 0 rfl) ?_
  refine lv_if_lt (tgt := 9) hx hb dJ3_checkIndex_8e157_1 (by decide) (fun c_1 => by have nc_1 : j < 0 := xn_lt (a := j) (b := 0) (by omega) (by omega) c_1; omega) (fun c_1 => ?_)
  have nc_1 : 0 ≤ j := xn_nlt (a := j) (b := 0) (by omega) (by omega) c_1
  refine lv_iload_n hx hb dJ3_checkIndex_8e157_4 rfl (lv_at hl 0 rfl) ?_
  refine lv_iload_n hx hb dJ3_checkIndex_8e157_5 rfl (lv_at hl 1 rfl) ?_
  refine lv_icmp_lt (tgt := 16) hx hb dJ3_checkIndex_8e157_6 (by decide) (fun c_2 => ?_) (fun c_2 => by have nc_2 : k ≤ j := xn_nlt (a := j) (b := k) (by omega) (by omega) c_2; omega)
  have nc_2 : j < k := xn_lt (a := j) (b := k) (by omega) (by omega) c_2
  refine lv_iload_n hx hb dJ3_checkIndex_8e157_16 rfl (lv_at hl 0 rfl) ?_
  exact W.iret (v := nI (j)) hx hb hr (fun t ht hW => ⟨nI (j), rfl, trivial, ht⟩) (fun q h => by cases h) dJ3_checkIndex_8e157_17 hlk
set_option maxHeartbeats 4000000 in
set_option maxRecDepth 100000 in
theorem c_J0_checkIndex_df160 (l : Launch) (D : va_G) (cI cJ cZ cS : ClassId) (ta : Nat) (sa sv : Nat → Nat) (sz : Nat) (j : Nat) (k : Nat) (hj : j < k) (hk9 : k < 2 ^ 31) : Met l yJ0_checkIndex_df160 (Cond.code yJ0_checkIndex_df160 cJ0_checkIndex_df160 2 none :: wsU) ({ frames := 1, cells := 0, slots := 0, locals := 22 }) (va_Pc [.int (nI (j)), .int (nI (k))] (XW D (xT cI cJ cZ cS) ta sa sv [] sz)) (va_Sv (fun _ => True)) 0 0 (fun _ => False) := by
  refine xh (QA := fun _ => va_Sv (fun _ => True)) (fr := fun _ _ => False) (by decide +kernel) (Nat.le_of_ble_eq_true rfl) ?_
  intro p e s m below meth c ls A hF hr hlk hin hsz hP hK hD hN hZ hA hS hl
  have hF : CallFix p m c cJ0_checkIndex_df160 2 s _ _ RJ0 := hF
  have hx := hF.1
  have hb := hF.2.1
  have hml := hF.2.2.1
  have hown := hF.2.2.2.1
  have hu : ∀ w ∈ wsU, w.before _ s = true := fun w h => hF.2.2.2.2 w (List.mem_cons_of_mem _ h)
  have hl : lv_has ls 2 [(0, .int (nI (j))), (1, .int (nI (k)))] := hl
  refine lv_iload_n hx hb dJ0_checkIndex_df160_0 rfl (lv_at hl 0 rfl) ?_
  refine lv_iload_n hx hb dJ0_checkIndex_df160_1 rfl (lv_at hl 1 rfl) ?_
  rcases hZ.2.2.1 with h_1 | ⟨t_2, h_1⟩
  · refine va_gets (C := "jdk/internal/util/Preconditions") (n := "SIOOBE_FORMATTER") (d := "Ljava/util/function/BiFunction;") (v := .null) hx hb h_1 hS hown (hu _ uw268) (fun _ h => h) dJ0_checkIndex_df160_2 ?_
    refine xc_Sr hF (c_J3_check_n l D cI cJ cZ cS ta sa sv s.heap.size j k (by omega) (by omega)) ks_J0_1059 ⟨rfl, rfl, Nat.le_of_ble_eq_true rfl, Nat.le_of_ble_eq_true rfl⟩ ⟨Nat.le_of_ble_eq_true rfl, Nat.le_of_ble_eq_true rfl⟩ hK hN hZ hP hD hS hA [] rfl rfl rfl hl.1 rfl (Nat.le_of_ble_eq_true rfl) dJ0_checkIndex_df160_5 (fun r_3 hw_r_3 => ?_)
    refine lv_pop hx hb dJ0_checkIndex_df160_8 rfl ?_
    exact W.vret hx hb hr (fun t ht hW => ⟨rfl, trivial, ht⟩) (fun q h => by cases h) dJ0_checkIndex_df160_9 hlk
  · refine va_gets (C := "jdk/internal/util/Preconditions") (n := "SIOOBE_FORMATTER") (d := "Ljava/util/function/BiFunction;") (v := .ref t_2) hx hb h_1 hS hown (hu _ uw268) (fun _ h => h) dJ0_checkIndex_df160_2 ?_
    refine xc_Sr hF (c_J3_check_r l D cI cJ cZ cS ta sa sv s.heap.size j k t_2 (by omega) (by omega)) ks_J0_1059 ⟨rfl, rfl, Nat.le_of_ble_eq_true rfl, Nat.le_of_ble_eq_true rfl⟩ ⟨Nat.le_of_ble_eq_true rfl, Nat.le_of_ble_eq_true rfl⟩ hK hN hZ hP hD hS hA [] rfl rfl rfl hl.1 rfl (Nat.le_of_ble_eq_true rfl) dJ0_checkIndex_df160_5 (fun r_4 hw_r_4 => ?_)
    refine lv_pop hx hb dJ0_checkIndex_df160_8 rfl ?_
    exact W.vret hx hb hr (fun t ht hW => ⟨rfl, trivial, ht⟩) (fun q h => by cases h) dJ0_checkIndex_df160_9 hlk
set_option maxHeartbeats 4000000 in
set_option maxRecDepth 100000 in
theorem c_J1_charAt_3b067 (l : Launch) (D : va_G) (cI cJ cZ cS : ClassId) (ta : Nat) (sa sv : Nat → Nat) (sz : Nat) (i : Nat) (j : Nat) (hi8 : i < 8) (hj : j < xLen.getD i 0) : Met l yJ1_charAt_3b067 (Cond.code yJ1_charAt_3b067 cJ1_charAt_3b067 2 (some .char) :: wsU) ({ frames := 2, cells := 0, slots := 0, locals := 43 }) (va_Pc [.ref (sv i), .int (nI (j))] (XW D (xT cI cJ cZ cS) ta sa sv [] sz)) (vp_Si (fun r : Int32 => (r = xch i j))) 0 0 (fun _ => False) := by
  refine xh (QA := fun _ => vp_Si (fun r : Int32 => (r = xch i j))) (fr := fun _ _ => False) (by decide +kernel) (Nat.le_of_ble_eq_true rfl) ?_
  intro p e s m below meth c ls A hF hr hlk hin hsz hP hK hD hN hZ hA hS hl
  have hF : CallFix p m c cJ1_charAt_3b067 2 s _ _ RJ1 := hF
  have hx := hF.1
  have hb := hF.2.1
  have hml := hF.2.2.1
  have hown := hF.2.2.2.1
  have hu : ∀ w ∈ wsU, w.before _ s = true := fun w h => hF.2.2.2.2 w (List.mem_cons_of_mem _ h)
  have hl : lv_has ls 2 [(0, .ref (sv i)), (1, .int (nI (j)))] := hl
  have hx9 := xLen_lt i hi8
  refine lv_iload_n hx hb dJ1_charAt_3b067_0 rfl (lv_at hl 1 rfl) ?_
  refine lv_aload_n hx hb dJ1_charAt_3b067_1 rfl (lv_at hl 0 rfl) ?_
  refine va_tlen hx hb ((hZ.2.2.2.1 i hi8).2.2.2) hS (v := nI (xLen.getD i 0)) rfl dJ1_charAt_3b067_2 ?_
  refine xc_Srv hF (c_J0_checkIndex_df160 l D cI cJ cZ cS ta sa sv s.heap.size j (xLen.getD i 0) (by omega) (by omega)) ks_J1_9 ⟨rfl, rfl, Nat.le_of_ble_eq_true rfl, Nat.le_of_ble_eq_true rfl⟩ ⟨Nat.le_of_ble_eq_true rfl, Nat.le_of_ble_eq_true rfl⟩ hK hN hZ hP hD hS hA [] rfl rfl rfl hl.1 rfl (Nat.le_of_ble_eq_true rfl) dJ1_charAt_3b067_3 (fun hw_r_1 => ?_)
  refine lv_aload_n hx hb dJ1_charAt_3b067_6 rfl (lv_at hl 0 rfl) ?_
  refine lv_iload_n hx hb dJ1_charAt_3b067_7 rfl (lv_at hl 1 rfl) ?_
  refine va_tb hx hb (hZ.2.2.2.1 i hi8).2.2.2 hS (vp_in_nI (show j < xLen.getD i 0 by omega) (by omega)) rfl dJ1_charAt_3b067_8 ?_
  refine xl_i (y := xch i j) (congrArg (fun k => (xByt.getD i []).getD k 0) (nI_clamp (show j < 2 ^ 31 by omega))) ?_
  refine lv_sipush (v := 255) hx hb dJ1_charAt_3b067_9 (by decide) ?_
  refine lv_iand hx hb dJ1_charAt_3b067_12 ?_
  refine lv_i2c hx hb dJ1_charAt_3b067_13 rfl ?_
  exact W.zret (v := (((xch i j) &&& 255).toUInt32 % 65536).toInt32) hx hb hr (pk_nc _) (fun t ht hW => ⟨(((xch i j) &&& 255).toUInt32 % 65536).toInt32, rfl, (xch_c hi8 hj), ht⟩) (fun q h => by cases h) dJ1_charAt_3b067_14 hlk
set_option maxHeartbeats 4000000 in
set_option maxRecDepth 100000 in
theorem c_J0_charAt_5068e (l : Launch) (D : va_G) (cI cJ cZ cS : ClassId) (ta : Nat) (sa sv : Nat → Nat) (sz : Nat) (i : Nat) (j : Nat) (hi8 : i < 8) (hj : j < xLen.getD i 0) : Met l yJ0_charAt_5068e (Cond.code yJ0_charAt_5068e cJ0_charAt_5068e 2 (some .char) :: wsU) ({ frames := 3, cells := 0, slots := 0, locals := 64 }) (va_Pc [.ref (sa i), .int (nI (j))] (XW D (xT cI cJ cZ cS) ta sa sv [] sz)) (vp_Si (fun r : Int32 => (r = xch i j))) 0 0 (fun _ => False) := by
  refine xh (QA := fun _ => vp_Si (fun r : Int32 => (r = xch i j))) (fr := fun _ _ => False) (by decide +kernel) (Nat.le_of_ble_eq_true rfl) ?_
  intro p e s m below meth c ls A hF hr hlk hin hsz hP hK hD hN hZ hA hS hl
  have hF : CallFix p m c cJ0_charAt_5068e 2 s _ _ RJ0 := hF
  have hx := hF.1
  have hb := hF.2.1
  have hml := hF.2.2.1
  have hown := hF.2.2.2.1
  have hu : ∀ w ∈ wsU, w.before _ s = true := fun w h => hF.2.2.2.2 w (List.mem_cons_of_mem _ h)
  have hl : lv_has ls 2 [(0, .ref (sa i)), (1, .int (nI (j)))] := hl
  refine lv_aload_n hx hb dJ0_charAt_5068e_0 rfl (lv_at hl 0 rfl) ?_
  refine xc_Kr hF (c_J0_isLatin1_aae02 l D cI cJ cZ cS ta sa sv s.heap.size i (by omega)) kv_J0_492 ⟨rfl, rfl, Nat.le_of_ble_eq_true rfl, Nat.le_of_ble_eq_true rfl⟩ ⟨Nat.le_of_ble_eq_true rfl, Nat.le_of_ble_eq_true rfl⟩ hK hN hZ hP hD hS hA [] rfl rfl hi8 rfl rfl hl.1 rfl (Nat.le_of_ble_eq_true rfl) dJ0_charAt_5068e_1 (fun r_1 hw_r_1 => ?_)
  subst hw_r_1
  refine lv_if_eq (tgt := 16) hx hb dJ0_charAt_5068e_4 (by decide) (fun c_2 => absurd c_2 (by decide)) (fun c_2 => ?_)
  refine lv_aload_n hx hb dJ0_charAt_5068e_7 rfl (lv_at hl 0 rfl) ?_
  refine vk_getf hx hb ((hZ.2.2.2.1 i hi8).2.2.1) hS hown (hu _ uw262) (fun _ h => h) dJ0_charAt_5068e_8 ?_
  refine lv_iload_n hx hb dJ0_charAt_5068e_11 rfl (lv_at hl 1 rfl) ?_
  refine xc_Sr hF (c_J1_charAt_3b067 l D cI cJ cZ cS ta sa sv s.heap.size i j (by omega) (by omega)) ks_J0_495 ⟨rfl, rfl, Nat.le_of_ble_eq_true rfl, Nat.le_of_ble_eq_true rfl⟩ ⟨Nat.le_of_ble_eq_true rfl, Nat.le_of_ble_eq_true rfl⟩ hK hN hZ hP hD hS hA [] rfl rfl rfl hl.1 rfl (Nat.le_of_ble_eq_true rfl) dJ0_charAt_5068e_12 (fun r_3 hw_r_3 => ?_)
  subst hw_r_3
  exact W.zret (v := xch i j) hx hb hr (xch_n hi8 hj) (fun t ht hW => ⟨xch i j, rfl, rfl, ht⟩) (fun q h => by cases h) dJ0_charAt_5068e_15 hlk
